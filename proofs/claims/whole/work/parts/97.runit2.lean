/-! unit: the yard's steps where a unit is due -/
def YI0 (st out : List Int) (un dp : Nat) : Prop := un ≤ 30 ∧ dp ≤ 7 ∧ cn st ≤ dp ∧ st.length ≤ dp + un ∧ out.length + st.length ≤ 9 * un + dp + 1 ∧ ∀ s ∈ st, isSn s
def YI1 (st out : List Int) (un dp : Nat) : Prop := un ≤ 30 ∧ dp ≤ 7 ∧ cn st ≤ dp ∧ st.length + 1 ≤ dp + un ∧ out.length + st.length ≤ 9 * un ∧ ∀ s ∈ st, isSn s
theorem isSn_in {s : Int} (h : isSn s) : inR s := by unfold isSn at h; omega
theorem sn_cons {s : Int} {st : List Int} (h : isSn s) (hS : ∀ x ∈ st, isSn x) : ∀ x ∈ s :: st, isSn x := fun x hx => by
  rcases List.mem_cons.mp hx with e | e
  · rw [e]; exact h
  · exact hS x e
theorem YI0.not {st out : List Int} {un dp : Nat} (h : YI0 st out un dp) (hd : dp ≤ 6) : YI0 (21 :: st) out un (dp + 1) := by
  obtain ⟨h1, h2, h3, h4, h5, h6⟩ := h
  refine ⟨h1, by omega, ?_, by rw [List.length_cons]; omega, by rw [List.length_cons]; omega, sn_cons (Or.inr (Or.inl rfl)) h6⟩
  show (if (21 : Int) = 20 ∨ (21 : Int) = 21 then 1 else 0) + cn st ≤ dp + 1
  rw [if_pos (Or.inr rfl)]; omega
theorem YI0.brk {st out : List Int} {un dp : Nat} (h : YI0 st out un dp) (hd : dp ≤ 6) (hu : un < 30) : YI0 (20 :: st) out (un + 1) (dp + 1) := by
  obtain ⟨h1, h2, h3, h4, h5, h6⟩ := h
  refine ⟨by omega, by omega, ?_, by rw [List.length_cons]; omega, by rw [List.length_cons]; omega, sn_cons (Or.inl rfl) h6⟩
  show (if (20 : Int) = 20 ∨ (20 : Int) = 21 then 1 else 0) + cn st ≤ dp + 1
  rw [if_pos (Or.inl rfl)]; omega
theorem YI0.unit {st out : List Int} {un dp : Nat} {x : Int} (h : YI0 st out un dp) (hu : un < 30) : YI1 st (x :: out) (un + 1) dp := by
  obtain ⟨h1, h2, h3, h4, h5, h6⟩ := h
  exact ⟨by omega, h2, h3, by omega, by rw [List.length_cons]; omega, h6⟩
theorem itn_fix {b : Nat → Int} {s : mYd} (h : 2 ≤ s.1) : ∀ k, itn b k s = s
  | 0 => rfl
  | k + 1 => by
    have e : stp b s = s := by unfold stp; rw [if_neg (by omega), if_neg (by omega)]
    show itn b k (stp b s) = s
    rw [e]; exact itn_fix h k
theorem ask_ts {b : Nat → Int} {c : Nat} : askF b c = -1 ∨ ts b c = 1 := by
  by_cases z : wi b c = -1
  · left; unfold askF; rw [if_neg (by omega), if_neg (by omega), if_neg (by omega), if_neg (by omega)]
  · right; exact @wi_ts b c z
theorem encN_nn {b : Nat → Int} {q : Nat} : ∀ k, (∀ j, j < k → isDg (b (q + j))) → 0 ≤ encN b q k := fun k h => (encN_in k h).1

theorem lp_runit {l : Launch} {G : mG} {d : Nat} {I0 : mI} {L0 : Nat → Nat → Int} {D : Nat → Nat} {Q : mQ} {b g : Nat → Int} {n k0 : Nat} {f : mYd} (hf : f.1 = 2 ∨ f.1 = 3) (hd : 3 ≤ d) (h1 : ∀ k c st out un dp, k < k0 → itn b k (1, c, st, out, un, dp) = f → YI1 st out un dp → ∀ J M, Fyd I0 J → Lb L0 M → RB0 J M b g n c → YM J st out un dp → Q none J (XX M D)) (h0 : ∀ c, f.1 = 3 → f.2.1 = c → ∀ J M, Fyd I0 J → Lb L0 M → RE J (bad b c 2) → Q none J (XX M D)) : ∀ (k c : Nat) (st out : List Int) (un dp : Nat) (I : mI) (L : Nat → Nat → Int), k ≤ k0 → RB0 I L b g n c → YM I st out un dp → YI0 st out un dp → itn b k (0, c, st, out, un, dp) = f → Fyd I0 I → Lb L0 L → WP l G m_X11_unit d 153 I (XX L D) 2 [some (vR 111), some (vI 1), none] [] Q
  | 0, c, st, out, un, dp, I, L, _, _, _, _, hi, _, _ => by
    have hi2 : (0, c, st, out, un, dp) = f := hi
    rw [← hi2] at hf
    exact hf.elim (fun z => absurd (show (0 : Nat) = 2 from z) (by decide)) (fun z => absurd (show (0 : Nat) = 3 from z) (by decide))
  | k + 1, c, st, out, un, dp, I, L, hk, hB, hY, hI, hi, hFy, hLy => by
    have hS := hI.2.2.2.2.2
    have hI1 := hI.1
    have hI2 := hI.2.1
    have hI4 := hI.2.2.2.1
    have hI5 := hI.2.2.2.2.1
    have tr := ts_rng b c
    have kw := wi_in b c
    have i8 := hB.2.2.1.2.2.1.1
    have tn0 : ts b c = 2 → 0 ≤ tn b c := fun z => by rw [hB.1.1] at z ⊢; exact (tn_in hB.2.1 z).1
    refine wp_iload_n (pc := 2) 1 dX11_unit_2 rfl rfl ?_
    refine wp_if_eq (pc := 3) 101 dX11_unit_3 (by decide) (by decide) (fun hh => absurd hh (by decide)) (fun _ => ?_)
    refine wp_aload_n (pc := 6) 0 dX11_unit_6 rfl rfl ?_
    refine wp_geti (pc := 7) dX11_unit_7 rfl f_X11_185 kd_111 la_111 (Or.inl rfl) ?_
    refine wp_eqst (st' := [vI 0]) (by rw [hB.2.2.2.1.1]) ?_
    refine wp_if_ne (pc := 10) 101 dX11_unit_10 (by decide) (by decide) (fun hh => absurd hh (by decide)) (fun _ => ?_)
    refine wp_aload_n (pc := 13) 0 dX11_unit_13 rfl rfl ?_
    refine wp_ldc2 (pc := 14) (z := 7237492) dX11_unit_14 rfl k_X11_228 rfl ?_
    refine wp_callV (pc := 17) (st := []) (nf' := 153) [vJ 7237492] [some (vR 111), some (vJ 7237492), none] dX11_unit_17 rfl c_X11_234 rfl kd_111 (by decide) rfl la_111 rfl (Nat.le_of_ble_eq_true rfl) rfl (Nat.le_of_ble_eq_true rfl) (by omega) (Nat.le_refl _) (Nat.le_refl _) ?_
    refine rs_isWord (k := 16) hB.1.1 hB.2.1 hB.2.2.1 (by decide) rfl (by omega) (fun h_1 => ?_) (fun h_1 => ?_)
    · refine wp_eqst (st' := [vI 1]) rfl ?_
      refine wp_if_eq (pc := 20) 53 dX11_unit_20 (by decide) (by decide) (fun hh => absurd hh (by decide)) (fun _ => ?_)
      refine wp_aload_n (pc := 23) 0 dX11_unit_23 rfl rfl ?_
      refine wp_callV (pc := 24) (st := []) (nf' := 153) [] [some (vR 111)] dX11_unit_24 rfl c_X11_289 rfl kd_111 (by decide) rfl la_111 rfl (Nat.le_of_ble_eq_true rfl) rfl (Nat.le_of_ble_eq_true rfl) (by omega) (Nat.le_refl _) (Nat.le_refl _) ?_
      refine rs_mayNot hY (fun s hs => isSn_in (hS s hs)) (by omega) (by omega) (fun h_2 => ?_) (fun h_2 => ?_)
      · refine wp_eqst (st' := [vI 1]) rfl ?_
        refine wp_if_eq (pc := 27) 53 dX11_unit_27 (by decide) (by decide) (fun hh => absurd hh (by decide)) (fun _ => ?_)
        refine wp_aload_n (pc := 30) 0 dX11_unit_30 rfl rfl ?_
        refine wp_geti (pc := 31) dX11_unit_31 rfl f_X11_280 kd_111 la_111 (Or.inl rfl) ?_
        refine wp_eqst (st' := [vI ((dp : Nat) : Int)]) (by rw [hY.2.2.2]) ?_
        refine wp_bipush (pc := 34) dX11_unit_34 (by decide) ?_
        refine wp_icmp_le (pc := 36) 44 dX11_unit_36 (by decide) (by omega) (by decide) (fun h_3 => ?_) (fun h_3 => ?_)
        · refine wp_aload_n (pc := 44) 0 dX11_unit_44 rfl rfl ?_
          refine wp_bipush (pc := 45) dX11_unit_45 (by decide) ?_
          refine wp_callV (pc := 47) (st := []) (nf' := 153) [vI 21] [some (vR 111), some (vI 21)] dX11_unit_47 rfl c_X11_292 rfl kd_111 (by decide) rfl la_111 rfl (Nat.le_of_ble_eq_true rfl) rfl (Nat.le_of_ble_eq_true rfl) (by omega) (Nat.le_refl _) (Nat.le_refl _) ?_
          have yY1 : YM (I) st out un dp := hY
          have yB1 : RB0 (I) (L) b g n c := hB
          have yF1 : Fyd I0 (I) := hFy
          refine rs_openUp yB1 yY1 (by first | exact n3_w (by omega) | omega) (by omega) (by omega) (fun J1 M1 hF1 hL1 hB1 hY1 => ?_)
          refine wp_eqst (st' := []) rfl ?_
          refine wp_goto (pc := 50) 2 dX11_unit_50 (by decide) ?_
          have hs_ : stp b (0, c, st, out, un, dp) = (0, te b c, (21 :: st), out, un, dp + 1) := by
            show stU b c st out un dp = _
            unfold stU
            (repeat (first | rw [if_pos (by omega)] | rw [if_neg (by omega)] | rw [if_pos ⟨by omega, by assumption⟩] | rw [if_neg (fun z => absurd z.2 (by assumption))]))
          rw [show itn b (k + 1) (0, c, st, out, un, dp) = itn b k (stp b (0, c, st, out, un, dp)) from rfl, hs_] at hi
          exact lp_runit hf hd h1 h0 k _ _ _ _ _ _ _ (by omega) hB1 hY1 (hI.not (by omega)) hi (yF1.trans hF1) (hLy.trans hL1)
        · refine wp_aload_n (pc := 39) 0 dX11_unit_39 rfl rfl ?_
          refine wp_iconst (pc := 40) dX11_unit_40 ?_
          refine wp_callV (pc := 41) (st := []) (nf' := 153) [vI 2] [some (vR 111), some (vI 2)] dX11_unit_41 rfl c_X11_238 rfl kd_111 (by decide) rfl la_111 rfl (Nat.le_of_ble_eq_true rfl) rfl (Nat.le_of_ble_eq_true rfl) (by omega) (Nat.le_refl _) (Nat.le_refl _) ?_
          have yY2 : YM (I) st out un dp := hY
          have yB2 : RB0 (I) (L) b g n c := hB
          have yF2 : Fyd I0 (I) := hFy
          refine rs_wrong yB2.2.2.1 yB2.2.2.2.1.1 (by decide) (by omega) ?_
          refine wp_gen (fun J => Fe (I) J ∧ RE J (bad b c 2)) ⟨Fe.bad, RD.bad (by decide)⟩ (fun J2 hJ2 => ?_)
          have x2_2 : J2 111 2 = (bad b c 2).1 := hJ2.2.1
          have xp_2 : 0 < (bad b c 2).1 ∧ (bad b c 2).1 ≤ 5 := hJ2.2.2.2
          have jY2 := yY2.e hJ2.1
          refine wp_eqst (st' := []) rfl ?_
          refine wp_aload_n (pc := 44) 0 dX11_unit_44 rfl rfl ?_
          refine wp_bipush (pc := 45) dX11_unit_45 (by decide) ?_
          refine wp_callV (pc := 47) (st := []) (nf' := 153) [vI 21] [some (vR 111), some (vI 21)] dX11_unit_47 rfl c_X11_292 rfl kd_111 (by decide) rfl la_111 rfl (Nat.le_of_ble_eq_true rfl) rfl (Nat.le_of_ble_eq_true rfl) (by omega) (Nat.le_refl _) (Nat.le_refl _) ?_
          have yY3 : YM (J2) st out un dp := jY2
          have yE3 : RE (J2) (bad b c 2) := hJ2.2
          have yF3 : Fyd I0 (J2) := (yF2.trans hJ2.1.y)
          refine rz_openUp yE3 yY3 (by omega) (by omega) (fun J3 hF3 hE3 => ?_)
          have x2_3 : J3 111 2 = (bad b c 2).1 := hE3.1
          refine wp_eqst (st' := []) rfl ?_
          refine wp_goto (pc := 50) 2 dX11_unit_50 (by decide) ?_
          refine wp_iload_n (pc := 2) 1 dX11_unit_2 rfl rfl ?_
          refine wp_if_eq (pc := 3) 101 dX11_unit_3 (by decide) (by decide) (fun hh => absurd hh (by decide)) (fun _ => ?_)
          refine wp_aload_n (pc := 6) 0 dX11_unit_6 rfl rfl ?_
          refine wp_geti (pc := 7) dX11_unit_7 rfl f_X11_185 kd_111 la_111 (Or.inl rfl) ?_
          refine wp_eqst (st' := [vI ((bad b c 2).1)]) (by rw [x2_3]) ?_
          refine wp_if_ne (pc := 10) 101 dX11_unit_10 (by decide) (by omega) (fun _ => ?_) (fun hh => absurd hh (by omega))
          refine wp_aload_n (pc := 101) 0 dX11_unit_101 rfl rfl ?_
          refine wp_geti (pc := 102) dX11_unit_102 rfl f_X11_185 kd_111 la_111 (Or.inl rfl) ?_
          refine wp_eqst (st' := [vI ((bad b c 2).1)]) (by rw [x2_3]) ?_
          refine wp_if_le (pc := 105) 109 dX11_unit_105 (by decide) (by omega) (fun hh => absurd hh (by omega)) (fun _ => ?_)
          refine wp_vret (pc := 108) dX11_unit_108 rfl rfl ?_
          have hs_ : stp b (0, c, st, out, un, dp) = (3, c, st, out, un, dp) := by
            show stU b c st out un dp = _
            unfold stU
            (repeat (first | rw [if_pos (by omega)] | rw [if_neg (by omega)] | rw [if_pos ⟨by omega, by assumption⟩] | rw [if_neg (fun z => absurd z.2 (by assumption))]))
          rw [show itn b (k + 1) (0, c, st, out, un, dp) = itn b k (stp b (0, c, st, out, un, dp)) from rfl, hs_] at hi
          rw [itn_fix (s := (3, c, st, out, un, dp)) (show 2 ≤ 3 by decide)] at hi
          exact h0 c (by rw [← hi]) (by rw [← hi]) _ _ (yF3.trans hF3) hLy hE3
      · refine wp_eqst (st' := [vI 0]) rfl ?_
        refine wp_if_eq (pc := 27) 53 dX11_unit_27 (by decide) (by decide) (fun _ => ?_) (fun hh => absurd hh (by decide))
        refine wp_aload_n (pc := 53) 0 dX11_unit_53 rfl rfl ?_
        refine wp_geti (pc := 54) dX11_unit_54 rfl f_X11_172 kd_111 la_111 (Or.inl rfl) ?_
        refine wp_eqst (st' := [vI (ts b c)]) (by rw [hB.2.2.1.1]) ?_
        refine wp_bipush (pc := 57) dX11_unit_57 (by decide) ?_
        refine wp_icmp_ne (pc := 59) 96 dX11_unit_59 (by decide) (by omega) (by decide) (fun h_4 => ?_) (fun h_4 => ?_)
        · refine wp_iconst (pc := 96) dX11_unit_96 ?_
          refine wq_istore_n (pc := 97) 1 [some (vR 111), some (vI 0), none] dX11_unit_97 rfl rfl (by decide) rfl ?_
          refine wp_goto (pc := 98) 2 dX11_unit_98 (by decide) ?_
          refine wp_iload_n (pc := 2) 1 dX11_unit_2 rfl rfl ?_
          refine wp_if_eq (pc := 3) 101 dX11_unit_3 (by decide) (by decide) (fun _ => ?_) (fun hh => absurd hh (by decide))
          refine wp_aload_n (pc := 101) 0 dX11_unit_101 rfl rfl ?_
          refine wp_geti (pc := 102) dX11_unit_102 rfl f_X11_185 kd_111 la_111 (Or.inl rfl) ?_
          refine wp_eqst (st' := [vI 0]) (by rw [hB.2.2.2.1.1]) ?_
          refine wp_if_le (pc := 105) 109 dX11_unit_105 (by decide) (by decide) (fun _ => ?_) (fun hh => absurd hh (by decide))
          refine wp_aload_n (pc := 109) 0 dX11_unit_109 rfl rfl ?_
          refine wp_callV (pc := 110) (st := []) (nf' := 153) [] [some (vR 111)] dX11_unit_110 rfl c_X11_301 rfl kd_111 (by decide) rfl la_111 rfl (Nat.le_of_ble_eq_true rfl) rfl (Nat.le_of_ble_eq_true rfl) (by omega) (Nat.le_refl _) (Nat.le_refl _) ?_
          refine rs_asked hB (by omega) ?_
          have ai := askF_in b c
          have at_ := ask_ts (b := b) (c := c)
          refine wp_eqst (st' := [vI (askF b c)]) rfl ?_
          refine wq_istore_n (pc := 113) 2 [some (vR 111), some (vI 0), some (vI (askF b c))] dX11_unit_113 rfl rfl (by decide) rfl ?_
          refine wp_aload_n (pc := 114) 0 dX11_unit_114 rfl rfl ?_
          refine wp_geti (pc := 115) dX11_unit_115 rfl f_X11_172 kd_111 la_111 (Or.inl rfl) ?_
          refine wp_eqst (st' := [vI (ts b c)]) (by rw [hB.2.2.1.1]) ?_
          refine wp_iconst (pc := 118) dX11_unit_118 ?_
          refine wp_icmp_eq (pc := 119) 126 dX11_unit_119 (by decide) (by omega) (by decide) (fun h_5 => ?_) (fun h_5 => ?_)
          · refine wp_aload_n (pc := 126) 0 dX11_unit_126 rfl rfl ?_
            refine wp_callV (pc := 127) (st := []) (nf' := 153) [] [some (vR 111)] dX11_unit_127 rfl c_X11_295 rfl kd_111 (by decide) rfl la_111 rfl (Nat.le_of_ble_eq_true rfl) rfl (Nat.le_of_ble_eq_true rfl) (by omega) (Nat.le_refl _) (Nat.le_refl _) ?_
            refine wp_aload_n (pc := 0) 0 dX11_isFull_0 rfl rfl ?_
            refine wp_geti (pc := 1) dX11_isFull_1 rfl f_X11_283 kd_111 la_111 (Or.inl rfl) ?_
            refine wp_eqst (st' := [vI ((un : Nat) : Int)]) (by rw [hY.2.2.1.1]) ?_
            refine wp_bipush (pc := 4) dX11_isFull_4 (by decide) ?_
            refine wp_icmp_eq (pc := 6) 18 dX11_isFull_6 (by decide) (by omega) (by decide) (fun h_6 => ?_) (fun h_6 => ?_)
            · refine wp_iconst (pc := 18) dX11_isFull_18 ?_
              refine wp_goto (pc := 19) 23 dX11_isFull_19 (by decide) ?_
              refine wp_zret (pc := 23) dX11_isFull_23 rfl rfl (by decide) ?_
              refine wp_eqst (st' := [vI 1]) rfl ?_
              refine wp_if_eq (pc := 130) 138 dX11_unit_130 (by decide) (by decide) (fun hh => absurd hh (by decide)) (fun _ => ?_)
              refine wp_aload_n (pc := 133) 0 dX11_unit_133 rfl rfl ?_
              refine wp_iconst (pc := 134) dX11_unit_134 ?_
              refine wp_callV (pc := 135) (st := []) (nf' := 153) [vI 2] [some (vR 111), some (vI 2)] dX11_unit_135 rfl c_X11_238 rfl kd_111 (by decide) rfl la_111 rfl (Nat.le_of_ble_eq_true rfl) rfl (Nat.le_of_ble_eq_true rfl) (by omega) (Nat.le_refl _) (Nat.le_refl _) ?_
              have yY4 : YM (I) st out un dp := hY
              have yB4 : RB0 (I) (L) b g n c := hB
              have yF4 : Fyd I0 (I) := hFy
              refine rs_wrong yB4.2.2.1 yB4.2.2.2.1.1 (by decide) (by omega) ?_
              refine wp_gen (fun J => Fe (I) J ∧ RE J (bad b c 2)) ⟨Fe.bad, RD.bad (by decide)⟩ (fun J4 hJ4 => ?_)
              have x2_4 : J4 111 2 = (bad b c 2).1 := hJ4.2.1
              have xp_4 : 0 < (bad b c 2).1 ∧ (bad b c 2).1 ≤ 5 := hJ4.2.2.2
              have jY4 := yY4.e hJ4.1
              refine wp_eqst (st' := []) rfl ?_
              refine wp_aload_n (pc := 138) 0 dX11_unit_138 rfl rfl ?_
              refine wp_geti (pc := 139) dX11_unit_139 rfl f_X11_185 kd_111 la_111 (Or.inl rfl) ?_
              refine wp_eqst (st' := [vI ((bad b c 2).1)]) (by rw [x2_4]) ?_
              refine wp_if_le (pc := 142) 146 dX11_unit_142 (by decide) (by omega) (fun hh => absurd hh (by omega)) (fun _ => ?_)
              refine wp_vret (pc := 145) dX11_unit_145 rfl rfl ?_
              have hlf : lfc b c = tn b c := if_pos (by omega)
              have tn0_ := tn0 (by omega)
              have hs_ : stp b (0, c, st, out, un, dp) = (3, c, st, out, un, dp) := by
                show stU b c st out un dp = _
                unfold stU
                (repeat (first | rw [if_pos (by omega)] | rw [if_neg (by omega)] | rw [if_pos ⟨by omega, by assumption⟩] | rw [if_neg (fun z => absurd z.2 (by assumption))]))
              rw [show itn b (k + 1) (0, c, st, out, un, dp) = itn b k (stp b (0, c, st, out, un, dp)) from rfl, hs_] at hi
              rw [itn_fix (s := (3, c, st, out, un, dp)) (show 2 ≤ 3 by decide)] at hi
              exact h0 c (by rw [← hi]) (by rw [← hi]) _ _ (yF4.trans hJ4.1.y) hLy hJ4.2
            · refine wp_aload_n (pc := 9) 0 dX11_isFull_9 rfl rfl ?_
              refine wp_geti (pc := 10) dX11_isFull_10 rfl f_X11_286 kd_111 la_111 (Or.inl rfl) ?_
              refine wp_eqst (st' := [vI ((un : Nat) : Int)]) (by rw [hY.2.2.1.2]) ?_
              refine wp_bipush (pc := 13) dX11_isFull_13 (by decide) ?_
              refine wp_icmp_ne (pc := 15) 22 dX11_isFull_15 (by decide) (by omega) (by decide) (fun h_7 => ?_) (fun h_7 => ?_)
              · refine wp_iconst (pc := 22) dX11_isFull_22 ?_
                refine wp_zret (pc := 23) dX11_isFull_23 rfl rfl (by decide) ?_
                refine wp_eqst (st' := [vI 0]) rfl ?_
                refine wp_if_eq (pc := 130) 138 dX11_unit_130 (by decide) (by decide) (fun _ => ?_) (fun hh => absurd hh (by decide))
                refine wp_aload_n (pc := 138) 0 dX11_unit_138 rfl rfl ?_
                refine wp_geti (pc := 139) dX11_unit_139 rfl f_X11_185 kd_111 la_111 (Or.inl rfl) ?_
                refine wp_eqst (st' := [vI 0]) (by rw [hB.2.2.2.1.1]) ?_
                refine wp_if_le (pc := 142) 146 dX11_unit_142 (by decide) (by decide) (fun _ => ?_) (fun hh => absurd hh (by decide))
                refine wp_aload_n (pc := 146) 0 dX11_unit_146 rfl rfl ?_
                refine wp_callV (pc := 147) (st := []) (nf' := 153) [] [some (vR 111)] dX11_unit_147 rfl c_X11_298 rfl kd_111 (by decide) rfl la_111 rfl (Nat.le_of_ble_eq_true rfl) rfl (Nat.le_of_ble_eq_true rfl) (by omega) (Nat.le_refl _) (Nat.le_refl _) ?_
                refine wp_aload_n (pc := 0) 0 dX11_countUnit_0 rfl rfl ?_
                refine wp_dup (pc := 1) dX11_countUnit_1 rfl ?_
                refine wp_geti (pc := 2) dX11_countUnit_2 rfl f_X11_283 kd_111 la_111 (Or.inl rfl) ?_
                refine wp_eqst (st' := [vI ((un : Nat) : Int), vR 111]) (by rw [hY.2.2.1.1]) ?_
                refine wp_iconst (pc := 5) dX11_countUnit_5 ?_
                refine wp_iadd (pc := 6) dX11_countUnit_6 ?_
                refine wp_puti (pc := 7) dX11_countUnit_7 rfl f_X11_283 kd_111 la_111 (fun _ h => by cases h; rfl) rfl ?_
                refine wp_aload_n (pc := 10) 0 dX11_countUnit_10 rfl rfl ?_
                refine wp_dup (pc := 11) dX11_countUnit_11 rfl ?_
                refine wp_geti (pc := 12) dX11_countUnit_12 rfl f_X11_286 kd_111 la_111 (Or.inl rfl) ?_
                refine wp_eqst (st' := [vI ((un : Nat) : Int), vR 111]) (by rw [up_j (by omega), hY.2.2.1.2]) ?_
                refine wp_iconst (pc := 15) dX11_countUnit_15 ?_
                refine wp_iadd (pc := 16) dX11_countUnit_16 ?_
                refine wp_puti (pc := 17) dX11_countUnit_17 rfl f_X11_286 kd_111 la_111 (fun _ h => by cases h; rfl) rfl ?_
                refine wp_vret (pc := 20) dX11_countUnit_20 rfl rfl ?_
                refine wp_eqst (st' := []) rfl ?_
                refine wp_aload_n (pc := 150) 0 dX11_unit_150 rfl rfl ?_
                refine wp_iload_n (pc := 151) 2 dX11_unit_151 rfl rfl ?_
                refine wp_if_ge (pc := 152) 159 dX11_unit_152 (by decide) (by omega) (fun h_8 => ?_) (fun h_8 => ?_)
                · refine wp_iconst (pc := 159) dX11_unit_159 ?_
                  refine wp_iload_n (pc := 160) 2 dX11_unit_160 rfl rfl ?_
                  refine wp_if_ge (pc := 161) 171 dX11_unit_161 (by decide) (by omega) (fun h_9 => ?_) (fun h_9 => ?_)
                  · refine wp_iload_n (pc := 171) 2 dX11_unit_171 rfl rfl ?_
                    refine wp_callV (pc := 172) (st := []) (nf' := 153) [vI 1, vI (askF b c)] [some (vR 111), some (vI 1), some (vI (askF b c))] dX11_unit_172 rfl c_X11_276 rfl kd_111 (by decide) rfl la_111 rfl (Nat.le_of_ble_eq_true rfl) rfl (Nat.le_of_ble_eq_true rfl) (by omega) (Nat.le_refl _) (Nat.le_refl _) ?_
                    exfalso; omega
                  · refine wp_aload_n (pc := 164) 0 dX11_unit_164 rfl rfl ?_
                    refine wp_geti (pc := 165) dX11_unit_165 rfl f_X11_169 kd_111 la_111 (Or.inl rfl) ?_
                    refine wp_eqst (st' := [vI (tn b c), vI 1, vR 111]) (by rw [up_j (by omega), up_j (by omega), hB.2.2.1.2.2.1.2 (by omega)]) ?_
                    refine wp_goto (pc := 168) 172 dX11_unit_168 (by decide) ?_
                    refine wp_callV (pc := 172) (st := []) (nf' := 153) [vI 1, vI (tn b c)] [some (vR 111), some (vI 1), some (vI (tn b c))] dX11_unit_172 rfl c_X11_276 rfl kd_111 (by decide) rfl la_111 rfl (Nat.le_of_ble_eq_true rfl) rfl (Nat.le_of_ble_eq_true rfl) (by omega) (Nat.le_refl _) (Nat.le_refl _) ?_
                    exfalso; omega
                · refine wp_iconst (pc := 155) dX11_unit_155 ?_
                  refine wp_goto (pc := 156) 160 dX11_unit_156 (by decide) ?_
                  refine wp_iload_n (pc := 160) 2 dX11_unit_160 rfl rfl ?_
                  refine wp_if_ge (pc := 161) 171 dX11_unit_161 (by decide) (by omega) (fun h_10 => ?_) (fun h_10 => ?_)
                  · refine wp_iload_n (pc := 171) 2 dX11_unit_171 rfl rfl ?_
                    refine wp_callV (pc := 172) (st := []) (nf' := 153) [vI 0, vI (askF b c)] [some (vR 111), some (vI 0), some (vI (askF b c))] dX11_unit_172 rfl c_X11_276 rfl kd_111 (by decide) rfl la_111 rfl (Nat.le_of_ble_eq_true rfl) rfl (Nat.le_of_ble_eq_true rfl) (by omega) (Nat.le_refl _) (Nat.le_refl _) ?_
                    exfalso; omega
                  · refine wp_aload_n (pc := 164) 0 dX11_unit_164 rfl rfl ?_
                    refine wp_geti (pc := 165) dX11_unit_165 rfl f_X11_169 kd_111 la_111 (Or.inl rfl) ?_
                    refine wp_eqst (st' := [vI (tn b c), vI 0, vR 111]) (by rw [up_j (by omega), up_j (by omega), hB.2.2.1.2.2.1.2 (by omega)]) ?_
                    refine wp_goto (pc := 168) 172 dX11_unit_168 (by decide) ?_
                    refine wp_callV (pc := 172) (st := []) (nf' := 153) [vI 0, vI (tn b c)] [some (vR 111), some (vI 0), some (vI (tn b c))] dX11_unit_172 rfl c_X11_276 rfl kd_111 (by decide) rfl la_111 rfl (Nat.le_of_ble_eq_true rfl) rfl (Nat.le_of_ble_eq_true rfl) (by omega) (Nat.le_refl _) (Nat.le_refl _) ?_
                    have yY5 : YM (up (up I 111 20 (((un : Nat) : Int) + 1)) 111 22 (((un : Nat) : Int) + 1)) st out (un + 1) dp := hY.count
                    have yB5 : RB0 (up (up I 111 20 (((un : Nat) : Int) + 1)) 111 22 (((un : Nat) : Int) + 1)) (L) b g n c := (hB.q ((Fq.refl.wr (by omega)).wr (by omega)))
                    have yF5 : Fyd I0 (up (up I 111 20 (((un : Nat) : Int) + 1)) 111 22 (((un : Nat) : Int) + 1)) := (hFy.trans (Fq.y ((Fq.refl.wr (by omega)).wr (by omega))))
                    have hcr : codeR 0 (tn b c) (tn b c) := Or.inl ⟨tn0 (by omega), rfl, rfl⟩
                    refine rs_add yY5 (by omega) (by omega) ?_
                    refine wp_gen (fun J => Fq (up (up I 111 20 (((un : Nat) : Int) + 1)) 111 22 (((un : Nat) : Int) + 1)) J ∧ YM J st (tn b c :: out) (un + 1) dp) ⟨((Fq.refl.wr (by omega)).wr (by omega)).wr (by omega), yY5.add hcr⟩ (fun J5 hJ5 => ?_)
                    have hB5 := yB5.q hJ5.1
                    refine wp_eqst (st' := []) rfl ?_
                    refine wp_aload_n (pc := 175) 0 dX11_unit_175 rfl rfl ?_
                    refine wp_callV (pc := 176) (st := []) (nf' := 153) [] [some (vR 111), none, none] dX11_unit_176 rfl c_X11_241 rfl kd_111 (by decide) rfl la_111 rfl (Nat.le_of_ble_eq_true rfl) rfl (Nat.le_of_ble_eq_true rfl) (by omega) (Nat.le_refl _) (Nat.le_refl _) ?_
                    have yY6 : YM (J5) st (tn b c :: out) (un + 1) dp := hJ5.2
                    have yB6 : RB0 (J5) (L) b g n c := hB5
                    have yF6 : Fyd I0 (J5) := (yF5.trans hJ5.1.y)
                    have n36 : ts b c ≠ 3 := (by first | exact n3_w (by omega) | omega)
                    refine rs_token yB6.1 yB6.nx (yB6.q4 n36) (by omega) (fun J6 M6 hFb6 hLb6 hTk6 => ?_)
                    have hB6 := yB6.adv yB6.nx hFb6 hTk6
                    have hY6 := yY6.tb hFb6
                    refine wp_eqst (st' := []) rfl ?_
                    refine wp_vret (pc := 179) dX11_unit_179 rfl rfl ?_
                    have hlf : lfc b c = tn b c := if_pos (by omega)
                    have tn0_ := tn0 (by omega)
                    have hlx : lfc b c = tn b c := by omega
                    have hs_ : stp b (0, c, st, out, un, dp) = (1, te b c, st, lfc b c :: out, un + 1, dp) := by
                      show stU b c st out un dp = _
                      unfold stU
                      (repeat (first | rw [if_pos (by omega)] | rw [if_neg (by omega)] | rw [if_pos ⟨by omega, by assumption⟩] | rw [if_neg (fun z => absurd z.2 (by assumption))]))
                    rw [show itn b (k + 1) (0, c, st, out, un, dp) = itn b k (stp b (0, c, st, out, un, dp)) from rfl, hs_] at hi
                    rw [hlx] at hi
                    exact h1 k _ _ _ _ _ (by omega) hi (hI.unit (by omega)) _ _ (yF6.trans hFb6.y) (hLy.trans hLb6) hB6 hY6
              · refine wp_iconst (pc := 18) dX11_isFull_18 ?_
                refine wp_goto (pc := 19) 23 dX11_isFull_19 (by decide) ?_
                refine wp_zret (pc := 23) dX11_isFull_23 rfl rfl (by decide) ?_
                refine wp_eqst (st' := [vI 1]) rfl ?_
                refine wp_if_eq (pc := 130) 138 dX11_unit_130 (by decide) (by decide) (fun hh => absurd hh (by decide)) (fun _ => ?_)
                refine wp_aload_n (pc := 133) 0 dX11_unit_133 rfl rfl ?_
                refine wp_iconst (pc := 134) dX11_unit_134 ?_
                refine wp_callV (pc := 135) (st := []) (nf' := 153) [vI 2] [some (vR 111), some (vI 2)] dX11_unit_135 rfl c_X11_238 rfl kd_111 (by decide) rfl la_111 rfl (Nat.le_of_ble_eq_true rfl) rfl (Nat.le_of_ble_eq_true rfl) (by omega) (Nat.le_refl _) (Nat.le_refl _) ?_
                have yY7 : YM (I) st out un dp := hY
                have yB7 : RB0 (I) (L) b g n c := hB
                have yF7 : Fyd I0 (I) := hFy
                refine rs_wrong yB7.2.2.1 yB7.2.2.2.1.1 (by decide) (by omega) ?_
                refine wp_gen (fun J => Fe (I) J ∧ RE J (bad b c 2)) ⟨Fe.bad, RD.bad (by decide)⟩ (fun J7 hJ7 => ?_)
                have x2_7 : J7 111 2 = (bad b c 2).1 := hJ7.2.1
                have xp_7 : 0 < (bad b c 2).1 ∧ (bad b c 2).1 ≤ 5 := hJ7.2.2.2
                have jY7 := yY7.e hJ7.1
                refine wp_eqst (st' := []) rfl ?_
                refine wp_aload_n (pc := 138) 0 dX11_unit_138 rfl rfl ?_
                refine wp_geti (pc := 139) dX11_unit_139 rfl f_X11_185 kd_111 la_111 (Or.inl rfl) ?_
                refine wp_eqst (st' := [vI ((bad b c 2).1)]) (by rw [x2_7]) ?_
                refine wp_if_le (pc := 142) 146 dX11_unit_142 (by decide) (by omega) (fun hh => absurd hh (by omega)) (fun _ => ?_)
                refine wp_vret (pc := 145) dX11_unit_145 rfl rfl ?_
                have hlf : lfc b c = tn b c := if_pos (by omega)
                have tn0_ := tn0 (by omega)
                have hs_ : stp b (0, c, st, out, un, dp) = (3, c, st, out, un, dp) := by
                  show stU b c st out un dp = _
                  unfold stU
                  (repeat (first | rw [if_pos (by omega)] | rw [if_neg (by omega)] | rw [if_pos ⟨by omega, by assumption⟩] | rw [if_neg (fun z => absurd z.2 (by assumption))]))
                rw [show itn b (k + 1) (0, c, st, out, un, dp) = itn b k (stp b (0, c, st, out, un, dp)) from rfl, hs_] at hi
                rw [itn_fix (s := (3, c, st, out, un, dp)) (show 2 ≤ 3 by decide)] at hi
                exact h0 c (by rw [← hi]) (by rw [← hi]) _ _ (yF7.trans hJ7.1.y) hLy hJ7.2
          · refine wp_iload_n (pc := 122) 2 dX11_unit_122 rfl rfl ?_
            refine wp_if_lt (pc := 123) 133 dX11_unit_123 (by decide) (by omega) (fun h_11 => ?_) (fun h_11 => ?_)
            · refine wp_aload_n (pc := 133) 0 dX11_unit_133 rfl rfl ?_
              refine wp_iconst (pc := 134) dX11_unit_134 ?_
              refine wp_callV (pc := 135) (st := []) (nf' := 153) [vI 2] [some (vR 111), some (vI 2)] dX11_unit_135 rfl c_X11_238 rfl kd_111 (by decide) rfl la_111 rfl (Nat.le_of_ble_eq_true rfl) rfl (Nat.le_of_ble_eq_true rfl) (by omega) (Nat.le_refl _) (Nat.le_refl _) ?_
              have yY8 : YM (I) st out un dp := hY
              have yB8 : RB0 (I) (L) b g n c := hB
              have yF8 : Fyd I0 (I) := hFy
              refine rs_wrong yB8.2.2.1 yB8.2.2.2.1.1 (by decide) (by omega) ?_
              refine wp_gen (fun J => Fe (I) J ∧ RE J (bad b c 2)) ⟨Fe.bad, RD.bad (by decide)⟩ (fun J8 hJ8 => ?_)
              have x2_8 : J8 111 2 = (bad b c 2).1 := hJ8.2.1
              have xp_8 : 0 < (bad b c 2).1 ∧ (bad b c 2).1 ≤ 5 := hJ8.2.2.2
              have jY8 := yY8.e hJ8.1
              refine wp_eqst (st' := []) rfl ?_
              refine wp_aload_n (pc := 138) 0 dX11_unit_138 rfl rfl ?_
              refine wp_geti (pc := 139) dX11_unit_139 rfl f_X11_185 kd_111 la_111 (Or.inl rfl) ?_
              refine wp_eqst (st' := [vI ((bad b c 2).1)]) (by rw [x2_8]) ?_
              refine wp_if_le (pc := 142) 146 dX11_unit_142 (by decide) (by omega) (fun hh => absurd hh (by omega)) (fun _ => ?_)
              refine wp_vret (pc := 145) dX11_unit_145 rfl rfl ?_
              have hlf := lfc_ask (b := b) (c := c) (by omega)
              rw [if_pos (by omega)] at hlf
              have hs_ : stp b (0, c, st, out, un, dp) = (3, c, st, out, un, dp) := by
                show stU b c st out un dp = _
                unfold stU
                (repeat (first | rw [if_pos (by omega)] | rw [if_neg (by omega)] | rw [if_pos ⟨by omega, by assumption⟩] | rw [if_neg (fun z => absurd z.2 (by assumption))]))
              rw [show itn b (k + 1) (0, c, st, out, un, dp) = itn b k (stp b (0, c, st, out, un, dp)) from rfl, hs_] at hi
              rw [itn_fix (s := (3, c, st, out, un, dp)) (show 2 ≤ 3 by decide)] at hi
              exact h0 c (by rw [← hi]) (by rw [← hi]) _ _ (yF8.trans hJ8.1.y) hLy hJ8.2
            · refine wp_aload_n (pc := 126) 0 dX11_unit_126 rfl rfl ?_
              refine wp_callV (pc := 127) (st := []) (nf' := 153) [] [some (vR 111)] dX11_unit_127 rfl c_X11_295 rfl kd_111 (by decide) rfl la_111 rfl (Nat.le_of_ble_eq_true rfl) rfl (Nat.le_of_ble_eq_true rfl) (by omega) (Nat.le_refl _) (Nat.le_refl _) ?_
              refine wp_aload_n (pc := 0) 0 dX11_isFull_0 rfl rfl ?_
              refine wp_geti (pc := 1) dX11_isFull_1 rfl f_X11_283 kd_111 la_111 (Or.inl rfl) ?_
              refine wp_eqst (st' := [vI ((un : Nat) : Int)]) (by rw [hY.2.2.1.1]) ?_
              refine wp_bipush (pc := 4) dX11_isFull_4 (by decide) ?_
              refine wp_icmp_eq (pc := 6) 18 dX11_isFull_6 (by decide) (by omega) (by decide) (fun h_12 => ?_) (fun h_12 => ?_)
              · refine wp_iconst (pc := 18) dX11_isFull_18 ?_
                refine wp_goto (pc := 19) 23 dX11_isFull_19 (by decide) ?_
                refine wp_zret (pc := 23) dX11_isFull_23 rfl rfl (by decide) ?_
                refine wp_eqst (st' := [vI 1]) rfl ?_
                refine wp_if_eq (pc := 130) 138 dX11_unit_130 (by decide) (by decide) (fun hh => absurd hh (by decide)) (fun _ => ?_)
                refine wp_aload_n (pc := 133) 0 dX11_unit_133 rfl rfl ?_
                refine wp_iconst (pc := 134) dX11_unit_134 ?_
                refine wp_callV (pc := 135) (st := []) (nf' := 153) [vI 2] [some (vR 111), some (vI 2)] dX11_unit_135 rfl c_X11_238 rfl kd_111 (by decide) rfl la_111 rfl (Nat.le_of_ble_eq_true rfl) rfl (Nat.le_of_ble_eq_true rfl) (by omega) (Nat.le_refl _) (Nat.le_refl _) ?_
                have yY9 : YM (I) st out un dp := hY
                have yB9 : RB0 (I) (L) b g n c := hB
                have yF9 : Fyd I0 (I) := hFy
                refine rs_wrong yB9.2.2.1 yB9.2.2.2.1.1 (by decide) (by omega) ?_
                refine wp_gen (fun J => Fe (I) J ∧ RE J (bad b c 2)) ⟨Fe.bad, RD.bad (by decide)⟩ (fun J9 hJ9 => ?_)
                have x2_9 : J9 111 2 = (bad b c 2).1 := hJ9.2.1
                have xp_9 : 0 < (bad b c 2).1 ∧ (bad b c 2).1 ≤ 5 := hJ9.2.2.2
                have jY9 := yY9.e hJ9.1
                refine wp_eqst (st' := []) rfl ?_
                refine wp_aload_n (pc := 138) 0 dX11_unit_138 rfl rfl ?_
                refine wp_geti (pc := 139) dX11_unit_139 rfl f_X11_185 kd_111 la_111 (Or.inl rfl) ?_
                refine wp_eqst (st' := [vI ((bad b c 2).1)]) (by rw [x2_9]) ?_
                refine wp_if_le (pc := 142) 146 dX11_unit_142 (by decide) (by omega) (fun hh => absurd hh (by omega)) (fun _ => ?_)
                refine wp_vret (pc := 145) dX11_unit_145 rfl rfl ?_
                have hlf := lfc_ask (b := b) (c := c) (by omega)
                rw [if_neg (by omega)] at hlf
                have hs_ : stp b (0, c, st, out, un, dp) = (3, c, st, out, un, dp) := by
                  show stU b c st out un dp = _
                  unfold stU
                  (repeat (first | rw [if_pos (by omega)] | rw [if_neg (by omega)] | rw [if_pos ⟨by omega, by assumption⟩] | rw [if_neg (fun z => absurd z.2 (by assumption))]))
                rw [show itn b (k + 1) (0, c, st, out, un, dp) = itn b k (stp b (0, c, st, out, un, dp)) from rfl, hs_] at hi
                rw [itn_fix (s := (3, c, st, out, un, dp)) (show 2 ≤ 3 by decide)] at hi
                exact h0 c (by rw [← hi]) (by rw [← hi]) _ _ (yF9.trans hJ9.1.y) hLy hJ9.2
              · refine wp_aload_n (pc := 9) 0 dX11_isFull_9 rfl rfl ?_
                refine wp_geti (pc := 10) dX11_isFull_10 rfl f_X11_286 kd_111 la_111 (Or.inl rfl) ?_
                refine wp_eqst (st' := [vI ((un : Nat) : Int)]) (by rw [hY.2.2.1.2]) ?_
                refine wp_bipush (pc := 13) dX11_isFull_13 (by decide) ?_
                refine wp_icmp_ne (pc := 15) 22 dX11_isFull_15 (by decide) (by omega) (by decide) (fun h_13 => ?_) (fun h_13 => ?_)
                · refine wp_iconst (pc := 22) dX11_isFull_22 ?_
                  refine wp_zret (pc := 23) dX11_isFull_23 rfl rfl (by decide) ?_
                  refine wp_eqst (st' := [vI 0]) rfl ?_
                  refine wp_if_eq (pc := 130) 138 dX11_unit_130 (by decide) (by decide) (fun _ => ?_) (fun hh => absurd hh (by decide))
                  refine wp_aload_n (pc := 138) 0 dX11_unit_138 rfl rfl ?_
                  refine wp_geti (pc := 139) dX11_unit_139 rfl f_X11_185 kd_111 la_111 (Or.inl rfl) ?_
                  refine wp_eqst (st' := [vI 0]) (by rw [hB.2.2.2.1.1]) ?_
                  refine wp_if_le (pc := 142) 146 dX11_unit_142 (by decide) (by decide) (fun _ => ?_) (fun hh => absurd hh (by decide))
                  refine wp_aload_n (pc := 146) 0 dX11_unit_146 rfl rfl ?_
                  refine wp_callV (pc := 147) (st := []) (nf' := 153) [] [some (vR 111)] dX11_unit_147 rfl c_X11_298 rfl kd_111 (by decide) rfl la_111 rfl (Nat.le_of_ble_eq_true rfl) rfl (Nat.le_of_ble_eq_true rfl) (by omega) (Nat.le_refl _) (Nat.le_refl _) ?_
                  refine wp_aload_n (pc := 0) 0 dX11_countUnit_0 rfl rfl ?_
                  refine wp_dup (pc := 1) dX11_countUnit_1 rfl ?_
                  refine wp_geti (pc := 2) dX11_countUnit_2 rfl f_X11_283 kd_111 la_111 (Or.inl rfl) ?_
                  refine wp_eqst (st' := [vI ((un : Nat) : Int), vR 111]) (by rw [hY.2.2.1.1]) ?_
                  refine wp_iconst (pc := 5) dX11_countUnit_5 ?_
                  refine wp_iadd (pc := 6) dX11_countUnit_6 ?_
                  refine wp_puti (pc := 7) dX11_countUnit_7 rfl f_X11_283 kd_111 la_111 (fun _ h => by cases h; rfl) rfl ?_
                  refine wp_aload_n (pc := 10) 0 dX11_countUnit_10 rfl rfl ?_
                  refine wp_dup (pc := 11) dX11_countUnit_11 rfl ?_
                  refine wp_geti (pc := 12) dX11_countUnit_12 rfl f_X11_286 kd_111 la_111 (Or.inl rfl) ?_
                  refine wp_eqst (st' := [vI ((un : Nat) : Int), vR 111]) (by rw [up_j (by omega), hY.2.2.1.2]) ?_
                  refine wp_iconst (pc := 15) dX11_countUnit_15 ?_
                  refine wp_iadd (pc := 16) dX11_countUnit_16 ?_
                  refine wp_puti (pc := 17) dX11_countUnit_17 rfl f_X11_286 kd_111 la_111 (fun _ h => by cases h; rfl) rfl ?_
                  refine wp_vret (pc := 20) dX11_countUnit_20 rfl rfl ?_
                  refine wp_eqst (st' := []) rfl ?_
                  refine wp_aload_n (pc := 150) 0 dX11_unit_150 rfl rfl ?_
                  refine wp_iload_n (pc := 151) 2 dX11_unit_151 rfl rfl ?_
                  refine wp_if_ge (pc := 152) 159 dX11_unit_152 (by decide) (by omega) (fun h_14 => ?_) (fun h_14 => ?_)
                  · refine wp_iconst (pc := 159) dX11_unit_159 ?_
                    refine wp_iload_n (pc := 160) 2 dX11_unit_160 rfl rfl ?_
                    refine wp_if_ge (pc := 161) 171 dX11_unit_161 (by decide) (by omega) (fun h_15 => ?_) (fun h_15 => ?_)
                    · refine wp_iload_n (pc := 171) 2 dX11_unit_171 rfl rfl ?_
                      refine wp_callV (pc := 172) (st := []) (nf' := 153) [vI 1, vI (askF b c)] [some (vR 111), some (vI 1), some (vI (askF b c))] dX11_unit_172 rfl c_X11_276 rfl kd_111 (by decide) rfl la_111 rfl (Nat.le_of_ble_eq_true rfl) rfl (Nat.le_of_ble_eq_true rfl) (by omega) (Nat.le_refl _) (Nat.le_refl _) ?_
                      have yY10 : YM (up (up I 111 20 (((un : Nat) : Int) + 1)) 111 22 (((un : Nat) : Int) + 1)) st out (un + 1) dp := hY.count
                      have yB10 : RB0 (up (up I 111 20 (((un : Nat) : Int) + 1)) 111 22 (((un : Nat) : Int) + 1)) (L) b g n c := (hB.q ((Fq.refl.wr (by omega)).wr (by omega)))
                      have yF10 : Fyd I0 (up (up I 111 20 (((un : Nat) : Int) + 1)) 111 22 (((un : Nat) : Int) + 1)) := (hFy.trans (Fq.y ((Fq.refl.wr (by omega)).wr (by omega))))
                      have hcr : codeR 1 (askF b c) ((-2 - askF b c)) := Or.inr (Or.inl ⟨by omega, rfl, by omega⟩)
                      refine rs_add yY10 (by omega) (by omega) ?_
                      refine wp_gen (fun J => Fq (up (up I 111 20 (((un : Nat) : Int) + 1)) 111 22 (((un : Nat) : Int) + 1)) J ∧ YM J st ((-2 - askF b c) :: out) (un + 1) dp) ⟨((Fq.refl.wr (by omega)).wr (by omega)).wr (by omega), yY10.add hcr⟩ (fun J10 hJ10 => ?_)
                      have hB10 := yB10.q hJ10.1
                      refine wp_eqst (st' := []) rfl ?_
                      refine wp_aload_n (pc := 175) 0 dX11_unit_175 rfl rfl ?_
                      refine wp_callV (pc := 176) (st := []) (nf' := 153) [] [some (vR 111), none, none] dX11_unit_176 rfl c_X11_241 rfl kd_111 (by decide) rfl la_111 rfl (Nat.le_of_ble_eq_true rfl) rfl (Nat.le_of_ble_eq_true rfl) (by omega) (Nat.le_refl _) (Nat.le_refl _) ?_
                      have yY11 : YM (J10) st ((-2 - askF b c) :: out) (un + 1) dp := hJ10.2
                      have yB11 : RB0 (J10) (L) b g n c := hB10
                      have yF11 : Fyd I0 (J10) := (yF10.trans hJ10.1.y)
                      have n311 : ts b c ≠ 3 := (by first | exact n3_w (by omega) | omega)
                      refine rs_token yB11.1 yB11.nx (yB11.q4 n311) (by omega) (fun J11 M11 hFb11 hLb11 hTk11 => ?_)
                      have hB11 := yB11.adv yB11.nx hFb11 hTk11
                      have hY11 := yY11.tb hFb11
                      refine wp_eqst (st' := []) rfl ?_
                      refine wp_vret (pc := 179) dX11_unit_179 rfl rfl ?_
                      have hlf := lfc_ask (b := b) (c := c) (by omega)
                      rw [if_neg (by omega)] at hlf
                      have hlx : lfc b c = (-2 - askF b c) := by omega
                      have hs_ : stp b (0, c, st, out, un, dp) = (1, te b c, st, lfc b c :: out, un + 1, dp) := by
                        show stU b c st out un dp = _
                        unfold stU
                        (repeat (first | rw [if_pos (by omega)] | rw [if_neg (by omega)] | rw [if_pos ⟨by omega, by assumption⟩] | rw [if_neg (fun z => absurd z.2 (by assumption))]))
                      rw [show itn b (k + 1) (0, c, st, out, un, dp) = itn b k (stp b (0, c, st, out, un, dp)) from rfl, hs_] at hi
                      rw [hlx] at hi
                      exact h1 k _ _ _ _ _ (by omega) hi (hI.unit (by omega)) _ _ (yF11.trans hFb11.y) (hLy.trans hLb11) hB11 hY11
                    · refine wp_aload_n (pc := 164) 0 dX11_unit_164 rfl rfl ?_
                      refine wp_geti (pc := 165) dX11_unit_165 rfl f_X11_169 kd_111 la_111 (Or.inl rfl) ?_
                      refine wp_eqst (st' := [vI (tn b c), vI 1, vR 111]) (by rw [up_j (by omega), up_j (by omega), hB.2.2.1.2.2.1.2 (by omega)]) ?_
                      refine wp_goto (pc := 168) 172 dX11_unit_168 (by decide) ?_
                      refine wp_callV (pc := 172) (st := []) (nf' := 153) [vI 1, vI (tn b c)] [some (vR 111), some (vI 1), some (vI (tn b c))] dX11_unit_172 rfl c_X11_276 rfl kd_111 (by decide) rfl la_111 rfl (Nat.le_of_ble_eq_true rfl) rfl (Nat.le_of_ble_eq_true rfl) (by omega) (Nat.le_refl _) (Nat.le_refl _) ?_
                      exfalso; omega
                  · refine wp_iconst (pc := 155) dX11_unit_155 ?_
                    refine wp_goto (pc := 156) 160 dX11_unit_156 (by decide) ?_
                    refine wp_iload_n (pc := 160) 2 dX11_unit_160 rfl rfl ?_
                    refine wp_if_ge (pc := 161) 171 dX11_unit_161 (by decide) (by omega) (fun h_16 => ?_) (fun h_16 => ?_)
                    · refine wp_iload_n (pc := 171) 2 dX11_unit_171 rfl rfl ?_
                      refine wp_callV (pc := 172) (st := []) (nf' := 153) [vI 0, vI (askF b c)] [some (vR 111), some (vI 0), some (vI (askF b c))] dX11_unit_172 rfl c_X11_276 rfl kd_111 (by decide) rfl la_111 rfl (Nat.le_of_ble_eq_true rfl) rfl (Nat.le_of_ble_eq_true rfl) (by omega) (Nat.le_refl _) (Nat.le_refl _) ?_
                      exfalso; omega
                    · refine wp_aload_n (pc := 164) 0 dX11_unit_164 rfl rfl ?_
                      refine wp_geti (pc := 165) dX11_unit_165 rfl f_X11_169 kd_111 la_111 (Or.inl rfl) ?_
                      refine wp_eqst (st' := [vI (tn b c), vI 0, vR 111]) (by rw [up_j (by omega), up_j (by omega), hB.2.2.1.2.2.1.2 (by omega)]) ?_
                      refine wp_goto (pc := 168) 172 dX11_unit_168 (by decide) ?_
                      refine wp_callV (pc := 172) (st := []) (nf' := 153) [vI 0, vI (tn b c)] [some (vR 111), some (vI 0), some (vI (tn b c))] dX11_unit_172 rfl c_X11_276 rfl kd_111 (by decide) rfl la_111 rfl (Nat.le_of_ble_eq_true rfl) rfl (Nat.le_of_ble_eq_true rfl) (by omega) (Nat.le_refl _) (Nat.le_refl _) ?_
                      exfalso; omega
                · refine wp_iconst (pc := 18) dX11_isFull_18 ?_
                  refine wp_goto (pc := 19) 23 dX11_isFull_19 (by decide) ?_
                  refine wp_zret (pc := 23) dX11_isFull_23 rfl rfl (by decide) ?_
                  refine wp_eqst (st' := [vI 1]) rfl ?_
                  refine wp_if_eq (pc := 130) 138 dX11_unit_130 (by decide) (by decide) (fun hh => absurd hh (by decide)) (fun _ => ?_)
                  refine wp_aload_n (pc := 133) 0 dX11_unit_133 rfl rfl ?_
                  refine wp_iconst (pc := 134) dX11_unit_134 ?_
                  refine wp_callV (pc := 135) (st := []) (nf' := 153) [vI 2] [some (vR 111), some (vI 2)] dX11_unit_135 rfl c_X11_238 rfl kd_111 (by decide) rfl la_111 rfl (Nat.le_of_ble_eq_true rfl) rfl (Nat.le_of_ble_eq_true rfl) (by omega) (Nat.le_refl _) (Nat.le_refl _) ?_
                  have yY12 : YM (I) st out un dp := hY
                  have yB12 : RB0 (I) (L) b g n c := hB
                  have yF12 : Fyd I0 (I) := hFy
                  refine rs_wrong yB12.2.2.1 yB12.2.2.2.1.1 (by decide) (by omega) ?_
                  refine wp_gen (fun J => Fe (I) J ∧ RE J (bad b c 2)) ⟨Fe.bad, RD.bad (by decide)⟩ (fun J12 hJ12 => ?_)
                  have x2_12 : J12 111 2 = (bad b c 2).1 := hJ12.2.1
                  have xp_12 : 0 < (bad b c 2).1 ∧ (bad b c 2).1 ≤ 5 := hJ12.2.2.2
                  have jY12 := yY12.e hJ12.1
                  refine wp_eqst (st' := []) rfl ?_
                  refine wp_aload_n (pc := 138) 0 dX11_unit_138 rfl rfl ?_
                  refine wp_geti (pc := 139) dX11_unit_139 rfl f_X11_185 kd_111 la_111 (Or.inl rfl) ?_
                  refine wp_eqst (st' := [vI ((bad b c 2).1)]) (by rw [x2_12]) ?_
                  refine wp_if_le (pc := 142) 146 dX11_unit_142 (by decide) (by omega) (fun hh => absurd hh (by omega)) (fun _ => ?_)
                  refine wp_vret (pc := 145) dX11_unit_145 rfl rfl ?_
                  have hlf := lfc_ask (b := b) (c := c) (by omega)
                  rw [if_neg (by omega)] at hlf
                  have hs_ : stp b (0, c, st, out, un, dp) = (3, c, st, out, un, dp) := by
                    show stU b c st out un dp = _
                    unfold stU
                    (repeat (first | rw [if_pos (by omega)] | rw [if_neg (by omega)] | rw [if_pos ⟨by omega, by assumption⟩] | rw [if_neg (fun z => absurd z.2 (by assumption))]))
                  rw [show itn b (k + 1) (0, c, st, out, un, dp) = itn b k (stp b (0, c, st, out, un, dp)) from rfl, hs_] at hi
                  rw [itn_fix (s := (3, c, st, out, un, dp)) (show 2 ≤ 3 by decide)] at hi
                  exact h0 c (by rw [← hi]) (by rw [← hi]) _ _ (yF12.trans hJ12.1.y) hLy hJ12.2
        · refine wp_aload_n (pc := 62) 0 dX11_unit_62 rfl rfl ?_
          refine wp_callV (pc := 63) (st := []) (nf' := 153) [] [some (vR 111)] dX11_unit_63 rfl c_X11_295 rfl kd_111 (by decide) rfl la_111 rfl (Nat.le_of_ble_eq_true rfl) rfl (Nat.le_of_ble_eq_true rfl) (by omega) (Nat.le_refl _) (Nat.le_refl _) ?_
          refine wp_aload_n (pc := 0) 0 dX11_isFull_0 rfl rfl ?_
          refine wp_geti (pc := 1) dX11_isFull_1 rfl f_X11_283 kd_111 la_111 (Or.inl rfl) ?_
          refine wp_eqst (st' := [vI ((un : Nat) : Int)]) (by rw [hY.2.2.1.1]) ?_
          refine wp_bipush (pc := 4) dX11_isFull_4 (by decide) ?_
          refine wp_icmp_eq (pc := 6) 18 dX11_isFull_6 (by decide) (by omega) (by decide) (fun h_17 => ?_) (fun h_17 => ?_)
          · refine wp_iconst (pc := 18) dX11_isFull_18 ?_
            refine wp_goto (pc := 19) 23 dX11_isFull_19 (by decide) ?_
            refine wp_zret (pc := 23) dX11_isFull_23 rfl rfl (by decide) ?_
            refine wp_eqst (st' := [vI 1]) rfl ?_
            refine wp_if_ne (pc := 66) 78 dX11_unit_66 (by decide) (by decide) (fun _ => ?_) (fun hh => absurd hh (by decide))
            refine wp_aload_n (pc := 78) 0 dX11_unit_78 rfl rfl ?_
            refine wp_iconst (pc := 79) dX11_unit_79 ?_
            refine wp_callV (pc := 80) (st := []) (nf' := 153) [vI 2] [some (vR 111), some (vI 2)] dX11_unit_80 rfl c_X11_238 rfl kd_111 (by decide) rfl la_111 rfl (Nat.le_of_ble_eq_true rfl) rfl (Nat.le_of_ble_eq_true rfl) (by omega) (Nat.le_refl _) (Nat.le_refl _) ?_
            have yY13 : YM (I) st out un dp := hY
            have yB13 : RB0 (I) (L) b g n c := hB
            have yF13 : Fyd I0 (I) := hFy
            refine rs_wrong yB13.2.2.1 yB13.2.2.2.1.1 (by decide) (by omega) ?_
            refine wp_gen (fun J => Fe (I) J ∧ RE J (bad b c 2)) ⟨Fe.bad, RD.bad (by decide)⟩ (fun J13 hJ13 => ?_)
            have x2_13 : J13 111 2 = (bad b c 2).1 := hJ13.2.1
            have xp_13 : 0 < (bad b c 2).1 ∧ (bad b c 2).1 ≤ 5 := hJ13.2.2.2
            have jY13 := yY13.e hJ13.1
            refine wp_eqst (st' := []) rfl ?_
            refine wp_aload_n (pc := 83) 0 dX11_unit_83 rfl rfl ?_
            refine wp_callV (pc := 84) (st := []) (nf' := 153) [] [some (vR 111)] dX11_unit_84 rfl c_X11_298 rfl kd_111 (by decide) rfl la_111 rfl (Nat.le_of_ble_eq_true rfl) rfl (Nat.le_of_ble_eq_true rfl) (by omega) (Nat.le_refl _) (Nat.le_refl _) ?_
            refine wp_aload_n (pc := 0) 0 dX11_countUnit_0 rfl rfl ?_
            refine wp_dup (pc := 1) dX11_countUnit_1 rfl ?_
            refine wp_geti (pc := 2) dX11_countUnit_2 rfl f_X11_283 kd_111 la_111 (Or.inl rfl) ?_
            refine wp_eqst (st' := [vI ((un : Nat) : Int), vR 111]) (by rw [jY13.2.2.1.1]) ?_
            refine wp_iconst (pc := 5) dX11_countUnit_5 ?_
            refine wp_iadd (pc := 6) dX11_countUnit_6 ?_
            refine wp_puti (pc := 7) dX11_countUnit_7 rfl f_X11_283 kd_111 la_111 (fun _ h => by cases h; rfl) rfl ?_
            refine wp_aload_n (pc := 10) 0 dX11_countUnit_10 rfl rfl ?_
            refine wp_dup (pc := 11) dX11_countUnit_11 rfl ?_
            refine wp_geti (pc := 12) dX11_countUnit_12 rfl f_X11_286 kd_111 la_111 (Or.inl rfl) ?_
            refine wp_eqst (st' := [vI ((un : Nat) : Int), vR 111]) (by rw [up_j (by omega), jY13.2.2.1.2]) ?_
            refine wp_iconst (pc := 15) dX11_countUnit_15 ?_
            refine wp_iadd (pc := 16) dX11_countUnit_16 ?_
            refine wp_puti (pc := 17) dX11_countUnit_17 rfl f_X11_286 kd_111 la_111 (fun _ h => by cases h; rfl) rfl ?_
            refine wp_vret (pc := 20) dX11_countUnit_20 rfl rfl ?_
            refine wp_eqst (st' := []) rfl ?_
            refine wp_aload_n (pc := 87) 0 dX11_unit_87 rfl rfl ?_
            refine wp_bipush (pc := 88) dX11_unit_88 (by decide) ?_
            refine wp_callV (pc := 90) (st := []) (nf' := 153) [vI 20] [some (vR 111), some (vI 20)] dX11_unit_90 rfl c_X11_292 rfl kd_111 (by decide) rfl la_111 rfl (Nat.le_of_ble_eq_true rfl) rfl (Nat.le_of_ble_eq_true rfl) (by omega) (Nat.le_refl _) (Nat.le_refl _) ?_
            have yY14 : YM (up (up J13 111 20 (((un : Nat) : Int) + 1)) 111 22 (((un : Nat) : Int) + 1)) st out (un + 1) dp := jY13.count
            have yE14 : RE (up (up J13 111 20 (((un : Nat) : Int) + 1)) 111 22 (((un : Nat) : Int) + 1)) (bad b c 2) := ((hJ13.2.wr (by omega)).wr (by omega))
            have yF14 : Fyd I0 (up (up J13 111 20 (((un : Nat) : Int) + 1)) 111 22 (((un : Nat) : Int) + 1)) := ((yF13.trans hJ13.1.y).trans (Fq.y ((Fq.refl.wr (by omega)).wr (by omega))))
            refine rz_openUp yE14 yY14 (by omega) (by omega) (fun J14 hF14 hE14 => ?_)
            have x2_14 : J14 111 2 = (bad b c 2).1 := hE14.1
            refine wp_eqst (st' := []) rfl ?_
            refine wp_goto (pc := 93) 2 dX11_unit_93 (by decide) ?_
            refine wp_iload_n (pc := 2) 1 dX11_unit_2 rfl rfl ?_
            refine wp_if_eq (pc := 3) 101 dX11_unit_3 (by decide) (by decide) (fun hh => absurd hh (by decide)) (fun _ => ?_)
            refine wp_aload_n (pc := 6) 0 dX11_unit_6 rfl rfl ?_
            refine wp_geti (pc := 7) dX11_unit_7 rfl f_X11_185 kd_111 la_111 (Or.inl rfl) ?_
            refine wp_eqst (st' := [vI ((bad b c 2).1)]) (by rw [x2_14]) ?_
            refine wp_if_ne (pc := 10) 101 dX11_unit_10 (by decide) (by omega) (fun _ => ?_) (fun hh => absurd hh (by omega))
            refine wp_aload_n (pc := 101) 0 dX11_unit_101 rfl rfl ?_
            refine wp_geti (pc := 102) dX11_unit_102 rfl f_X11_185 kd_111 la_111 (Or.inl rfl) ?_
            refine wp_eqst (st' := [vI ((bad b c 2).1)]) (by rw [x2_14]) ?_
            refine wp_if_le (pc := 105) 109 dX11_unit_105 (by decide) (by omega) (fun hh => absurd hh (by omega)) (fun _ => ?_)
            refine wp_vret (pc := 108) dX11_unit_108 rfl rfl ?_
            have hs_ : stp b (0, c, st, out, un, dp) = (3, c, st, out, un, dp) := by
              show stU b c st out un dp = _
              unfold stU
              (repeat (first | rw [if_pos (by omega)] | rw [if_neg (by omega)] | rw [if_pos ⟨by omega, by assumption⟩] | rw [if_neg (fun z => absurd z.2 (by assumption))]))
            rw [show itn b (k + 1) (0, c, st, out, un, dp) = itn b k (stp b (0, c, st, out, un, dp)) from rfl, hs_] at hi
            rw [itn_fix (s := (3, c, st, out, un, dp)) (show 2 ≤ 3 by decide)] at hi
            exact h0 c (by rw [← hi]) (by rw [← hi]) _ _ (yF14.trans hF14) hLy hE14
          · refine wp_aload_n (pc := 9) 0 dX11_isFull_9 rfl rfl ?_
            refine wp_geti (pc := 10) dX11_isFull_10 rfl f_X11_286 kd_111 la_111 (Or.inl rfl) ?_
            refine wp_eqst (st' := [vI ((un : Nat) : Int)]) (by rw [hY.2.2.1.2]) ?_
            refine wp_bipush (pc := 13) dX11_isFull_13 (by decide) ?_
            refine wp_icmp_ne (pc := 15) 22 dX11_isFull_15 (by decide) (by omega) (by decide) (fun h_18 => ?_) (fun h_18 => ?_)
            · refine wp_iconst (pc := 22) dX11_isFull_22 ?_
              refine wp_zret (pc := 23) dX11_isFull_23 rfl rfl (by decide) ?_
              refine wp_eqst (st' := [vI 0]) rfl ?_
              refine wp_if_ne (pc := 66) 78 dX11_unit_66 (by decide) (by decide) (fun hh => absurd hh (by decide)) (fun _ => ?_)
              refine wp_aload_n (pc := 69) 0 dX11_unit_69 rfl rfl ?_
              refine wp_geti (pc := 70) dX11_unit_70 rfl f_X11_280 kd_111 la_111 (Or.inl rfl) ?_
              refine wp_eqst (st' := [vI ((dp : Nat) : Int)]) (by rw [hY.2.2.2]) ?_
              refine wp_bipush (pc := 73) dX11_unit_73 (by decide) ?_
              refine wp_icmp_le (pc := 75) 83 dX11_unit_75 (by decide) (by omega) (by decide) (fun h_19 => ?_) (fun h_19 => ?_)
              · refine wp_aload_n (pc := 83) 0 dX11_unit_83 rfl rfl ?_
                refine wp_callV (pc := 84) (st := []) (nf' := 153) [] [some (vR 111)] dX11_unit_84 rfl c_X11_298 rfl kd_111 (by decide) rfl la_111 rfl (Nat.le_of_ble_eq_true rfl) rfl (Nat.le_of_ble_eq_true rfl) (by omega) (Nat.le_refl _) (Nat.le_refl _) ?_
                refine wp_aload_n (pc := 0) 0 dX11_countUnit_0 rfl rfl ?_
                refine wp_dup (pc := 1) dX11_countUnit_1 rfl ?_
                refine wp_geti (pc := 2) dX11_countUnit_2 rfl f_X11_283 kd_111 la_111 (Or.inl rfl) ?_
                refine wp_eqst (st' := [vI ((un : Nat) : Int), vR 111]) (by rw [hY.2.2.1.1]) ?_
                refine wp_iconst (pc := 5) dX11_countUnit_5 ?_
                refine wp_iadd (pc := 6) dX11_countUnit_6 ?_
                refine wp_puti (pc := 7) dX11_countUnit_7 rfl f_X11_283 kd_111 la_111 (fun _ h => by cases h; rfl) rfl ?_
                refine wp_aload_n (pc := 10) 0 dX11_countUnit_10 rfl rfl ?_
                refine wp_dup (pc := 11) dX11_countUnit_11 rfl ?_
                refine wp_geti (pc := 12) dX11_countUnit_12 rfl f_X11_286 kd_111 la_111 (Or.inl rfl) ?_
                refine wp_eqst (st' := [vI ((un : Nat) : Int), vR 111]) (by rw [up_j (by omega), hY.2.2.1.2]) ?_
                refine wp_iconst (pc := 15) dX11_countUnit_15 ?_
                refine wp_iadd (pc := 16) dX11_countUnit_16 ?_
                refine wp_puti (pc := 17) dX11_countUnit_17 rfl f_X11_286 kd_111 la_111 (fun _ h => by cases h; rfl) rfl ?_
                refine wp_vret (pc := 20) dX11_countUnit_20 rfl rfl ?_
                refine wp_eqst (st' := []) rfl ?_
                refine wp_aload_n (pc := 87) 0 dX11_unit_87 rfl rfl ?_
                refine wp_bipush (pc := 88) dX11_unit_88 (by decide) ?_
                refine wp_callV (pc := 90) (st := []) (nf' := 153) [vI 20] [some (vR 111), some (vI 20)] dX11_unit_90 rfl c_X11_292 rfl kd_111 (by decide) rfl la_111 rfl (Nat.le_of_ble_eq_true rfl) rfl (Nat.le_of_ble_eq_true rfl) (by omega) (Nat.le_refl _) (Nat.le_refl _) ?_
                have yY15 : YM (up (up I 111 20 (((un : Nat) : Int) + 1)) 111 22 (((un : Nat) : Int) + 1)) st out (un + 1) dp := hY.count
                have yB15 : RB0 (up (up I 111 20 (((un : Nat) : Int) + 1)) 111 22 (((un : Nat) : Int) + 1)) (L) b g n c := (hB.q ((Fq.refl.wr (by omega)).wr (by omega)))
                have yF15 : Fyd I0 (up (up I 111 20 (((un : Nat) : Int) + 1)) 111 22 (((un : Nat) : Int) + 1)) := (hFy.trans (Fq.y ((Fq.refl.wr (by omega)).wr (by omega))))
                refine rs_openUp yB15 yY15 (by first | exact n3_w (by omega) | omega) (by omega) (by omega) (fun J15 M15 hF15 hL15 hB15 hY15 => ?_)
                refine wp_eqst (st' := []) rfl ?_
                refine wp_goto (pc := 93) 2 dX11_unit_93 (by decide) ?_
                have hs_ : stp b (0, c, st, out, un, dp) = (0, te b c, (20 :: st), out, (un + 1), dp + 1) := by
                  show stU b c st out un dp = _
                  unfold stU
                  (repeat (first | rw [if_pos (by omega)] | rw [if_neg (by omega)] | rw [if_pos ⟨by omega, by assumption⟩] | rw [if_neg (fun z => absurd z.2 (by assumption))]))
                rw [show itn b (k + 1) (0, c, st, out, un, dp) = itn b k (stp b (0, c, st, out, un, dp)) from rfl, hs_] at hi
                exact lp_runit hf hd h1 h0 k _ _ _ _ _ _ _ (by omega) hB15 hY15 (hI.brk (by omega) (by omega)) hi (yF15.trans hF15) (hLy.trans hL15)
              · refine wp_aload_n (pc := 78) 0 dX11_unit_78 rfl rfl ?_
                refine wp_iconst (pc := 79) dX11_unit_79 ?_
                refine wp_callV (pc := 80) (st := []) (nf' := 153) [vI 2] [some (vR 111), some (vI 2)] dX11_unit_80 rfl c_X11_238 rfl kd_111 (by decide) rfl la_111 rfl (Nat.le_of_ble_eq_true rfl) rfl (Nat.le_of_ble_eq_true rfl) (by omega) (Nat.le_refl _) (Nat.le_refl _) ?_
                have yY16 : YM (I) st out un dp := hY
                have yB16 : RB0 (I) (L) b g n c := hB
                have yF16 : Fyd I0 (I) := hFy
                refine rs_wrong yB16.2.2.1 yB16.2.2.2.1.1 (by decide) (by omega) ?_
                refine wp_gen (fun J => Fe (I) J ∧ RE J (bad b c 2)) ⟨Fe.bad, RD.bad (by decide)⟩ (fun J16 hJ16 => ?_)
                have x2_16 : J16 111 2 = (bad b c 2).1 := hJ16.2.1
                have xp_16 : 0 < (bad b c 2).1 ∧ (bad b c 2).1 ≤ 5 := hJ16.2.2.2
                have jY16 := yY16.e hJ16.1
                refine wp_eqst (st' := []) rfl ?_
                refine wp_aload_n (pc := 83) 0 dX11_unit_83 rfl rfl ?_
                refine wp_callV (pc := 84) (st := []) (nf' := 153) [] [some (vR 111)] dX11_unit_84 rfl c_X11_298 rfl kd_111 (by decide) rfl la_111 rfl (Nat.le_of_ble_eq_true rfl) rfl (Nat.le_of_ble_eq_true rfl) (by omega) (Nat.le_refl _) (Nat.le_refl _) ?_
                refine wp_aload_n (pc := 0) 0 dX11_countUnit_0 rfl rfl ?_
                refine wp_dup (pc := 1) dX11_countUnit_1 rfl ?_
                refine wp_geti (pc := 2) dX11_countUnit_2 rfl f_X11_283 kd_111 la_111 (Or.inl rfl) ?_
                refine wp_eqst (st' := [vI ((un : Nat) : Int), vR 111]) (by rw [jY16.2.2.1.1]) ?_
                refine wp_iconst (pc := 5) dX11_countUnit_5 ?_
                refine wp_iadd (pc := 6) dX11_countUnit_6 ?_
                refine wp_puti (pc := 7) dX11_countUnit_7 rfl f_X11_283 kd_111 la_111 (fun _ h => by cases h; rfl) rfl ?_
                refine wp_aload_n (pc := 10) 0 dX11_countUnit_10 rfl rfl ?_
                refine wp_dup (pc := 11) dX11_countUnit_11 rfl ?_
                refine wp_geti (pc := 12) dX11_countUnit_12 rfl f_X11_286 kd_111 la_111 (Or.inl rfl) ?_
                refine wp_eqst (st' := [vI ((un : Nat) : Int), vR 111]) (by rw [up_j (by omega), jY16.2.2.1.2]) ?_
                refine wp_iconst (pc := 15) dX11_countUnit_15 ?_
                refine wp_iadd (pc := 16) dX11_countUnit_16 ?_
                refine wp_puti (pc := 17) dX11_countUnit_17 rfl f_X11_286 kd_111 la_111 (fun _ h => by cases h; rfl) rfl ?_
                refine wp_vret (pc := 20) dX11_countUnit_20 rfl rfl ?_
                refine wp_eqst (st' := []) rfl ?_
                refine wp_aload_n (pc := 87) 0 dX11_unit_87 rfl rfl ?_
                refine wp_bipush (pc := 88) dX11_unit_88 (by decide) ?_
                refine wp_callV (pc := 90) (st := []) (nf' := 153) [vI 20] [some (vR 111), some (vI 20)] dX11_unit_90 rfl c_X11_292 rfl kd_111 (by decide) rfl la_111 rfl (Nat.le_of_ble_eq_true rfl) rfl (Nat.le_of_ble_eq_true rfl) (by omega) (Nat.le_refl _) (Nat.le_refl _) ?_
                have yY17 : YM (up (up J16 111 20 (((un : Nat) : Int) + 1)) 111 22 (((un : Nat) : Int) + 1)) st out (un + 1) dp := jY16.count
                have yE17 : RE (up (up J16 111 20 (((un : Nat) : Int) + 1)) 111 22 (((un : Nat) : Int) + 1)) (bad b c 2) := ((hJ16.2.wr (by omega)).wr (by omega))
                have yF17 : Fyd I0 (up (up J16 111 20 (((un : Nat) : Int) + 1)) 111 22 (((un : Nat) : Int) + 1)) := ((yF16.trans hJ16.1.y).trans (Fq.y ((Fq.refl.wr (by omega)).wr (by omega))))
                refine rz_openUp yE17 yY17 (by omega) (by omega) (fun J17 hF17 hE17 => ?_)
                have x2_17 : J17 111 2 = (bad b c 2).1 := hE17.1
                refine wp_eqst (st' := []) rfl ?_
                refine wp_goto (pc := 93) 2 dX11_unit_93 (by decide) ?_
                refine wp_iload_n (pc := 2) 1 dX11_unit_2 rfl rfl ?_
                refine wp_if_eq (pc := 3) 101 dX11_unit_3 (by decide) (by decide) (fun hh => absurd hh (by decide)) (fun _ => ?_)
                refine wp_aload_n (pc := 6) 0 dX11_unit_6 rfl rfl ?_
                refine wp_geti (pc := 7) dX11_unit_7 rfl f_X11_185 kd_111 la_111 (Or.inl rfl) ?_
                refine wp_eqst (st' := [vI ((bad b c 2).1)]) (by rw [x2_17]) ?_
                refine wp_if_ne (pc := 10) 101 dX11_unit_10 (by decide) (by omega) (fun _ => ?_) (fun hh => absurd hh (by omega))
                refine wp_aload_n (pc := 101) 0 dX11_unit_101 rfl rfl ?_
                refine wp_geti (pc := 102) dX11_unit_102 rfl f_X11_185 kd_111 la_111 (Or.inl rfl) ?_
                refine wp_eqst (st' := [vI ((bad b c 2).1)]) (by rw [x2_17]) ?_
                refine wp_if_le (pc := 105) 109 dX11_unit_105 (by decide) (by omega) (fun hh => absurd hh (by omega)) (fun _ => ?_)
                refine wp_vret (pc := 108) dX11_unit_108 rfl rfl ?_
                have hs_ : stp b (0, c, st, out, un, dp) = (3, c, st, out, un, dp) := by
                  show stU b c st out un dp = _
                  unfold stU
                  (repeat (first | rw [if_pos (by omega)] | rw [if_neg (by omega)] | rw [if_pos ⟨by omega, by assumption⟩] | rw [if_neg (fun z => absurd z.2 (by assumption))]))
                rw [show itn b (k + 1) (0, c, st, out, un, dp) = itn b k (stp b (0, c, st, out, un, dp)) from rfl, hs_] at hi
                rw [itn_fix (s := (3, c, st, out, un, dp)) (show 2 ≤ 3 by decide)] at hi
                exact h0 c (by rw [← hi]) (by rw [← hi]) _ _ (yF17.trans hF17) hLy hE17
            · refine wp_iconst (pc := 18) dX11_isFull_18 ?_
              refine wp_goto (pc := 19) 23 dX11_isFull_19 (by decide) ?_
              refine wp_zret (pc := 23) dX11_isFull_23 rfl rfl (by decide) ?_
              refine wp_eqst (st' := [vI 1]) rfl ?_
              refine wp_if_ne (pc := 66) 78 dX11_unit_66 (by decide) (by decide) (fun _ => ?_) (fun hh => absurd hh (by decide))
              refine wp_aload_n (pc := 78) 0 dX11_unit_78 rfl rfl ?_
              refine wp_iconst (pc := 79) dX11_unit_79 ?_
              refine wp_callV (pc := 80) (st := []) (nf' := 153) [vI 2] [some (vR 111), some (vI 2)] dX11_unit_80 rfl c_X11_238 rfl kd_111 (by decide) rfl la_111 rfl (Nat.le_of_ble_eq_true rfl) rfl (Nat.le_of_ble_eq_true rfl) (by omega) (Nat.le_refl _) (Nat.le_refl _) ?_
              have yY18 : YM (I) st out un dp := hY
              have yB18 : RB0 (I) (L) b g n c := hB
              have yF18 : Fyd I0 (I) := hFy
              refine rs_wrong yB18.2.2.1 yB18.2.2.2.1.1 (by decide) (by omega) ?_
              refine wp_gen (fun J => Fe (I) J ∧ RE J (bad b c 2)) ⟨Fe.bad, RD.bad (by decide)⟩ (fun J18 hJ18 => ?_)
              have x2_18 : J18 111 2 = (bad b c 2).1 := hJ18.2.1
              have xp_18 : 0 < (bad b c 2).1 ∧ (bad b c 2).1 ≤ 5 := hJ18.2.2.2
              have jY18 := yY18.e hJ18.1
              refine wp_eqst (st' := []) rfl ?_
              refine wp_aload_n (pc := 83) 0 dX11_unit_83 rfl rfl ?_
              refine wp_callV (pc := 84) (st := []) (nf' := 153) [] [some (vR 111)] dX11_unit_84 rfl c_X11_298 rfl kd_111 (by decide) rfl la_111 rfl (Nat.le_of_ble_eq_true rfl) rfl (Nat.le_of_ble_eq_true rfl) (by omega) (Nat.le_refl _) (Nat.le_refl _) ?_
              refine wp_aload_n (pc := 0) 0 dX11_countUnit_0 rfl rfl ?_
              refine wp_dup (pc := 1) dX11_countUnit_1 rfl ?_
              refine wp_geti (pc := 2) dX11_countUnit_2 rfl f_X11_283 kd_111 la_111 (Or.inl rfl) ?_
              refine wp_eqst (st' := [vI ((un : Nat) : Int), vR 111]) (by rw [jY18.2.2.1.1]) ?_
              refine wp_iconst (pc := 5) dX11_countUnit_5 ?_
              refine wp_iadd (pc := 6) dX11_countUnit_6 ?_
              refine wp_puti (pc := 7) dX11_countUnit_7 rfl f_X11_283 kd_111 la_111 (fun _ h => by cases h; rfl) rfl ?_
              refine wp_aload_n (pc := 10) 0 dX11_countUnit_10 rfl rfl ?_
              refine wp_dup (pc := 11) dX11_countUnit_11 rfl ?_
              refine wp_geti (pc := 12) dX11_countUnit_12 rfl f_X11_286 kd_111 la_111 (Or.inl rfl) ?_
              refine wp_eqst (st' := [vI ((un : Nat) : Int), vR 111]) (by rw [up_j (by omega), jY18.2.2.1.2]) ?_
              refine wp_iconst (pc := 15) dX11_countUnit_15 ?_
              refine wp_iadd (pc := 16) dX11_countUnit_16 ?_
              refine wp_puti (pc := 17) dX11_countUnit_17 rfl f_X11_286 kd_111 la_111 (fun _ h => by cases h; rfl) rfl ?_
              refine wp_vret (pc := 20) dX11_countUnit_20 rfl rfl ?_
              refine wp_eqst (st' := []) rfl ?_
              refine wp_aload_n (pc := 87) 0 dX11_unit_87 rfl rfl ?_
              refine wp_bipush (pc := 88) dX11_unit_88 (by decide) ?_
              refine wp_callV (pc := 90) (st := []) (nf' := 153) [vI 20] [some (vR 111), some (vI 20)] dX11_unit_90 rfl c_X11_292 rfl kd_111 (by decide) rfl la_111 rfl (Nat.le_of_ble_eq_true rfl) rfl (Nat.le_of_ble_eq_true rfl) (by omega) (Nat.le_refl _) (Nat.le_refl _) ?_
              have yY19 : YM (up (up J18 111 20 (((un : Nat) : Int) + 1)) 111 22 (((un : Nat) : Int) + 1)) st out (un + 1) dp := jY18.count
              have yE19 : RE (up (up J18 111 20 (((un : Nat) : Int) + 1)) 111 22 (((un : Nat) : Int) + 1)) (bad b c 2) := ((hJ18.2.wr (by omega)).wr (by omega))
              have yF19 : Fyd I0 (up (up J18 111 20 (((un : Nat) : Int) + 1)) 111 22 (((un : Nat) : Int) + 1)) := ((yF18.trans hJ18.1.y).trans (Fq.y ((Fq.refl.wr (by omega)).wr (by omega))))
              refine rz_openUp yE19 yY19 (by omega) (by omega) (fun J19 hF19 hE19 => ?_)
              have x2_19 : J19 111 2 = (bad b c 2).1 := hE19.1
              refine wp_eqst (st' := []) rfl ?_
              refine wp_goto (pc := 93) 2 dX11_unit_93 (by decide) ?_
              refine wp_iload_n (pc := 2) 1 dX11_unit_2 rfl rfl ?_
              refine wp_if_eq (pc := 3) 101 dX11_unit_3 (by decide) (by decide) (fun hh => absurd hh (by decide)) (fun _ => ?_)
              refine wp_aload_n (pc := 6) 0 dX11_unit_6 rfl rfl ?_
              refine wp_geti (pc := 7) dX11_unit_7 rfl f_X11_185 kd_111 la_111 (Or.inl rfl) ?_
              refine wp_eqst (st' := [vI ((bad b c 2).1)]) (by rw [x2_19]) ?_
              refine wp_if_ne (pc := 10) 101 dX11_unit_10 (by decide) (by omega) (fun _ => ?_) (fun hh => absurd hh (by omega))
              refine wp_aload_n (pc := 101) 0 dX11_unit_101 rfl rfl ?_
              refine wp_geti (pc := 102) dX11_unit_102 rfl f_X11_185 kd_111 la_111 (Or.inl rfl) ?_
              refine wp_eqst (st' := [vI ((bad b c 2).1)]) (by rw [x2_19]) ?_
              refine wp_if_le (pc := 105) 109 dX11_unit_105 (by decide) (by omega) (fun hh => absurd hh (by omega)) (fun _ => ?_)
              refine wp_vret (pc := 108) dX11_unit_108 rfl rfl ?_
              have hs_ : stp b (0, c, st, out, un, dp) = (3, c, st, out, un, dp) := by
                show stU b c st out un dp = _
                unfold stU
                (repeat (first | rw [if_pos (by omega)] | rw [if_neg (by omega)] | rw [if_pos ⟨by omega, by assumption⟩] | rw [if_neg (fun z => absurd z.2 (by assumption))]))
              rw [show itn b (k + 1) (0, c, st, out, un, dp) = itn b k (stp b (0, c, st, out, un, dp)) from rfl, hs_] at hi
              rw [itn_fix (s := (3, c, st, out, un, dp)) (show 2 ≤ 3 by decide)] at hi
              exact h0 c (by rw [← hi]) (by rw [← hi]) _ _ (yF19.trans hF19) hLy hE19
    · refine wp_eqst (st' := [vI 0]) rfl ?_
      refine wp_if_eq (pc := 20) 53 dX11_unit_20 (by decide) (by decide) (fun _ => ?_) (fun hh => absurd hh (by decide))
      refine wp_aload_n (pc := 53) 0 dX11_unit_53 rfl rfl ?_
      refine wp_geti (pc := 54) dX11_unit_54 rfl f_X11_172 kd_111 la_111 (Or.inl rfl) ?_
      refine wp_eqst (st' := [vI (ts b c)]) (by rw [hB.2.2.1.1]) ?_
      refine wp_bipush (pc := 57) dX11_unit_57 (by decide) ?_
      refine wp_icmp_ne (pc := 59) 96 dX11_unit_59 (by decide) (by omega) (by decide) (fun h_20 => ?_) (fun h_20 => ?_)
      · refine wp_iconst (pc := 96) dX11_unit_96 ?_
        refine wq_istore_n (pc := 97) 1 [some (vR 111), some (vI 0), none] dX11_unit_97 rfl rfl (by decide) rfl ?_
        refine wp_goto (pc := 98) 2 dX11_unit_98 (by decide) ?_
        refine wp_iload_n (pc := 2) 1 dX11_unit_2 rfl rfl ?_
        refine wp_if_eq (pc := 3) 101 dX11_unit_3 (by decide) (by decide) (fun _ => ?_) (fun hh => absurd hh (by decide))
        refine wp_aload_n (pc := 101) 0 dX11_unit_101 rfl rfl ?_
        refine wp_geti (pc := 102) dX11_unit_102 rfl f_X11_185 kd_111 la_111 (Or.inl rfl) ?_
        refine wp_eqst (st' := [vI 0]) (by rw [hB.2.2.2.1.1]) ?_
        refine wp_if_le (pc := 105) 109 dX11_unit_105 (by decide) (by decide) (fun _ => ?_) (fun hh => absurd hh (by decide))
        refine wp_aload_n (pc := 109) 0 dX11_unit_109 rfl rfl ?_
        refine wp_callV (pc := 110) (st := []) (nf' := 153) [] [some (vR 111)] dX11_unit_110 rfl c_X11_301 rfl kd_111 (by decide) rfl la_111 rfl (Nat.le_of_ble_eq_true rfl) rfl (Nat.le_of_ble_eq_true rfl) (by omega) (Nat.le_refl _) (Nat.le_refl _) ?_
        refine rs_asked hB (by omega) ?_
        have ai := askF_in b c
        have at_ := ask_ts (b := b) (c := c)
        refine wp_eqst (st' := [vI (askF b c)]) rfl ?_
        refine wq_istore_n (pc := 113) 2 [some (vR 111), some (vI 0), some (vI (askF b c))] dX11_unit_113 rfl rfl (by decide) rfl ?_
        refine wp_aload_n (pc := 114) 0 dX11_unit_114 rfl rfl ?_
        refine wp_geti (pc := 115) dX11_unit_115 rfl f_X11_172 kd_111 la_111 (Or.inl rfl) ?_
        refine wp_eqst (st' := [vI (ts b c)]) (by rw [hB.2.2.1.1]) ?_
        refine wp_iconst (pc := 118) dX11_unit_118 ?_
        refine wp_icmp_eq (pc := 119) 126 dX11_unit_119 (by decide) (by omega) (by decide) (fun h_21 => ?_) (fun h_21 => ?_)
        · refine wp_aload_n (pc := 126) 0 dX11_unit_126 rfl rfl ?_
          refine wp_callV (pc := 127) (st := []) (nf' := 153) [] [some (vR 111)] dX11_unit_127 rfl c_X11_295 rfl kd_111 (by decide) rfl la_111 rfl (Nat.le_of_ble_eq_true rfl) rfl (Nat.le_of_ble_eq_true rfl) (by omega) (Nat.le_refl _) (Nat.le_refl _) ?_
          refine wp_aload_n (pc := 0) 0 dX11_isFull_0 rfl rfl ?_
          refine wp_geti (pc := 1) dX11_isFull_1 rfl f_X11_283 kd_111 la_111 (Or.inl rfl) ?_
          refine wp_eqst (st' := [vI ((un : Nat) : Int)]) (by rw [hY.2.2.1.1]) ?_
          refine wp_bipush (pc := 4) dX11_isFull_4 (by decide) ?_
          refine wp_icmp_eq (pc := 6) 18 dX11_isFull_6 (by decide) (by omega) (by decide) (fun h_22 => ?_) (fun h_22 => ?_)
          · refine wp_iconst (pc := 18) dX11_isFull_18 ?_
            refine wp_goto (pc := 19) 23 dX11_isFull_19 (by decide) ?_
            refine wp_zret (pc := 23) dX11_isFull_23 rfl rfl (by decide) ?_
            refine wp_eqst (st' := [vI 1]) rfl ?_
            refine wp_if_eq (pc := 130) 138 dX11_unit_130 (by decide) (by decide) (fun hh => absurd hh (by decide)) (fun _ => ?_)
            refine wp_aload_n (pc := 133) 0 dX11_unit_133 rfl rfl ?_
            refine wp_iconst (pc := 134) dX11_unit_134 ?_
            refine wp_callV (pc := 135) (st := []) (nf' := 153) [vI 2] [some (vR 111), some (vI 2)] dX11_unit_135 rfl c_X11_238 rfl kd_111 (by decide) rfl la_111 rfl (Nat.le_of_ble_eq_true rfl) rfl (Nat.le_of_ble_eq_true rfl) (by omega) (Nat.le_refl _) (Nat.le_refl _) ?_
            have yY20 : YM (I) st out un dp := hY
            have yB20 : RB0 (I) (L) b g n c := hB
            have yF20 : Fyd I0 (I) := hFy
            refine rs_wrong yB20.2.2.1 yB20.2.2.2.1.1 (by decide) (by omega) ?_
            refine wp_gen (fun J => Fe (I) J ∧ RE J (bad b c 2)) ⟨Fe.bad, RD.bad (by decide)⟩ (fun J20 hJ20 => ?_)
            have x2_20 : J20 111 2 = (bad b c 2).1 := hJ20.2.1
            have xp_20 : 0 < (bad b c 2).1 ∧ (bad b c 2).1 ≤ 5 := hJ20.2.2.2
            have jY20 := yY20.e hJ20.1
            refine wp_eqst (st' := []) rfl ?_
            refine wp_aload_n (pc := 138) 0 dX11_unit_138 rfl rfl ?_
            refine wp_geti (pc := 139) dX11_unit_139 rfl f_X11_185 kd_111 la_111 (Or.inl rfl) ?_
            refine wp_eqst (st' := [vI ((bad b c 2).1)]) (by rw [x2_20]) ?_
            refine wp_if_le (pc := 142) 146 dX11_unit_142 (by decide) (by omega) (fun hh => absurd hh (by omega)) (fun _ => ?_)
            refine wp_vret (pc := 145) dX11_unit_145 rfl rfl ?_
            have hlf : lfc b c = tn b c := if_pos (by omega)
            have tn0_ := tn0 (by omega)
            have hs_ : stp b (0, c, st, out, un, dp) = (3, c, st, out, un, dp) := by
              show stU b c st out un dp = _
              unfold stU
              (repeat (first | rw [if_pos (by omega)] | rw [if_neg (by omega)] | rw [if_pos ⟨by omega, by assumption⟩] | rw [if_neg (fun z => absurd z.2 (by assumption))]))
            rw [show itn b (k + 1) (0, c, st, out, un, dp) = itn b k (stp b (0, c, st, out, un, dp)) from rfl, hs_] at hi
            rw [itn_fix (s := (3, c, st, out, un, dp)) (show 2 ≤ 3 by decide)] at hi
            exact h0 c (by rw [← hi]) (by rw [← hi]) _ _ (yF20.trans hJ20.1.y) hLy hJ20.2
          · refine wp_aload_n (pc := 9) 0 dX11_isFull_9 rfl rfl ?_
            refine wp_geti (pc := 10) dX11_isFull_10 rfl f_X11_286 kd_111 la_111 (Or.inl rfl) ?_
            refine wp_eqst (st' := [vI ((un : Nat) : Int)]) (by rw [hY.2.2.1.2]) ?_
            refine wp_bipush (pc := 13) dX11_isFull_13 (by decide) ?_
            refine wp_icmp_ne (pc := 15) 22 dX11_isFull_15 (by decide) (by omega) (by decide) (fun h_23 => ?_) (fun h_23 => ?_)
            · refine wp_iconst (pc := 22) dX11_isFull_22 ?_
              refine wp_zret (pc := 23) dX11_isFull_23 rfl rfl (by decide) ?_
              refine wp_eqst (st' := [vI 0]) rfl ?_
              refine wp_if_eq (pc := 130) 138 dX11_unit_130 (by decide) (by decide) (fun _ => ?_) (fun hh => absurd hh (by decide))
              refine wp_aload_n (pc := 138) 0 dX11_unit_138 rfl rfl ?_
              refine wp_geti (pc := 139) dX11_unit_139 rfl f_X11_185 kd_111 la_111 (Or.inl rfl) ?_
              refine wp_eqst (st' := [vI 0]) (by rw [hB.2.2.2.1.1]) ?_
              refine wp_if_le (pc := 142) 146 dX11_unit_142 (by decide) (by decide) (fun _ => ?_) (fun hh => absurd hh (by decide))
              refine wp_aload_n (pc := 146) 0 dX11_unit_146 rfl rfl ?_
              refine wp_callV (pc := 147) (st := []) (nf' := 153) [] [some (vR 111)] dX11_unit_147 rfl c_X11_298 rfl kd_111 (by decide) rfl la_111 rfl (Nat.le_of_ble_eq_true rfl) rfl (Nat.le_of_ble_eq_true rfl) (by omega) (Nat.le_refl _) (Nat.le_refl _) ?_
              refine wp_aload_n (pc := 0) 0 dX11_countUnit_0 rfl rfl ?_
              refine wp_dup (pc := 1) dX11_countUnit_1 rfl ?_
              refine wp_geti (pc := 2) dX11_countUnit_2 rfl f_X11_283 kd_111 la_111 (Or.inl rfl) ?_
              refine wp_eqst (st' := [vI ((un : Nat) : Int), vR 111]) (by rw [hY.2.2.1.1]) ?_
              refine wp_iconst (pc := 5) dX11_countUnit_5 ?_
              refine wp_iadd (pc := 6) dX11_countUnit_6 ?_
              refine wp_puti (pc := 7) dX11_countUnit_7 rfl f_X11_283 kd_111 la_111 (fun _ h => by cases h; rfl) rfl ?_
              refine wp_aload_n (pc := 10) 0 dX11_countUnit_10 rfl rfl ?_
              refine wp_dup (pc := 11) dX11_countUnit_11 rfl ?_
              refine wp_geti (pc := 12) dX11_countUnit_12 rfl f_X11_286 kd_111 la_111 (Or.inl rfl) ?_
              refine wp_eqst (st' := [vI ((un : Nat) : Int), vR 111]) (by rw [up_j (by omega), hY.2.2.1.2]) ?_
              refine wp_iconst (pc := 15) dX11_countUnit_15 ?_
              refine wp_iadd (pc := 16) dX11_countUnit_16 ?_
              refine wp_puti (pc := 17) dX11_countUnit_17 rfl f_X11_286 kd_111 la_111 (fun _ h => by cases h; rfl) rfl ?_
              refine wp_vret (pc := 20) dX11_countUnit_20 rfl rfl ?_
              refine wp_eqst (st' := []) rfl ?_
              refine wp_aload_n (pc := 150) 0 dX11_unit_150 rfl rfl ?_
              refine wp_iload_n (pc := 151) 2 dX11_unit_151 rfl rfl ?_
              refine wp_if_ge (pc := 152) 159 dX11_unit_152 (by decide) (by omega) (fun h_24 => ?_) (fun h_24 => ?_)
              · refine wp_iconst (pc := 159) dX11_unit_159 ?_
                refine wp_iload_n (pc := 160) 2 dX11_unit_160 rfl rfl ?_
                refine wp_if_ge (pc := 161) 171 dX11_unit_161 (by decide) (by omega) (fun h_25 => ?_) (fun h_25 => ?_)
                · refine wp_iload_n (pc := 171) 2 dX11_unit_171 rfl rfl ?_
                  refine wp_callV (pc := 172) (st := []) (nf' := 153) [vI 1, vI (askF b c)] [some (vR 111), some (vI 1), some (vI (askF b c))] dX11_unit_172 rfl c_X11_276 rfl kd_111 (by decide) rfl la_111 rfl (Nat.le_of_ble_eq_true rfl) rfl (Nat.le_of_ble_eq_true rfl) (by omega) (Nat.le_refl _) (Nat.le_refl _) ?_
                  exfalso; omega
                · refine wp_aload_n (pc := 164) 0 dX11_unit_164 rfl rfl ?_
                  refine wp_geti (pc := 165) dX11_unit_165 rfl f_X11_169 kd_111 la_111 (Or.inl rfl) ?_
                  refine wp_eqst (st' := [vI (tn b c), vI 1, vR 111]) (by rw [up_j (by omega), up_j (by omega), hB.2.2.1.2.2.1.2 (by omega)]) ?_
                  refine wp_goto (pc := 168) 172 dX11_unit_168 (by decide) ?_
                  refine wp_callV (pc := 172) (st := []) (nf' := 153) [vI 1, vI (tn b c)] [some (vR 111), some (vI 1), some (vI (tn b c))] dX11_unit_172 rfl c_X11_276 rfl kd_111 (by decide) rfl la_111 rfl (Nat.le_of_ble_eq_true rfl) rfl (Nat.le_of_ble_eq_true rfl) (by omega) (Nat.le_refl _) (Nat.le_refl _) ?_
                  exfalso; omega
              · refine wp_iconst (pc := 155) dX11_unit_155 ?_
                refine wp_goto (pc := 156) 160 dX11_unit_156 (by decide) ?_
                refine wp_iload_n (pc := 160) 2 dX11_unit_160 rfl rfl ?_
                refine wp_if_ge (pc := 161) 171 dX11_unit_161 (by decide) (by omega) (fun h_26 => ?_) (fun h_26 => ?_)
                · refine wp_iload_n (pc := 171) 2 dX11_unit_171 rfl rfl ?_
                  refine wp_callV (pc := 172) (st := []) (nf' := 153) [vI 0, vI (askF b c)] [some (vR 111), some (vI 0), some (vI (askF b c))] dX11_unit_172 rfl c_X11_276 rfl kd_111 (by decide) rfl la_111 rfl (Nat.le_of_ble_eq_true rfl) rfl (Nat.le_of_ble_eq_true rfl) (by omega) (Nat.le_refl _) (Nat.le_refl _) ?_
                  exfalso; omega
                · refine wp_aload_n (pc := 164) 0 dX11_unit_164 rfl rfl ?_
                  refine wp_geti (pc := 165) dX11_unit_165 rfl f_X11_169 kd_111 la_111 (Or.inl rfl) ?_
                  refine wp_eqst (st' := [vI (tn b c), vI 0, vR 111]) (by rw [up_j (by omega), up_j (by omega), hB.2.2.1.2.2.1.2 (by omega)]) ?_
                  refine wp_goto (pc := 168) 172 dX11_unit_168 (by decide) ?_
                  refine wp_callV (pc := 172) (st := []) (nf' := 153) [vI 0, vI (tn b c)] [some (vR 111), some (vI 0), some (vI (tn b c))] dX11_unit_172 rfl c_X11_276 rfl kd_111 (by decide) rfl la_111 rfl (Nat.le_of_ble_eq_true rfl) rfl (Nat.le_of_ble_eq_true rfl) (by omega) (Nat.le_refl _) (Nat.le_refl _) ?_
                  have yY21 : YM (up (up I 111 20 (((un : Nat) : Int) + 1)) 111 22 (((un : Nat) : Int) + 1)) st out (un + 1) dp := hY.count
                  have yB21 : RB0 (up (up I 111 20 (((un : Nat) : Int) + 1)) 111 22 (((un : Nat) : Int) + 1)) (L) b g n c := (hB.q ((Fq.refl.wr (by omega)).wr (by omega)))
                  have yF21 : Fyd I0 (up (up I 111 20 (((un : Nat) : Int) + 1)) 111 22 (((un : Nat) : Int) + 1)) := (hFy.trans (Fq.y ((Fq.refl.wr (by omega)).wr (by omega))))
                  have hcr : codeR 0 (tn b c) (tn b c) := Or.inl ⟨tn0 (by omega), rfl, rfl⟩
                  refine rs_add yY21 (by omega) (by omega) ?_
                  refine wp_gen (fun J => Fq (up (up I 111 20 (((un : Nat) : Int) + 1)) 111 22 (((un : Nat) : Int) + 1)) J ∧ YM J st (tn b c :: out) (un + 1) dp) ⟨((Fq.refl.wr (by omega)).wr (by omega)).wr (by omega), yY21.add hcr⟩ (fun J21 hJ21 => ?_)
                  have hB21 := yB21.q hJ21.1
                  refine wp_eqst (st' := []) rfl ?_
                  refine wp_aload_n (pc := 175) 0 dX11_unit_175 rfl rfl ?_
                  refine wp_callV (pc := 176) (st := []) (nf' := 153) [] [some (vR 111), none, none] dX11_unit_176 rfl c_X11_241 rfl kd_111 (by decide) rfl la_111 rfl (Nat.le_of_ble_eq_true rfl) rfl (Nat.le_of_ble_eq_true rfl) (by omega) (Nat.le_refl _) (Nat.le_refl _) ?_
                  have yY22 : YM (J21) st (tn b c :: out) (un + 1) dp := hJ21.2
                  have yB22 : RB0 (J21) (L) b g n c := hB21
                  have yF22 : Fyd I0 (J21) := (yF21.trans hJ21.1.y)
                  have n322 : ts b c ≠ 3 := (by first | exact n3_w (by omega) | omega)
                  refine rs_token yB22.1 yB22.nx (yB22.q4 n322) (by omega) (fun J22 M22 hFb22 hLb22 hTk22 => ?_)
                  have hB22 := yB22.adv yB22.nx hFb22 hTk22
                  have hY22 := yY22.tb hFb22
                  refine wp_eqst (st' := []) rfl ?_
                  refine wp_vret (pc := 179) dX11_unit_179 rfl rfl ?_
                  have hlf : lfc b c = tn b c := if_pos (by omega)
                  have tn0_ := tn0 (by omega)
                  have hlx : lfc b c = tn b c := by omega
                  have hs_ : stp b (0, c, st, out, un, dp) = (1, te b c, st, lfc b c :: out, un + 1, dp) := by
                    show stU b c st out un dp = _
                    unfold stU
                    (repeat (first | rw [if_pos (by omega)] | rw [if_neg (by omega)] | rw [if_pos ⟨by omega, by assumption⟩] | rw [if_neg (fun z => absurd z.2 (by assumption))]))
                  rw [show itn b (k + 1) (0, c, st, out, un, dp) = itn b k (stp b (0, c, st, out, un, dp)) from rfl, hs_] at hi
                  rw [hlx] at hi
                  exact h1 k _ _ _ _ _ (by omega) hi (hI.unit (by omega)) _ _ (yF22.trans hFb22.y) (hLy.trans hLb22) hB22 hY22
            · refine wp_iconst (pc := 18) dX11_isFull_18 ?_
              refine wp_goto (pc := 19) 23 dX11_isFull_19 (by decide) ?_
              refine wp_zret (pc := 23) dX11_isFull_23 rfl rfl (by decide) ?_
              refine wp_eqst (st' := [vI 1]) rfl ?_
              refine wp_if_eq (pc := 130) 138 dX11_unit_130 (by decide) (by decide) (fun hh => absurd hh (by decide)) (fun _ => ?_)
              refine wp_aload_n (pc := 133) 0 dX11_unit_133 rfl rfl ?_
              refine wp_iconst (pc := 134) dX11_unit_134 ?_
              refine wp_callV (pc := 135) (st := []) (nf' := 153) [vI 2] [some (vR 111), some (vI 2)] dX11_unit_135 rfl c_X11_238 rfl kd_111 (by decide) rfl la_111 rfl (Nat.le_of_ble_eq_true rfl) rfl (Nat.le_of_ble_eq_true rfl) (by omega) (Nat.le_refl _) (Nat.le_refl _) ?_
              have yY23 : YM (I) st out un dp := hY
              have yB23 : RB0 (I) (L) b g n c := hB
              have yF23 : Fyd I0 (I) := hFy
              refine rs_wrong yB23.2.2.1 yB23.2.2.2.1.1 (by decide) (by omega) ?_
              refine wp_gen (fun J => Fe (I) J ∧ RE J (bad b c 2)) ⟨Fe.bad, RD.bad (by decide)⟩ (fun J23 hJ23 => ?_)
              have x2_23 : J23 111 2 = (bad b c 2).1 := hJ23.2.1
              have xp_23 : 0 < (bad b c 2).1 ∧ (bad b c 2).1 ≤ 5 := hJ23.2.2.2
              have jY23 := yY23.e hJ23.1
              refine wp_eqst (st' := []) rfl ?_
              refine wp_aload_n (pc := 138) 0 dX11_unit_138 rfl rfl ?_
              refine wp_geti (pc := 139) dX11_unit_139 rfl f_X11_185 kd_111 la_111 (Or.inl rfl) ?_
              refine wp_eqst (st' := [vI ((bad b c 2).1)]) (by rw [x2_23]) ?_
              refine wp_if_le (pc := 142) 146 dX11_unit_142 (by decide) (by omega) (fun hh => absurd hh (by omega)) (fun _ => ?_)
              refine wp_vret (pc := 145) dX11_unit_145 rfl rfl ?_
              have hlf : lfc b c = tn b c := if_pos (by omega)
              have tn0_ := tn0 (by omega)
              have hs_ : stp b (0, c, st, out, un, dp) = (3, c, st, out, un, dp) := by
                show stU b c st out un dp = _
                unfold stU
                (repeat (first | rw [if_pos (by omega)] | rw [if_neg (by omega)] | rw [if_pos ⟨by omega, by assumption⟩] | rw [if_neg (fun z => absurd z.2 (by assumption))]))
              rw [show itn b (k + 1) (0, c, st, out, un, dp) = itn b k (stp b (0, c, st, out, un, dp)) from rfl, hs_] at hi
              rw [itn_fix (s := (3, c, st, out, un, dp)) (show 2 ≤ 3 by decide)] at hi
              exact h0 c (by rw [← hi]) (by rw [← hi]) _ _ (yF23.trans hJ23.1.y) hLy hJ23.2
        · refine wp_iload_n (pc := 122) 2 dX11_unit_122 rfl rfl ?_
          refine wp_if_lt (pc := 123) 133 dX11_unit_123 (by decide) (by omega) (fun h_27 => ?_) (fun h_27 => ?_)
          · refine wp_aload_n (pc := 133) 0 dX11_unit_133 rfl rfl ?_
            refine wp_iconst (pc := 134) dX11_unit_134 ?_
            refine wp_callV (pc := 135) (st := []) (nf' := 153) [vI 2] [some (vR 111), some (vI 2)] dX11_unit_135 rfl c_X11_238 rfl kd_111 (by decide) rfl la_111 rfl (Nat.le_of_ble_eq_true rfl) rfl (Nat.le_of_ble_eq_true rfl) (by omega) (Nat.le_refl _) (Nat.le_refl _) ?_
            have yY24 : YM (I) st out un dp := hY
            have yB24 : RB0 (I) (L) b g n c := hB
            have yF24 : Fyd I0 (I) := hFy
            refine rs_wrong yB24.2.2.1 yB24.2.2.2.1.1 (by decide) (by omega) ?_
            refine wp_gen (fun J => Fe (I) J ∧ RE J (bad b c 2)) ⟨Fe.bad, RD.bad (by decide)⟩ (fun J24 hJ24 => ?_)
            have x2_24 : J24 111 2 = (bad b c 2).1 := hJ24.2.1
            have xp_24 : 0 < (bad b c 2).1 ∧ (bad b c 2).1 ≤ 5 := hJ24.2.2.2
            have jY24 := yY24.e hJ24.1
            refine wp_eqst (st' := []) rfl ?_
            refine wp_aload_n (pc := 138) 0 dX11_unit_138 rfl rfl ?_
            refine wp_geti (pc := 139) dX11_unit_139 rfl f_X11_185 kd_111 la_111 (Or.inl rfl) ?_
            refine wp_eqst (st' := [vI ((bad b c 2).1)]) (by rw [x2_24]) ?_
            refine wp_if_le (pc := 142) 146 dX11_unit_142 (by decide) (by omega) (fun hh => absurd hh (by omega)) (fun _ => ?_)
            refine wp_vret (pc := 145) dX11_unit_145 rfl rfl ?_
            have hlf := lfc_ask (b := b) (c := c) (by omega)
            rw [if_pos (by omega)] at hlf
            have hs_ : stp b (0, c, st, out, un, dp) = (3, c, st, out, un, dp) := by
              show stU b c st out un dp = _
              unfold stU
              (repeat (first | rw [if_pos (by omega)] | rw [if_neg (by omega)] | rw [if_pos ⟨by omega, by assumption⟩] | rw [if_neg (fun z => absurd z.2 (by assumption))]))
            rw [show itn b (k + 1) (0, c, st, out, un, dp) = itn b k (stp b (0, c, st, out, un, dp)) from rfl, hs_] at hi
            rw [itn_fix (s := (3, c, st, out, un, dp)) (show 2 ≤ 3 by decide)] at hi
            exact h0 c (by rw [← hi]) (by rw [← hi]) _ _ (yF24.trans hJ24.1.y) hLy hJ24.2
          · refine wp_aload_n (pc := 126) 0 dX11_unit_126 rfl rfl ?_
            refine wp_callV (pc := 127) (st := []) (nf' := 153) [] [some (vR 111)] dX11_unit_127 rfl c_X11_295 rfl kd_111 (by decide) rfl la_111 rfl (Nat.le_of_ble_eq_true rfl) rfl (Nat.le_of_ble_eq_true rfl) (by omega) (Nat.le_refl _) (Nat.le_refl _) ?_
            refine wp_aload_n (pc := 0) 0 dX11_isFull_0 rfl rfl ?_
            refine wp_geti (pc := 1) dX11_isFull_1 rfl f_X11_283 kd_111 la_111 (Or.inl rfl) ?_
            refine wp_eqst (st' := [vI ((un : Nat) : Int)]) (by rw [hY.2.2.1.1]) ?_
            refine wp_bipush (pc := 4) dX11_isFull_4 (by decide) ?_
            refine wp_icmp_eq (pc := 6) 18 dX11_isFull_6 (by decide) (by omega) (by decide) (fun h_28 => ?_) (fun h_28 => ?_)
            · refine wp_iconst (pc := 18) dX11_isFull_18 ?_
              refine wp_goto (pc := 19) 23 dX11_isFull_19 (by decide) ?_
              refine wp_zret (pc := 23) dX11_isFull_23 rfl rfl (by decide) ?_
              refine wp_eqst (st' := [vI 1]) rfl ?_
              refine wp_if_eq (pc := 130) 138 dX11_unit_130 (by decide) (by decide) (fun hh => absurd hh (by decide)) (fun _ => ?_)
              refine wp_aload_n (pc := 133) 0 dX11_unit_133 rfl rfl ?_
              refine wp_iconst (pc := 134) dX11_unit_134 ?_
              refine wp_callV (pc := 135) (st := []) (nf' := 153) [vI 2] [some (vR 111), some (vI 2)] dX11_unit_135 rfl c_X11_238 rfl kd_111 (by decide) rfl la_111 rfl (Nat.le_of_ble_eq_true rfl) rfl (Nat.le_of_ble_eq_true rfl) (by omega) (Nat.le_refl _) (Nat.le_refl _) ?_
              have yY25 : YM (I) st out un dp := hY
              have yB25 : RB0 (I) (L) b g n c := hB
              have yF25 : Fyd I0 (I) := hFy
              refine rs_wrong yB25.2.2.1 yB25.2.2.2.1.1 (by decide) (by omega) ?_
              refine wp_gen (fun J => Fe (I) J ∧ RE J (bad b c 2)) ⟨Fe.bad, RD.bad (by decide)⟩ (fun J25 hJ25 => ?_)
              have x2_25 : J25 111 2 = (bad b c 2).1 := hJ25.2.1
              have xp_25 : 0 < (bad b c 2).1 ∧ (bad b c 2).1 ≤ 5 := hJ25.2.2.2
              have jY25 := yY25.e hJ25.1
              refine wp_eqst (st' := []) rfl ?_
              refine wp_aload_n (pc := 138) 0 dX11_unit_138 rfl rfl ?_
              refine wp_geti (pc := 139) dX11_unit_139 rfl f_X11_185 kd_111 la_111 (Or.inl rfl) ?_
              refine wp_eqst (st' := [vI ((bad b c 2).1)]) (by rw [x2_25]) ?_
              refine wp_if_le (pc := 142) 146 dX11_unit_142 (by decide) (by omega) (fun hh => absurd hh (by omega)) (fun _ => ?_)
              refine wp_vret (pc := 145) dX11_unit_145 rfl rfl ?_
              have hlf := lfc_ask (b := b) (c := c) (by omega)
              rw [if_neg (by omega)] at hlf
              have hs_ : stp b (0, c, st, out, un, dp) = (3, c, st, out, un, dp) := by
                show stU b c st out un dp = _
                unfold stU
                (repeat (first | rw [if_pos (by omega)] | rw [if_neg (by omega)] | rw [if_pos ⟨by omega, by assumption⟩] | rw [if_neg (fun z => absurd z.2 (by assumption))]))
              rw [show itn b (k + 1) (0, c, st, out, un, dp) = itn b k (stp b (0, c, st, out, un, dp)) from rfl, hs_] at hi
              rw [itn_fix (s := (3, c, st, out, un, dp)) (show 2 ≤ 3 by decide)] at hi
              exact h0 c (by rw [← hi]) (by rw [← hi]) _ _ (yF25.trans hJ25.1.y) hLy hJ25.2
            · refine wp_aload_n (pc := 9) 0 dX11_isFull_9 rfl rfl ?_
              refine wp_geti (pc := 10) dX11_isFull_10 rfl f_X11_286 kd_111 la_111 (Or.inl rfl) ?_
              refine wp_eqst (st' := [vI ((un : Nat) : Int)]) (by rw [hY.2.2.1.2]) ?_
              refine wp_bipush (pc := 13) dX11_isFull_13 (by decide) ?_
              refine wp_icmp_ne (pc := 15) 22 dX11_isFull_15 (by decide) (by omega) (by decide) (fun h_29 => ?_) (fun h_29 => ?_)
              · refine wp_iconst (pc := 22) dX11_isFull_22 ?_
                refine wp_zret (pc := 23) dX11_isFull_23 rfl rfl (by decide) ?_
                refine wp_eqst (st' := [vI 0]) rfl ?_
                refine wp_if_eq (pc := 130) 138 dX11_unit_130 (by decide) (by decide) (fun _ => ?_) (fun hh => absurd hh (by decide))
                refine wp_aload_n (pc := 138) 0 dX11_unit_138 rfl rfl ?_
                refine wp_geti (pc := 139) dX11_unit_139 rfl f_X11_185 kd_111 la_111 (Or.inl rfl) ?_
                refine wp_eqst (st' := [vI 0]) (by rw [hB.2.2.2.1.1]) ?_
                refine wp_if_le (pc := 142) 146 dX11_unit_142 (by decide) (by decide) (fun _ => ?_) (fun hh => absurd hh (by decide))
                refine wp_aload_n (pc := 146) 0 dX11_unit_146 rfl rfl ?_
                refine wp_callV (pc := 147) (st := []) (nf' := 153) [] [some (vR 111)] dX11_unit_147 rfl c_X11_298 rfl kd_111 (by decide) rfl la_111 rfl (Nat.le_of_ble_eq_true rfl) rfl (Nat.le_of_ble_eq_true rfl) (by omega) (Nat.le_refl _) (Nat.le_refl _) ?_
                refine wp_aload_n (pc := 0) 0 dX11_countUnit_0 rfl rfl ?_
                refine wp_dup (pc := 1) dX11_countUnit_1 rfl ?_
                refine wp_geti (pc := 2) dX11_countUnit_2 rfl f_X11_283 kd_111 la_111 (Or.inl rfl) ?_
                refine wp_eqst (st' := [vI ((un : Nat) : Int), vR 111]) (by rw [hY.2.2.1.1]) ?_
                refine wp_iconst (pc := 5) dX11_countUnit_5 ?_
                refine wp_iadd (pc := 6) dX11_countUnit_6 ?_
                refine wp_puti (pc := 7) dX11_countUnit_7 rfl f_X11_283 kd_111 la_111 (fun _ h => by cases h; rfl) rfl ?_
                refine wp_aload_n (pc := 10) 0 dX11_countUnit_10 rfl rfl ?_
                refine wp_dup (pc := 11) dX11_countUnit_11 rfl ?_
                refine wp_geti (pc := 12) dX11_countUnit_12 rfl f_X11_286 kd_111 la_111 (Or.inl rfl) ?_
                refine wp_eqst (st' := [vI ((un : Nat) : Int), vR 111]) (by rw [up_j (by omega), hY.2.2.1.2]) ?_
                refine wp_iconst (pc := 15) dX11_countUnit_15 ?_
                refine wp_iadd (pc := 16) dX11_countUnit_16 ?_
                refine wp_puti (pc := 17) dX11_countUnit_17 rfl f_X11_286 kd_111 la_111 (fun _ h => by cases h; rfl) rfl ?_
                refine wp_vret (pc := 20) dX11_countUnit_20 rfl rfl ?_
                refine wp_eqst (st' := []) rfl ?_
                refine wp_aload_n (pc := 150) 0 dX11_unit_150 rfl rfl ?_
                refine wp_iload_n (pc := 151) 2 dX11_unit_151 rfl rfl ?_
                refine wp_if_ge (pc := 152) 159 dX11_unit_152 (by decide) (by omega) (fun h_30 => ?_) (fun h_30 => ?_)
                · refine wp_iconst (pc := 159) dX11_unit_159 ?_
                  refine wp_iload_n (pc := 160) 2 dX11_unit_160 rfl rfl ?_
                  refine wp_if_ge (pc := 161) 171 dX11_unit_161 (by decide) (by omega) (fun h_31 => ?_) (fun h_31 => ?_)
                  · refine wp_iload_n (pc := 171) 2 dX11_unit_171 rfl rfl ?_
                    refine wp_callV (pc := 172) (st := []) (nf' := 153) [vI 1, vI (askF b c)] [some (vR 111), some (vI 1), some (vI (askF b c))] dX11_unit_172 rfl c_X11_276 rfl kd_111 (by decide) rfl la_111 rfl (Nat.le_of_ble_eq_true rfl) rfl (Nat.le_of_ble_eq_true rfl) (by omega) (Nat.le_refl _) (Nat.le_refl _) ?_
                    have yY26 : YM (up (up I 111 20 (((un : Nat) : Int) + 1)) 111 22 (((un : Nat) : Int) + 1)) st out (un + 1) dp := hY.count
                    have yB26 : RB0 (up (up I 111 20 (((un : Nat) : Int) + 1)) 111 22 (((un : Nat) : Int) + 1)) (L) b g n c := (hB.q ((Fq.refl.wr (by omega)).wr (by omega)))
                    have yF26 : Fyd I0 (up (up I 111 20 (((un : Nat) : Int) + 1)) 111 22 (((un : Nat) : Int) + 1)) := (hFy.trans (Fq.y ((Fq.refl.wr (by omega)).wr (by omega))))
                    have hcr : codeR 1 (askF b c) ((-2 - askF b c)) := Or.inr (Or.inl ⟨by omega, rfl, by omega⟩)
                    refine rs_add yY26 (by omega) (by omega) ?_
                    refine wp_gen (fun J => Fq (up (up I 111 20 (((un : Nat) : Int) + 1)) 111 22 (((un : Nat) : Int) + 1)) J ∧ YM J st ((-2 - askF b c) :: out) (un + 1) dp) ⟨((Fq.refl.wr (by omega)).wr (by omega)).wr (by omega), yY26.add hcr⟩ (fun J26 hJ26 => ?_)
                    have hB26 := yB26.q hJ26.1
                    refine wp_eqst (st' := []) rfl ?_
                    refine wp_aload_n (pc := 175) 0 dX11_unit_175 rfl rfl ?_
                    refine wp_callV (pc := 176) (st := []) (nf' := 153) [] [some (vR 111), none, none] dX11_unit_176 rfl c_X11_241 rfl kd_111 (by decide) rfl la_111 rfl (Nat.le_of_ble_eq_true rfl) rfl (Nat.le_of_ble_eq_true rfl) (by omega) (Nat.le_refl _) (Nat.le_refl _) ?_
                    have yY27 : YM (J26) st ((-2 - askF b c) :: out) (un + 1) dp := hJ26.2
                    have yB27 : RB0 (J26) (L) b g n c := hB26
                    have yF27 : Fyd I0 (J26) := (yF26.trans hJ26.1.y)
                    have n327 : ts b c ≠ 3 := (by first | exact n3_w (by omega) | omega)
                    refine rs_token yB27.1 yB27.nx (yB27.q4 n327) (by omega) (fun J27 M27 hFb27 hLb27 hTk27 => ?_)
                    have hB27 := yB27.adv yB27.nx hFb27 hTk27
                    have hY27 := yY27.tb hFb27
                    refine wp_eqst (st' := []) rfl ?_
                    refine wp_vret (pc := 179) dX11_unit_179 rfl rfl ?_
                    have hlf := lfc_ask (b := b) (c := c) (by omega)
                    rw [if_neg (by omega)] at hlf
                    have hlx : lfc b c = (-2 - askF b c) := by omega
                    have hs_ : stp b (0, c, st, out, un, dp) = (1, te b c, st, lfc b c :: out, un + 1, dp) := by
                      show stU b c st out un dp = _
                      unfold stU
                      (repeat (first | rw [if_pos (by omega)] | rw [if_neg (by omega)] | rw [if_pos ⟨by omega, by assumption⟩] | rw [if_neg (fun z => absurd z.2 (by assumption))]))
                    rw [show itn b (k + 1) (0, c, st, out, un, dp) = itn b k (stp b (0, c, st, out, un, dp)) from rfl, hs_] at hi
                    rw [hlx] at hi
                    exact h1 k _ _ _ _ _ (by omega) hi (hI.unit (by omega)) _ _ (yF27.trans hFb27.y) (hLy.trans hLb27) hB27 hY27
                  · refine wp_aload_n (pc := 164) 0 dX11_unit_164 rfl rfl ?_
                    refine wp_geti (pc := 165) dX11_unit_165 rfl f_X11_169 kd_111 la_111 (Or.inl rfl) ?_
                    refine wp_eqst (st' := [vI (tn b c), vI 1, vR 111]) (by rw [up_j (by omega), up_j (by omega), hB.2.2.1.2.2.1.2 (by omega)]) ?_
                    refine wp_goto (pc := 168) 172 dX11_unit_168 (by decide) ?_
                    refine wp_callV (pc := 172) (st := []) (nf' := 153) [vI 1, vI (tn b c)] [some (vR 111), some (vI 1), some (vI (tn b c))] dX11_unit_172 rfl c_X11_276 rfl kd_111 (by decide) rfl la_111 rfl (Nat.le_of_ble_eq_true rfl) rfl (Nat.le_of_ble_eq_true rfl) (by omega) (Nat.le_refl _) (Nat.le_refl _) ?_
                    exfalso; omega
                · refine wp_iconst (pc := 155) dX11_unit_155 ?_
                  refine wp_goto (pc := 156) 160 dX11_unit_156 (by decide) ?_
                  refine wp_iload_n (pc := 160) 2 dX11_unit_160 rfl rfl ?_
                  refine wp_if_ge (pc := 161) 171 dX11_unit_161 (by decide) (by omega) (fun h_32 => ?_) (fun h_32 => ?_)
                  · refine wp_iload_n (pc := 171) 2 dX11_unit_171 rfl rfl ?_
                    refine wp_callV (pc := 172) (st := []) (nf' := 153) [vI 0, vI (askF b c)] [some (vR 111), some (vI 0), some (vI (askF b c))] dX11_unit_172 rfl c_X11_276 rfl kd_111 (by decide) rfl la_111 rfl (Nat.le_of_ble_eq_true rfl) rfl (Nat.le_of_ble_eq_true rfl) (by omega) (Nat.le_refl _) (Nat.le_refl _) ?_
                    exfalso; omega
                  · refine wp_aload_n (pc := 164) 0 dX11_unit_164 rfl rfl ?_
                    refine wp_geti (pc := 165) dX11_unit_165 rfl f_X11_169 kd_111 la_111 (Or.inl rfl) ?_
                    refine wp_eqst (st' := [vI (tn b c), vI 0, vR 111]) (by rw [up_j (by omega), up_j (by omega), hB.2.2.1.2.2.1.2 (by omega)]) ?_
                    refine wp_goto (pc := 168) 172 dX11_unit_168 (by decide) ?_
                    refine wp_callV (pc := 172) (st := []) (nf' := 153) [vI 0, vI (tn b c)] [some (vR 111), some (vI 0), some (vI (tn b c))] dX11_unit_172 rfl c_X11_276 rfl kd_111 (by decide) rfl la_111 rfl (Nat.le_of_ble_eq_true rfl) rfl (Nat.le_of_ble_eq_true rfl) (by omega) (Nat.le_refl _) (Nat.le_refl _) ?_
                    exfalso; omega
              · refine wp_iconst (pc := 18) dX11_isFull_18 ?_
                refine wp_goto (pc := 19) 23 dX11_isFull_19 (by decide) ?_
                refine wp_zret (pc := 23) dX11_isFull_23 rfl rfl (by decide) ?_
                refine wp_eqst (st' := [vI 1]) rfl ?_
                refine wp_if_eq (pc := 130) 138 dX11_unit_130 (by decide) (by decide) (fun hh => absurd hh (by decide)) (fun _ => ?_)
                refine wp_aload_n (pc := 133) 0 dX11_unit_133 rfl rfl ?_
                refine wp_iconst (pc := 134) dX11_unit_134 ?_
                refine wp_callV (pc := 135) (st := []) (nf' := 153) [vI 2] [some (vR 111), some (vI 2)] dX11_unit_135 rfl c_X11_238 rfl kd_111 (by decide) rfl la_111 rfl (Nat.le_of_ble_eq_true rfl) rfl (Nat.le_of_ble_eq_true rfl) (by omega) (Nat.le_refl _) (Nat.le_refl _) ?_
                have yY28 : YM (I) st out un dp := hY
                have yB28 : RB0 (I) (L) b g n c := hB
                have yF28 : Fyd I0 (I) := hFy
                refine rs_wrong yB28.2.2.1 yB28.2.2.2.1.1 (by decide) (by omega) ?_
                refine wp_gen (fun J => Fe (I) J ∧ RE J (bad b c 2)) ⟨Fe.bad, RD.bad (by decide)⟩ (fun J28 hJ28 => ?_)
                have x2_28 : J28 111 2 = (bad b c 2).1 := hJ28.2.1
                have xp_28 : 0 < (bad b c 2).1 ∧ (bad b c 2).1 ≤ 5 := hJ28.2.2.2
                have jY28 := yY28.e hJ28.1
                refine wp_eqst (st' := []) rfl ?_
                refine wp_aload_n (pc := 138) 0 dX11_unit_138 rfl rfl ?_
                refine wp_geti (pc := 139) dX11_unit_139 rfl f_X11_185 kd_111 la_111 (Or.inl rfl) ?_
                refine wp_eqst (st' := [vI ((bad b c 2).1)]) (by rw [x2_28]) ?_
                refine wp_if_le (pc := 142) 146 dX11_unit_142 (by decide) (by omega) (fun hh => absurd hh (by omega)) (fun _ => ?_)
                refine wp_vret (pc := 145) dX11_unit_145 rfl rfl ?_
                have hlf := lfc_ask (b := b) (c := c) (by omega)
                rw [if_neg (by omega)] at hlf
                have hs_ : stp b (0, c, st, out, un, dp) = (3, c, st, out, un, dp) := by
                  show stU b c st out un dp = _
                  unfold stU
                  (repeat (first | rw [if_pos (by omega)] | rw [if_neg (by omega)] | rw [if_pos ⟨by omega, by assumption⟩] | rw [if_neg (fun z => absurd z.2 (by assumption))]))
                rw [show itn b (k + 1) (0, c, st, out, un, dp) = itn b k (stp b (0, c, st, out, un, dp)) from rfl, hs_] at hi
                rw [itn_fix (s := (3, c, st, out, un, dp)) (show 2 ≤ 3 by decide)] at hi
                exact h0 c (by rw [← hi]) (by rw [← hi]) _ _ (yF28.trans hJ28.1.y) hLy hJ28.2
      · refine wp_aload_n (pc := 62) 0 dX11_unit_62 rfl rfl ?_
        refine wp_callV (pc := 63) (st := []) (nf' := 153) [] [some (vR 111)] dX11_unit_63 rfl c_X11_295 rfl kd_111 (by decide) rfl la_111 rfl (Nat.le_of_ble_eq_true rfl) rfl (Nat.le_of_ble_eq_true rfl) (by omega) (Nat.le_refl _) (Nat.le_refl _) ?_
        refine wp_aload_n (pc := 0) 0 dX11_isFull_0 rfl rfl ?_
        refine wp_geti (pc := 1) dX11_isFull_1 rfl f_X11_283 kd_111 la_111 (Or.inl rfl) ?_
        refine wp_eqst (st' := [vI ((un : Nat) : Int)]) (by rw [hY.2.2.1.1]) ?_
        refine wp_bipush (pc := 4) dX11_isFull_4 (by decide) ?_
        refine wp_icmp_eq (pc := 6) 18 dX11_isFull_6 (by decide) (by omega) (by decide) (fun h_33 => ?_) (fun h_33 => ?_)
        · refine wp_iconst (pc := 18) dX11_isFull_18 ?_
          refine wp_goto (pc := 19) 23 dX11_isFull_19 (by decide) ?_
          refine wp_zret (pc := 23) dX11_isFull_23 rfl rfl (by decide) ?_
          refine wp_eqst (st' := [vI 1]) rfl ?_
          refine wp_if_ne (pc := 66) 78 dX11_unit_66 (by decide) (by decide) (fun _ => ?_) (fun hh => absurd hh (by decide))
          refine wp_aload_n (pc := 78) 0 dX11_unit_78 rfl rfl ?_
          refine wp_iconst (pc := 79) dX11_unit_79 ?_
          refine wp_callV (pc := 80) (st := []) (nf' := 153) [vI 2] [some (vR 111), some (vI 2)] dX11_unit_80 rfl c_X11_238 rfl kd_111 (by decide) rfl la_111 rfl (Nat.le_of_ble_eq_true rfl) rfl (Nat.le_of_ble_eq_true rfl) (by omega) (Nat.le_refl _) (Nat.le_refl _) ?_
          have yY29 : YM (I) st out un dp := hY
          have yB29 : RB0 (I) (L) b g n c := hB
          have yF29 : Fyd I0 (I) := hFy
          refine rs_wrong yB29.2.2.1 yB29.2.2.2.1.1 (by decide) (by omega) ?_
          refine wp_gen (fun J => Fe (I) J ∧ RE J (bad b c 2)) ⟨Fe.bad, RD.bad (by decide)⟩ (fun J29 hJ29 => ?_)
          have x2_29 : J29 111 2 = (bad b c 2).1 := hJ29.2.1
          have xp_29 : 0 < (bad b c 2).1 ∧ (bad b c 2).1 ≤ 5 := hJ29.2.2.2
          have jY29 := yY29.e hJ29.1
          refine wp_eqst (st' := []) rfl ?_
          refine wp_aload_n (pc := 83) 0 dX11_unit_83 rfl rfl ?_
          refine wp_callV (pc := 84) (st := []) (nf' := 153) [] [some (vR 111)] dX11_unit_84 rfl c_X11_298 rfl kd_111 (by decide) rfl la_111 rfl (Nat.le_of_ble_eq_true rfl) rfl (Nat.le_of_ble_eq_true rfl) (by omega) (Nat.le_refl _) (Nat.le_refl _) ?_
          refine wp_aload_n (pc := 0) 0 dX11_countUnit_0 rfl rfl ?_
          refine wp_dup (pc := 1) dX11_countUnit_1 rfl ?_
          refine wp_geti (pc := 2) dX11_countUnit_2 rfl f_X11_283 kd_111 la_111 (Or.inl rfl) ?_
          refine wp_eqst (st' := [vI ((un : Nat) : Int), vR 111]) (by rw [jY29.2.2.1.1]) ?_
          refine wp_iconst (pc := 5) dX11_countUnit_5 ?_
          refine wp_iadd (pc := 6) dX11_countUnit_6 ?_
          refine wp_puti (pc := 7) dX11_countUnit_7 rfl f_X11_283 kd_111 la_111 (fun _ h => by cases h; rfl) rfl ?_
          refine wp_aload_n (pc := 10) 0 dX11_countUnit_10 rfl rfl ?_
          refine wp_dup (pc := 11) dX11_countUnit_11 rfl ?_
          refine wp_geti (pc := 12) dX11_countUnit_12 rfl f_X11_286 kd_111 la_111 (Or.inl rfl) ?_
          refine wp_eqst (st' := [vI ((un : Nat) : Int), vR 111]) (by rw [up_j (by omega), jY29.2.2.1.2]) ?_
          refine wp_iconst (pc := 15) dX11_countUnit_15 ?_
          refine wp_iadd (pc := 16) dX11_countUnit_16 ?_
          refine wp_puti (pc := 17) dX11_countUnit_17 rfl f_X11_286 kd_111 la_111 (fun _ h => by cases h; rfl) rfl ?_
          refine wp_vret (pc := 20) dX11_countUnit_20 rfl rfl ?_
          refine wp_eqst (st' := []) rfl ?_
          refine wp_aload_n (pc := 87) 0 dX11_unit_87 rfl rfl ?_
          refine wp_bipush (pc := 88) dX11_unit_88 (by decide) ?_
          refine wp_callV (pc := 90) (st := []) (nf' := 153) [vI 20] [some (vR 111), some (vI 20)] dX11_unit_90 rfl c_X11_292 rfl kd_111 (by decide) rfl la_111 rfl (Nat.le_of_ble_eq_true rfl) rfl (Nat.le_of_ble_eq_true rfl) (by omega) (Nat.le_refl _) (Nat.le_refl _) ?_
          have yY30 : YM (up (up J29 111 20 (((un : Nat) : Int) + 1)) 111 22 (((un : Nat) : Int) + 1)) st out (un + 1) dp := jY29.count
          have yE30 : RE (up (up J29 111 20 (((un : Nat) : Int) + 1)) 111 22 (((un : Nat) : Int) + 1)) (bad b c 2) := ((hJ29.2.wr (by omega)).wr (by omega))
          have yF30 : Fyd I0 (up (up J29 111 20 (((un : Nat) : Int) + 1)) 111 22 (((un : Nat) : Int) + 1)) := ((yF29.trans hJ29.1.y).trans (Fq.y ((Fq.refl.wr (by omega)).wr (by omega))))
          refine rz_openUp yE30 yY30 (by omega) (by omega) (fun J30 hF30 hE30 => ?_)
          have x2_30 : J30 111 2 = (bad b c 2).1 := hE30.1
          refine wp_eqst (st' := []) rfl ?_
          refine wp_goto (pc := 93) 2 dX11_unit_93 (by decide) ?_
          refine wp_iload_n (pc := 2) 1 dX11_unit_2 rfl rfl ?_
          refine wp_if_eq (pc := 3) 101 dX11_unit_3 (by decide) (by decide) (fun hh => absurd hh (by decide)) (fun _ => ?_)
          refine wp_aload_n (pc := 6) 0 dX11_unit_6 rfl rfl ?_
          refine wp_geti (pc := 7) dX11_unit_7 rfl f_X11_185 kd_111 la_111 (Or.inl rfl) ?_
          refine wp_eqst (st' := [vI ((bad b c 2).1)]) (by rw [x2_30]) ?_
          refine wp_if_ne (pc := 10) 101 dX11_unit_10 (by decide) (by omega) (fun _ => ?_) (fun hh => absurd hh (by omega))
          refine wp_aload_n (pc := 101) 0 dX11_unit_101 rfl rfl ?_
          refine wp_geti (pc := 102) dX11_unit_102 rfl f_X11_185 kd_111 la_111 (Or.inl rfl) ?_
          refine wp_eqst (st' := [vI ((bad b c 2).1)]) (by rw [x2_30]) ?_
          refine wp_if_le (pc := 105) 109 dX11_unit_105 (by decide) (by omega) (fun hh => absurd hh (by omega)) (fun _ => ?_)
          refine wp_vret (pc := 108) dX11_unit_108 rfl rfl ?_
          have hs_ : stp b (0, c, st, out, un, dp) = (3, c, st, out, un, dp) := by
            show stU b c st out un dp = _
            unfold stU
            (repeat (first | rw [if_pos (by omega)] | rw [if_neg (by omega)] | rw [if_pos ⟨by omega, by assumption⟩] | rw [if_neg (fun z => absurd z.2 (by assumption))]))
          rw [show itn b (k + 1) (0, c, st, out, un, dp) = itn b k (stp b (0, c, st, out, un, dp)) from rfl, hs_] at hi
          rw [itn_fix (s := (3, c, st, out, un, dp)) (show 2 ≤ 3 by decide)] at hi
          exact h0 c (by rw [← hi]) (by rw [← hi]) _ _ (yF30.trans hF30) hLy hE30
        · refine wp_aload_n (pc := 9) 0 dX11_isFull_9 rfl rfl ?_
          refine wp_geti (pc := 10) dX11_isFull_10 rfl f_X11_286 kd_111 la_111 (Or.inl rfl) ?_
          refine wp_eqst (st' := [vI ((un : Nat) : Int)]) (by rw [hY.2.2.1.2]) ?_
          refine wp_bipush (pc := 13) dX11_isFull_13 (by decide) ?_
          refine wp_icmp_ne (pc := 15) 22 dX11_isFull_15 (by decide) (by omega) (by decide) (fun h_34 => ?_) (fun h_34 => ?_)
          · refine wp_iconst (pc := 22) dX11_isFull_22 ?_
            refine wp_zret (pc := 23) dX11_isFull_23 rfl rfl (by decide) ?_
            refine wp_eqst (st' := [vI 0]) rfl ?_
            refine wp_if_ne (pc := 66) 78 dX11_unit_66 (by decide) (by decide) (fun hh => absurd hh (by decide)) (fun _ => ?_)
            refine wp_aload_n (pc := 69) 0 dX11_unit_69 rfl rfl ?_
            refine wp_geti (pc := 70) dX11_unit_70 rfl f_X11_280 kd_111 la_111 (Or.inl rfl) ?_
            refine wp_eqst (st' := [vI ((dp : Nat) : Int)]) (by rw [hY.2.2.2]) ?_
            refine wp_bipush (pc := 73) dX11_unit_73 (by decide) ?_
            refine wp_icmp_le (pc := 75) 83 dX11_unit_75 (by decide) (by omega) (by decide) (fun h_35 => ?_) (fun h_35 => ?_)
            · refine wp_aload_n (pc := 83) 0 dX11_unit_83 rfl rfl ?_
              refine wp_callV (pc := 84) (st := []) (nf' := 153) [] [some (vR 111)] dX11_unit_84 rfl c_X11_298 rfl kd_111 (by decide) rfl la_111 rfl (Nat.le_of_ble_eq_true rfl) rfl (Nat.le_of_ble_eq_true rfl) (by omega) (Nat.le_refl _) (Nat.le_refl _) ?_
              refine wp_aload_n (pc := 0) 0 dX11_countUnit_0 rfl rfl ?_
              refine wp_dup (pc := 1) dX11_countUnit_1 rfl ?_
              refine wp_geti (pc := 2) dX11_countUnit_2 rfl f_X11_283 kd_111 la_111 (Or.inl rfl) ?_
              refine wp_eqst (st' := [vI ((un : Nat) : Int), vR 111]) (by rw [hY.2.2.1.1]) ?_
              refine wp_iconst (pc := 5) dX11_countUnit_5 ?_
              refine wp_iadd (pc := 6) dX11_countUnit_6 ?_
              refine wp_puti (pc := 7) dX11_countUnit_7 rfl f_X11_283 kd_111 la_111 (fun _ h => by cases h; rfl) rfl ?_
              refine wp_aload_n (pc := 10) 0 dX11_countUnit_10 rfl rfl ?_
              refine wp_dup (pc := 11) dX11_countUnit_11 rfl ?_
              refine wp_geti (pc := 12) dX11_countUnit_12 rfl f_X11_286 kd_111 la_111 (Or.inl rfl) ?_
              refine wp_eqst (st' := [vI ((un : Nat) : Int), vR 111]) (by rw [up_j (by omega), hY.2.2.1.2]) ?_
              refine wp_iconst (pc := 15) dX11_countUnit_15 ?_
              refine wp_iadd (pc := 16) dX11_countUnit_16 ?_
              refine wp_puti (pc := 17) dX11_countUnit_17 rfl f_X11_286 kd_111 la_111 (fun _ h => by cases h; rfl) rfl ?_
              refine wp_vret (pc := 20) dX11_countUnit_20 rfl rfl ?_
              refine wp_eqst (st' := []) rfl ?_
              refine wp_aload_n (pc := 87) 0 dX11_unit_87 rfl rfl ?_
              refine wp_bipush (pc := 88) dX11_unit_88 (by decide) ?_
              refine wp_callV (pc := 90) (st := []) (nf' := 153) [vI 20] [some (vR 111), some (vI 20)] dX11_unit_90 rfl c_X11_292 rfl kd_111 (by decide) rfl la_111 rfl (Nat.le_of_ble_eq_true rfl) rfl (Nat.le_of_ble_eq_true rfl) (by omega) (Nat.le_refl _) (Nat.le_refl _) ?_
              have yY31 : YM (up (up I 111 20 (((un : Nat) : Int) + 1)) 111 22 (((un : Nat) : Int) + 1)) st out (un + 1) dp := hY.count
              have yB31 : RB0 (up (up I 111 20 (((un : Nat) : Int) + 1)) 111 22 (((un : Nat) : Int) + 1)) (L) b g n c := (hB.q ((Fq.refl.wr (by omega)).wr (by omega)))
              have yF31 : Fyd I0 (up (up I 111 20 (((un : Nat) : Int) + 1)) 111 22 (((un : Nat) : Int) + 1)) := (hFy.trans (Fq.y ((Fq.refl.wr (by omega)).wr (by omega))))
              refine rs_openUp yB31 yY31 (by first | exact n3_w (by omega) | omega) (by omega) (by omega) (fun J31 M31 hF31 hL31 hB31 hY31 => ?_)
              refine wp_eqst (st' := []) rfl ?_
              refine wp_goto (pc := 93) 2 dX11_unit_93 (by decide) ?_
              have hs_ : stp b (0, c, st, out, un, dp) = (0, te b c, (20 :: st), out, (un + 1), dp + 1) := by
                show stU b c st out un dp = _
                unfold stU
                (repeat (first | rw [if_pos (by omega)] | rw [if_neg (by omega)] | rw [if_pos ⟨by omega, by assumption⟩] | rw [if_neg (fun z => absurd z.2 (by assumption))]))
              rw [show itn b (k + 1) (0, c, st, out, un, dp) = itn b k (stp b (0, c, st, out, un, dp)) from rfl, hs_] at hi
              exact lp_runit hf hd h1 h0 k _ _ _ _ _ _ _ (by omega) hB31 hY31 (hI.brk (by omega) (by omega)) hi (yF31.trans hF31) (hLy.trans hL31)
            · refine wp_aload_n (pc := 78) 0 dX11_unit_78 rfl rfl ?_
              refine wp_iconst (pc := 79) dX11_unit_79 ?_
              refine wp_callV (pc := 80) (st := []) (nf' := 153) [vI 2] [some (vR 111), some (vI 2)] dX11_unit_80 rfl c_X11_238 rfl kd_111 (by decide) rfl la_111 rfl (Nat.le_of_ble_eq_true rfl) rfl (Nat.le_of_ble_eq_true rfl) (by omega) (Nat.le_refl _) (Nat.le_refl _) ?_
              have yY32 : YM (I) st out un dp := hY
              have yB32 : RB0 (I) (L) b g n c := hB
              have yF32 : Fyd I0 (I) := hFy
              refine rs_wrong yB32.2.2.1 yB32.2.2.2.1.1 (by decide) (by omega) ?_
              refine wp_gen (fun J => Fe (I) J ∧ RE J (bad b c 2)) ⟨Fe.bad, RD.bad (by decide)⟩ (fun J32 hJ32 => ?_)
              have x2_32 : J32 111 2 = (bad b c 2).1 := hJ32.2.1
              have xp_32 : 0 < (bad b c 2).1 ∧ (bad b c 2).1 ≤ 5 := hJ32.2.2.2
              have jY32 := yY32.e hJ32.1
              refine wp_eqst (st' := []) rfl ?_
              refine wp_aload_n (pc := 83) 0 dX11_unit_83 rfl rfl ?_
              refine wp_callV (pc := 84) (st := []) (nf' := 153) [] [some (vR 111)] dX11_unit_84 rfl c_X11_298 rfl kd_111 (by decide) rfl la_111 rfl (Nat.le_of_ble_eq_true rfl) rfl (Nat.le_of_ble_eq_true rfl) (by omega) (Nat.le_refl _) (Nat.le_refl _) ?_
              refine wp_aload_n (pc := 0) 0 dX11_countUnit_0 rfl rfl ?_
              refine wp_dup (pc := 1) dX11_countUnit_1 rfl ?_
              refine wp_geti (pc := 2) dX11_countUnit_2 rfl f_X11_283 kd_111 la_111 (Or.inl rfl) ?_
              refine wp_eqst (st' := [vI ((un : Nat) : Int), vR 111]) (by rw [jY32.2.2.1.1]) ?_
              refine wp_iconst (pc := 5) dX11_countUnit_5 ?_
              refine wp_iadd (pc := 6) dX11_countUnit_6 ?_
              refine wp_puti (pc := 7) dX11_countUnit_7 rfl f_X11_283 kd_111 la_111 (fun _ h => by cases h; rfl) rfl ?_
              refine wp_aload_n (pc := 10) 0 dX11_countUnit_10 rfl rfl ?_
              refine wp_dup (pc := 11) dX11_countUnit_11 rfl ?_
              refine wp_geti (pc := 12) dX11_countUnit_12 rfl f_X11_286 kd_111 la_111 (Or.inl rfl) ?_
              refine wp_eqst (st' := [vI ((un : Nat) : Int), vR 111]) (by rw [up_j (by omega), jY32.2.2.1.2]) ?_
              refine wp_iconst (pc := 15) dX11_countUnit_15 ?_
              refine wp_iadd (pc := 16) dX11_countUnit_16 ?_
              refine wp_puti (pc := 17) dX11_countUnit_17 rfl f_X11_286 kd_111 la_111 (fun _ h => by cases h; rfl) rfl ?_
              refine wp_vret (pc := 20) dX11_countUnit_20 rfl rfl ?_
              refine wp_eqst (st' := []) rfl ?_
              refine wp_aload_n (pc := 87) 0 dX11_unit_87 rfl rfl ?_
              refine wp_bipush (pc := 88) dX11_unit_88 (by decide) ?_
              refine wp_callV (pc := 90) (st := []) (nf' := 153) [vI 20] [some (vR 111), some (vI 20)] dX11_unit_90 rfl c_X11_292 rfl kd_111 (by decide) rfl la_111 rfl (Nat.le_of_ble_eq_true rfl) rfl (Nat.le_of_ble_eq_true rfl) (by omega) (Nat.le_refl _) (Nat.le_refl _) ?_
              have yY33 : YM (up (up J32 111 20 (((un : Nat) : Int) + 1)) 111 22 (((un : Nat) : Int) + 1)) st out (un + 1) dp := jY32.count
              have yE33 : RE (up (up J32 111 20 (((un : Nat) : Int) + 1)) 111 22 (((un : Nat) : Int) + 1)) (bad b c 2) := ((hJ32.2.wr (by omega)).wr (by omega))
              have yF33 : Fyd I0 (up (up J32 111 20 (((un : Nat) : Int) + 1)) 111 22 (((un : Nat) : Int) + 1)) := ((yF32.trans hJ32.1.y).trans (Fq.y ((Fq.refl.wr (by omega)).wr (by omega))))
              refine rz_openUp yE33 yY33 (by omega) (by omega) (fun J33 hF33 hE33 => ?_)
              have x2_33 : J33 111 2 = (bad b c 2).1 := hE33.1
              refine wp_eqst (st' := []) rfl ?_
              refine wp_goto (pc := 93) 2 dX11_unit_93 (by decide) ?_
              refine wp_iload_n (pc := 2) 1 dX11_unit_2 rfl rfl ?_
              refine wp_if_eq (pc := 3) 101 dX11_unit_3 (by decide) (by decide) (fun hh => absurd hh (by decide)) (fun _ => ?_)
              refine wp_aload_n (pc := 6) 0 dX11_unit_6 rfl rfl ?_
              refine wp_geti (pc := 7) dX11_unit_7 rfl f_X11_185 kd_111 la_111 (Or.inl rfl) ?_
              refine wp_eqst (st' := [vI ((bad b c 2).1)]) (by rw [x2_33]) ?_
              refine wp_if_ne (pc := 10) 101 dX11_unit_10 (by decide) (by omega) (fun _ => ?_) (fun hh => absurd hh (by omega))
              refine wp_aload_n (pc := 101) 0 dX11_unit_101 rfl rfl ?_
              refine wp_geti (pc := 102) dX11_unit_102 rfl f_X11_185 kd_111 la_111 (Or.inl rfl) ?_
              refine wp_eqst (st' := [vI ((bad b c 2).1)]) (by rw [x2_33]) ?_
              refine wp_if_le (pc := 105) 109 dX11_unit_105 (by decide) (by omega) (fun hh => absurd hh (by omega)) (fun _ => ?_)
              refine wp_vret (pc := 108) dX11_unit_108 rfl rfl ?_
              have hs_ : stp b (0, c, st, out, un, dp) = (3, c, st, out, un, dp) := by
                show stU b c st out un dp = _
                unfold stU
                (repeat (first | rw [if_pos (by omega)] | rw [if_neg (by omega)] | rw [if_pos ⟨by omega, by assumption⟩] | rw [if_neg (fun z => absurd z.2 (by assumption))]))
              rw [show itn b (k + 1) (0, c, st, out, un, dp) = itn b k (stp b (0, c, st, out, un, dp)) from rfl, hs_] at hi
              rw [itn_fix (s := (3, c, st, out, un, dp)) (show 2 ≤ 3 by decide)] at hi
              exact h0 c (by rw [← hi]) (by rw [← hi]) _ _ (yF33.trans hF33) hLy hE33
          · refine wp_iconst (pc := 18) dX11_isFull_18 ?_
            refine wp_goto (pc := 19) 23 dX11_isFull_19 (by decide) ?_
            refine wp_zret (pc := 23) dX11_isFull_23 rfl rfl (by decide) ?_
            refine wp_eqst (st' := [vI 1]) rfl ?_
            refine wp_if_ne (pc := 66) 78 dX11_unit_66 (by decide) (by decide) (fun _ => ?_) (fun hh => absurd hh (by decide))
            refine wp_aload_n (pc := 78) 0 dX11_unit_78 rfl rfl ?_
            refine wp_iconst (pc := 79) dX11_unit_79 ?_
            refine wp_callV (pc := 80) (st := []) (nf' := 153) [vI 2] [some (vR 111), some (vI 2)] dX11_unit_80 rfl c_X11_238 rfl kd_111 (by decide) rfl la_111 rfl (Nat.le_of_ble_eq_true rfl) rfl (Nat.le_of_ble_eq_true rfl) (by omega) (Nat.le_refl _) (Nat.le_refl _) ?_
            have yY34 : YM (I) st out un dp := hY
            have yB34 : RB0 (I) (L) b g n c := hB
            have yF34 : Fyd I0 (I) := hFy
            refine rs_wrong yB34.2.2.1 yB34.2.2.2.1.1 (by decide) (by omega) ?_
            refine wp_gen (fun J => Fe (I) J ∧ RE J (bad b c 2)) ⟨Fe.bad, RD.bad (by decide)⟩ (fun J34 hJ34 => ?_)
            have x2_34 : J34 111 2 = (bad b c 2).1 := hJ34.2.1
            have xp_34 : 0 < (bad b c 2).1 ∧ (bad b c 2).1 ≤ 5 := hJ34.2.2.2
            have jY34 := yY34.e hJ34.1
            refine wp_eqst (st' := []) rfl ?_
            refine wp_aload_n (pc := 83) 0 dX11_unit_83 rfl rfl ?_
            refine wp_callV (pc := 84) (st := []) (nf' := 153) [] [some (vR 111)] dX11_unit_84 rfl c_X11_298 rfl kd_111 (by decide) rfl la_111 rfl (Nat.le_of_ble_eq_true rfl) rfl (Nat.le_of_ble_eq_true rfl) (by omega) (Nat.le_refl _) (Nat.le_refl _) ?_
            refine wp_aload_n (pc := 0) 0 dX11_countUnit_0 rfl rfl ?_
            refine wp_dup (pc := 1) dX11_countUnit_1 rfl ?_
            refine wp_geti (pc := 2) dX11_countUnit_2 rfl f_X11_283 kd_111 la_111 (Or.inl rfl) ?_
            refine wp_eqst (st' := [vI ((un : Nat) : Int), vR 111]) (by rw [jY34.2.2.1.1]) ?_
            refine wp_iconst (pc := 5) dX11_countUnit_5 ?_
            refine wp_iadd (pc := 6) dX11_countUnit_6 ?_
            refine wp_puti (pc := 7) dX11_countUnit_7 rfl f_X11_283 kd_111 la_111 (fun _ h => by cases h; rfl) rfl ?_
            refine wp_aload_n (pc := 10) 0 dX11_countUnit_10 rfl rfl ?_
            refine wp_dup (pc := 11) dX11_countUnit_11 rfl ?_
            refine wp_geti (pc := 12) dX11_countUnit_12 rfl f_X11_286 kd_111 la_111 (Or.inl rfl) ?_
            refine wp_eqst (st' := [vI ((un : Nat) : Int), vR 111]) (by rw [up_j (by omega), jY34.2.2.1.2]) ?_
            refine wp_iconst (pc := 15) dX11_countUnit_15 ?_
            refine wp_iadd (pc := 16) dX11_countUnit_16 ?_
            refine wp_puti (pc := 17) dX11_countUnit_17 rfl f_X11_286 kd_111 la_111 (fun _ h => by cases h; rfl) rfl ?_
            refine wp_vret (pc := 20) dX11_countUnit_20 rfl rfl ?_
            refine wp_eqst (st' := []) rfl ?_
            refine wp_aload_n (pc := 87) 0 dX11_unit_87 rfl rfl ?_
            refine wp_bipush (pc := 88) dX11_unit_88 (by decide) ?_
            refine wp_callV (pc := 90) (st := []) (nf' := 153) [vI 20] [some (vR 111), some (vI 20)] dX11_unit_90 rfl c_X11_292 rfl kd_111 (by decide) rfl la_111 rfl (Nat.le_of_ble_eq_true rfl) rfl (Nat.le_of_ble_eq_true rfl) (by omega) (Nat.le_refl _) (Nat.le_refl _) ?_
            have yY35 : YM (up (up J34 111 20 (((un : Nat) : Int) + 1)) 111 22 (((un : Nat) : Int) + 1)) st out (un + 1) dp := jY34.count
            have yE35 : RE (up (up J34 111 20 (((un : Nat) : Int) + 1)) 111 22 (((un : Nat) : Int) + 1)) (bad b c 2) := ((hJ34.2.wr (by omega)).wr (by omega))
            have yF35 : Fyd I0 (up (up J34 111 20 (((un : Nat) : Int) + 1)) 111 22 (((un : Nat) : Int) + 1)) := ((yF34.trans hJ34.1.y).trans (Fq.y ((Fq.refl.wr (by omega)).wr (by omega))))
            refine rz_openUp yE35 yY35 (by omega) (by omega) (fun J35 hF35 hE35 => ?_)
            have x2_35 : J35 111 2 = (bad b c 2).1 := hE35.1
            refine wp_eqst (st' := []) rfl ?_
            refine wp_goto (pc := 93) 2 dX11_unit_93 (by decide) ?_
            refine wp_iload_n (pc := 2) 1 dX11_unit_2 rfl rfl ?_
            refine wp_if_eq (pc := 3) 101 dX11_unit_3 (by decide) (by decide) (fun hh => absurd hh (by decide)) (fun _ => ?_)
            refine wp_aload_n (pc := 6) 0 dX11_unit_6 rfl rfl ?_
            refine wp_geti (pc := 7) dX11_unit_7 rfl f_X11_185 kd_111 la_111 (Or.inl rfl) ?_
            refine wp_eqst (st' := [vI ((bad b c 2).1)]) (by rw [x2_35]) ?_
            refine wp_if_ne (pc := 10) 101 dX11_unit_10 (by decide) (by omega) (fun _ => ?_) (fun hh => absurd hh (by omega))
            refine wp_aload_n (pc := 101) 0 dX11_unit_101 rfl rfl ?_
            refine wp_geti (pc := 102) dX11_unit_102 rfl f_X11_185 kd_111 la_111 (Or.inl rfl) ?_
            refine wp_eqst (st' := [vI ((bad b c 2).1)]) (by rw [x2_35]) ?_
            refine wp_if_le (pc := 105) 109 dX11_unit_105 (by decide) (by omega) (fun hh => absurd hh (by omega)) (fun _ => ?_)
            refine wp_vret (pc := 108) dX11_unit_108 rfl rfl ?_
            have hs_ : stp b (0, c, st, out, un, dp) = (3, c, st, out, un, dp) := by
              show stU b c st out un dp = _
              unfold stU
              (repeat (first | rw [if_pos (by omega)] | rw [if_neg (by omega)] | rw [if_pos ⟨by omega, by assumption⟩] | rw [if_neg (fun z => absurd z.2 (by assumption))]))
            rw [show itn b (k + 1) (0, c, st, out, un, dp) = itn b k (stp b (0, c, st, out, un, dp)) from rfl, hs_] at hi
            rw [itn_fix (s := (3, c, st, out, un, dp)) (show 2 ≤ 3 by decide)] at hi
            exact h0 c (by rw [← hi]) (by rw [← hi]) _ _ (yF35.trans hF35) hLy hE35
