/-! readHears: the yard's steps behind a unit -/
theorem cls_inv (l un X : Nat) : ∀ (st out : List Int) (dp : Nat), cn st ≤ dp → st.length + X ≤ dp + un → (∀ s ∈ st, isSn s) → cn (cls l st out dp).1 ≤ (cls l st out dp).2.2 ∧ (cls l st out dp).1.length + X ≤ (cls l st out dp).2.2 + un ∧ (cls l st out dp).2.1.length + (cls l st out dp).1.length = out.length + st.length ∧ (cls l st out dp).2.2 ≤ dp ∧ ∀ s ∈ (cls l st out dp).1, isSn s
  | [], out, dp, h1, h2, h3 => ⟨h1, h2, rfl, Nat.le_refl _, h3⟩
  | s :: st, out, dp, h1, h2, h3 => by
    by_cases z : s ≠ 20 ∧ l ≤ tgt s
    · rw [show cls l (s :: st) out dp = cls l st (opc s :: out) (if s = 21 then dp - 1 else dp) from if_pos z]
      have h1' : (if s = 20 ∨ s = 21 then 1 else 0) + cn st ≤ dp := h1
      rw [List.length_cons] at h2
      have ih := cls_inv l un X st (opc s :: out) (if s = 21 then dp - 1 else dp) (by split at h1' <;> split <;> omega) (by split <;> omega) (fun x hx => h3 x (List.mem_cons_of_mem _ hx))
      refine ⟨ih.1, ih.2.1, by rw [ih.2.2.1, List.length_cons, List.length_cons]; omega, ?_, ih.2.2.2.2⟩
      have := ih.2.2.2.1
      split at this <;> split <;> omega
    · rw [show cls l (s :: st) out dp = (s :: st, out, dp) from if_neg z]
      exact ⟨h1, h2, rfl, Nat.le_refl _, h3⟩
theorem cls_B : ∀ (st out : List Int) (dp : Nat), hasB st = true → ∃ rs, (cls 0 st out dp).1 = 20 :: rs
  | s :: st, out, dp, h => by
    by_cases z : s = 20
    · rw [show cls 0 (s :: st) out dp = (s :: st, out, dp) from if_neg (fun y => y.1 z)]
      exact ⟨st, by rw [z]⟩
    · rw [show cls 0 (s :: st) out dp = cls 0 st (opc s :: out) (if s = 21 then dp - 1 else dp) from if_pos ⟨z, Nat.zero_le _⟩]
      refine cls_B st _ _ ?_
      have h2 : (s == 20 || hasB st) = true := h
      rw [Bool.or_eq_true, beq_iff_eq] at h2
      exact h2.resolve_left z
theorem cls_N : ∀ (st out : List Int) (dp : Nat), ¬ hasB st = true → (cls 0 st out dp).1 = []
  | [], _, _, _ => rfl
  | s :: st, out, dp, h => by
    have h2 : ¬ (s == 20 || hasB st) = true := h
    rw [Bool.or_eq_true, beq_iff_eq] at h2
    rw [show cls 0 (s :: st) out dp = cls 0 st (opc s :: out) (if s = 21 then dp - 1 else dp) from if_pos ⟨fun y => h2 (Or.inl y), Nat.zero_le _⟩]
    exact cls_N st _ _ (fun y => h2 (Or.inr y))
theorem sgn_in (b : Nat → Int) (c : Nat) : 0 ≤ sg b c ∧ sg b c ≤ 124 ∧ (sg b c ≠ 0 → isSn (sg b c) ∧ sg b c ≠ 20 ∧ sg b c ≠ 21 ∧ ts b c ≠ 3) := by
  have tr := ts_rng b c
  unfold sg
  split
  · next h => exact ⟨by decide, by decide, fun _ => ⟨by unfold isSn; decide, by decide, by decide, n3_w (by omega)⟩⟩
  · split
    · next h => exact ⟨by decide, by decide, fun _ => ⟨by unfold isSn; decide, by decide, by decide, n3_w (by omega)⟩⟩
    · split
      · next h => exact ⟨by omega, by omega, fun _ => ⟨by unfold isSn; omega, by omega, by omega, by omega⟩⟩
      · exact ⟨by decide, by decide, fun z => absurd rfl z⟩
theorem sg_41 {b : Nat → Int} {c : Nat} (h : ts b c = 41) : sg b c = 0 := by
  unfold sg
  rw [if_neg (fun z => by have := @wi_ts b c (by omega); omega), if_neg (fun z => by have := @wi_ts b c (by omega); omega), if_neg (by omega)]
theorem YI1.brk {st out rs : List Int} {un dp : Nat} (h : YI1 st out un dp) (hr : (cls 0 st out dp).1 = 20 :: rs) : YI1 rs (cls 0 st out dp).2.1 un ((cls 0 st out dp).2.2 - 1) ∧ 1 ≤ (cls 0 st out dp).2.2 := by
  obtain ⟨h1, h2, h3, h4, h5, h6⟩ := h
  have ci := cls_inv 0 un 1 st out dp h3 h4 h6
  rw [hr] at ci
  obtain ⟨c1, c2, c3, c4, c5⟩ := ci
  have c1' : (if (20 : Int) = 20 ∨ (20 : Int) = 21 then 1 else 0) + cn rs ≤ (cls 0 st out dp).2.2 := c1
  rw [if_pos (Or.inl rfl)] at c1'
  rw [List.length_cons] at c2 c3
  exact ⟨⟨h1, by omega, by omega, by omega, by omega, fun x hx => c5 x (List.mem_cons_of_mem _ hx)⟩, by omega⟩
theorem YI1.sgn {st out : List Int} {un dp l : Nat} {s : Int} (h : YI1 st out un dp) (hs : isSn s) (h20 : s ≠ 20) (h21 : s ≠ 21) : YI0 (s :: (cls l st out dp).1) (cls l st out dp).2.1 un (cls l st out dp).2.2 := by
  obtain ⟨h1, h2, h3, h4, h5, h6⟩ := h
  obtain ⟨c1, c2, c3, c4, c5⟩ := cls_inv l un 1 st out dp h3 h4 h6
  refine ⟨h1, by omega, ?_, by rw [List.length_cons]; omega, by rw [List.length_cons]; omega, sn_cons hs c5⟩
  show (if s = 20 ∨ s = 21 then 1 else 0) + _ ≤ _
  rw [if_neg (by omega)]; omega

theorem wp_unit0 {l : Launch} {G : mG} {d : Nat} {I : mI} {L : Nat → Nat → Int} {D : Nat → Nat} {Q : mQ} (h : WP l G m_X11_unit d 153 I (XX L D) 2 [some (vR 111), some (vI 1), none] [] Q) : WP l G m_X11_unit d 153 I (XX L D) 0 [some (vR 111), none, none] [] Q := by
  refine wp_iconst (pc := 0) dX11_unit_0 ?_
  refine wq_istore_n (pc := 1) 1 [some (vR 111), some (vI 1), none] dX11_unit_1 rfl rfl (by decide) rfl ?_
  exact h

theorem lp_rhears {l : Launch} {G : mG} {d : Nat} {I0 : mI} {L0 : Nat → Nat → Int} {D : Nat → Nat} {Q : mQ} {b g : Nat → Int} {n : Nat} {f : mYd} (hf : f.1 = 2 ∨ f.1 = 3) (hd : 5 ≤ d) (h1 : ∀ c out un, f = (2, c, [], out, un, 0) → ∀ J M, Fyd I0 J → Lb L0 M → RB0 J M b g n c → (J 111 17 = ((out.length : Nat) : Int) ∧ ∀ k, k < out.length → codeR (J 114 k) (J 115 k) (oat out k)) → J 111 20 = ((un : Nat) : Int) → Q none J (XX M D)) (h0 : ∀ c, f.1 = 3 → f.2.1 = c → ∀ J M, Fyd I0 J → Lb L0 M → RE J (bad b c 2) → Q none J (XX M D)) : ∀ (K k c : Nat) (st out : List Int) (un dp : Nat) (I : mI) (L : Nat → Nat → Int), k ≤ K → RB0 I L b g n c → YM I st out un dp → YI1 st out un dp → itn b k (1, c, st, out, un, dp) = f → Fyd I0 I → Lb L0 L → WP l G m_X11_readHears d 153 I (XX L D) 30 [some (vR 111), some (vI 1), none] [] Q
  | _, 0, c, st, out, un, dp, I, L, _, _, _, _, hi, _, _ => by
    have hi2 : (1, c, st, out, un, dp) = f := hi
    rw [← hi2] at hf
    exact hf.elim (fun z => absurd (show (1 : Nat) = 2 from z) (by decide)) (fun z => absurd (show (1 : Nat) = 3 from z) (by decide))
  | 0, k + 1, c, st, out, un, dp, I, L, hk, _, _, _, _, _, _ => absurd hk (by omega)
  | K + 1, k + 1, c, st, out, un, dp, I, L, hk, hB, hY, hI, hi, hFy, hLy => by
    have hS := hI.2.2.2.2.2
    have hI1 := hI.1
    have hI2 := hI.2.1
    have hI3 := hI.2.2.1
    have hI4 := hI.2.2.2.1
    have hI5 := hI.2.2.2.2.1
    have ci0 := (cls_inv 0 un 1 st out dp hI3 hI4 hS)
    have ci1 := (cls_inv (tgt (sg b c)) un 1 st out dp hI3 hI4 hS)
    have tr := ts_rng b c
    have kw := wi_in b c
    have s41 : ¬ ts b c = 41 ∨ sg b c = 0 := by by_cases z : ts b c = 41; exact Or.inr (sg_41 z); exact Or.inl z
    refine wp_iload_n (pc := 30) 1 dX11_readHears_30 rfl rfl ?_
    refine wp_if_eq (pc := 31) 157 dX11_readHears_31 (by decide) (by decide) (fun hh => absurd hh (by decide)) (fun _ => ?_)
    refine wp_aload_n (pc := 34) 0 dX11_readHears_34 rfl rfl ?_
    refine wp_geti (pc := 35) dX11_readHears_35 rfl f_X11_185 kd_111 la_111 (Or.inl rfl) ?_
    refine wp_eqst (st' := [vI 0]) (by rw [hB.2.2.2.1.1]) ?_
    refine wp_if_ne (pc := 38) 157 dX11_readHears_38 (by decide) (by decide) (fun hh => absurd hh (by decide)) (fun _ => ?_)
    refine wp_aload_n (pc := 41) 0 dX11_readHears_41 rfl rfl ?_
    refine wp_callV (pc := 42) (st := []) (nf' := 153) [] [some (vR 111)] dX11_readHears_42 rfl c_X11_308 rfl kd_111 (by decide) rfl la_111 rfl (Nat.le_of_ble_eq_true rfl) rfl (Nat.le_of_ble_eq_true rfl) (by omega) (Nat.le_refl _) (Nat.le_refl _) ?_
    refine rs_sign hB (by omega) ?_
    have si := sgn_in b c
    have si1 := si.1
    have si2 := si.2.1
    refine wp_eqst (st' := [vI (sg b c)]) rfl ?_
    refine wq_istore_n (pc := 45) 2 [some (vR 111), some (vI 1), some (vI (sg b c))] dX11_readHears_45 rfl rfl (by decide) rfl ?_
    refine wp_aload_n (pc := 46) 0 dX11_readHears_46 rfl rfl ?_
    refine wp_geti (pc := 47) dX11_readHears_47 rfl f_X11_172 kd_111 la_111 (Or.inl rfl) ?_
    refine wp_eqst (st' := [vI (ts b c)]) (by rw [hB.2.2.1.1]) ?_
    refine wp_bipush (pc := 50) dX11_readHears_50 (by decide) ?_
    refine wp_icmp_ne (pc := 52) 94 dX11_readHears_52 (by decide) (by omega) (by decide) (fun h_1 => ?_) (fun h_1 => ?_)
    · refine wp_iload_n (pc := 94) 2 dX11_readHears_94 rfl rfl ?_
      refine wp_if_eq (pc := 95) 152 dX11_readHears_95 (by decide) (by omega) (fun h_2 => ?_) (fun h_2 => ?_)
      · refine wp_iconst (pc := 152) dX11_readHears_152 ?_
        refine wq_istore_n (pc := 153) 1 [some (vR 111), some (vI 0), some (vI (sg b c))] dX11_readHears_153 rfl rfl (by decide) rfl ?_
        refine wp_goto (pc := 154) 30 dX11_readHears_154 (by decide) ?_
        refine wp_iload_n (pc := 30) 1 dX11_readHears_30 rfl rfl ?_
        refine wp_if_eq (pc := 31) 157 dX11_readHears_31 (by decide) (by decide) (fun _ => ?_) (fun hh => absurd hh (by decide))
        refine wp_aload_n (pc := 157) 0 dX11_readHears_157 rfl rfl ?_
        refine wp_geti (pc := 158) dX11_readHears_158 rfl f_X11_185 kd_111 la_111 (Or.inl rfl) ?_
        refine wp_eqst (st' := [vI 0]) (by rw [hB.2.2.2.1.1]) ?_
        refine wp_if_ne (pc := 161) 176 dX11_readHears_161 (by decide) (by decide) (fun hh => absurd hh (by decide)) (fun _ => ?_)
        refine wp_aload_n (pc := 164) 0 dX11_readHears_164 rfl rfl ?_
        refine wp_callV (pc := 165) (st := []) (nf' := 153) [] [some (vR 111), none, none] dX11_readHears_165 rfl c_X11_311 rfl kd_111 (by decide) rfl la_111 rfl (Nat.le_of_ble_eq_true rfl) rfl (Nat.le_of_ble_eq_true rfl) (by omega) (Nat.le_refl _) (Nat.le_refl _) ?_
        refine rs_hasBracket hY hS (by omega) (by omega) (fun h_3 => ?_) (fun h_3 => ?_)
        · refine wp_eqst (st' := [vI 1]) rfl ?_
          refine wp_if_eq (pc := 168) 176 dX11_readHears_168 (by decide) (by decide) (fun hh => absurd hh (by decide)) (fun _ => ?_)
          refine wp_aload_n (pc := 171) 0 dX11_readHears_171 rfl rfl ?_
          refine wp_iconst (pc := 172) dX11_readHears_172 ?_
          refine wp_callV (pc := 173) (st := []) (nf' := 153) [vI 2] [some (vR 111), some (vI 2)] dX11_readHears_173 rfl c_X11_238 rfl kd_111 (by decide) rfl la_111 rfl (Nat.le_of_ble_eq_true rfl) rfl (Nat.le_of_ble_eq_true rfl) (by omega) (Nat.le_refl _) (Nat.le_refl _) ?_
          have yY1 : YM (I) st out un dp := hY
          have yB1 : RB0 (I) (L) b g n c := hB
          have yF1 : Fyd I0 (I) := hFy
          refine rs_wrong yB1.2.2.1 yB1.2.2.2.1.1 (by decide) (by omega) ?_
          refine wp_gen (fun J => Fe (I) J ∧ RE J (bad b c 2)) ⟨Fe.bad, RD.bad (by decide)⟩ (fun J1 hJ1 => ?_)
          have x2_1 : J1 111 2 = (bad b c 2).1 := hJ1.2.1
          have xp_1 : 0 < (bad b c 2).1 ∧ (bad b c 2).1 ≤ 5 := hJ1.2.2.2
          have jY1 := yY1.e hJ1.1
          refine wp_eqst (st' := []) rfl ?_
          refine wp_aload_n (pc := 176) 0 dX11_readHears_176 rfl rfl ?_
          refine wp_geti (pc := 177) dX11_readHears_177 rfl f_X11_185 kd_111 la_111 (Or.inl rfl) ?_
          refine wp_eqst (st' := [vI ((bad b c 2).1)]) (by rw [x2_1]) ?_
          refine wp_if_ne (pc := 180) 188 dX11_readHears_180 (by decide) (by omega) (fun _ => ?_) (fun hh => absurd hh (by omega))
          refine wp_vret (pc := 188) dX11_readHears_188 rfl rfl ?_
          have hs_ : stp b (1, c, st, out, un, dp) = (3, c, st, out, un, dp) := by
            rw [stp_1]
            unfold stA
            (repeat (first | rw [if_pos (by omega)] | rw [if_neg (by omega)] | rw [if_pos ⟨by omega, by assumption⟩] | rw [if_neg (fun z => absurd z.2 (by assumption))] | rw [if_pos ⟨by assumption, fun z => absurd z.2 (by assumption)⟩] | rw [if_pos ⟨by assumption, fun z => by omega⟩] | rw [if_neg (fun z => z.2 ⟨by omega, by assumption⟩)] | rw [if_pos (by assumption)] | rw [if_neg (by assumption)] | rw [if_neg (fun z => by omega)]))
          rw [show itn b (k + 1) (1, c, st, out, un, dp) = itn b k (stp b (1, c, st, out, un, dp)) from rfl, hs_] at hi
          rw [itn_fix (s := (3, c, st, out, un, dp)) (show 2 ≤ 3 by decide)] at hi
          exact h0 c (by rw [← hi]) (by rw [← hi]) _ _ (yF1.trans hJ1.1.y) hLy hJ1.2
        · refine wp_eqst (st' := [vI 0]) rfl ?_
          refine wp_if_eq (pc := 168) 176 dX11_readHears_168 (by decide) (by decide) (fun _ => ?_) (fun hh => absurd hh (by decide))
          refine wp_aload_n (pc := 176) 0 dX11_readHears_176 rfl rfl ?_
          refine wp_geti (pc := 177) dX11_readHears_177 rfl f_X11_185 kd_111 la_111 (Or.inl rfl) ?_
          refine wp_eqst (st' := [vI 0]) (by rw [hB.2.2.2.1.1]) ?_
          refine wp_if_ne (pc := 180) 188 dX11_readHears_180 (by decide) (by decide) (fun hh => absurd hh (by decide)) (fun _ => ?_)
          refine wp_aload_n (pc := 183) 0 dX11_readHears_183 rfl rfl ?_
          refine wp_iconst (pc := 184) dX11_readHears_184 ?_
          refine wp_callV (pc := 185) (st := []) (nf' := 153) [vI 0] [some (vR 111), some (vI 0)] dX11_readHears_185 rfl c_X11_314 rfl kd_111 (by decide) rfl la_111 rfl (Nat.le_of_ble_eq_true rfl) rfl (Nat.le_of_ble_eq_true rfl) (by omega) (Nat.le_refl _) (Nat.le_refl _) ?_
          have yY2 : YM (I) st out un dp := hY
          have yB2 : RB0 (I) (L) b g n c := hB
          have yF2 : Fyd I0 (I) := hFy
          have tgk := tgt_in (sg b c)
          refine lp_rclose (I0 := I) (k := 0) (by omega) (by omega) st out dp I yY2 hS hI.2.2.1 (by omega) (by omega) Fq.refl (fun J2 hF2 hY2 => ?_)
          have hB2 := yB2.q hF2
          refine wp_eqst (st' := []) rfl ?_
          refine wp_vret (pc := 188) dX11_readHears_188 rfl rfl ?_
          have hs_ : stp b (1, c, st, out, un, dp) = (2, c, [], (cls 0 st out dp).2.1, un, 0) := by
            rw [stp_1]
            unfold stA
            (repeat (first | rw [if_pos (by omega)] | rw [if_neg (by omega)] | rw [if_pos ⟨by omega, by assumption⟩] | rw [if_neg (fun z => absurd z.2 (by assumption))] | rw [if_pos ⟨by assumption, fun z => absurd z.2 (by assumption)⟩] | rw [if_pos ⟨by assumption, fun z => by omega⟩] | rw [if_neg (fun z => z.2 ⟨by omega, by assumption⟩)] | rw [if_pos (by assumption)] | rw [if_neg (by assumption)] | rw [if_neg (fun z => by omega)]))
          rw [show itn b (k + 1) (1, c, st, out, un, dp) = itn b k (stp b (1, c, st, out, un, dp)) from rfl, hs_] at hi
          rw [itn_fix (s := (2, c, [], (cls 0 st out dp).2.1, un, 0)) (show 2 ≤ 2 by decide)] at hi
          exact h1 c _ un hi.symm _ _ (yF2.trans hF2.y) hLy hB2 hY2.2.1 hY2.2.2.1.1
      · refine wp_iload_n (pc := 98) 2 dX11_readHears_98 rfl rfl ?_
        refine wp_callS (pc := 99) (st := []) (nf' := 153) [vI (sg b c)] [some (vI (sg b c))] dX11_readHears_99 rfl c_X11_273 rfl rfl (Nat.le_of_ble_eq_true rfl) rfl (Nat.le_of_ble_eq_true rfl) (by omega) (Nat.le_refl _) (Nat.le_refl _) ?_
        refine rs_tight (by omega) (by omega) ?_
        have tg3 := tgt_in (sg b c)
        refine wp_eqst (st' := [vI ((tgt (sg b c) : Nat) : Int)]) rfl ?_
        refine wp_iconst (pc := 102) dX11_readHears_102 ?_
        refine wp_icmp_ne (pc := 103) 113 dX11_readHears_103 (by decide) (by omega) (by decide) (fun h_4 => ?_) (fun h_4 => ?_)
        · refine wp_aload_n (pc := 113) 0 dX11_readHears_113 rfl rfl ?_
          refine wp_iload_n (pc := 114) 2 dX11_readHears_114 rfl rfl ?_
          refine wp_callS (pc := 115) (st := [vR 111]) (nf' := 153) [vI (sg b c)] [some (vI (sg b c))] dX11_readHears_115 rfl c_X11_273 rfl rfl (Nat.le_of_ble_eq_true rfl) rfl (Nat.le_of_ble_eq_true rfl) (by omega) (Nat.le_refl _) (Nat.le_refl _) ?_
          refine rs_tight (by omega) (by omega) ?_
          have tg4 := tgt_in (sg b c)
          refine wp_eqst (st' := [vI ((tgt (sg b c) : Nat) : Int), vR 111]) rfl ?_
          refine wp_callV (pc := 118) (st := []) (nf' := 153) [vI ((tgt (sg b c) : Nat) : Int)] [some (vR 111), some (vI ((tgt (sg b c) : Nat) : Int))] dX11_readHears_118 rfl c_X11_314 rfl kd_111 (by decide) rfl la_111 rfl (Nat.le_of_ble_eq_true rfl) rfl (Nat.le_of_ble_eq_true rfl) (by omega) (Nat.le_refl _) (Nat.le_refl _) ?_
          have yY5 : YM (I) st out un dp := hY
          have yB5 : RB0 (I) (L) b g n c := hB
          have yF5 : Fyd I0 (I) := hFy
          have tgk := tgt_in (sg b c)
          refine lp_rclose (I0 := I) (k := tgt (sg b c)) (by omega) (by omega) st out dp I yY5 hS hI.2.2.1 (by omega) (by omega) Fq.refl (fun J5 hF5 hY5 => ?_)
          have hB5 := yB5.q hF5
          refine wp_eqst (st' := []) rfl ?_
          refine wp_aload_n (pc := 121) 0 dX11_readHears_121 rfl rfl ?_
          refine wp_getr (pc := 122) dX11_readHears_122 rfl f_X11_33 kd_111 la_111 rfl (r_111_15 D) ?_
          refine wp_aload_n (pc := 125) 0 dX11_readHears_125 rfl rfl ?_
          refine wp_geti (pc := 126) dX11_readHears_126 rfl f_X11_270 kd_111 la_111 (Or.inl rfl) ?_
          refine wp_eqst (st' := [vI (((cls (tgt (sg b c)) st out dp).1.length : Nat) : Int), vR 118]) (by rw [hY5.1.1]) ?_
          refine wp_iload_n (pc := 129) 2 dX11_readHears_129 rfl rfl ?_
          refine wq_iast (pc := 130) ((cls (tgt (sg b c)) st out dp).1.length) dX11_readHears_130 kd_118 la_118 rfl (by omega) ?_
          refine wp_aload_n (pc := 131) 0 dX11_readHears_131 rfl rfl ?_
          refine wp_dup (pc := 132) dX11_readHears_132 rfl ?_
          refine wp_geti (pc := 133) dX11_readHears_133 rfl f_X11_270 kd_111 la_111 (Or.inl rfl) ?_
          refine wp_eqst (st' := [vI (((cls (tgt (sg b c)) st out dp).1.length : Nat) : Int), vR 111]) (by rw [up_c (by omega), hY5.1.1]) ?_
          refine wp_iconst (pc := 136) dX11_readHears_136 ?_
          refine wp_iadd (pc := 137) dX11_readHears_137 ?_
          refine wp_puti (pc := 138) dX11_readHears_138 rfl f_X11_270 kd_111 la_111 (fun _ h => by cases h; rfl) rfl ?_
          refine wp_gen (fun J => Fq J5 J ∧ YM J (sg b c :: (cls (tgt (sg b c)) st out dp).1) (cls (tgt (sg b c)) st out dp).2.1 un (cls (tgt (sg b c)) st out dp).2.2) ⟨(Fq.refl.wr (by omega)).wr (by omega), hY5.push⟩ (fun J6 hJ6 => ?_)
          have hB6 := hB5.q hJ6.1
          refine wp_aload_n (pc := 141) 0 dX11_readHears_141 rfl rfl ?_
          refine wp_callV (pc := 142) (st := []) (nf' := 153) [] [some (vR 111), none, none] dX11_readHears_142 rfl c_X11_241 rfl kd_111 (by decide) rfl la_111 rfl (Nat.le_of_ble_eq_true rfl) rfl (Nat.le_of_ble_eq_true rfl) (by omega) (Nat.le_refl _) (Nat.le_refl _) ?_
          have yY7 : YM (J6) (sg b c :: (cls (tgt (sg b c)) st out dp).1) ((cls (tgt (sg b c)) st out dp).2.1) un ((cls (tgt (sg b c)) st out dp).2.2) := hJ6.2
          have yB7 : RB0 (J6) (L) b g n c := hB6
          have yF7 : Fyd I0 (J6) := ((yF5.trans hF5.y).trans hJ6.1.y)
          have n37 : ts b c ≠ 3 := (by first | exact n3_w (by omega) | omega)
          refine rs_token yB7.1 yB7.nx (yB7.q4 n37) (by omega) (fun J7 M7 hFb7 hLb7 hTk7 => ?_)
          have hB7 := yB7.adv yB7.nx hFb7 hTk7
          have hY7 := yY7.tb hFb7
          refine wp_eqst (st' := []) rfl ?_
          refine wp_aload_n (pc := 145) 0 dX11_readHears_145 rfl rfl ?_
          refine wp_callV (pc := 146) (st := []) (nf' := 153) [] [some (vR 111), none, none] dX11_readHears_146 rfl c_X11_305 rfl kd_111 (by decide) rfl la_111 rfl (Nat.le_of_ble_eq_true rfl) rfl (Nat.le_of_ble_eq_true rfl) (by omega) (Nat.le_refl _) (Nat.le_refl _) ?_
          have sv := si.2.2 h_2
          have hs_ : stp b (1, c, st, out, un, dp) = (0, te b c, sg b c :: (cls (tgt (sg b c)) st out dp).1, (cls (tgt (sg b c)) st out dp).2.1, un, (cls (tgt (sg b c)) st out dp).2.2) := by
            rw [stp_1]
            unfold stA
            (repeat (first | rw [if_pos (by omega)] | rw [if_neg (by omega)] | rw [if_pos ⟨by omega, by assumption⟩] | rw [if_neg (fun z => absurd z.2 (by assumption))] | rw [if_pos ⟨by assumption, fun z => absurd z.2 (by assumption)⟩] | rw [if_pos ⟨by assumption, fun z => by omega⟩] | rw [if_neg (fun z => z.2 ⟨by omega, by assumption⟩)] | rw [if_pos (by assumption)] | rw [if_neg (by assumption)] | rw [if_neg (fun z => by omega)]))
          rw [show itn b (k + 1) (1, c, st, out, un, dp) = itn b k (stp b (1, c, st, out, un, dp)) from rfl, hs_] at hi
          refine wp_unit0 ?_
          refine lp_runit (I0 := I0) (L0 := L0) (k0 := k) (f := f) hf (by omega) (fun k8 c8 st8 out8 un8 dp8 hk8 hi8 hI8 J8 M8 hF8 hL8 hB8 hY8 => ?_) (fun c8 hf38 hfc8 J8 M8 hF8 hL8 hE8 => ?_) k _ _ _ _ _ _ _ (Nat.le_refl _) hB7 hY7 (hI.sgn sv.1 sv.2.1 sv.2.2.1) hi (yF7.trans hFb7.y) (hLy.trans hLb7)
          · refine wp_eqst (st' := []) rfl ?_
            refine wp_goto (pc := 149) 154 dX11_readHears_149 (by decide) ?_
            refine wp_goto (pc := 154) 30 dX11_readHears_154 (by decide) ?_
            refine wp_none 2 [some (vR 111), some (vI 1), none] rfl ?_
            exact lp_rhears hf hd h1 h0 K k8 _ _ _ _ _ _ _ (by omega) hB8 hY8 hI8 hi8 hF8 hL8
          · have x2_8 : J8 111 2 = (bad b c8 2).1 := hE8.1
            have xp_8 : 0 < (bad b c8 2).1 ∧ (bad b c8 2).1 ≤ 5 := hE8.2.2
            refine wp_eqst (st' := []) rfl ?_
            refine wp_goto (pc := 149) 154 dX11_readHears_149 (by decide) ?_
            refine wp_goto (pc := 154) 30 dX11_readHears_154 (by decide) ?_
            refine wp_iload_n (pc := 30) 1 dX11_readHears_30 rfl rfl ?_
            refine wp_if_eq (pc := 31) 157 dX11_readHears_31 (by decide) (by decide) (fun hh => absurd hh (by decide)) (fun _ => ?_)
            refine wp_aload_n (pc := 34) 0 dX11_readHears_34 rfl rfl ?_
            refine wp_geti (pc := 35) dX11_readHears_35 rfl f_X11_185 kd_111 la_111 (Or.inl rfl) ?_
            refine wp_eqst (st' := [vI ((bad b c8 2).1)]) (by rw [x2_8]) ?_
            refine wp_if_ne (pc := 38) 157 dX11_readHears_38 (by decide) (by omega) (fun _ => ?_) (fun hh => absurd hh (by omega))
            refine wp_aload_n (pc := 157) 0 dX11_readHears_157 rfl rfl ?_
            refine wp_geti (pc := 158) dX11_readHears_158 rfl f_X11_185 kd_111 la_111 (Or.inl rfl) ?_
            refine wp_eqst (st' := [vI ((bad b c8 2).1)]) (by rw [x2_8]) ?_
            refine wp_if_ne (pc := 161) 176 dX11_readHears_161 (by decide) (by omega) (fun _ => ?_) (fun hh => absurd hh (by omega))
            refine wp_aload_n (pc := 176) 0 dX11_readHears_176 rfl rfl ?_
            refine wp_geti (pc := 177) dX11_readHears_177 rfl f_X11_185 kd_111 la_111 (Or.inl rfl) ?_
            refine wp_eqst (st' := [vI ((bad b c8 2).1)]) (by rw [x2_8]) ?_
            refine wp_if_ne (pc := 180) 188 dX11_readHears_180 (by decide) (by omega) (fun _ => ?_) (fun hh => absurd hh (by omega))
            refine wp_vret (pc := 188) dX11_readHears_188 rfl rfl ?_
            exact h0 _ hf38 hfc8 _ _ hF8 hL8 hE8
        · refine wp_aload_n (pc := 106) 0 dX11_readHears_106 rfl rfl ?_
          refine wp_callV (pc := 107) (st := []) (nf' := 153) [] [some (vR 111), none] dX11_readHears_107 rfl c_X11_317 rfl kd_111 (by decide) rfl la_111 rfl (Nat.le_of_ble_eq_true rfl) rfl (Nat.le_of_ble_eq_true rfl) (by omega) (Nat.le_refl _) (Nat.le_refl _) ?_
          refine rs_hasRelation hY hS (by omega) (by omega) (fun h_5 => ?_) (fun h_5 => ?_)
          · refine wp_eqst (st' := [vI 1]) rfl ?_
            refine wp_if_ne (pc := 110) 152 dX11_readHears_110 (by decide) (by decide) (fun _ => ?_) (fun hh => absurd hh (by decide))
            refine wp_iconst (pc := 152) dX11_readHears_152 ?_
            refine wq_istore_n (pc := 153) 1 [some (vR 111), some (vI 0), some (vI (sg b c))] dX11_readHears_153 rfl rfl (by decide) rfl ?_
            refine wp_goto (pc := 154) 30 dX11_readHears_154 (by decide) ?_
            refine wp_iload_n (pc := 30) 1 dX11_readHears_30 rfl rfl ?_
            refine wp_if_eq (pc := 31) 157 dX11_readHears_31 (by decide) (by decide) (fun _ => ?_) (fun hh => absurd hh (by decide))
            refine wp_aload_n (pc := 157) 0 dX11_readHears_157 rfl rfl ?_
            refine wp_geti (pc := 158) dX11_readHears_158 rfl f_X11_185 kd_111 la_111 (Or.inl rfl) ?_
            refine wp_eqst (st' := [vI 0]) (by rw [hB.2.2.2.1.1]) ?_
            refine wp_if_ne (pc := 161) 176 dX11_readHears_161 (by decide) (by decide) (fun hh => absurd hh (by decide)) (fun _ => ?_)
            refine wp_aload_n (pc := 164) 0 dX11_readHears_164 rfl rfl ?_
            refine wp_callV (pc := 165) (st := []) (nf' := 153) [] [some (vR 111), none, none] dX11_readHears_165 rfl c_X11_311 rfl kd_111 (by decide) rfl la_111 rfl (Nat.le_of_ble_eq_true rfl) rfl (Nat.le_of_ble_eq_true rfl) (by omega) (Nat.le_refl _) (Nat.le_refl _) ?_
            refine rs_hasBracket hY hS (by omega) (by omega) (fun h_6 => ?_) (fun h_6 => ?_)
            · refine wp_eqst (st' := [vI 1]) rfl ?_
              refine wp_if_eq (pc := 168) 176 dX11_readHears_168 (by decide) (by decide) (fun hh => absurd hh (by decide)) (fun _ => ?_)
              refine wp_aload_n (pc := 171) 0 dX11_readHears_171 rfl rfl ?_
              refine wp_iconst (pc := 172) dX11_readHears_172 ?_
              refine wp_callV (pc := 173) (st := []) (nf' := 153) [vI 2] [some (vR 111), some (vI 2)] dX11_readHears_173 rfl c_X11_238 rfl kd_111 (by decide) rfl la_111 rfl (Nat.le_of_ble_eq_true rfl) rfl (Nat.le_of_ble_eq_true rfl) (by omega) (Nat.le_refl _) (Nat.le_refl _) ?_
              have yY9 : YM (I) st out un dp := hY
              have yB9 : RB0 (I) (L) b g n c := hB
              have yF9 : Fyd I0 (I) := hFy
              refine rs_wrong yB9.2.2.1 yB9.2.2.2.1.1 (by decide) (by omega) ?_
              refine wp_gen (fun J => Fe (I) J ∧ RE J (bad b c 2)) ⟨Fe.bad, RD.bad (by decide)⟩ (fun J9 hJ9 => ?_)
              have x2_9 : J9 111 2 = (bad b c 2).1 := hJ9.2.1
              have xp_9 : 0 < (bad b c 2).1 ∧ (bad b c 2).1 ≤ 5 := hJ9.2.2.2
              have jY9 := yY9.e hJ9.1
              refine wp_eqst (st' := []) rfl ?_
              refine wp_aload_n (pc := 176) 0 dX11_readHears_176 rfl rfl ?_
              refine wp_geti (pc := 177) dX11_readHears_177 rfl f_X11_185 kd_111 la_111 (Or.inl rfl) ?_
              refine wp_eqst (st' := [vI ((bad b c 2).1)]) (by rw [x2_9]) ?_
              refine wp_if_ne (pc := 180) 188 dX11_readHears_180 (by decide) (by omega) (fun _ => ?_) (fun hh => absurd hh (by omega))
              refine wp_vret (pc := 188) dX11_readHears_188 rfl rfl ?_
              have hs_ : stp b (1, c, st, out, un, dp) = (3, c, st, out, un, dp) := by
                rw [stp_1]
                unfold stA
                (repeat (first | rw [if_pos (by omega)] | rw [if_neg (by omega)] | rw [if_pos ⟨by omega, by assumption⟩] | rw [if_neg (fun z => absurd z.2 (by assumption))] | rw [if_pos ⟨by assumption, fun z => absurd z.2 (by assumption)⟩] | rw [if_pos ⟨by assumption, fun z => by omega⟩] | rw [if_neg (fun z => z.2 ⟨by omega, by assumption⟩)] | rw [if_pos (by assumption)] | rw [if_neg (by assumption)] | rw [if_neg (fun z => by omega)]))
              rw [show itn b (k + 1) (1, c, st, out, un, dp) = itn b k (stp b (1, c, st, out, un, dp)) from rfl, hs_] at hi
              rw [itn_fix (s := (3, c, st, out, un, dp)) (show 2 ≤ 3 by decide)] at hi
              exact h0 c (by rw [← hi]) (by rw [← hi]) _ _ (yF9.trans hJ9.1.y) hLy hJ9.2
            · refine wp_eqst (st' := [vI 0]) rfl ?_
              refine wp_if_eq (pc := 168) 176 dX11_readHears_168 (by decide) (by decide) (fun _ => ?_) (fun hh => absurd hh (by decide))
              refine wp_aload_n (pc := 176) 0 dX11_readHears_176 rfl rfl ?_
              refine wp_geti (pc := 177) dX11_readHears_177 rfl f_X11_185 kd_111 la_111 (Or.inl rfl) ?_
              refine wp_eqst (st' := [vI 0]) (by rw [hB.2.2.2.1.1]) ?_
              refine wp_if_ne (pc := 180) 188 dX11_readHears_180 (by decide) (by decide) (fun hh => absurd hh (by decide)) (fun _ => ?_)
              refine wp_aload_n (pc := 183) 0 dX11_readHears_183 rfl rfl ?_
              refine wp_iconst (pc := 184) dX11_readHears_184 ?_
              refine wp_callV (pc := 185) (st := []) (nf' := 153) [vI 0] [some (vR 111), some (vI 0)] dX11_readHears_185 rfl c_X11_314 rfl kd_111 (by decide) rfl la_111 rfl (Nat.le_of_ble_eq_true rfl) rfl (Nat.le_of_ble_eq_true rfl) (by omega) (Nat.le_refl _) (Nat.le_refl _) ?_
              have yY10 : YM (I) st out un dp := hY
              have yB10 : RB0 (I) (L) b g n c := hB
              have yF10 : Fyd I0 (I) := hFy
              have tgk := tgt_in (sg b c)
              refine lp_rclose (I0 := I) (k := 0) (by omega) (by omega) st out dp I yY10 hS hI.2.2.1 (by omega) (by omega) Fq.refl (fun J10 hF10 hY10 => ?_)
              have hB10 := yB10.q hF10
              refine wp_eqst (st' := []) rfl ?_
              refine wp_vret (pc := 188) dX11_readHears_188 rfl rfl ?_
              have hs_ : stp b (1, c, st, out, un, dp) = (2, c, [], (cls 0 st out dp).2.1, un, 0) := by
                rw [stp_1]
                unfold stA
                (repeat (first | rw [if_pos (by omega)] | rw [if_neg (by omega)] | rw [if_pos ⟨by omega, by assumption⟩] | rw [if_neg (fun z => absurd z.2 (by assumption))] | rw [if_pos ⟨by assumption, fun z => absurd z.2 (by assumption)⟩] | rw [if_pos ⟨by assumption, fun z => by omega⟩] | rw [if_neg (fun z => z.2 ⟨by omega, by assumption⟩)] | rw [if_pos (by assumption)] | rw [if_neg (by assumption)] | rw [if_neg (fun z => by omega)]))
              rw [show itn b (k + 1) (1, c, st, out, un, dp) = itn b k (stp b (1, c, st, out, un, dp)) from rfl, hs_] at hi
              rw [itn_fix (s := (2, c, [], (cls 0 st out dp).2.1, un, 0)) (show 2 ≤ 2 by decide)] at hi
              exact h1 c _ un hi.symm _ _ (yF10.trans hF10.y) hLy hB10 hY10.2.1 hY10.2.2.1.1
          · refine wp_eqst (st' := [vI 0]) rfl ?_
            refine wp_if_ne (pc := 110) 152 dX11_readHears_110 (by decide) (by decide) (fun hh => absurd hh (by decide)) (fun _ => ?_)
            refine wp_aload_n (pc := 113) 0 dX11_readHears_113 rfl rfl ?_
            refine wp_iload_n (pc := 114) 2 dX11_readHears_114 rfl rfl ?_
            refine wp_callS (pc := 115) (st := [vR 111]) (nf' := 153) [vI (sg b c)] [some (vI (sg b c))] dX11_readHears_115 rfl c_X11_273 rfl rfl (Nat.le_of_ble_eq_true rfl) rfl (Nat.le_of_ble_eq_true rfl) (by omega) (Nat.le_refl _) (Nat.le_refl _) ?_
            refine rs_tight (by omega) (by omega) ?_
            have tg11 := tgt_in (sg b c)
            refine wp_eqst (st' := [vI ((tgt (sg b c) : Nat) : Int), vR 111]) rfl ?_
            refine wp_callV (pc := 118) (st := []) (nf' := 153) [vI ((tgt (sg b c) : Nat) : Int)] [some (vR 111), some (vI ((tgt (sg b c) : Nat) : Int))] dX11_readHears_118 rfl c_X11_314 rfl kd_111 (by decide) rfl la_111 rfl (Nat.le_of_ble_eq_true rfl) rfl (Nat.le_of_ble_eq_true rfl) (by omega) (Nat.le_refl _) (Nat.le_refl _) ?_
            have yY12 : YM (I) st out un dp := hY
            have yB12 : RB0 (I) (L) b g n c := hB
            have yF12 : Fyd I0 (I) := hFy
            have tgk := tgt_in (sg b c)
            refine lp_rclose (I0 := I) (k := tgt (sg b c)) (by omega) (by omega) st out dp I yY12 hS hI.2.2.1 (by omega) (by omega) Fq.refl (fun J12 hF12 hY12 => ?_)
            have hB12 := yB12.q hF12
            refine wp_eqst (st' := []) rfl ?_
            refine wp_aload_n (pc := 121) 0 dX11_readHears_121 rfl rfl ?_
            refine wp_getr (pc := 122) dX11_readHears_122 rfl f_X11_33 kd_111 la_111 rfl (r_111_15 D) ?_
            refine wp_aload_n (pc := 125) 0 dX11_readHears_125 rfl rfl ?_
            refine wp_geti (pc := 126) dX11_readHears_126 rfl f_X11_270 kd_111 la_111 (Or.inl rfl) ?_
            refine wp_eqst (st' := [vI (((cls (tgt (sg b c)) st out dp).1.length : Nat) : Int), vR 118]) (by rw [hY12.1.1]) ?_
            refine wp_iload_n (pc := 129) 2 dX11_readHears_129 rfl rfl ?_
            refine wq_iast (pc := 130) ((cls (tgt (sg b c)) st out dp).1.length) dX11_readHears_130 kd_118 la_118 rfl (by omega) ?_
            refine wp_aload_n (pc := 131) 0 dX11_readHears_131 rfl rfl ?_
            refine wp_dup (pc := 132) dX11_readHears_132 rfl ?_
            refine wp_geti (pc := 133) dX11_readHears_133 rfl f_X11_270 kd_111 la_111 (Or.inl rfl) ?_
            refine wp_eqst (st' := [vI (((cls (tgt (sg b c)) st out dp).1.length : Nat) : Int), vR 111]) (by rw [up_c (by omega), hY12.1.1]) ?_
            refine wp_iconst (pc := 136) dX11_readHears_136 ?_
            refine wp_iadd (pc := 137) dX11_readHears_137 ?_
            refine wp_puti (pc := 138) dX11_readHears_138 rfl f_X11_270 kd_111 la_111 (fun _ h => by cases h; rfl) rfl ?_
            refine wp_gen (fun J => Fq J12 J ∧ YM J (sg b c :: (cls (tgt (sg b c)) st out dp).1) (cls (tgt (sg b c)) st out dp).2.1 un (cls (tgt (sg b c)) st out dp).2.2) ⟨(Fq.refl.wr (by omega)).wr (by omega), hY12.push⟩ (fun J13 hJ13 => ?_)
            have hB13 := hB12.q hJ13.1
            refine wp_aload_n (pc := 141) 0 dX11_readHears_141 rfl rfl ?_
            refine wp_callV (pc := 142) (st := []) (nf' := 153) [] [some (vR 111), none, none] dX11_readHears_142 rfl c_X11_241 rfl kd_111 (by decide) rfl la_111 rfl (Nat.le_of_ble_eq_true rfl) rfl (Nat.le_of_ble_eq_true rfl) (by omega) (Nat.le_refl _) (Nat.le_refl _) ?_
            have yY14 : YM (J13) (sg b c :: (cls (tgt (sg b c)) st out dp).1) ((cls (tgt (sg b c)) st out dp).2.1) un ((cls (tgt (sg b c)) st out dp).2.2) := hJ13.2
            have yB14 : RB0 (J13) (L) b g n c := hB13
            have yF14 : Fyd I0 (J13) := ((yF12.trans hF12.y).trans hJ13.1.y)
            have n314 : ts b c ≠ 3 := (by first | exact n3_w (by omega) | omega)
            refine rs_token yB14.1 yB14.nx (yB14.q4 n314) (by omega) (fun J14 M14 hFb14 hLb14 hTk14 => ?_)
            have hB14 := yB14.adv yB14.nx hFb14 hTk14
            have hY14 := yY14.tb hFb14
            refine wp_eqst (st' := []) rfl ?_
            refine wp_aload_n (pc := 145) 0 dX11_readHears_145 rfl rfl ?_
            refine wp_callV (pc := 146) (st := []) (nf' := 153) [] [some (vR 111), none, none] dX11_readHears_146 rfl c_X11_305 rfl kd_111 (by decide) rfl la_111 rfl (Nat.le_of_ble_eq_true rfl) rfl (Nat.le_of_ble_eq_true rfl) (by omega) (Nat.le_refl _) (Nat.le_refl _) ?_
            have sv := si.2.2 h_2
            have hs_ : stp b (1, c, st, out, un, dp) = (0, te b c, sg b c :: (cls (tgt (sg b c)) st out dp).1, (cls (tgt (sg b c)) st out dp).2.1, un, (cls (tgt (sg b c)) st out dp).2.2) := by
              rw [stp_1]
              unfold stA
              (repeat (first | rw [if_pos (by omega)] | rw [if_neg (by omega)] | rw [if_pos ⟨by omega, by assumption⟩] | rw [if_neg (fun z => absurd z.2 (by assumption))] | rw [if_pos ⟨by assumption, fun z => absurd z.2 (by assumption)⟩] | rw [if_pos ⟨by assumption, fun z => by omega⟩] | rw [if_neg (fun z => z.2 ⟨by omega, by assumption⟩)] | rw [if_pos (by assumption)] | rw [if_neg (by assumption)] | rw [if_neg (fun z => by omega)]))
            rw [show itn b (k + 1) (1, c, st, out, un, dp) = itn b k (stp b (1, c, st, out, un, dp)) from rfl, hs_] at hi
            refine wp_unit0 ?_
            refine lp_runit (I0 := I0) (L0 := L0) (k0 := k) (f := f) hf (by omega) (fun k15 c15 st15 out15 un15 dp15 hk15 hi15 hI15 J15 M15 hF15 hL15 hB15 hY15 => ?_) (fun c15 hf315 hfc15 J15 M15 hF15 hL15 hE15 => ?_) k _ _ _ _ _ _ _ (Nat.le_refl _) hB14 hY14 (hI.sgn sv.1 sv.2.1 sv.2.2.1) hi (yF14.trans hFb14.y) (hLy.trans hLb14)
            · refine wp_eqst (st' := []) rfl ?_
              refine wp_goto (pc := 149) 154 dX11_readHears_149 (by decide) ?_
              refine wp_goto (pc := 154) 30 dX11_readHears_154 (by decide) ?_
              refine wp_none 2 [some (vR 111), some (vI 1), none] rfl ?_
              exact lp_rhears hf hd h1 h0 K k15 _ _ _ _ _ _ _ (by omega) hB15 hY15 hI15 hi15 hF15 hL15
            · have x2_15 : J15 111 2 = (bad b c15 2).1 := hE15.1
              have xp_15 : 0 < (bad b c15 2).1 ∧ (bad b c15 2).1 ≤ 5 := hE15.2.2
              refine wp_eqst (st' := []) rfl ?_
              refine wp_goto (pc := 149) 154 dX11_readHears_149 (by decide) ?_
              refine wp_goto (pc := 154) 30 dX11_readHears_154 (by decide) ?_
              refine wp_iload_n (pc := 30) 1 dX11_readHears_30 rfl rfl ?_
              refine wp_if_eq (pc := 31) 157 dX11_readHears_31 (by decide) (by decide) (fun hh => absurd hh (by decide)) (fun _ => ?_)
              refine wp_aload_n (pc := 34) 0 dX11_readHears_34 rfl rfl ?_
              refine wp_geti (pc := 35) dX11_readHears_35 rfl f_X11_185 kd_111 la_111 (Or.inl rfl) ?_
              refine wp_eqst (st' := [vI ((bad b c15 2).1)]) (by rw [x2_15]) ?_
              refine wp_if_ne (pc := 38) 157 dX11_readHears_38 (by decide) (by omega) (fun _ => ?_) (fun hh => absurd hh (by omega))
              refine wp_aload_n (pc := 157) 0 dX11_readHears_157 rfl rfl ?_
              refine wp_geti (pc := 158) dX11_readHears_158 rfl f_X11_185 kd_111 la_111 (Or.inl rfl) ?_
              refine wp_eqst (st' := [vI ((bad b c15 2).1)]) (by rw [x2_15]) ?_
              refine wp_if_ne (pc := 161) 176 dX11_readHears_161 (by decide) (by omega) (fun _ => ?_) (fun hh => absurd hh (by omega))
              refine wp_aload_n (pc := 176) 0 dX11_readHears_176 rfl rfl ?_
              refine wp_geti (pc := 177) dX11_readHears_177 rfl f_X11_185 kd_111 la_111 (Or.inl rfl) ?_
              refine wp_eqst (st' := [vI ((bad b c15 2).1)]) (by rw [x2_15]) ?_
              refine wp_if_ne (pc := 180) 188 dX11_readHears_180 (by decide) (by omega) (fun _ => ?_) (fun hh => absurd hh (by omega))
              refine wp_vret (pc := 188) dX11_readHears_188 rfl rfl ?_
              exact h0 _ hf315 hfc15 _ _ hF15 hL15 hE15
    · refine wp_aload_n (pc := 55) 0 dX11_readHears_55 rfl rfl ?_
      refine wp_callV (pc := 56) (st := []) (nf' := 153) [] [some (vR 111), none, none] dX11_readHears_56 rfl c_X11_311 rfl kd_111 (by decide) rfl la_111 rfl (Nat.le_of_ble_eq_true rfl) rfl (Nat.le_of_ble_eq_true rfl) (by omega) (Nat.le_refl _) (Nat.le_refl _) ?_
      refine rs_hasBracket hY hS (by omega) (by omega) (fun h_7 => ?_) (fun h_7 => ?_)
      · refine wp_eqst (st' := [vI 1]) rfl ?_
        refine wp_if_eq (pc := 59) 94 dX11_readHears_59 (by decide) (by decide) (fun hh => absurd hh (by decide)) (fun _ => ?_)
        refine wp_aload_n (pc := 62) 0 dX11_readHears_62 rfl rfl ?_
        refine wp_iconst (pc := 63) dX11_readHears_63 ?_
        refine wp_callV (pc := 64) (st := []) (nf' := 153) [vI 0] [some (vR 111), some (vI 0)] dX11_readHears_64 rfl c_X11_314 rfl kd_111 (by decide) rfl la_111 rfl (Nat.le_of_ble_eq_true rfl) rfl (Nat.le_of_ble_eq_true rfl) (by omega) (Nat.le_refl _) (Nat.le_refl _) ?_
        have yY16 : YM (I) st out un dp := hY
        have yB16 : RB0 (I) (L) b g n c := hB
        have yF16 : Fyd I0 (I) := hFy
        have tgk := tgt_in (sg b c)
        refine lp_rclose (I0 := I) (k := 0) (by omega) (by omega) st out dp I yY16 hS hI.2.2.1 (by omega) (by omega) Fq.refl (fun J16 hF16 hY16 => ?_)
        have hB16 := yB16.q hF16
        obtain ⟨rs, hrs⟩ := cls_B st out dp h_7
        have yi := hI.brk hrs
        have yi2 := yi.2
        have hYc : YM J16 (20 :: rs) (cls 0 st out dp).2.1 un (cls 0 st out dp).2.2 := by rw [← hrs]; exact hY16
        refine wp_eqst (st' := []) rfl ?_
        refine wp_aload_n (pc := 67) 0 dX11_readHears_67 rfl rfl ?_
        refine wp_dup (pc := 68) dX11_readHears_68 rfl ?_
        refine wp_geti (pc := 69) dX11_readHears_69 rfl f_X11_270 kd_111 la_111 (Or.inl rfl) ?_
        refine wp_eqst (st' := [vI (((20 :: rs).length : Nat) : Int), vR 111]) (by rw [hYc.1.1]) ?_
        refine wp_iconst (pc := 72) dX11_readHears_72 ?_
        refine wp_isub (pc := 73) dX11_readHears_73 ?_
        refine wp_puti (pc := 74) dX11_readHears_74 rfl f_X11_270 kd_111 la_111 (fun _ h => by cases h; rfl) rfl ?_
        refine wp_aload_n (pc := 77) 0 dX11_readHears_77 rfl rfl ?_
        refine wp_dup (pc := 78) dX11_readHears_78 rfl ?_
        refine wp_geti (pc := 79) dX11_readHears_79 rfl f_X11_280 kd_111 la_111 (Or.inl rfl) ?_
        refine wp_eqst (st' := [vI (((cls 0 st out dp).2.2 : Nat) : Int), vR 111]) (by rw [up_j (by omega), hYc.2.2.2]) ?_
        refine wp_iconst (pc := 82) dX11_readHears_82 ?_
        refine wp_isub (pc := 83) dX11_readHears_83 ?_
        refine wp_puti (pc := 84) dX11_readHears_84 rfl f_X11_280 kd_111 la_111 (fun _ h => by cases h; rfl) rfl ?_
        refine wp_gen (fun J => Fq J16 J ∧ YM J rs (cls 0 st out dp).2.1 un ((cls 0 st out dp).2.2 - 1)) ⟨(Fq.refl.wr (by omega)).wr (by omega), ?_⟩ (fun J17 hJ17 => ?_)
        · rw [show (((20 :: rs).length : Nat) : Int) - 1 = ((rs.length : Nat) : Int) by rw [List.length_cons]; omega, show (((cls 0 st out dp).2.2 : Nat) : Int) - 1 = (((cls 0 st out dp).2.2 - 1 : Nat) : Int) by omega]; exact hYc.pop.deep
        have hB17 := hB16.q hJ17.1
        refine wp_aload_n (pc := 87) 0 dX11_readHears_87 rfl rfl ?_
        refine wp_callV (pc := 88) (st := []) (nf' := 153) [] [some (vR 111), none, none] dX11_readHears_88 rfl c_X11_241 rfl kd_111 (by decide) rfl la_111 rfl (Nat.le_of_ble_eq_true rfl) rfl (Nat.le_of_ble_eq_true rfl) (by omega) (Nat.le_refl _) (Nat.le_refl _) ?_
        have yY18 : YM (J17) rs ((cls 0 st out dp).2.1) un ((cls 0 st out dp).2.2 - 1) := hJ17.2
        have yB18 : RB0 (J17) (L) b g n c := hB17
        have yF18 : Fyd I0 (J17) := ((yF16.trans hF16.y).trans hJ17.1.y)
        have n318 : ts b c ≠ 3 := (by first | exact n3_w (by omega) | omega)
        refine rs_token yB18.1 yB18.nx (yB18.q4 n318) (by omega) (fun J18 M18 hFb18 hLb18 hTk18 => ?_)
        have hB18 := yB18.adv yB18.nx hFb18 hTk18
        have hY18 := yY18.tb hFb18
        refine wp_eqst (st' := []) rfl ?_
        refine wp_goto (pc := 91) 154 dX11_readHears_91 (by decide) ?_
        refine wp_goto (pc := 154) 30 dX11_readHears_154 (by decide) ?_
        refine wp_none 2 [some (vR 111), some (vI 1), none] rfl ?_
        have hs_ : stp b (1, c, st, out, un, dp) = (1, te b c, (cls 0 st out dp).1.tail, (cls 0 st out dp).2.1, un, (cls 0 st out dp).2.2 - 1) := by
          rw [stp_1]
          unfold stA
          (repeat (first | rw [if_pos (by omega)] | rw [if_neg (by omega)] | rw [if_pos ⟨by omega, by assumption⟩] | rw [if_neg (fun z => absurd z.2 (by assumption))] | rw [if_pos ⟨by assumption, fun z => absurd z.2 (by assumption)⟩] | rw [if_pos ⟨by assumption, fun z => by omega⟩] | rw [if_neg (fun z => z.2 ⟨by omega, by assumption⟩)] | rw [if_pos (by assumption)] | rw [if_neg (by assumption)] | rw [if_neg (fun z => by omega)]))
        rw [show itn b (k + 1) (1, c, st, out, un, dp) = itn b k (stp b (1, c, st, out, un, dp)) from rfl, hs_] at hi
        rw [hrs] at hi
        exact lp_rhears hf hd h1 h0 K k _ _ _ _ _ _ _ (by omega) hB18 hY18 yi.1 hi (yF18.trans hFb18.y) (hLy.trans hLb18)
      · refine wp_eqst (st' := [vI 0]) rfl ?_
        refine wp_if_eq (pc := 59) 94 dX11_readHears_59 (by decide) (by decide) (fun _ => ?_) (fun hh => absurd hh (by decide))
        refine wp_iload_n (pc := 94) 2 dX11_readHears_94 rfl rfl ?_
        refine wp_if_eq (pc := 95) 152 dX11_readHears_95 (by decide) (by omega) (fun h_8 => ?_) (fun h_8 => ?_)
        · refine wp_iconst (pc := 152) dX11_readHears_152 ?_
          refine wq_istore_n (pc := 153) 1 [some (vR 111), some (vI 0), some (vI (sg b c))] dX11_readHears_153 rfl rfl (by decide) rfl ?_
          refine wp_goto (pc := 154) 30 dX11_readHears_154 (by decide) ?_
          refine wp_iload_n (pc := 30) 1 dX11_readHears_30 rfl rfl ?_
          refine wp_if_eq (pc := 31) 157 dX11_readHears_31 (by decide) (by decide) (fun _ => ?_) (fun hh => absurd hh (by decide))
          refine wp_aload_n (pc := 157) 0 dX11_readHears_157 rfl rfl ?_
          refine wp_geti (pc := 158) dX11_readHears_158 rfl f_X11_185 kd_111 la_111 (Or.inl rfl) ?_
          refine wp_eqst (st' := [vI 0]) (by rw [hB.2.2.2.1.1]) ?_
          refine wp_if_ne (pc := 161) 176 dX11_readHears_161 (by decide) (by decide) (fun hh => absurd hh (by decide)) (fun _ => ?_)
          refine wp_aload_n (pc := 164) 0 dX11_readHears_164 rfl rfl ?_
          refine wp_callV (pc := 165) (st := []) (nf' := 153) [] [some (vR 111), none, none] dX11_readHears_165 rfl c_X11_311 rfl kd_111 (by decide) rfl la_111 rfl (Nat.le_of_ble_eq_true rfl) rfl (Nat.le_of_ble_eq_true rfl) (by omega) (Nat.le_refl _) (Nat.le_refl _) ?_
          refine rs_hasBracket hY hS (by omega) (by omega) (fun h_9 => ?_) (fun h_9 => ?_)
          · refine wp_eqst (st' := [vI 1]) rfl ?_
            refine wp_if_eq (pc := 168) 176 dX11_readHears_168 (by decide) (by decide) (fun hh => absurd hh (by decide)) (fun _ => ?_)
            refine wp_aload_n (pc := 171) 0 dX11_readHears_171 rfl rfl ?_
            refine wp_iconst (pc := 172) dX11_readHears_172 ?_
            refine wp_callV (pc := 173) (st := []) (nf' := 153) [vI 2] [some (vR 111), some (vI 2)] dX11_readHears_173 rfl c_X11_238 rfl kd_111 (by decide) rfl la_111 rfl (Nat.le_of_ble_eq_true rfl) rfl (Nat.le_of_ble_eq_true rfl) (by omega) (Nat.le_refl _) (Nat.le_refl _) ?_
            have yY19 : YM (I) st out un dp := hY
            have yB19 : RB0 (I) (L) b g n c := hB
            have yF19 : Fyd I0 (I) := hFy
            refine rs_wrong yB19.2.2.1 yB19.2.2.2.1.1 (by decide) (by omega) ?_
            refine wp_gen (fun J => Fe (I) J ∧ RE J (bad b c 2)) ⟨Fe.bad, RD.bad (by decide)⟩ (fun J19 hJ19 => ?_)
            have x2_19 : J19 111 2 = (bad b c 2).1 := hJ19.2.1
            have xp_19 : 0 < (bad b c 2).1 ∧ (bad b c 2).1 ≤ 5 := hJ19.2.2.2
            have jY19 := yY19.e hJ19.1
            refine wp_eqst (st' := []) rfl ?_
            refine wp_aload_n (pc := 176) 0 dX11_readHears_176 rfl rfl ?_
            refine wp_geti (pc := 177) dX11_readHears_177 rfl f_X11_185 kd_111 la_111 (Or.inl rfl) ?_
            refine wp_eqst (st' := [vI ((bad b c 2).1)]) (by rw [x2_19]) ?_
            refine wp_if_ne (pc := 180) 188 dX11_readHears_180 (by decide) (by omega) (fun _ => ?_) (fun hh => absurd hh (by omega))
            refine wp_vret (pc := 188) dX11_readHears_188 rfl rfl ?_
            exact absurd h_9 h_7
          · refine wp_eqst (st' := [vI 0]) rfl ?_
            refine wp_if_eq (pc := 168) 176 dX11_readHears_168 (by decide) (by decide) (fun _ => ?_) (fun hh => absurd hh (by decide))
            refine wp_aload_n (pc := 176) 0 dX11_readHears_176 rfl rfl ?_
            refine wp_geti (pc := 177) dX11_readHears_177 rfl f_X11_185 kd_111 la_111 (Or.inl rfl) ?_
            refine wp_eqst (st' := [vI 0]) (by rw [hB.2.2.2.1.1]) ?_
            refine wp_if_ne (pc := 180) 188 dX11_readHears_180 (by decide) (by decide) (fun hh => absurd hh (by decide)) (fun _ => ?_)
            refine wp_aload_n (pc := 183) 0 dX11_readHears_183 rfl rfl ?_
            refine wp_iconst (pc := 184) dX11_readHears_184 ?_
            refine wp_callV (pc := 185) (st := []) (nf' := 153) [vI 0] [some (vR 111), some (vI 0)] dX11_readHears_185 rfl c_X11_314 rfl kd_111 (by decide) rfl la_111 rfl (Nat.le_of_ble_eq_true rfl) rfl (Nat.le_of_ble_eq_true rfl) (by omega) (Nat.le_refl _) (Nat.le_refl _) ?_
            have yY20 : YM (I) st out un dp := hY
            have yB20 : RB0 (I) (L) b g n c := hB
            have yF20 : Fyd I0 (I) := hFy
            have tgk := tgt_in (sg b c)
            refine lp_rclose (I0 := I) (k := 0) (by omega) (by omega) st out dp I yY20 hS hI.2.2.1 (by omega) (by omega) Fq.refl (fun J20 hF20 hY20 => ?_)
            have hB20 := yB20.q hF20
            refine wp_eqst (st' := []) rfl ?_
            refine wp_vret (pc := 188) dX11_readHears_188 rfl rfl ?_
            have hs_ : stp b (1, c, st, out, un, dp) = (2, c, [], (cls 0 st out dp).2.1, un, 0) := by
              rw [stp_1]
              unfold stA
              (repeat (first | rw [if_pos (by omega)] | rw [if_neg (by omega)] | rw [if_pos ⟨by omega, by assumption⟩] | rw [if_neg (fun z => absurd z.2 (by assumption))] | rw [if_pos ⟨by assumption, fun z => absurd z.2 (by assumption)⟩] | rw [if_pos ⟨by assumption, fun z => by omega⟩] | rw [if_neg (fun z => z.2 ⟨by omega, by assumption⟩)] | rw [if_pos (by assumption)] | rw [if_neg (by assumption)] | rw [if_neg (fun z => by omega)]))
            rw [show itn b (k + 1) (1, c, st, out, un, dp) = itn b k (stp b (1, c, st, out, un, dp)) from rfl, hs_] at hi
            rw [itn_fix (s := (2, c, [], (cls 0 st out dp).2.1, un, 0)) (show 2 ≤ 2 by decide)] at hi
            exact h1 c _ un hi.symm _ _ (yF20.trans hF20.y) hLy hB20 hY20.2.1 hY20.2.2.1.1
        · refine wp_iload_n (pc := 98) 2 dX11_readHears_98 rfl rfl ?_
          refine wp_callS (pc := 99) (st := []) (nf' := 153) [vI (sg b c)] [some (vI (sg b c))] dX11_readHears_99 rfl c_X11_273 rfl rfl (Nat.le_of_ble_eq_true rfl) rfl (Nat.le_of_ble_eq_true rfl) (by omega) (Nat.le_refl _) (Nat.le_refl _) ?_
          refine rs_tight (by omega) (by omega) ?_
          have tg21 := tgt_in (sg b c)
          refine wp_eqst (st' := [vI ((tgt (sg b c) : Nat) : Int)]) rfl ?_
          refine wp_iconst (pc := 102) dX11_readHears_102 ?_
          refine wp_icmp_ne (pc := 103) 113 dX11_readHears_103 (by decide) (by omega) (by decide) (fun h_10 => ?_) (fun h_10 => ?_)
          · refine wp_aload_n (pc := 113) 0 dX11_readHears_113 rfl rfl ?_
            refine wp_iload_n (pc := 114) 2 dX11_readHears_114 rfl rfl ?_
            refine wp_callS (pc := 115) (st := [vR 111]) (nf' := 153) [vI (sg b c)] [some (vI (sg b c))] dX11_readHears_115 rfl c_X11_273 rfl rfl (Nat.le_of_ble_eq_true rfl) rfl (Nat.le_of_ble_eq_true rfl) (by omega) (Nat.le_refl _) (Nat.le_refl _) ?_
            refine rs_tight (by omega) (by omega) ?_
            have tg22 := tgt_in (sg b c)
            refine wp_eqst (st' := [vI ((tgt (sg b c) : Nat) : Int), vR 111]) rfl ?_
            refine wp_callV (pc := 118) (st := []) (nf' := 153) [vI ((tgt (sg b c) : Nat) : Int)] [some (vR 111), some (vI ((tgt (sg b c) : Nat) : Int))] dX11_readHears_118 rfl c_X11_314 rfl kd_111 (by decide) rfl la_111 rfl (Nat.le_of_ble_eq_true rfl) rfl (Nat.le_of_ble_eq_true rfl) (by omega) (Nat.le_refl _) (Nat.le_refl _) ?_
            exfalso; omega
          · refine wp_aload_n (pc := 106) 0 dX11_readHears_106 rfl rfl ?_
            refine wp_callV (pc := 107) (st := []) (nf' := 153) [] [some (vR 111), none] dX11_readHears_107 rfl c_X11_317 rfl kd_111 (by decide) rfl la_111 rfl (Nat.le_of_ble_eq_true rfl) rfl (Nat.le_of_ble_eq_true rfl) (by omega) (Nat.le_refl _) (Nat.le_refl _) ?_
            refine rs_hasRelation hY hS (by omega) (by omega) (fun h_11 => ?_) (fun h_11 => ?_)
            · refine wp_eqst (st' := [vI 1]) rfl ?_
              refine wp_if_ne (pc := 110) 152 dX11_readHears_110 (by decide) (by decide) (fun _ => ?_) (fun hh => absurd hh (by decide))
              refine wp_iconst (pc := 152) dX11_readHears_152 ?_
              refine wq_istore_n (pc := 153) 1 [some (vR 111), some (vI 0), some (vI (sg b c))] dX11_readHears_153 rfl rfl (by decide) rfl ?_
              refine wp_goto (pc := 154) 30 dX11_readHears_154 (by decide) ?_
              refine wp_iload_n (pc := 30) 1 dX11_readHears_30 rfl rfl ?_
              refine wp_if_eq (pc := 31) 157 dX11_readHears_31 (by decide) (by decide) (fun _ => ?_) (fun hh => absurd hh (by decide))
              refine wp_aload_n (pc := 157) 0 dX11_readHears_157 rfl rfl ?_
              refine wp_geti (pc := 158) dX11_readHears_158 rfl f_X11_185 kd_111 la_111 (Or.inl rfl) ?_
              refine wp_eqst (st' := [vI 0]) (by rw [hB.2.2.2.1.1]) ?_
              refine wp_if_ne (pc := 161) 176 dX11_readHears_161 (by decide) (by decide) (fun hh => absurd hh (by decide)) (fun _ => ?_)
              refine wp_aload_n (pc := 164) 0 dX11_readHears_164 rfl rfl ?_
              refine wp_callV (pc := 165) (st := []) (nf' := 153) [] [some (vR 111), none, none] dX11_readHears_165 rfl c_X11_311 rfl kd_111 (by decide) rfl la_111 rfl (Nat.le_of_ble_eq_true rfl) rfl (Nat.le_of_ble_eq_true rfl) (by omega) (Nat.le_refl _) (Nat.le_refl _) ?_
              refine rs_hasBracket hY hS (by omega) (by omega) (fun h_12 => ?_) (fun h_12 => ?_)
              · refine wp_eqst (st' := [vI 1]) rfl ?_
                refine wp_if_eq (pc := 168) 176 dX11_readHears_168 (by decide) (by decide) (fun hh => absurd hh (by decide)) (fun _ => ?_)
                refine wp_aload_n (pc := 171) 0 dX11_readHears_171 rfl rfl ?_
                refine wp_iconst (pc := 172) dX11_readHears_172 ?_
                refine wp_callV (pc := 173) (st := []) (nf' := 153) [vI 2] [some (vR 111), some (vI 2)] dX11_readHears_173 rfl c_X11_238 rfl kd_111 (by decide) rfl la_111 rfl (Nat.le_of_ble_eq_true rfl) rfl (Nat.le_of_ble_eq_true rfl) (by omega) (Nat.le_refl _) (Nat.le_refl _) ?_
                have yY23 : YM (I) st out un dp := hY
                have yB23 : RB0 (I) (L) b g n c := hB
                have yF23 : Fyd I0 (I) := hFy
                refine rs_wrong yB23.2.2.1 yB23.2.2.2.1.1 (by decide) (by omega) ?_
                refine wp_gen (fun J => Fe (I) J ∧ RE J (bad b c 2)) ⟨Fe.bad, RD.bad (by decide)⟩ (fun J23 hJ23 => ?_)
                have x2_23 : J23 111 2 = (bad b c 2).1 := hJ23.2.1
                have xp_23 : 0 < (bad b c 2).1 ∧ (bad b c 2).1 ≤ 5 := hJ23.2.2.2
                have jY23 := yY23.e hJ23.1
                refine wp_eqst (st' := []) rfl ?_
                refine wp_aload_n (pc := 176) 0 dX11_readHears_176 rfl rfl ?_
                refine wp_geti (pc := 177) dX11_readHears_177 rfl f_X11_185 kd_111 la_111 (Or.inl rfl) ?_
                refine wp_eqst (st' := [vI ((bad b c 2).1)]) (by rw [x2_23]) ?_
                refine wp_if_ne (pc := 180) 188 dX11_readHears_180 (by decide) (by omega) (fun _ => ?_) (fun hh => absurd hh (by omega))
                refine wp_vret (pc := 188) dX11_readHears_188 rfl rfl ?_
                exfalso; omega
              · refine wp_eqst (st' := [vI 0]) rfl ?_
                refine wp_if_eq (pc := 168) 176 dX11_readHears_168 (by decide) (by decide) (fun _ => ?_) (fun hh => absurd hh (by decide))
                refine wp_aload_n (pc := 176) 0 dX11_readHears_176 rfl rfl ?_
                refine wp_geti (pc := 177) dX11_readHears_177 rfl f_X11_185 kd_111 la_111 (Or.inl rfl) ?_
                refine wp_eqst (st' := [vI 0]) (by rw [hB.2.2.2.1.1]) ?_
                refine wp_if_ne (pc := 180) 188 dX11_readHears_180 (by decide) (by decide) (fun hh => absurd hh (by decide)) (fun _ => ?_)
                refine wp_aload_n (pc := 183) 0 dX11_readHears_183 rfl rfl ?_
                refine wp_iconst (pc := 184) dX11_readHears_184 ?_
                refine wp_callV (pc := 185) (st := []) (nf' := 153) [vI 0] [some (vR 111), some (vI 0)] dX11_readHears_185 rfl c_X11_314 rfl kd_111 (by decide) rfl la_111 rfl (Nat.le_of_ble_eq_true rfl) rfl (Nat.le_of_ble_eq_true rfl) (by omega) (Nat.le_refl _) (Nat.le_refl _) ?_
                exfalso; omega
            · refine wp_eqst (st' := [vI 0]) rfl ?_
              refine wp_if_ne (pc := 110) 152 dX11_readHears_110 (by decide) (by decide) (fun hh => absurd hh (by decide)) (fun _ => ?_)
              refine wp_aload_n (pc := 113) 0 dX11_readHears_113 rfl rfl ?_
              refine wp_iload_n (pc := 114) 2 dX11_readHears_114 rfl rfl ?_
              refine wp_callS (pc := 115) (st := [vR 111]) (nf' := 153) [vI (sg b c)] [some (vI (sg b c))] dX11_readHears_115 rfl c_X11_273 rfl rfl (Nat.le_of_ble_eq_true rfl) rfl (Nat.le_of_ble_eq_true rfl) (by omega) (Nat.le_refl _) (Nat.le_refl _) ?_
              refine rs_tight (by omega) (by omega) ?_
              have tg24 := tgt_in (sg b c)
              refine wp_eqst (st' := [vI ((tgt (sg b c) : Nat) : Int), vR 111]) rfl ?_
              refine wp_callV (pc := 118) (st := []) (nf' := 153) [vI ((tgt (sg b c) : Nat) : Int)] [some (vR 111), some (vI ((tgt (sg b c) : Nat) : Int))] dX11_readHears_118 rfl c_X11_314 rfl kd_111 (by decide) rfl la_111 rfl (Nat.le_of_ble_eq_true rfl) rfl (Nat.le_of_ble_eq_true rfl) (by omega) (Nat.le_refl _) (Nat.le_refl _) ?_
              exfalso; omega
