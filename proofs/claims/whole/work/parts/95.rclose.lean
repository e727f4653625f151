/-! close, and what else asks the open signs -/
theorem lp_rclose {l : Launch} {G : mG} {d : Nat} {L : Nat → Nat → Int} {D : Nat → Nat} {Q : mQ} {I0 : mI} {un k : Nat} (hk9 : k ≤ 9) (hd : 1 ≤ d) : ∀ st : List Int, ∀ (out : List Int) (dp : Nat) (I : mI), YM I st out un dp → (∀ s ∈ st, isSn s) → cn st ≤ dp → out.length + st.length ≤ 300 → st.length ≤ 150 → Fq I0 I → (∀ J, Fq I0 J → YM J (cls k st out dp).1 (cls k st out dp).2.1 un (cls k st out dp).2.2 → Q none J (XX L D)) → WP l G m_X11_close d 153 I (XX L D) 0 [some (vR 111), some (vI (k : Int))] [] Q
  | [] => by
    intro out dp I hY hS hc hb hb2 hF hQ
    have h19 : I 111 19 = 0 := hY.1.1
    refine wp_aload_n (pc := 0) 0 dX11_close_0 rfl rfl ?_
    refine wp_geti (pc := 1) dX11_close_1 rfl f_X11_270 kd_111 la_111 (Or.inl rfl) ?_
    refine wp_eqst (st' := [vI 0]) (by rw [h19]) ?_
    refine wp_if_le (pc := 4) 101 dX11_close_4 (by decide) (by decide) (fun _ => ?_) (fun hh => absurd hh (by decide))
    refine wp_vret (pc := 101) dX11_close_101 rfl rfl ?_
    exact hQ I hF hY
  | s :: st => by
    intro out dp I hY hS hc hb hb2 hF hQ
    have h19 : I 111 19 = ((st.length + 1 : Nat) : Int) := hY.1.1
    have ht : I 118 (st.length + 1 - 1) = s := hY.top
    have h23 := hY.2.2.2
    have hs : isSn s := hS s List.mem_cons_self
    have hs_ := hs
    unfold isSn at hs_
    have hl : (s :: st).length = st.length + 1 := rfl
    have hc2 : (if s = 20 ∨ s = 21 then 1 else 0) + cn st ≤ dp := hc
    refine wp_aload_n (pc := 0) 0 dX11_close_0 rfl rfl ?_
    refine wp_geti (pc := 1) dX11_close_1 rfl f_X11_270 kd_111 la_111 (Or.inl rfl) ?_
    refine wp_eqst (st' := [vI ((st.length + 1 : Nat) : Int)]) (by rw [h19]) ?_
    refine wp_if_le (pc := 4) 101 dX11_close_4 (by decide) (by omega) (fun h_1 => ?_) (fun h_1 => ?_)
    · refine wp_vret (pc := 101) dX11_close_101 rfl rfl ?_
      rw [show cls k (s :: st) out dp = (s :: st, out, dp) from if_neg (fun z => by omega)] at hQ; exact hQ I hF hY
    · refine wp_aload_n (pc := 7) 0 dX11_close_7 rfl rfl ?_
      refine wp_getr (pc := 8) dX11_close_8 rfl f_X11_33 kd_111 la_111 rfl (r_111_15 D) ?_
      refine wp_aload_n (pc := 11) 0 dX11_close_11 rfl rfl ?_
      refine wp_geti (pc := 12) dX11_close_12 rfl f_X11_270 kd_111 la_111 (Or.inl rfl) ?_
      refine wp_eqst (st' := [vI ((st.length + 1 : Nat) : Int), vR 118]) (by rw [h19]) ?_
      refine wp_iconst (pc := 15) dX11_close_15 ?_
      refine wp_isub (pc := 16) dX11_close_16 ?_
      refine wq_iald (pc := 17) ((st.length + 1) - 1) dX11_close_17 kd_118 la_118 (by omega) (by omega) ?_
      refine wp_eqst (st' := [vI s]) (by rw [ht]) ?_
      refine wp_bipush (pc := 18) dX11_close_18 (by decide) ?_
      refine wp_icmp_eq (pc := 20) 101 dX11_close_20 (by decide) (by omega) (by decide) (fun h_2 => ?_) (fun h_2 => ?_)
      · refine wp_vret (pc := 101) dX11_close_101 rfl rfl ?_
        rw [show cls k (s :: st) out dp = (s :: st, out, dp) from if_neg (fun z => by omega)] at hQ; exact hQ I hF hY
      · refine wp_aload_n (pc := 23) 0 dX11_close_23 rfl rfl ?_
        refine wp_getr (pc := 24) dX11_close_24 rfl f_X11_33 kd_111 la_111 rfl (r_111_15 D) ?_
        refine wp_aload_n (pc := 27) 0 dX11_close_27 rfl rfl ?_
        refine wp_geti (pc := 28) dX11_close_28 rfl f_X11_270 kd_111 la_111 (Or.inl rfl) ?_
        refine wp_eqst (st' := [vI ((st.length + 1 : Nat) : Int), vR 118]) (by rw [h19]) ?_
        refine wp_iconst (pc := 31) dX11_close_31 ?_
        refine wp_isub (pc := 32) dX11_close_32 ?_
        refine wq_iald (pc := 33) ((st.length + 1) - 1) dX11_close_33 kd_118 la_118 (by omega) (by omega) ?_
        refine wp_eqst (st' := [vI s]) (by rw [ht]) ?_
        refine wp_callS (pc := 34) (st := []) (nf' := 153) [vI s] [some (vI s)] dX11_close_34 rfl c_X11_273 rfl rfl (Nat.le_of_ble_eq_true rfl) rfl (Nat.le_of_ble_eq_true rfl) (by omega) (Nat.le_refl _) (Nat.le_refl _) ?_
        refine rs_tight (by omega) (by omega) ?_
        have tg1 := tgt_in s
        refine wp_eqst (st' := [vI ((tgt s : Nat) : Int)]) rfl ?_
        refine wp_iload_n (pc := 37) 1 dX11_close_37 rfl rfl ?_
        refine wp_icmp_lt (pc := 38) 101 dX11_close_38 (by decide) (by omega) (by omega) (fun h_3 => ?_) (fun h_3 => ?_)
        · refine wp_vret (pc := 101) dX11_close_101 rfl rfl ?_
          rw [show cls k (s :: st) out dp = (s :: st, out, dp) from if_neg (fun z => by omega)] at hQ; exact hQ I hF hY
        · refine wp_aload_n (pc := 41) 0 dX11_close_41 rfl rfl ?_
          refine wp_dup (pc := 42) dX11_close_42 rfl ?_
          refine wp_geti (pc := 43) dX11_close_43 rfl f_X11_270 kd_111 la_111 (Or.inl rfl) ?_
          refine wp_eqst (st' := [vI ((st.length + 1 : Nat) : Int), vR 111]) (by rw [h19]) ?_
          refine wp_iconst (pc := 46) dX11_close_46 ?_
          refine wp_isub (pc := 47) dX11_close_47 ?_
          refine wp_puti (pc := 48) dX11_close_48 rfl f_X11_270 kd_111 la_111 (fun _ h => by cases h; rfl) rfl ?_
          refine wp_gen (fun J => Fq I0 J ∧ YM J st out un dp ∧ J 118 st.length = s) ⟨hF.wr (by omega), by rw [show ((st.length + 1 : Nat) : Int) - 1 = ((st.length : Nat) : Int) by omega]; exact hY.pop, (up_c (by decide)).trans hY.top⟩ (fun J1 hJ1 => ?_)
          have j19 := hJ1.2.1.1.1
          have j23 := hJ1.2.1.2.2.2
          have j18 := hJ1.2.2
          rw [show cls k (s :: st) out dp = cls k st (opc s :: out) (if s = 21 then dp - 1 else dp) from if_pos (by omega)] at hQ
          refine wp_aload_n (pc := 51) 0 dX11_close_51 rfl rfl ?_
          refine wp_getr (pc := 52) dX11_close_52 rfl f_X11_33 kd_111 la_111 rfl (r_111_15 D) ?_
          refine wp_aload_n (pc := 55) 0 dX11_close_55 rfl rfl ?_
          refine wp_geti (pc := 56) dX11_close_56 rfl f_X11_270 kd_111 la_111 (Or.inl rfl) ?_
          refine wp_eqst (st' := [vI ((st.length : Nat) : Int), vR 118]) (by rw [j19]) ?_
          refine wq_iald (pc := 59) st.length dX11_close_59 kd_118 la_118 rfl (by omega) ?_
          refine wp_eqst (st' := [vI s]) (by rw [j18]) ?_
          refine wp_bipush (pc := 60) dX11_close_60 (by decide) ?_
          refine wp_icmp_ne (pc := 62) 84 dX11_close_62 (by decide) (by omega) (by decide) (fun h_4 => ?_) (fun h_4 => ?_)
          · refine wp_aload_n (pc := 84) 0 dX11_close_84 rfl rfl ?_
            refine wp_iconst (pc := 85) dX11_close_85 ?_
            refine wp_aload_n (pc := 86) 0 dX11_close_86 rfl rfl ?_
            refine wp_getr (pc := 87) dX11_close_87 rfl f_X11_33 kd_111 la_111 rfl (r_111_15 D) ?_
            refine wp_aload_n (pc := 90) 0 dX11_close_90 rfl rfl ?_
            refine wp_geti (pc := 91) dX11_close_91 rfl f_X11_270 kd_111 la_111 (Or.inl rfl) ?_
            refine wp_eqst (st' := [vI ((st.length : Nat) : Int), vR 118, vI 3, vR 111]) (by rw [j19]) ?_
            refine wq_iald (pc := 94) st.length dX11_close_94 kd_118 la_118 rfl (by omega) ?_
            refine wp_eqst (st' := [vI s, vI 3, vR 111]) (by rw [j18]) ?_
            refine wp_callV (pc := 95) (st := []) (nf' := 153) [vI 3, vI s] [some (vR 111), some (vI 3), some (vI s)] dX11_close_95 rfl c_X11_276 rfl kd_111 (by decide) rfl la_111 rfl (Nat.le_of_ble_eq_true rfl) rfl (Nat.le_of_ble_eq_true rfl) (by omega) (Nat.le_refl _) (Nat.le_refl _) ?_
            refine rs_add hJ1.2.1 (by omega) (by omega) ?_
            refine wp_eqst (st' := []) rfl ?_
            refine wp_goto (pc := 98) 0 dX11_close_98 (by decide) ?_
            rw [if_neg (by omega)] at hQ
            exact lp_rclose hk9 hd st _ _ _ (hJ1.2.1.add (opc_R hs (by omega) (by omega))) (fun x hx => hS x (List.mem_cons_of_mem _ hx)) (by omega) (by rw [List.length_cons]; omega) (by omega) (((hJ1.1.wr (by omega)).wr (by omega)).wr (by omega)) hQ
          · refine wp_aload_n (pc := 65) 0 dX11_close_65 rfl rfl ?_
            refine wp_iconst (pc := 66) dX11_close_66 ?_
            refine wp_iconst (pc := 67) dX11_close_67 ?_
            refine wp_callV (pc := 68) (st := []) (nf' := 153) [vI 2, vI 0] [some (vR 111), some (vI 2), some (vI 0)] dX11_close_68 rfl c_X11_276 rfl kd_111 (by decide) rfl la_111 rfl (Nat.le_of_ble_eq_true rfl) rfl (Nat.le_of_ble_eq_true rfl) (by omega) (Nat.le_refl _) (Nat.le_refl _) ?_
            refine rs_add hJ1.2.1 (by omega) (by omega) ?_
            refine wp_eqst (st' := []) rfl ?_
            refine wp_aload_n (pc := 71) 0 dX11_close_71 rfl rfl ?_
            refine wp_dup (pc := 72) dX11_close_72 rfl ?_
            refine wp_geti (pc := 73) dX11_close_73 rfl f_X11_280 kd_111 la_111 (Or.inl rfl) ?_
            refine wp_eqst (st' := [vI ((dp : Nat) : Int), vR 111]) (by rw [up_j (by omega), up_c (by omega), up_c (by omega), j23]) ?_
            refine wp_iconst (pc := 76) dX11_close_76 ?_
            refine wp_isub (pc := 77) dX11_close_77 ?_
            refine wp_puti (pc := 78) dX11_close_78 rfl f_X11_280 kd_111 la_111 (fun _ h => by cases h; rfl) rfl ?_
            have h21 : s = 21 := by omega
            rw [if_pos (Or.inr h21)] at hc2
            refine wp_gen (fun J => Fq I0 J ∧ YM J st (opc s :: out) un (dp - 1)) ⟨(((hJ1.1.wr (by omega)).wr (by omega)).wr (by omega)).wr (by omega), ?_⟩ (fun J2 hJ2 => ?_)
            · rw [show ((dp : Nat) : Int) - 1 = ((dp - 1 : Nat) : Int) by omega]; exact (hJ1.2.1.add (by rw [h21]; exact Or.inr (Or.inr (Or.inl ⟨rfl, rfl⟩)))).deep
            refine wp_goto (pc := 81) 0 dX11_close_81 (by decide) ?_
            rw [if_pos h21] at hQ
            exact lp_rclose hk9 hd st _ _ J2 hJ2.2 (fun x hx => hS x (List.mem_cons_of_mem _ hx)) (by omega) (by rw [List.length_cons]; omega) (by omega) hJ2.1 hQ

def hbN (st : List Int) : Nat → Int
  | 0 => 0
  | i + 1 => if hbN st i = 1 ∨ oat st i = 20 then 1 else 0
theorem hbN_in (st : List Int) : ∀ i, 0 ≤ hbN st i ∧ hbN st i ≤ 1
  | 0 => (by decide : (0 : Int) ≤ 0 ∧ (0 : Int) ≤ 1)
  | i + 1 => by rw [hbN]; split <;> decide
theorem hbN_low {x : Int} {xs : List Int} : ∀ i, i ≤ xs.length → hbN (x :: xs) i = hbN xs i
  | 0, _ => rfl
  | i + 1, h => by rw [hbN, hbN, hbN_low i (by omega), oat_low (by omega)]
theorem hbN_all : ∀ st : List Int, hbN st st.length = if hasB st = true then 1 else 0
  | [] => rfl
  | x :: xs => by
    show hbN (x :: xs) (xs.length + 1) = _
    rw [hbN, hbN_low xs.length (Nat.le_refl _), hbN_all xs, oat_top]
    show _ = if (x == 20 || hasB xs) = true then 1 else 0
    by_cases h : hasB xs = true
    · rw [if_pos h, if_pos (Or.inl rfl), if_pos (by rw [h, Bool.or_true])]
    · rw [if_neg h]
      by_cases e : x = 20
      · rw [if_pos (Or.inr e), if_pos (by rw [Bool.or_eq_true, beq_iff_eq]; exact Or.inl e)]
      · rw [if_neg (by omega), if_neg (by rw [Bool.or_eq_true, beq_iff_eq]; rintro (z | z); exact e z; exact h z)]

theorem oat_mem : ∀ (st : List Int) (k : Nat), k < st.length → oat st k ∈ st
  | x :: xs, k, h => by
    by_cases e : k = xs.length
    · rw [e, oat_top]; exact List.mem_cons_self
    · rw [oat_low (by rw [List.length_cons] at h; omega)]; exact List.mem_cons_of_mem _ (oat_mem xs k (by rw [List.length_cons] at h; omega))

theorem lp_rhb {l : Launch} {G : mG} {d : Nat} {I : mI} {L : Nat → Nat → Int} {D : Nat → Nat} {Q : mQ} {st out : List Int} {un dp : Nat} (hY : YM I st out un dp) (hS : ∀ s ∈ st, isSn s) (hl9 : st.length ≤ 150) (hd : 0 ≤ d) (hQ : Q (some (vI (hbN st st.length))) I (XX L D)) : ∀ i : Nat, i ≤ st.length → WP l G m_X11_hasBracket d 153 I (XX L D) 4 [some (vR 111), some (vI (hbN st i)), some (vI (i : Int))] [] Q := by
  have hz9 := hbN_in st st.length
  refine loop_dn (fun i => WP l G m_X11_hasBracket d 153 I (XX L D) 4 [some (vR 111), some (vI (hbN st i)), some (vI (i : Int))] [] Q) st.length ?_ (fun i hi ih => ?_)
  · refine wp_iload_n (pc := 4) 2 dX11_hasBracket_4 rfl rfl ?_
    refine wp_aload_n (pc := 5) 0 dX11_hasBracket_5 rfl rfl ?_
    refine wp_geti (pc := 6) dX11_hasBracket_6 rfl f_X11_270 kd_111 la_111 (Or.inl rfl) ?_
    refine wp_eqst (st' := [vI ((st.length : Nat) : Int), vI ((st.length : Nat) : Int)]) (by rw [hY.1.1]) ?_
    refine wp_icmp_ge (pc := 9) 39 dX11_hasBracket_9 (by decide) (by omega) (by omega) (fun h_1 => ?_) (fun h_1 => ?_)
    · refine wp_iload_n (pc := 39) 1 dX11_hasBracket_39 rfl rfl ?_
      refine wp_zret (pc := 40) dX11_hasBracket_40 rfl rfl (by omega) ?_
      exact hQ
    · exfalso; omega
  · have hz1 := hbN_in st i
    have hs := hS _ (oat_mem st i hi)
    unfold isSn at hs
    refine wp_iload_n (pc := 4) 2 dX11_hasBracket_4 rfl rfl ?_
    refine wp_aload_n (pc := 5) 0 dX11_hasBracket_5 rfl rfl ?_
    refine wp_geti (pc := 6) dX11_hasBracket_6 rfl f_X11_270 kd_111 la_111 (Or.inl rfl) ?_
    refine wp_eqst (st' := [vI ((st.length : Nat) : Int), vI (i : Int)]) (by rw [hY.1.1]) ?_
    refine wp_icmp_ge (pc := 9) 39 dX11_hasBracket_9 (by decide) (by omega) (by omega) (fun h_1 => ?_) (fun h_1 => ?_)
    · exfalso; omega
    · refine wp_iload_n (pc := 12) 1 dX11_hasBracket_12 rfl rfl ?_
      refine wp_if_ne (pc := 13) 27 dX11_hasBracket_13 (by decide) (by omega) (fun h_2 => ?_) (fun h_2 => ?_)
      · refine wp_iconst (pc := 27) dX11_hasBracket_27 ?_
        refine wp_goto (pc := 28) 32 dX11_hasBracket_28 (by decide) ?_
        refine wq_istore_n (pc := 32) 1 [some (vR 111), some (vI 1), some (vI (i : Int))] dX11_hasBracket_32 rfl rfl (by decide) rfl ?_
        refine wq_iinc (pc := 33) [some (vR 111), some (vI 1), some (vI ((i : Int) + 1))] dX11_hasBracket_33 rfl rfl (by decide) rfl ?_
        refine wp_goto (pc := 36) 4 dX11_hasBracket_36 (by decide) ?_
        refine wp_eqls (ls' := [some (vR 111), some (vI (hbN st (i + 1))), some (vI ((i + 1 : Nat) : Int))]) (by rw [show hbN st (i + 1) = 1 from if_pos (by omega)] <;> rfl) ih
      · refine wp_aload_n (pc := 16) 0 dX11_hasBracket_16 rfl rfl ?_
        refine wp_getr (pc := 17) dX11_hasBracket_17 rfl f_X11_33 kd_111 la_111 rfl (r_111_15 D) ?_
        refine wp_iload_n (pc := 20) 2 dX11_hasBracket_20 rfl rfl ?_
        refine wq_iald (pc := 21) i dX11_hasBracket_21 kd_118 la_118 rfl (by omega) ?_
        refine wp_eqst (st' := [vI (oat st i)]) (by rw [hY.1.2 i hi]) ?_
        refine wp_bipush (pc := 22) dX11_hasBracket_22 (by decide) ?_
        refine wp_icmp_ne (pc := 24) 31 dX11_hasBracket_24 (by decide) (by omega) (by decide) (fun h_3 => ?_) (fun h_3 => ?_)
        · refine wp_iconst (pc := 31) dX11_hasBracket_31 ?_
          refine wq_istore_n (pc := 32) 1 [some (vR 111), some (vI 0), some (vI (i : Int))] dX11_hasBracket_32 rfl rfl (by decide) rfl ?_
          refine wq_iinc (pc := 33) [some (vR 111), some (vI 0), some (vI ((i : Int) + 1))] dX11_hasBracket_33 rfl rfl (by decide) rfl ?_
          refine wp_goto (pc := 36) 4 dX11_hasBracket_36 (by decide) ?_
          refine wp_eqls (ls' := [some (vR 111), some (vI (hbN st (i + 1))), some (vI ((i + 1 : Nat) : Int))]) (by rw [show hbN st (i + 1) = 0 from if_neg (by omega)] <;> rfl) ih
        · refine wp_iconst (pc := 27) dX11_hasBracket_27 ?_
          refine wp_goto (pc := 28) 32 dX11_hasBracket_28 (by decide) ?_
          refine wq_istore_n (pc := 32) 1 [some (vR 111), some (vI 1), some (vI (i : Int))] dX11_hasBracket_32 rfl rfl (by decide) rfl ?_
          refine wq_iinc (pc := 33) [some (vR 111), some (vI 1), some (vI ((i : Int) + 1))] dX11_hasBracket_33 rfl rfl (by decide) rfl ?_
          refine wp_goto (pc := 36) 4 dX11_hasBracket_36 (by decide) ?_
          refine wp_eqls (ls' := [some (vR 111), some (vI (hbN st (i + 1))), some (vI ((i + 1 : Nat) : Int))]) (by rw [show hbN st (i + 1) = 1 from if_pos (by omega)] <;> rfl) ih

theorem rs_hasBracket {l : Launch} {G : mG} {d : Nat} {I : mI} {L : Nat → Nat → Int} {D : Nat → Nat} {Q : mQ} {st out : List Int} {un dp : Nat} (hY : YM I st out un dp) (hS : ∀ s ∈ st, isSn s) (hl9 : st.length ≤ 150) (hd : 0 ≤ d) (h1 : hasB st = true → Q (some (vI 1)) I (XX L D)) (h0 : ¬ (hasB st = true) → Q (some (vI 0)) I (XX L D)) : WP l G m_X11_hasBracket d 153 I (XX L D) 0 [some (vR 111), none, none] [] Q := by
  refine wp_iconst (pc := 0) dX11_hasBracket_0 ?_
  refine wq_istore_n (pc := 1) 1 [some (vR 111), some (vI 0), none] dX11_hasBracket_1 rfl rfl (by decide) rfl ?_
  refine wp_iconst (pc := 2) dX11_hasBracket_2 ?_
  refine wq_istore_n (pc := 3) 2 [some (vR 111), some (vI 0), some (vI 0)] dX11_hasBracket_3 rfl rfl (by decide) rfl ?_
  refine lp_rhb hY hS hl9 hd ?_ 0 (Nat.zero_le _)
  rw [hbN_all]
  by_cases z : hasB st = true
  · rw [if_pos z]; exact h1 z
  · rw [if_neg z]; exact h0 z

theorem lp_rhr {l : Launch} {G : mG} {d : Nat} {I : mI} {L : Nat → Nat → Int} {D : Nat → Nat} {Q : mQ} (hd : 1 ≤ d) : ∀ st : List Int, (∀ k, k < st.length → I 118 k = oat st k) → (∀ s ∈ st, isSn s) → st.length ≤ 150 → (hasR st = true → Q (some (vI 1)) I (XX L D)) → (¬ hasR st = true → Q (some (vI 0)) I (XX L D)) → WP l G m_X11_hasRelation d 153 I (XX L D) 7 [some (vR 111), some (vI (((st.length : Nat) : Int) - 1))] [] Q
  | [] => by
    intro hY hS hb h1 h0
    refine wp_eqls (ls' := [some (vR 111), some (vI (-1))]) rfl ?_
    refine wp_iload_n (pc := 7) 1 dX11_hasRelation_7 rfl rfl ?_
    refine wp_if_lt (pc := 8) 41 dX11_hasRelation_8 (by decide) (by decide) (fun _ => ?_) (fun hh => absurd hh (by decide))
    refine wp_iload_n (pc := 41) 1 dX11_hasRelation_41 rfl rfl ?_
    refine wp_if_lt (pc := 42) 73 dX11_hasRelation_42 (by decide) (by decide) (fun _ => ?_) (fun hh => absurd hh (by decide))
    refine wp_iconst (pc := 73) dX11_hasRelation_73 ?_
    refine wp_zret (pc := 74) dX11_hasRelation_74 rfl rfl (by decide) ?_
    exact h0 (by decide)
  | s :: st => by
    intro hY hS hb h1 h0
    have hs := hS s List.mem_cons_self
    unfold isSn at hs
    have ht : I 118 st.length = s := (hY st.length (by rw [List.length_cons]; omega)).trans oat_top
    have hl : (s :: st).length = st.length + 1 := rfl
    have he : hasR (s :: st) = (if s = 20 then false else if 4 < tgt s then hasR st else tgt s == 4) := rfl
    refine wp_eqls (ls' := [some (vR 111), some (vI ((st.length : Nat) : Int))]) (by rw [hl, show ((st.length + 1 : Nat) : Int) - 1 = ((st.length : Nat) : Int) by omega]) ?_
    refine wp_iload_n (pc := 7) 1 dX11_hasRelation_7 rfl rfl ?_
    refine wp_if_lt (pc := 8) 41 dX11_hasRelation_8 (by decide) (by omega) (fun h_1 => ?_) (fun h_1 => ?_)
    · refine wp_iload_n (pc := 41) 1 dX11_hasRelation_41 rfl rfl ?_
      refine wp_if_lt (pc := 42) 73 dX11_hasRelation_42 (by decide) (by omega) (fun h_2 => ?_) (fun h_2 => ?_)
      · refine wp_iconst (pc := 73) dX11_hasRelation_73 ?_
        refine wp_zret (pc := 74) dX11_hasRelation_74 rfl rfl (by decide) ?_
        first | (exfalso; omega) | exact h0 (by rw [he, if_pos (by omega)]; decide) | exact h0 (by rw [he, if_neg (by omega), if_neg (by omega), beq_iff_eq]; omega)
      · refine wp_aload_n (pc := 45) 0 dX11_hasRelation_45 rfl rfl ?_
        refine wp_getr (pc := 46) dX11_hasRelation_46 rfl f_X11_33 kd_111 la_111 rfl (r_111_15 D) ?_
        refine wp_iload_n (pc := 49) 1 dX11_hasRelation_49 rfl rfl ?_
        refine wq_iald (pc := 50) st.length dX11_hasRelation_50 kd_118 la_118 rfl (by omega) ?_
        refine wp_eqst (st' := [vI s]) (by rw [ht]) ?_
        refine wp_bipush (pc := 51) dX11_hasRelation_51 (by decide) ?_
        refine wp_icmp_eq (pc := 53) 73 dX11_hasRelation_53 (by decide) (by omega) (by decide) (fun h_3 => ?_) (fun h_3 => ?_)
        · refine wp_iconst (pc := 73) dX11_hasRelation_73 ?_
          refine wp_zret (pc := 74) dX11_hasRelation_74 rfl rfl (by decide) ?_
          first | (exfalso; omega) | exact h0 (by rw [he, if_pos (by omega)]; decide) | exact h0 (by rw [he, if_neg (by omega), if_neg (by omega), beq_iff_eq]; omega)
        · refine wp_aload_n (pc := 56) 0 dX11_hasRelation_56 rfl rfl ?_
          refine wp_getr (pc := 57) dX11_hasRelation_57 rfl f_X11_33 kd_111 la_111 rfl (r_111_15 D) ?_
          refine wp_iload_n (pc := 60) 1 dX11_hasRelation_60 rfl rfl ?_
          refine wq_iald (pc := 61) st.length dX11_hasRelation_61 kd_118 la_118 rfl (by omega) ?_
          refine wp_eqst (st' := [vI s]) (by rw [ht]) ?_
          refine wp_callS (pc := 62) (st := []) (nf' := 153) [vI s] [some (vI s)] dX11_hasRelation_62 rfl c_X11_273 rfl rfl (Nat.le_of_ble_eq_true rfl) rfl (Nat.le_of_ble_eq_true rfl) (by omega) (Nat.le_refl _) (Nat.le_refl _) ?_
          refine rs_tight (by omega) (by omega) ?_
          have tg1 := tgt_in s
          refine wp_eqst (st' := [vI ((tgt s : Nat) : Int)]) rfl ?_
          refine wp_iconst (pc := 65) dX11_hasRelation_65 ?_
          refine wp_icmp_ne (pc := 66) 73 dX11_hasRelation_66 (by decide) (by omega) (by decide) (fun h_4 => ?_) (fun h_4 => ?_)
          · refine wp_iconst (pc := 73) dX11_hasRelation_73 ?_
            refine wp_zret (pc := 74) dX11_hasRelation_74 rfl rfl (by decide) ?_
            first | (exfalso; omega) | exact h0 (by rw [he, if_pos (by omega)]; decide) | exact h0 (by rw [he, if_neg (by omega), if_neg (by omega), beq_iff_eq]; omega)
          · refine wp_iconst (pc := 69) dX11_hasRelation_69 ?_
            refine wp_goto (pc := 70) 74 dX11_hasRelation_70 (by decide) ?_
            refine wp_zret (pc := 74) dX11_hasRelation_74 rfl rfl (by decide) ?_
            exact h1 (by rw [he, if_neg (by omega), if_neg (by omega), beq_iff_eq]; omega)
    · refine wp_aload_n (pc := 11) 0 dX11_hasRelation_11 rfl rfl ?_
      refine wp_getr (pc := 12) dX11_hasRelation_12 rfl f_X11_33 kd_111 la_111 rfl (r_111_15 D) ?_
      refine wp_iload_n (pc := 15) 1 dX11_hasRelation_15 rfl rfl ?_
      refine wq_iald (pc := 16) st.length dX11_hasRelation_16 kd_118 la_118 rfl (by omega) ?_
      refine wp_eqst (st' := [vI s]) (by rw [ht]) ?_
      refine wp_bipush (pc := 17) dX11_hasRelation_17 (by decide) ?_
      refine wp_icmp_eq (pc := 19) 41 dX11_hasRelation_19 (by decide) (by omega) (by decide) (fun h_5 => ?_) (fun h_5 => ?_)
      · refine wp_iload_n (pc := 41) 1 dX11_hasRelation_41 rfl rfl ?_
        refine wp_if_lt (pc := 42) 73 dX11_hasRelation_42 (by decide) (by omega) (fun h_6 => ?_) (fun h_6 => ?_)
        · refine wp_iconst (pc := 73) dX11_hasRelation_73 ?_
          refine wp_zret (pc := 74) dX11_hasRelation_74 rfl rfl (by decide) ?_
          first | (exfalso; omega) | exact h0 (by rw [he, if_pos (by omega)]; decide) | exact h0 (by rw [he, if_neg (by omega), if_neg (by omega), beq_iff_eq]; omega)
        · refine wp_aload_n (pc := 45) 0 dX11_hasRelation_45 rfl rfl ?_
          refine wp_getr (pc := 46) dX11_hasRelation_46 rfl f_X11_33 kd_111 la_111 rfl (r_111_15 D) ?_
          refine wp_iload_n (pc := 49) 1 dX11_hasRelation_49 rfl rfl ?_
          refine wq_iald (pc := 50) st.length dX11_hasRelation_50 kd_118 la_118 rfl (by omega) ?_
          refine wp_eqst (st' := [vI s]) (by rw [ht]) ?_
          refine wp_bipush (pc := 51) dX11_hasRelation_51 (by decide) ?_
          refine wp_icmp_eq (pc := 53) 73 dX11_hasRelation_53 (by decide) (by omega) (by decide) (fun h_7 => ?_) (fun h_7 => ?_)
          · refine wp_iconst (pc := 73) dX11_hasRelation_73 ?_
            refine wp_zret (pc := 74) dX11_hasRelation_74 rfl rfl (by decide) ?_
            first | (exfalso; omega) | exact h0 (by rw [he, if_pos (by omega)]; decide) | exact h0 (by rw [he, if_neg (by omega), if_neg (by omega), beq_iff_eq]; omega)
          · refine wp_aload_n (pc := 56) 0 dX11_hasRelation_56 rfl rfl ?_
            refine wp_getr (pc := 57) dX11_hasRelation_57 rfl f_X11_33 kd_111 la_111 rfl (r_111_15 D) ?_
            refine wp_iload_n (pc := 60) 1 dX11_hasRelation_60 rfl rfl ?_
            refine wq_iald (pc := 61) st.length dX11_hasRelation_61 kd_118 la_118 rfl (by omega) ?_
            refine wp_eqst (st' := [vI s]) (by rw [ht]) ?_
            refine wp_callS (pc := 62) (st := []) (nf' := 153) [vI s] [some (vI s)] dX11_hasRelation_62 rfl c_X11_273 rfl rfl (Nat.le_of_ble_eq_true rfl) rfl (Nat.le_of_ble_eq_true rfl) (by omega) (Nat.le_refl _) (Nat.le_refl _) ?_
            refine rs_tight (by omega) (by omega) ?_
            have tg2 := tgt_in s
            refine wp_eqst (st' := [vI ((tgt s : Nat) : Int)]) rfl ?_
            refine wp_iconst (pc := 65) dX11_hasRelation_65 ?_
            refine wp_icmp_ne (pc := 66) 73 dX11_hasRelation_66 (by decide) (by omega) (by decide) (fun h_8 => ?_) (fun h_8 => ?_)
            · refine wp_iconst (pc := 73) dX11_hasRelation_73 ?_
              refine wp_zret (pc := 74) dX11_hasRelation_74 rfl rfl (by decide) ?_
              first | (exfalso; omega) | exact h0 (by rw [he, if_pos (by omega)]; decide) | exact h0 (by rw [he, if_neg (by omega), if_neg (by omega), beq_iff_eq]; omega)
            · refine wp_iconst (pc := 69) dX11_hasRelation_69 ?_
              refine wp_goto (pc := 70) 74 dX11_hasRelation_70 (by decide) ?_
              refine wp_zret (pc := 74) dX11_hasRelation_74 rfl rfl (by decide) ?_
              exact h1 (by rw [he, if_neg (by omega), if_neg (by omega), beq_iff_eq]; omega)
      · refine wp_aload_n (pc := 22) 0 dX11_hasRelation_22 rfl rfl ?_
        refine wp_getr (pc := 23) dX11_hasRelation_23 rfl f_X11_33 kd_111 la_111 rfl (r_111_15 D) ?_
        refine wp_iload_n (pc := 26) 1 dX11_hasRelation_26 rfl rfl ?_
        refine wq_iald (pc := 27) st.length dX11_hasRelation_27 kd_118 la_118 rfl (by omega) ?_
        refine wp_eqst (st' := [vI s]) (by rw [ht]) ?_
        refine wp_callS (pc := 28) (st := []) (nf' := 153) [vI s] [some (vI s)] dX11_hasRelation_28 rfl c_X11_273 rfl rfl (Nat.le_of_ble_eq_true rfl) rfl (Nat.le_of_ble_eq_true rfl) (by omega) (Nat.le_refl _) (Nat.le_refl _) ?_
        refine rs_tight (by omega) (by omega) ?_
        have tg3 := tgt_in s
        refine wp_eqst (st' := [vI ((tgt s : Nat) : Int)]) rfl ?_
        refine wp_iconst (pc := 31) dX11_hasRelation_31 ?_
        refine wp_icmp_le (pc := 32) 41 dX11_hasRelation_32 (by decide) (by omega) (by decide) (fun h_9 => ?_) (fun h_9 => ?_)
        · refine wp_iload_n (pc := 41) 1 dX11_hasRelation_41 rfl rfl ?_
          refine wp_if_lt (pc := 42) 73 dX11_hasRelation_42 (by decide) (by omega) (fun h_10 => ?_) (fun h_10 => ?_)
          · refine wp_iconst (pc := 73) dX11_hasRelation_73 ?_
            refine wp_zret (pc := 74) dX11_hasRelation_74 rfl rfl (by decide) ?_
            first | (exfalso; omega) | exact h0 (by rw [he, if_pos (by omega)]; decide) | exact h0 (by rw [he, if_neg (by omega), if_neg (by omega), beq_iff_eq]; omega)
          · refine wp_aload_n (pc := 45) 0 dX11_hasRelation_45 rfl rfl ?_
            refine wp_getr (pc := 46) dX11_hasRelation_46 rfl f_X11_33 kd_111 la_111 rfl (r_111_15 D) ?_
            refine wp_iload_n (pc := 49) 1 dX11_hasRelation_49 rfl rfl ?_
            refine wq_iald (pc := 50) st.length dX11_hasRelation_50 kd_118 la_118 rfl (by omega) ?_
            refine wp_eqst (st' := [vI s]) (by rw [ht]) ?_
            refine wp_bipush (pc := 51) dX11_hasRelation_51 (by decide) ?_
            refine wp_icmp_eq (pc := 53) 73 dX11_hasRelation_53 (by decide) (by omega) (by decide) (fun h_11 => ?_) (fun h_11 => ?_)
            · refine wp_iconst (pc := 73) dX11_hasRelation_73 ?_
              refine wp_zret (pc := 74) dX11_hasRelation_74 rfl rfl (by decide) ?_
              first | (exfalso; omega) | exact h0 (by rw [he, if_pos (by omega)]; decide) | exact h0 (by rw [he, if_neg (by omega), if_neg (by omega), beq_iff_eq]; omega)
            · refine wp_aload_n (pc := 56) 0 dX11_hasRelation_56 rfl rfl ?_
              refine wp_getr (pc := 57) dX11_hasRelation_57 rfl f_X11_33 kd_111 la_111 rfl (r_111_15 D) ?_
              refine wp_iload_n (pc := 60) 1 dX11_hasRelation_60 rfl rfl ?_
              refine wq_iald (pc := 61) st.length dX11_hasRelation_61 kd_118 la_118 rfl (by omega) ?_
              refine wp_eqst (st' := [vI s]) (by rw [ht]) ?_
              refine wp_callS (pc := 62) (st := []) (nf' := 153) [vI s] [some (vI s)] dX11_hasRelation_62 rfl c_X11_273 rfl rfl (Nat.le_of_ble_eq_true rfl) rfl (Nat.le_of_ble_eq_true rfl) (by omega) (Nat.le_refl _) (Nat.le_refl _) ?_
              refine rs_tight (by omega) (by omega) ?_
              have tg4 := tgt_in s
              refine wp_eqst (st' := [vI ((tgt s : Nat) : Int)]) rfl ?_
              refine wp_iconst (pc := 65) dX11_hasRelation_65 ?_
              refine wp_icmp_ne (pc := 66) 73 dX11_hasRelation_66 (by decide) (by omega) (by decide) (fun h_12 => ?_) (fun h_12 => ?_)
              · refine wp_iconst (pc := 73) dX11_hasRelation_73 ?_
                refine wp_zret (pc := 74) dX11_hasRelation_74 rfl rfl (by decide) ?_
                first | (exfalso; omega) | exact h0 (by rw [he, if_pos (by omega)]; decide) | exact h0 (by rw [he, if_neg (by omega), if_neg (by omega), beq_iff_eq]; omega)
              · refine wp_iconst (pc := 69) dX11_hasRelation_69 ?_
                refine wp_goto (pc := 70) 74 dX11_hasRelation_70 (by decide) ?_
                refine wp_zret (pc := 74) dX11_hasRelation_74 rfl rfl (by decide) ?_
                exact h1 (by rw [he, if_neg (by omega), if_neg (by omega), beq_iff_eq]; omega)
        · refine wq_iinc (pc := 35) [some (vR 111), some (vI (((st.length : Nat) : Int) + (-1)))] dX11_hasRelation_35 rfl rfl (by decide) rfl ?_
          refine wp_goto (pc := 38) 7 dX11_hasRelation_38 (by decide) ?_
          rw [he, if_neg (by omega), if_pos (by omega)] at h1 h0
          refine wp_eqls (ls' := [some (vR 111), some (vI (((st.length : Nat) : Int) - 1))]) (by first | rfl | (rw [show ((st.length : Nat) : Int) + (-1) = ((st.length : Nat) : Int) - 1 by omega])) ?_
          exact lp_rhr hd st (fun k hk => (hY k (by rw [List.length_cons]; omega)).trans (oat_low hk)) (fun x hx => hS x (List.mem_cons_of_mem _ hx)) (by omega) h1 h0

theorem rs_hasRelation {l : Launch} {G : mG} {d : Nat} {I : mI} {L : Nat → Nat → Int} {D : Nat → Nat} {Q : mQ} {st out : List Int} {un dp : Nat} (hY : YM I st out un dp) (hS : ∀ s ∈ st, isSn s) (hl9 : st.length ≤ 150) (hd : 1 ≤ d) (h1 : hasR st = true → Q (some (vI 1)) I (XX L D)) (h0 : ¬ (hasR st = true) → Q (some (vI 0)) I (XX L D)) : WP l G m_X11_hasRelation d 153 I (XX L D) 0 [some (vR 111), none] [] Q := by
  refine wp_aload_n (pc := 0) 0 dX11_hasRelation_0 rfl rfl ?_
  refine wp_geti (pc := 1) dX11_hasRelation_1 rfl f_X11_270 kd_111 la_111 (Or.inl rfl) ?_
  refine wp_eqst (st' := [vI ((st.length : Nat) : Int)]) (by rw [hY.1.1]) ?_
  refine wp_iconst (pc := 4) dX11_hasRelation_4 ?_
  refine wp_isub (pc := 5) dX11_hasRelation_5 ?_
  refine wq_istore_n (pc := 6) 1 [some (vR 111), some (vI (((st.length : Nat) : Int) - 1))] dX11_hasRelation_6 rfl rfl (by decide) rfl ?_
  exact lp_rhr hd st hY.1.2 hS hl9 h1 h0
