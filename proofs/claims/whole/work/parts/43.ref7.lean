theorem rs_tell {l : Launch} {G : mG} {d : Nat} {I : mI} {L : Nat → Nat → Int} {D : Nat → Nat} {Q : mQ} {T : mT} {Z : mT} {so su dg bo : Int}  (hR : RT I T) (hw : tw T) (hZ : RZ I Z) (hz : zw Z) (hbo : bo = 0 ∨ bo = 1) (hd : 0 ≤ d) (h1 : Z 0 6 < 30 → ∀ J, Fy I J → RZ J (tellZ Z so su dg bo) → Q (some (vI (Z 0 6))) J (XX L D)) (h0 : ¬ (Z 0 6 < 30) → Q (some (vI (-1))) I (XX L D)) : WP l G m_X11_tell d 153 I (XX L D) 0 [some (vR 111), some (vI so), some (vI su), some (vI dg), some (vI bo)] [] Q := by
  have b_p := tw_p hw
  have b_q := tw_q hw
  have b_c := tw_c hw
  have eP : nP T = (T 0 12).toNat := rfl
  have eQ : nQ T = (T 0 13).toNat := rfl
  have eC : nC T = (T 0 11).toNat := rfl
  have z0 := hz.1
  have z7 := hz.2.1
  refine wp_aload_n (pc := 0) 0 dX11_tell_0 rfl rfl ?_
  refine wp_geti (pc := 1) dX11_tell_1 rfl f_X11_430 kd_111 la_111 (Or.inl rfl) ?_
  refine wp_eqst (st' := [vI (Z 0 6)]) (by rw [rz_n hZ]) ?_
  refine wp_bipush (pc := 4) dX11_tell_4 (by decide) ?_
  refine wp_icmp_ne (pc := 6) 11 dX11_tell_6 (by decide) (by omega) (by decide) (fun h_1 => ?_) (fun h_1 => ?_)
  · refine wp_aload_n (pc := 11) 0 dX11_tell_11 rfl rfl ?_
    refine wp_getr (pc := 12) dX11_tell_12 rfl f_X11_121 kd_111 la_111 rfl (r_111_71 D) ?_
    refine wp_aload_n (pc := 15) 0 dX11_tell_15 rfl rfl ?_
    refine wp_geti (pc := 16) dX11_tell_16 rfl f_X11_430 kd_111 la_111 (Or.inl rfl) ?_
    refine wp_eqst (st' := [vI (Z 0 6), vR 145]) (by rw [rz_n hZ]) ?_
    refine wp_iload_n (pc := 19) 1 dX11_tell_19 rfl rfl ?_
    refine wq_iast (pc := 20) (Int.toNat (Z 0 6)) dX11_tell_20 kd_145 la_145 (by omega) (by omega) ?_
    refine wp_aload_n (pc := 21) 0 dX11_tell_21 rfl rfl ?_
    refine wp_getr (pc := 22) dX11_tell_22 rfl f_X11_124 kd_111 la_111 rfl (r_111_72 D) ?_
    refine wp_aload_n (pc := 25) 0 dX11_tell_25 rfl rfl ?_
    refine wp_geti (pc := 26) dX11_tell_26 rfl f_X11_430 kd_111 la_111 (Or.inl rfl) ?_
    refine wp_eqst (st' := [vI (Z 0 6), vR 146]) (by rw [up_c (by omega), rz_n hZ]) ?_
    refine wp_iload_n (pc := 29) 2 dX11_tell_29 rfl rfl ?_
    refine wq_iast (pc := 30) (Int.toNat (Z 0 6)) dX11_tell_30 kd_146 la_146 (by omega) (by omega) ?_
    refine wp_aload_n (pc := 31) 0 dX11_tell_31 rfl rfl ?_
    refine wp_getr (pc := 32) dX11_tell_32 rfl f_X11_127 kd_111 la_111 rfl (r_111_73 D) ?_
    refine wp_aload_n (pc := 35) 0 dX11_tell_35 rfl rfl ?_
    refine wp_geti (pc := 36) dX11_tell_36 rfl f_X11_430 kd_111 la_111 (Or.inl rfl) ?_
    refine wp_eqst (st' := [vI (Z 0 6), vR 147]) (by rw [up_c (by omega), up_c (by omega), rz_n hZ]) ?_
    refine wp_iload_n (pc := 39) 3 dX11_tell_39 rfl rfl ?_
    refine wq_iast (pc := 40) (Int.toNat (Z 0 6)) dX11_tell_40 kd_147 la_147 (by omega) (by omega) ?_
    refine wp_aload_n (pc := 41) 0 dX11_tell_41 rfl rfl ?_
    refine wp_getr (pc := 42) dX11_tell_42 rfl f_X11_136 kd_111 la_111 rfl (r_111_76 D) ?_
    refine wp_aload_n (pc := 45) 0 dX11_tell_45 rfl rfl ?_
    refine wp_geti (pc := 46) dX11_tell_46 rfl f_X11_430 kd_111 la_111 (Or.inl rfl) ?_
    refine wp_eqst (st' := [vI (Z 0 6), vR 150]) (by rw [up_c (by omega), up_c (by omega), up_c (by omega), rz_n hZ]) ?_
    refine wp_iload (pc := 49) dX11_tell_49 rfl ?_
    refine wq_zast (pc := 51) (Int.toNat (Z 0 6)) dX11_tell_51 kd_150 la_150 (by omega) (by omega) (by omega) ?_
    refine wp_aload_n (pc := 52) 0 dX11_tell_52 rfl rfl ?_
    refine wp_getr (pc := 53) dX11_tell_53 rfl f_X11_130 kd_111 la_111 rfl (r_111_74 D) ?_
    refine wp_aload_n (pc := 56) 0 dX11_tell_56 rfl rfl ?_
    refine wp_geti (pc := 57) dX11_tell_57 rfl f_X11_430 kd_111 la_111 (Or.inl rfl) ?_
    refine wp_eqst (st' := [vI (Z 0 6), vR 148]) (by rw [up_c (by omega), up_c (by omega), up_c (by omega), up_c (by omega), rz_n hZ]) ?_
    refine wp_aload_n (pc := 60) 0 dX11_tell_60 rfl rfl ?_
    refine wp_geti (pc := 61) dX11_tell_61 rfl f_X11_567 kd_111 la_111 (Or.inl rfl) ?_
    refine wp_eqst (st' := [vI (Z 0 7), vI (Z 0 6), vR 148]) (by rw [up_c (by omega), up_c (by omega), up_c (by omega), up_c (by omega), rz_t hZ]) ?_
    refine wq_iast (pc := 64) (Int.toNat (Z 0 6)) dX11_tell_64 kd_148 la_148 (by omega) (by omega) ?_
    refine wp_aload_n (pc := 65) 0 dX11_tell_65 rfl rfl ?_
    refine wp_getr (pc := 66) dX11_tell_66 rfl f_X11_133 kd_111 la_111 rfl (r_111_75 D) ?_
    refine wp_aload_n (pc := 69) 0 dX11_tell_69 rfl rfl ?_
    refine wp_geti (pc := 70) dX11_tell_70 rfl f_X11_430 kd_111 la_111 (Or.inl rfl) ?_
    refine wp_eqst (st' := [vI (Z 0 6), vR 149]) (by rw [up_c (by omega), up_c (by omega), up_c (by omega), up_c (by omega), up_c (by omega), rz_n hZ]) ?_
    refine wp_iconst (pc := 73) dX11_tell_73 ?_
    refine wq_iast (pc := 74) (Int.toNat (Z 0 6)) dX11_tell_74 kd_149 la_149 (by omega) (by omega) ?_
    refine wp_aload_n (pc := 75) 0 dX11_tell_75 rfl rfl ?_
    refine wp_dup (pc := 76) dX11_tell_76 rfl ?_
    refine wp_geti (pc := 77) dX11_tell_77 rfl f_X11_430 kd_111 la_111 (Or.inl rfl) ?_
    refine wp_eqst (st' := [vI (Z 0 6), vR 111]) (by rw [up_c (by omega), up_c (by omega), up_c (by omega), up_c (by omega), up_c (by omega), up_c (by omega), rz_n hZ]) ?_
    refine wp_iconst (pc := 80) dX11_tell_80 ?_
    refine wp_iadd (pc := 81) dX11_tell_81 ?_
    refine wp_puti (pc := 82) dX11_tell_82 rfl f_X11_430 kd_111 la_111 (fun _ h => by cases h; rfl) rfl ?_
    refine wp_aload_n (pc := 85) 0 dX11_tell_85 rfl rfl ?_
    refine wp_geti (pc := 86) dX11_tell_86 rfl f_X11_430 kd_111 la_111 (Or.inl rfl) ?_
    refine wp_eqst (st' := [vI ((Z 0 6) + 1)]) (by rw [up_s]) ?_
    refine wp_iconst (pc := 89) dX11_tell_89 ?_
    refine wp_isub (pc := 90) dX11_tell_90 ?_
    refine wp_iret (pc := 91) dX11_tell_91 rfl rfl ?_
    have e2 : ((Z 0 6) + 1) - 1 = Z 0 6 := by omega
    rw [e2]
    exact h1 (by omega) _ ⟨fun b h1 h2 => funext fun j => by rw [up_c (by omega), up_c (by omega), up_c (by omega), up_c (by omega), up_c (by omega), up_c (by omega), up_c (by omega)], fun j g1 g2 => by rw [up_j (by omega), up_c (by decide), up_c (by decide), up_c (by decide), up_c (by decide), up_c (by decide), up_c (by decide)]⟩ (rz_tell hZ)
  · refine wp_iconst (pc := 9) dX11_tell_9 ?_
    refine wp_iret (pc := 10) dX11_tell_10 rfl rfl ?_
    exact h0 (by omega)

theorem rs_untell {l : Launch} {G : mG} {d : Nat} {I : mI} {L : Nat → Nat → Int} {D : Nat → Nat} {Q : mQ} {T : mT} {Z : mT} {a : Int}  (hR : RT I T) (hw : tw T) (hZ : RZ I Z) (hz : zw Z) (h_a : inR a) (hd : 1 ≤ d) (h1 : ((0 ≤ a ∧ a < Z 0 6) ∧ Z 6 a.toNat = -1) → ∀ J, Fy I J → RZ J (setZ Z 6 a.toNat (Z 0 7)) → Q (some (vI 1)) J (XX L D)) (h0 : ¬ ((0 ≤ a ∧ a < Z 0 6) ∧ Z 6 a.toNat = -1) → Q (some (vI 0)) I (XX L D)) : WP l G m_X11_untell d 153 I (XX L D) 0 [some (vR 111), some (vI a)] [] Q := by
  have b_p := tw_p hw
  have b_q := tw_q hw
  have b_c := tw_c hw
  have eP : nP T = (T 0 12).toNat := rfl
  have eQ : nQ T = (T 0 13).toNat := rfl
  have eC : nC T = (T 0 11).toNat := rfl
  have z0 := hz.1
  have z7 := hz.2.1
  have z6 := hz.2.2.2.2.2.2.2 a.toNat
  refine wp_iload_n (pc := 0) 1 dX11_untell_0 rfl rfl ?_
  refine wp_iconst (pc := 1) dX11_untell_1 ?_
  refine wp_aload_n (pc := 2) 0 dX11_untell_2 rfl rfl ?_
  refine wp_geti (pc := 3) dX11_untell_3 rfl f_X11_430 kd_111 la_111 (Or.inl rfl) ?_
  refine wp_eqst (st' := [vI (Z 0 6), vI 0, vI a]) (by rw [rz_n hZ]) ?_
  refine wp_iconst (pc := 6) dX11_untell_6 ?_
  refine wp_isub (pc := 7) dX11_untell_7 ?_
  refine wp_callS (pc := 8) (st := []) (nf' := 153) [vI a, vI 0, vI ((Z 0 6) - 1)] [some (vI a), some (vI 0), some (vI ((Z 0 6) - 1))] dX11_untell_8 rfl c_X11_433 rfl rfl (Nat.le_of_ble_eq_true rfl) rfl (Nat.le_of_ble_eq_true rfl) (by omega) (Nat.le_refl _) (Nat.le_refl _) ?_
  refine wp_iload_n (pc := 0) 0 dX11_isIn_0 rfl rfl ?_
  refine wp_iload_n (pc := 1) 1 dX11_isIn_1 rfl rfl ?_
  refine wp_icmp_lt (pc := 2) 14 dX11_isIn_2 (by decide) (by omega) (by decide) (fun h_1 => ?_) (fun h_1 => ?_)
  · refine wp_iconst (pc := 14) dX11_isIn_14 ?_
    refine wp_zret (pc := 15) dX11_isIn_15 rfl rfl (by decide) ?_
    refine wp_eqst (st' := [vI 0]) rfl ?_
    refine wp_if_eq (pc := 11) 23 dX11_untell_11 (by decide) (by decide) (fun _ => ?_) (fun hh => absurd hh (by decide))
    refine wp_iconst (pc := 23) dX11_untell_23 ?_
    refine wp_zret (pc := 24) dX11_untell_24 rfl rfl (by decide) ?_
    exact h0 (by omega)
  · refine wp_iload_n (pc := 5) 0 dX11_isIn_5 rfl rfl ?_
    refine wp_iload_n (pc := 6) 2 dX11_isIn_6 rfl rfl ?_
    refine wp_icmp_gt (pc := 7) 14 dX11_isIn_7 (by decide) (by omega) (by omega) (fun h_2 => ?_) (fun h_2 => ?_)
    · refine wp_iconst (pc := 14) dX11_isIn_14 ?_
      refine wp_zret (pc := 15) dX11_isIn_15 rfl rfl (by decide) ?_
      refine wp_eqst (st' := [vI 0]) rfl ?_
      refine wp_if_eq (pc := 11) 23 dX11_untell_11 (by decide) (by decide) (fun _ => ?_) (fun hh => absurd hh (by decide))
      refine wp_iconst (pc := 23) dX11_untell_23 ?_
      refine wp_zret (pc := 24) dX11_untell_24 rfl rfl (by decide) ?_
      exact h0 (by omega)
    · refine wp_iconst (pc := 10) dX11_isIn_10 ?_
      refine wp_goto (pc := 11) 15 dX11_isIn_11 (by decide) ?_
      refine wp_zret (pc := 15) dX11_isIn_15 rfl rfl (by decide) ?_
      refine wp_eqst (st' := [vI 1]) rfl ?_
      refine wp_if_eq (pc := 11) 23 dX11_untell_11 (by decide) (by decide) (fun hh => absurd hh (by decide)) (fun _ => ?_)
      refine wp_aload_n (pc := 14) 0 dX11_untell_14 rfl rfl ?_
      refine wp_getr (pc := 15) dX11_untell_15 rfl f_X11_133 kd_111 la_111 rfl (r_111_75 D) ?_
      refine wp_iload_n (pc := 18) 1 dX11_untell_18 rfl rfl ?_
      refine wq_iald (pc := 19) a.toNat dX11_untell_19 kd_149 la_149 (by omega) (by omega) ?_
      refine wp_eqst (st' := [vI (Z 6 a.toNat)]) (by rw [rz_149 hZ]) ?_
      refine wp_if_lt (pc := 20) 25 dX11_untell_20 (by decide) (by omega) (fun h_3 => ?_) (fun h_3 => ?_)
      · refine wp_aload_n (pc := 25) 0 dX11_untell_25 rfl rfl ?_
        refine wp_getr (pc := 26) dX11_untell_26 rfl f_X11_133 kd_111 la_111 rfl (r_111_75 D) ?_
        refine wp_iload_n (pc := 29) 1 dX11_untell_29 rfl rfl ?_
        refine wp_aload_n (pc := 30) 0 dX11_untell_30 rfl rfl ?_
        refine wp_geti (pc := 31) dX11_untell_31 rfl f_X11_567 kd_111 la_111 (Or.inl rfl) ?_
        refine wp_eqst (st' := [vI (Z 0 7), vI a, vR 149]) (by rw [rz_t hZ]) ?_
        refine wq_iast (pc := 34) a.toNat dX11_untell_34 kd_149 la_149 (by omega) (by omega) ?_
        refine wp_iconst (pc := 35) dX11_untell_35 ?_
        refine wp_zret (pc := 36) dX11_untell_36 rfl rfl (by decide) ?_
        exact h1 (by omega) _ ⟨fun b h1 h2 => funext fun j => by rw [up_c (by omega)], fun j g1 g2 => by rw [up_c (by decide)]⟩ (rz_untold hZ)
      · refine wp_iconst (pc := 23) dX11_untell_23 ?_
        refine wp_zret (pc := 24) dX11_untell_24 rfl rfl (by decide) ?_
        exact h0 (by omega)

theorem rs_later {l : Launch} {G : mG} {d : Nat} {I : mI} {L : Nat → Nat → Int} {D : Nat → Nat} {Q : mQ} {T : mT} {Z : mT} {a : Int}  (hR : RT I T) (hw : tw T) (hZ : RZ I Z) (hz : zw Z) (h_a : inR a) (hd : 0 ≤ d) (h1 : (0 ≤ a ∧ a ≤ 1000 ∧ Z 0 7 + a ≤ 100000) → ∀ J, Fy I J → RZ J (setZ Z 0 7 (Z 0 7 + a)) → Q (some (vI (Z 0 7 + a))) J (XX L D)) (h0 : ¬ (0 ≤ a ∧ a ≤ 1000 ∧ Z 0 7 + a ≤ 100000) → Q (some (vI (-1))) I (XX L D)) : WP l G m_X11_later d 153 I (XX L D) 0 [some (vR 111), some (vI a)] [] Q := by
  have b_p := tw_p hw
  have b_q := tw_q hw
  have b_c := tw_c hw
  have eP : nP T = (T 0 12).toNat := rfl
  have eQ : nQ T = (T 0 13).toNat := rfl
  have eC : nC T = (T 0 11).toNat := rfl
  have z0 := hz.1
  have z7 := hz.2.1
  refine wp_iload_n (pc := 0) 1 dX11_later_0 rfl rfl ?_
  refine wp_if_lt (pc := 1) 23 dX11_later_1 (by decide) (by omega) (fun h_1 => ?_) (fun h_1 => ?_)
  · refine wp_iconst (pc := 23) dX11_later_23 ?_
    refine wp_iret (pc := 24) dX11_later_24 rfl rfl ?_
    exact h0 (by omega)
  · refine wp_iload_n (pc := 4) 1 dX11_later_4 rfl rfl ?_
    refine wp_sipush (pc := 5) dX11_later_5 (by decide) ?_
    refine wp_icmp_gt (pc := 8) 23 dX11_later_8 (by decide) (by omega) (by decide) (fun h_2 => ?_) (fun h_2 => ?_)
    · refine wp_iconst (pc := 23) dX11_later_23 ?_
      refine wp_iret (pc := 24) dX11_later_24 rfl rfl ?_
      exact h0 (by omega)
    · refine wp_aload_n (pc := 11) 0 dX11_later_11 rfl rfl ?_
      refine wp_geti (pc := 12) dX11_later_12 rfl f_X11_567 kd_111 la_111 (Or.inl rfl) ?_
      refine wp_eqst (st' := [vI (Z 0 7)]) (by rw [rz_t hZ]) ?_
      refine wp_iload_n (pc := 15) 1 dX11_later_15 rfl rfl ?_
      refine wp_iadd (pc := 16) dX11_later_16 ?_
      refine wp_ldcw (pc := 17) (z := 100000) dX11_later_17 rfl k_X11_574 rfl ?_
      refine wp_icmp_le (pc := 20) 25 dX11_later_20 (by decide) (by omega) (by decide) (fun h_3 => ?_) (fun h_3 => ?_)
      · refine wp_aload_n (pc := 25) 0 dX11_later_25 rfl rfl ?_
        refine wp_dup (pc := 26) dX11_later_26 rfl ?_
        refine wp_geti (pc := 27) dX11_later_27 rfl f_X11_567 kd_111 la_111 (Or.inl rfl) ?_
        refine wp_eqst (st' := [vI (Z 0 7), vR 111]) (by rw [rz_t hZ]) ?_
        refine wp_iload_n (pc := 30) 1 dX11_later_30 rfl rfl ?_
        refine wp_iadd (pc := 31) dX11_later_31 ?_
        refine wp_puti (pc := 32) dX11_later_32 rfl f_X11_567 kd_111 la_111 (fun _ h => by cases h; rfl) rfl ?_
        refine wp_aload_n (pc := 35) 0 dX11_later_35 rfl rfl ?_
        refine wp_geti (pc := 36) dX11_later_36 rfl f_X11_567 kd_111 la_111 (Or.inl rfl) ?_
        refine wp_eqst (st' := [vI ((Z 0 7) + a)]) (by rw [up_s]) ?_
        refine wp_iret (pc := 39) dX11_later_39 rfl rfl ?_
        exact h1 (by omega) _ ⟨fun b h1 h2 => funext fun j => by rw [up_c (by omega)], fun j g1 g2 => by rw [up_j (by omega)]⟩ (rz_time hZ)
      · refine wp_iconst (pc := 23) dX11_later_23 ?_
        refine wp_iret (pc := 24) dX11_later_24 rfl rfl ?_
        exact h0 (by omega)

theorem rs_sits {l : Launch} {G : mG} {d : Nat} {I : mI} {L : Nat → Nat → Int} {D : Nat → Nat} {Q : mQ} {T : mT} {Z : mT} {a b : Int}  (hR : RT I T) (hw : tw T) (hZ : RZ I Z) (hz : zw Z) (h_a : inR a) (h_b : b = 0 ∨ b = 1) (hd : 2 ≤ d) (h1 : ((0 ≤ a ∧ a < T 0 11) ∧ Z 0 6 < 30) → ∀ J, Fy I J → RZ J (tellZ Z 0 a 0 b) → Q (some (vI (Z 0 6))) J (XX L D)) (h0 : ¬ ((0 ≤ a ∧ a < T 0 11) ∧ Z 0 6 < 30) → Q (some (vI (-1))) I (XX L D)) : WP l G m_X11_sits d 153 I (XX L D) 0 [some (vR 111), some (vI a), some (vI b)] [] Q := by
  have b_p := tw_p hw
  have b_q := tw_q hw
  have b_c := tw_c hw
  have eP : nP T = (T 0 12).toNat := rfl
  have eQ : nQ T = (T 0 13).toNat := rfl
  have eC : nC T = (T 0 11).toNat := rfl
  have z0 := hz.1
  have z7 := hz.2.1
  refine wp_aload_n (pc := 0) 0 dX11_sits_0 rfl rfl ?_
  refine wp_iload_n (pc := 1) 1 dX11_sits_1 rfl rfl ?_
  refine wp_callV (pc := 2) (st := []) (nf' := 153) [vI a] [some (vR 111), some (vI a)] dX11_sits_2 rfl c_X11_512 rfl kd_111 (by decide) rfl la_111 rfl (Nat.le_of_ble_eq_true rfl) rfl (Nat.le_of_ble_eq_true rfl) (by omega) (Nat.le_refl _) (Nat.le_refl _) ?_
  refine rs_isChurch hR hw (by omega) (by omega) (fun h_1 => ?_) (fun h_1 => ?_)
  · refine wp_eqst (st' := [vI 1]) rfl ?_
    refine wp_if_eq (pc := 5) 19 dX11_sits_5 (by decide) (by decide) (fun hh => absurd hh (by decide)) (fun _ => ?_)
    refine wp_aload_n (pc := 8) 0 dX11_sits_8 rfl rfl ?_
    refine wp_iconst (pc := 9) dX11_sits_9 ?_
    refine wp_iload_n (pc := 10) 1 dX11_sits_10 rfl rfl ?_
    refine wp_iconst (pc := 11) dX11_sits_11 ?_
    refine wp_iload_n (pc := 12) 2 dX11_sits_12 rfl rfl ?_
    refine wp_callV (pc := 13) (st := []) (nf' := 153) [vI 0, vI a, vI 0, vI b] [some (vR 111), some (vI 0), some (vI a), some (vI 0), some (vI b)] dX11_sits_13 rfl c_X11_570 rfl kd_111 (by decide) rfl la_111 rfl (Nat.le_of_ble_eq_true rfl) rfl (Nat.le_of_ble_eq_true rfl) (by omega) (Nat.le_refl _) (Nat.le_refl _) ?_
    refine rs_tell hR hw hZ hz (by omega) (by omega) (fun hc J hJ hZJ => ?_) (fun hc => ?_)
    · refine wp_eqst (st' := [vI (Z 0 6)]) rfl ?_
      refine wp_goto (pc := 16) 20 dX11_sits_16 (by decide) ?_
      refine wp_iret (pc := 20) dX11_sits_20 rfl rfl ?_
      exact h1 (by omega) J hJ hZJ
    · refine wp_eqst (st' := [vI (-1)]) rfl ?_
      refine wp_goto (pc := 16) 20 dX11_sits_16 (by decide) ?_
      refine wp_iret (pc := 20) dX11_sits_20 rfl rfl ?_
      exact h0 (by omega)
  · refine wp_eqst (st' := [vI 0]) rfl ?_
    refine wp_if_eq (pc := 5) 19 dX11_sits_5 (by decide) (by decide) (fun _ => ?_) (fun hh => absurd hh (by decide))
    refine wp_iconst (pc := 19) dX11_sits_19 ?_
    refine wp_iret (pc := 20) dX11_sits_20 rfl rfl ?_
    exact h0 (by omega)

theorem rs_knew {l : Launch} {G : mG} {d : Nat} {I : mI} {L : Nat → Nat → Int} {D : Nat → Nat} {Q : mQ} {T : mT} {Z : mT} {a b : Int}  (hR : RT I T) (hw : tw T) (hZ : RZ I Z) (hz : zw Z) (h_a : inR a) (h_b : b = 0 ∨ b = 1) (hd : 2 ≤ d) (h1 : ((0 ≤ a ∧ a < T 0 12) ∧ Z 0 6 < 30) → ∀ J, Fy I J → RZ J (tellZ Z 1 a 0 b) → Q (some (vI (Z 0 6))) J (XX L D)) (h0 : ¬ ((0 ≤ a ∧ a < T 0 12) ∧ Z 0 6 < 30) → Q (some (vI (-1))) I (XX L D)) : WP l G m_X11_knew d 153 I (XX L D) 0 [some (vR 111), some (vI a), some (vI b)] [] Q := by
  have b_p := tw_p hw
  have b_q := tw_q hw
  have b_c := tw_c hw
  have eP : nP T = (T 0 12).toNat := rfl
  have eQ : nQ T = (T 0 13).toNat := rfl
  have eC : nC T = (T 0 11).toNat := rfl
  have z0 := hz.1
  have z7 := hz.2.1
  refine wp_aload_n (pc := 0) 0 dX11_knew_0 rfl rfl ?_
  refine wp_iload_n (pc := 1) 1 dX11_knew_1 rfl rfl ?_
  refine wp_callV (pc := 2) (st := []) (nf' := 153) [vI a] [some (vR 111), some (vI a)] dX11_knew_2 rfl c_X11_437 rfl kd_111 (by decide) rfl la_111 rfl (Nat.le_of_ble_eq_true rfl) rfl (Nat.le_of_ble_eq_true rfl) (by omega) (Nat.le_refl _) (Nat.le_refl _) ?_
  refine rs_isPerson hR hw (by omega) (by omega) (fun h_1 => ?_) (fun h_1 => ?_)
  · refine wp_eqst (st' := [vI 1]) rfl ?_
    refine wp_if_eq (pc := 5) 19 dX11_knew_5 (by decide) (by decide) (fun hh => absurd hh (by decide)) (fun _ => ?_)
    refine wp_aload_n (pc := 8) 0 dX11_knew_8 rfl rfl ?_
    refine wp_iconst (pc := 9) dX11_knew_9 ?_
    refine wp_iload_n (pc := 10) 1 dX11_knew_10 rfl rfl ?_
    refine wp_iconst (pc := 11) dX11_knew_11 ?_
    refine wp_iload_n (pc := 12) 2 dX11_knew_12 rfl rfl ?_
    refine wp_callV (pc := 13) (st := []) (nf' := 153) [vI 1, vI a, vI 0, vI b] [some (vR 111), some (vI 1), some (vI a), some (vI 0), some (vI b)] dX11_knew_13 rfl c_X11_570 rfl kd_111 (by decide) rfl la_111 rfl (Nat.le_of_ble_eq_true rfl) rfl (Nat.le_of_ble_eq_true rfl) (by omega) (Nat.le_refl _) (Nat.le_refl _) ?_
    refine rs_tell hR hw hZ hz (by omega) (by omega) (fun hc J hJ hZJ => ?_) (fun hc => ?_)
    · refine wp_eqst (st' := [vI (Z 0 6)]) rfl ?_
      refine wp_goto (pc := 16) 20 dX11_knew_16 (by decide) ?_
      refine wp_iret (pc := 20) dX11_knew_20 rfl rfl ?_
      exact h1 (by omega) J hJ hZJ
    · refine wp_eqst (st' := [vI (-1)]) rfl ?_
      refine wp_goto (pc := 16) 20 dX11_knew_16 (by decide) ?_
      refine wp_iret (pc := 20) dX11_knew_20 rfl rfl ?_
      exact h0 (by omega)
  · refine wp_eqst (st' := [vI 0]) rfl ?_
    refine wp_if_eq (pc := 5) 19 dX11_knew_5 (by decide) (by decide) (fun _ => ?_) (fun hh => absurd hh (by decide))
    refine wp_iconst (pc := 19) dX11_knew_19 ?_
    refine wp_iret (pc := 20) dX11_knew_20 rfl rfl ?_
    exact h0 (by omega)

theorem rs_kin {l : Launch} {G : mG} {d : Nat} {I : mI} {L : Nat → Nat → Int} {D : Nat → Nat} {Q : mQ} {T : mT} {Z : mT} {a e b : Int}  (hR : RT I T) (hw : tw T) (hZ : RZ I Z) (hz : zw Z) (h_a : inR a) (h_e : inR e) (h_b : b = 0 ∨ b = 1) (hd : 2 ≤ d) (h1 : (((0 ≤ a ∧ a < T 0 12) ∧ 0 ≤ e ∧ e ≤ 8) ∧ Z 0 6 < 30) → ∀ J, Fy I J → RZ J (tellZ Z 2 a e b) → Q (some (vI (Z 0 6))) J (XX L D)) (h0 : ¬ (((0 ≤ a ∧ a < T 0 12) ∧ 0 ≤ e ∧ e ≤ 8) ∧ Z 0 6 < 30) → Q (some (vI (-1))) I (XX L D)) : WP l G m_X11_kin d 153 I (XX L D) 0 [some (vR 111), some (vI a), some (vI e), some (vI b)] [] Q := by
  have b_p := tw_p hw
  have b_q := tw_q hw
  have b_c := tw_c hw
  have eP : nP T = (T 0 12).toNat := rfl
  have eQ : nQ T = (T 0 13).toNat := rfl
  have eC : nC T = (T 0 11).toNat := rfl
  have z0 := hz.1
  have z7 := hz.2.1
  refine wp_aload_n (pc := 0) 0 dX11_kin_0 rfl rfl ?_
  refine wp_iload_n (pc := 1) 1 dX11_kin_1 rfl rfl ?_
  refine wp_callV (pc := 2) (st := []) (nf' := 153) [vI a] [some (vR 111), some (vI a)] dX11_kin_2 rfl c_X11_437 rfl kd_111 (by decide) rfl la_111 rfl (Nat.le_of_ble_eq_true rfl) rfl (Nat.le_of_ble_eq_true rfl) (by omega) (Nat.le_refl _) (Nat.le_refl _) ?_
  refine rs_isPerson hR hw (by omega) (by omega) (fun h_1 => ?_) (fun h_1 => ?_)
  · refine wp_eqst (st' := [vI 1]) rfl ?_
    refine wp_if_eq (pc := 5) 29 dX11_kin_5 (by decide) (by decide) (fun hh => absurd hh (by decide)) (fun _ => ?_)
    refine wp_iload_n (pc := 8) 2 dX11_kin_8 rfl rfl ?_
    refine wp_iconst (pc := 9) dX11_kin_9 ?_
    refine wp_bipush (pc := 10) dX11_kin_10 (by decide) ?_
    refine wp_callS (pc := 12) (st := []) (nf' := 153) [vI e, vI 0, vI 8] [some (vI e), some (vI 0), some (vI 8)] dX11_kin_12 rfl c_X11_433 rfl rfl (Nat.le_of_ble_eq_true rfl) rfl (Nat.le_of_ble_eq_true rfl) (by omega) (Nat.le_refl _) (Nat.le_refl _) ?_
    refine wp_iload_n (pc := 0) 0 dX11_isIn_0 rfl rfl ?_
    refine wp_iload_n (pc := 1) 1 dX11_isIn_1 rfl rfl ?_
    refine wp_icmp_lt (pc := 2) 14 dX11_isIn_2 (by decide) (by omega) (by decide) (fun h_2 => ?_) (fun h_2 => ?_)
    · refine wp_iconst (pc := 14) dX11_isIn_14 ?_
      refine wp_zret (pc := 15) dX11_isIn_15 rfl rfl (by decide) ?_
      refine wp_eqst (st' := [vI 0]) rfl ?_
      refine wp_if_eq (pc := 15) 29 dX11_kin_15 (by decide) (by decide) (fun _ => ?_) (fun hh => absurd hh (by decide))
      refine wp_iconst (pc := 29) dX11_kin_29 ?_
      refine wp_iret (pc := 30) dX11_kin_30 rfl rfl ?_
      exact h0 (by omega)
    · refine wp_iload_n (pc := 5) 0 dX11_isIn_5 rfl rfl ?_
      refine wp_iload_n (pc := 6) 2 dX11_isIn_6 rfl rfl ?_
      refine wp_icmp_gt (pc := 7) 14 dX11_isIn_7 (by decide) (by omega) (by decide) (fun h_3 => ?_) (fun h_3 => ?_)
      · refine wp_iconst (pc := 14) dX11_isIn_14 ?_
        refine wp_zret (pc := 15) dX11_isIn_15 rfl rfl (by decide) ?_
        refine wp_eqst (st' := [vI 0]) rfl ?_
        refine wp_if_eq (pc := 15) 29 dX11_kin_15 (by decide) (by decide) (fun _ => ?_) (fun hh => absurd hh (by decide))
        refine wp_iconst (pc := 29) dX11_kin_29 ?_
        refine wp_iret (pc := 30) dX11_kin_30 rfl rfl ?_
        exact h0 (by omega)
      · refine wp_iconst (pc := 10) dX11_isIn_10 ?_
        refine wp_goto (pc := 11) 15 dX11_isIn_11 (by decide) ?_
        refine wp_zret (pc := 15) dX11_isIn_15 rfl rfl (by decide) ?_
        refine wp_eqst (st' := [vI 1]) rfl ?_
        refine wp_if_eq (pc := 15) 29 dX11_kin_15 (by decide) (by decide) (fun hh => absurd hh (by decide)) (fun _ => ?_)
        refine wp_aload_n (pc := 18) 0 dX11_kin_18 rfl rfl ?_
        refine wp_iconst (pc := 19) dX11_kin_19 ?_
        refine wp_iload_n (pc := 20) 1 dX11_kin_20 rfl rfl ?_
        refine wp_iload_n (pc := 21) 2 dX11_kin_21 rfl rfl ?_
        refine wp_iload_n (pc := 22) 3 dX11_kin_22 rfl rfl ?_
        refine wp_callV (pc := 23) (st := []) (nf' := 153) [vI 2, vI a, vI e, vI b] [some (vR 111), some (vI 2), some (vI a), some (vI e), some (vI b)] dX11_kin_23 rfl c_X11_570 rfl kd_111 (by decide) rfl la_111 rfl (Nat.le_of_ble_eq_true rfl) rfl (Nat.le_of_ble_eq_true rfl) (by omega) (Nat.le_refl _) (Nat.le_refl _) ?_
        refine rs_tell hR hw hZ hz (by omega) (by omega) (fun hc J hJ hZJ => ?_) (fun hc => ?_)
        · refine wp_eqst (st' := [vI (Z 0 6)]) rfl ?_
          refine wp_goto (pc := 26) 30 dX11_kin_26 (by decide) ?_
          refine wp_iret (pc := 30) dX11_kin_30 rfl rfl ?_
          exact h1 (by omega) J hJ hZJ
        · refine wp_eqst (st' := [vI (-1)]) rfl ?_
          refine wp_goto (pc := 26) 30 dX11_kin_26 (by decide) ?_
          refine wp_iret (pc := 30) dX11_kin_30 rfl rfl ?_
          exact h0 (by omega)
  · refine wp_eqst (st' := [vI 0]) rfl ?_
    refine wp_if_eq (pc := 5) 29 dX11_kin_5 (by decide) (by decide) (fun _ => ?_) (fun hh => absurd hh (by decide))
    refine wp_iconst (pc := 29) dX11_kin_29 ?_
    refine wp_iret (pc := 30) dX11_kin_30 rfl rfl ?_
    exact h0 (by omega)
