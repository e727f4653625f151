theorem rl_image {l : Launch} {G : mG} {d : Nat} {I : mI} {L : Nat → Nat → Int} {D : Nat → Nat} {Q : mQ} {a : Int} (h_a : 0 ≤ a ∧ a < 3) (hd : 1 ≤ d) (hQ : Q (some (vI (I 139 28))) (upc I 152 (wrow (I 152) (I 139) a.toNat 30)) (XX L D)) : ∀ i : Nat, i ≤ 30 → WP l G m_X11_image d 153 (upc I 152 (wrow (I 152) (I 139) a.toNat i)) (XX L D) 18 [some (vR 111), some (vI a), some (vI (i : Int))] [] Q := by
  refine loop_dn (fun i => WP l G m_X11_image d 153 (upc I 152 (wrow (I 152) (I 139) a.toNat i)) (XX L D) 18 [some (vR 111), some (vI a), some (vI (i : Int))] [] Q) 30 ?_ (fun i hi ih => ?_)
  · refine wp_iload_n (pc := 18) 2 dX11_image_18 rfl rfl ?_
    refine wp_bipush (pc := 19) dX11_image_19 (by decide) ?_
    refine wp_icmp_ge (pc := 21) 47 dX11_image_21 (by decide) (by decide) (by decide) (fun _ => ?_) (fun hh => absurd hh (by decide))
    refine wp_aload_n (pc := 47) 0 dX11_image_47 rfl rfl ?_
    refine wp_getr (pc := 48) dX11_image_48 rfl f_X11_103 kd_111 la_111 rfl (r_111_60 D) ?_
    refine wp_bipush (pc := 51) dX11_image_51 (by decide) ?_
    refine wq_iald (pc := 53) 28 dX11_image_53 kd_139 la_139 rfl (by decide) ?_
    refine wp_eqst (st' := [vI (I 139 28)]) (by rw [upc_c (by omega)]) ?_
    refine wp_iret (pc := 54) dX11_image_54 rfl rfl ?_
    exact hQ
  · refine wp_iload_n (pc := 18) 2 dX11_image_18 rfl rfl ?_
    refine wp_bipush (pc := 19) dX11_image_19 (by decide) ?_
    refine wp_icmp_ge (pc := 21) 47 dX11_image_21 (by decide) (by omega) (by decide) (fun h_1 => ?_) (fun h_1 => ?_)
    · exfalso; omega
    · refine wp_aload_n (pc := 24) 0 dX11_image_24 rfl rfl ?_
      refine wp_getr (pc := 25) dX11_image_25 rfl f_X11_142 kd_111 la_111 rfl (r_111_80 D) ?_
      refine wp_bipush (pc := 28) dX11_image_28 (by decide) ?_
      refine wp_iload_n (pc := 30) 1 dX11_image_30 rfl rfl ?_
      refine wp_imul (pc := 31) dX11_image_31 ?_
      refine wp_iload_n (pc := 32) 2 dX11_image_32 rfl rfl ?_
      refine wp_iadd (pc := 33) dX11_image_33 ?_
      refine wp_aload_n (pc := 34) 0 dX11_image_34 rfl rfl ?_
      refine wp_getr (pc := 35) dX11_image_35 rfl f_X11_103 kd_111 la_111 rfl (r_111_60 D) ?_
      refine wp_iload_n (pc := 38) 2 dX11_image_38 rfl rfl ?_
      refine wq_iald (pc := 39) i dX11_image_39 kd_139 la_139 rfl (by omega) ?_
      refine wp_eqst (st' := [vI (I 139 i), vI ((30 * a) + (i : Int)), vR 152]) (by rw [upc_c (by omega)]) ?_
      refine wq_iast (pc := 40) ((30 * a.toNat) + i) dX11_image_40 kd_152 la_152 (by omega) (by omega) ?_
      refine wq_iinc (pc := 41) [some (vR 111), some (vI a), some (vI ((i : Int) + 1))] dX11_image_41 rfl rfl (by decide) rfl ?_
      refine wp_goto (pc := 44) 18 dX11_image_44 (by decide) ?_
      refine wp_eqI (I' := upc I 152 (wrow (I 152) (I 139) a.toNat (i + 1))) (by rw [up_upc]; exact congrArg (upc I 152) wrow_s) ?_
      exact wp_eqls (ls' := [some (vR 111), some (vI a), some (vI (((i + 1) : Nat) : Int))]) rfl ih

theorem rs_image {l : Launch} {G : mG} {d : Nat} {I : mI} {L : Nat → Nat → Int} {D : Nat → Nat} {Q : mQ} {T : mT} {S : mS} {Bx : Nat → mS} {m : Nat} {a : Int}  (hI : RI I T S) (hB : RB I Bx m) (h_a : inR a) (hd : 1 ≤ d) (h1 : (0 ≤ a ∧ a < 3) → ∀ J, (∀ b, b ≠ 151 → b ≠ 152 → J b = I b) → RB J (fun i => if i = a.toNat then S else Bx i) (m ||| 2 ^ a.toNat) → Q (some (vI (S 28))) J (XX L D)) (h0 : ¬ (0 ≤ a ∧ a < 3) → Q (some (vI (-1))) I (XX L D)) : WP l G m_X11_image d 153 I (XX L D) 0 [some (vR 111), some (vI a), none] [] Q := by
  obtain ⟨hR, hN, hX, hw, hv, hrd, hC, hcd⟩ := id hI
  have b_p := tw_p hw
  have b_q := tw_q hw
  have b_c := tw_c hw
  have eP : nP T = (T 0 12).toNat := rfl
  have eQ : nQ T = (T 0 13).toNat := rfl
  have eC : nC T = (T 0 11).toNat := rfl
  have b_s := sw_sun hv
  refine wp_iload_n (pc := 0) 1 dX11_image_0 rfl rfl ?_
  refine wp_callS (pc := 1) (st := []) (nf' := 153) [vI a] [some (vI a)] dX11_image_1 rfl c_X11_584 rfl rfl (Nat.le_of_ble_eq_true rfl) rfl (Nat.le_of_ble_eq_true rfl) (by omega) (Nat.le_refl _) (Nat.le_refl _) ?_
  refine wp_iload_n (pc := 0) 0 dX11_isBox_0 rfl rfl ?_
  refine wp_if_lt (pc := 1) 13 dX11_isBox_1 (by decide) (by omega) (fun h_1 => ?_) (fun h_1 => ?_)
  · refine wp_iconst (pc := 13) dX11_isBox_13 ?_
    refine wp_zret (pc := 14) dX11_isBox_14 rfl rfl (by decide) ?_
    refine wp_eqst (st' := [vI 0]) rfl ?_
    refine wp_if_ne (pc := 4) 9 dX11_image_4 (by decide) (by decide) (fun hh => absurd hh (by decide)) (fun _ => ?_)
    refine wp_iconst (pc := 7) dX11_image_7 ?_
    refine wp_iret (pc := 8) dX11_image_8 rfl rfl ?_
    exact h0 (by omega)
  · refine wp_iload_n (pc := 4) 0 dX11_isBox_4 rfl rfl ?_
    refine wp_iconst (pc := 5) dX11_isBox_5 ?_
    refine wp_icmp_ge (pc := 6) 13 dX11_isBox_6 (by decide) (by omega) (by decide) (fun h_2 => ?_) (fun h_2 => ?_)
    · refine wp_iconst (pc := 13) dX11_isBox_13 ?_
      refine wp_zret (pc := 14) dX11_isBox_14 rfl rfl (by decide) ?_
      refine wp_eqst (st' := [vI 0]) rfl ?_
      refine wp_if_ne (pc := 4) 9 dX11_image_4 (by decide) (by decide) (fun hh => absurd hh (by decide)) (fun _ => ?_)
      refine wp_iconst (pc := 7) dX11_image_7 ?_
      refine wp_iret (pc := 8) dX11_image_8 rfl rfl ?_
      exact h0 (by omega)
    · refine wp_iconst (pc := 9) dX11_isBox_9 ?_
      refine wp_goto (pc := 10) 14 dX11_isBox_10 (by decide) ?_
      refine wp_zret (pc := 14) dX11_isBox_14 rfl rfl (by decide) ?_
      refine wp_eqst (st' := [vI 1]) rfl ?_
      refine wp_if_ne (pc := 4) 9 dX11_image_4 (by decide) (by decide) (fun _ => ?_) (fun hh => absurd hh (by decide))
      refine wp_aload_n (pc := 9) 0 dX11_image_9 rfl rfl ?_
      refine wp_getr (pc := 10) dX11_image_10 rfl f_X11_139 kd_111 la_111 rfl (r_111_79 D) ?_
      refine wp_iload_n (pc := 13) 1 dX11_image_13 rfl rfl ?_
      refine wp_iconst (pc := 14) dX11_image_14 ?_
      refine wq_zast (pc := 15) a.toNat dX11_image_15 kd_151 la_151 (by omega) (by omega) (by decide) ?_
      refine wp_iconst (pc := 16) dX11_image_16 ?_
      refine wq_istore_n (pc := 17) 2 [some (vR 111), some (vI a), some (vI 0)] dX11_image_17 rfl rfl (by decide) rfl ?_
      refine wp_eqls (ls' := [some (vR 111), some (vI a), some (vI 0)]) rfl (wp_eqI (I' := upc (up I 151 a.toNat 1) 152 (wrow ((up I 151 a.toNat 1) 152) ((up I 151 a.toNat 1) 139) a.toNat 0)) (by rw [wrow_0, upc_id]) (rl_image (I := up I 151 a.toNat 1) (by omega) hd ?_ 0 (Nat.zero_le _)))
      have m1 : (up I 151 a.toNat 1) 152 = I 152 := funext fun j => up_c (by decide)
      have m2 : (up I 151 a.toNat 1) 139 = I 139 := funext fun j => up_c (by decide)
      rw [m1, m2, hN, pS_28]
      refine h1 (by omega) _ (fun b g1 g2 => funext fun j => by rw [upc_c g2, up_c g1]) (rb_image hB hN (by omega) (funext fun j => ?_) (funext fun j => by rw [upc_s, hN]))
      rw [upc_c (by decide)]; by_cases e : j = a.toNat
      · rw [e, up_s, if_pos rfl]
      · rw [up_j e, if_neg e]

theorem rl_back {l : Launch} {G : mG} {d : Nat} {I : mI} {L : Nat → Nat → Int} {D : Nat → Nat} {Q : mQ} {a : Int} {g : Nat → Int} (h_a : 0 ≤ a ∧ a < 3) (hx : ∀ j, j < 30 → I 152 (30 * a.toNat + j) = g j) (hd : 1 ≤ d) (hQ : Q (some (vI (g 28))) (up (up (upc I 139 g) 111 65 0) 111 66 0) (XX L D)) : ∀ i : Nat, i ≤ 30 → WP l G m_X11_back d 153 (upc I 139 (fun j => if j < i then I 152 (30 * a.toNat + j) else I 139 j)) (XX L D) 20 [some (vR 111), some (vI a), some (vI (i : Int))] [] Q := by
  refine loop_dn (fun i => WP l G m_X11_back d 153 (upc I 139 (fun j => if j < i then I 152 (30 * a.toNat + j) else I 139 j)) (XX L D) 20 [some (vR 111), some (vI a), some (vI (i : Int))] [] Q) 30 ?_ (fun i hi ih => ?_)
  · refine wp_iload_n (pc := 20) 2 dX11_back_20 rfl rfl ?_
    refine wp_bipush (pc := 21) dX11_back_21 (by decide) ?_
    refine wp_icmp_ge (pc := 23) 49 dX11_back_23 (by decide) (by decide) (by decide) (fun _ => ?_) (fun hh => absurd hh (by decide))
    refine wp_ext (I' := upc I 139 g) (fun b j hj => ?_) ?_
    · by_cases e : b = 139
      · subst e; have hj : j < 30 := hj; rw [upc_s, upc_s, if_pos hj]; exact (hx j hj).symm
      · rw [upc_c e, upc_c e]
    refine wp_aload_n (pc := 49) 0 dX11_back_49 rfl rfl ?_
    refine wp_iconst (pc := 50) dX11_back_50 ?_
    refine wp_puti (pc := 51) dX11_back_51 rfl f_X11_424 kd_111 la_111 (fun _ h => by cases h; rfl) rfl ?_
    refine wp_aload_n (pc := 54) 0 dX11_back_54 rfl rfl ?_
    refine wp_iconst (pc := 55) dX11_back_55 ?_
    refine wp_puti (pc := 56) dX11_back_56 rfl f_X11_427 kd_111 la_111 (fun _ h => by cases h; rfl) rfl ?_
    refine wp_aload_n (pc := 59) 0 dX11_back_59 rfl rfl ?_
    refine wp_getr (pc := 60) dX11_back_60 rfl f_X11_103 kd_111 la_111 rfl (r_111_60 D) ?_
    refine wp_bipush (pc := 63) dX11_back_63 (by decide) ?_
    refine wq_iald (pc := 65) 28 dX11_back_65 kd_139 la_139 rfl (by decide) ?_
    refine wp_eqst (st' := [vI (g 28)]) (by rw [up_c (by omega), up_c (by omega), upc_s]) ?_
    refine wp_iret (pc := 66) dX11_back_66 rfl rfl ?_
    exact hQ
  · refine wp_iload_n (pc := 20) 2 dX11_back_20 rfl rfl ?_
    refine wp_bipush (pc := 21) dX11_back_21 (by decide) ?_
    refine wp_icmp_ge (pc := 23) 49 dX11_back_23 (by decide) (by omega) (by decide) (fun h_1 => ?_) (fun h_1 => ?_)
    · exfalso; omega
    · refine wp_aload_n (pc := 26) 0 dX11_back_26 rfl rfl ?_
      refine wp_getr (pc := 27) dX11_back_27 rfl f_X11_103 kd_111 la_111 rfl (r_111_60 D) ?_
      refine wp_iload_n (pc := 30) 2 dX11_back_30 rfl rfl ?_
      refine wp_aload_n (pc := 31) 0 dX11_back_31 rfl rfl ?_
      refine wp_getr (pc := 32) dX11_back_32 rfl f_X11_142 kd_111 la_111 rfl (r_111_80 D) ?_
      refine wp_bipush (pc := 35) dX11_back_35 (by decide) ?_
      refine wp_iload_n (pc := 37) 1 dX11_back_37 rfl rfl ?_
      refine wp_imul (pc := 38) dX11_back_38 ?_
      refine wp_iload_n (pc := 39) 2 dX11_back_39 rfl rfl ?_
      refine wp_iadd (pc := 40) dX11_back_40 ?_
      refine wq_iald (pc := 41) ((30 * a.toNat) + i) dX11_back_41 kd_152 la_152 (by omega) (by omega) ?_
      refine wp_eqst (st' := [vI (I 152 ((30 * a.toNat) + i)), vI (i : Int), vR 139]) (by rw [upc_c (by omega)]) ?_
      refine wq_iast (pc := 42) i dX11_back_42 kd_139 la_139 rfl (by omega) ?_
      refine wq_iinc (pc := 43) [some (vR 111), some (vI a), some (vI ((i : Int) + 1))] dX11_back_43 rfl rfl (by decide) rfl ?_
      refine wp_goto (pc := 46) 20 dX11_back_46 (by decide) ?_
      refine wp_eqI (I' := upc I 139 (fun j => if j < (i + 1) then I 152 (30 * a.toNat + j) else I 139 j)) (by rw [up_upc]; exact congrArg (upc I 139) (funext fun j => by by_cases h1 : j = i <;> by_cases h2 : j < i <;> simp [h1, h2] <;> omega)) ?_
      exact wp_eqls (ls' := [some (vR 111), some (vI a), some (vI (((i + 1) : Nat) : Int))]) rfl ih

theorem rs_back {l : Launch} {G : mG} {d : Nat} {I : mI} {L : Nat → Nat → Int} {D : Nat → Nat} {Q : mQ} {T : mT} {S : mS} {Bx : Nat → mS} {m : Nat} {a : Int}  (hI : RI I T S) (hB : RB I Bx m) (h_a : inR a) (hd : 1 ≤ d) (h1 : ((0 ≤ a ∧ a < 3) ∧ m.testBit a.toNat = true) → ∀ J, Rf2 I J → J 139 = pS (Bx a.toNat) → RH J (fun _ => Bx a.toNat, 0, 0) → Q (some (vI (Bx a.toNat 28))) J (XX L D)) (h0 : ¬ ((0 ≤ a ∧ a < 3) ∧ m.testBit a.toNat = true) → Q (some (vI (-1))) I (XX L D)) : WP l G m_X11_back d 153 I (XX L D) 0 [some (vR 111), some (vI a), none] [] Q := by
  obtain ⟨hR, hN, hX, hw, hv, hrd, hC, hcd⟩ := id hI
  have b_p := tw_p hw
  have b_q := tw_q hw
  have b_c := tw_c hw
  have eP : nP T = (T 0 12).toNat := rfl
  have eQ : nQ T = (T 0 13).toNat := rfl
  have eC : nC T = (T 0 11).toNat := rfl
  have b_s := sw_sun hv
  have b_b : 0 ≤ a → a < 3 → I 151 a.toNat = 0 ∨ I 151 a.toNat = 1 := fun x y => hB.b (by omega)
  refine wp_iload_n (pc := 0) 1 dX11_back_0 rfl rfl ?_
  refine wp_callS (pc := 1) (st := []) (nf' := 153) [vI a] [some (vI a)] dX11_back_1 rfl c_X11_584 rfl rfl (Nat.le_of_ble_eq_true rfl) rfl (Nat.le_of_ble_eq_true rfl) (by omega) (Nat.le_refl _) (Nat.le_refl _) ?_
  refine wp_iload_n (pc := 0) 0 dX11_isBox_0 rfl rfl ?_
  refine wp_if_lt (pc := 1) 13 dX11_isBox_1 (by decide) (by omega) (fun h_1 => ?_) (fun h_1 => ?_)
  · refine wp_iconst (pc := 13) dX11_isBox_13 ?_
    refine wp_zret (pc := 14) dX11_isBox_14 rfl rfl (by decide) ?_
    refine wp_eqst (st' := [vI 0]) rfl ?_
    refine wp_if_eq (pc := 4) 16 dX11_back_4 (by decide) (by decide) (fun _ => ?_) (fun hh => absurd hh (by decide))
    refine wp_iconst (pc := 16) dX11_back_16 ?_
    refine wp_iret (pc := 17) dX11_back_17 rfl rfl ?_
    refine h0 (fun x => ?_)
    have hb := (hB a.toNat (by omega)).1
    rw [if_pos x.2] at hb
    omega
  · refine wp_iload_n (pc := 4) 0 dX11_isBox_4 rfl rfl ?_
    refine wp_iconst (pc := 5) dX11_isBox_5 ?_
    refine wp_icmp_ge (pc := 6) 13 dX11_isBox_6 (by decide) (by omega) (by decide) (fun h_2 => ?_) (fun h_2 => ?_)
    · refine wp_iconst (pc := 13) dX11_isBox_13 ?_
      refine wp_zret (pc := 14) dX11_isBox_14 rfl rfl (by decide) ?_
      refine wp_eqst (st' := [vI 0]) rfl ?_
      refine wp_if_eq (pc := 4) 16 dX11_back_4 (by decide) (by decide) (fun _ => ?_) (fun hh => absurd hh (by decide))
      refine wp_iconst (pc := 16) dX11_back_16 ?_
      refine wp_iret (pc := 17) dX11_back_17 rfl rfl ?_
      refine h0 (fun x => ?_)
      have hb := (hB a.toNat (by omega)).1
      rw [if_pos x.2] at hb
      omega
    · refine wp_iconst (pc := 9) dX11_isBox_9 ?_
      refine wp_goto (pc := 10) 14 dX11_isBox_10 (by decide) ?_
      refine wp_zret (pc := 14) dX11_isBox_14 rfl rfl (by decide) ?_
      refine wp_eqst (st' := [vI 1]) rfl ?_
      refine wp_if_eq (pc := 4) 16 dX11_back_4 (by decide) (by decide) (fun hh => absurd hh (by decide)) (fun _ => ?_)
      refine wp_aload_n (pc := 7) 0 dX11_back_7 rfl rfl ?_
      refine wp_getr (pc := 8) dX11_back_8 rfl f_X11_139 kd_111 la_111 rfl (r_111_79 D) ?_
      refine wp_iload_n (pc := 11) 1 dX11_back_11 rfl rfl ?_
      refine wq_zald (pc := 12) a.toNat dX11_back_12 kd_151 la_151 (by omega) (by omega) ?_
      refine wp_if_ne (pc := 13) 18 dX11_back_13 (by decide) (by omega) (fun h_3 => ?_) (fun h_3 => ?_)
      · refine wp_iconst (pc := 18) dX11_back_18 ?_
        refine wq_istore_n (pc := 19) 2 [some (vR 111), some (vI a), some (vI 0)] dX11_back_19 rfl rfl (by decide) rfl ?_
        have hb := (hB a.toNat (by omega))
        have ht : m.testBit a.toNat = true := by by_cases z : m.testBit a.toNat = true; exact z; rw [if_neg z] at hb; omega
        refine wp_eqls (ls' := [some (vR 111), some (vI a), some (vI 0)]) rfl (wp_eqI (I' := upc I 139 (fun j => if j < 0 then I 152 (30 * a.toNat + j) else I 139 j)) (by rw [show (fun j => if j < 0 then I 152 (30 * a.toNat + j) else I 139 j) = I 139 from funext fun j => if_neg (Nat.not_lt_zero j), upc_id]) (rl_back (g := pS (Bx a.toNat)) (by omega) (hb.2 ht) hd (h1 ⟨by omega, ht⟩ _ ⟨fun b g1 g2 g3 g4 g5 g6 g7 => funext fun j => by rw [up_c g1, up_c g1, upc_c g2], fun j g1 g2 g3 g4 g5 => by rw [up_j g3, up_j g2, upc_c (by decide)]⟩ (funext fun j => by rw [up_c (by decide), up_c (by decide), upc_s]) ⟨by rw [up_j (by decide), up_s]; rfl, by rw [up_s]; rfl, Nat.le_refl _, Nat.zero_le _, fun k j hk _ => absurd hk (Nat.not_lt_zero k), fun k j _ hk _ => absurd hk (Nat.not_lt_zero k)⟩) 0 (Nat.zero_le _)))
      · refine wp_iconst (pc := 16) dX11_back_16 ?_
        refine wp_iret (pc := 17) dX11_back_17 rfl rfl ?_
        refine h0 (fun x => ?_)
        have hb := (hB a.toNat (by omega)).1
        rw [if_pos x.2] at hb
        omega

def stZ (T : mT) (S : mS) : Prop := ∀ q, nQ T ≤ q → q < 5 → S (8 + q) = 0

theorem rl_thatAre {l : Launch} {G : mG} {d : Nat} {I : mI} {L : Nat → Nat → Int} {D : Nat → Nat} {Q : mQ} {T : mT} {S : mS} {c : Int} (hR : RT I T) (hN : I 139 = pS S) (hw : tw T) (hv : sw S 999) (hst : stZ T S) (hc : 1 ≤ c ∧ c ≤ 2) (hd : 1 ≤ d) (hQ : Q (some (vI (((thatAre S c : Nat) : Int)))) I (XX L D)) : ∀ i : Nat, i ≤ nQ T → WP l G m_X11_pairsThatAre d 153 I (XX L D) 4 [some (vR 111), some (vI c), some (vI ((setOf (fun q => decide (S (8 + q) = c)) i : Nat) : Int)), some (vI (i : Int))] [] Q := by
  have b_p := tw_p hw
  have b_q := tw_q hw
  have b_c := tw_c hw
  have eP : nP T = (T 0 12).toNat := rfl
  have eQ : nQ T = (T 0 13).toNat := rfl
  have eC : nC T = (T 0 11).toNat := rfl
  refine loop_dn (fun i => WP l G m_X11_pairsThatAre d 153 I (XX L D) 4 [some (vR 111), some (vI c), some (vI ((setOf (fun q => decide (S (8 + q) = c)) i : Nat) : Int)), some (vI (i : Int))] [] Q) (nQ T) ?_ (fun i hi ih => ?_)
  · refine wp_iload_n (pc := 4) 3 dX11_pairsThatAre_4 rfl rfl ?_
    refine wp_aload_n (pc := 5) 0 dX11_pairsThatAre_5 rfl rfl ?_
    refine wp_geti (pc := 6) dX11_pairsThatAre_6 rfl f_X11_415 kd_111 la_111 (Or.inl rfl) ?_
    refine wp_eqst (st' := [vI (T 0 13), vI (((nQ T) : Nat) : Int)]) (by rw [rt_q hR]) ?_
    refine wp_icmp_ge (pc := 9) 44 dX11_pairsThatAre_9 (by decide) (by omega) (by omega) (fun h_1 => ?_) (fun h_1 => ?_)
    · refine wp_iload_n (pc := 44) 2 dX11_pairsThatAre_44 rfl rfl ?_
      refine wp_iret (pc := 45) dX11_pairsThatAre_45 rfl rfl ?_
      have e1 : thatAre S c = setOf (fun q => decide (S (8 + q) = c)) (nQ T) := by
        have e8 := setOf_more (f := (fun q => decide (S (8 + q) = c))) (n := nQ T) (5 - nQ T) (fun j h1 h2 => decide_eq_false (fun x => by have z := hst j h1 (by omega); omega))
        rw [show nQ T + (5 - nQ T) = 5 from by omega] at e8; exact e8
      rw [e1] at hQ; exact hQ
    · exfalso; omega
  · have b1 := sw_stat hv (j := i) (by omega)
    have b2 := Nat.lt_of_lt_of_le (setOf_lt (fun q => decide (S (8 + q) = c)) i) (Nat.pow_le_pow_right (n := 2) (j := 8) (by decide) (by omega))
    refine wp_iload_n (pc := 4) 3 dX11_pairsThatAre_4 rfl rfl ?_
    refine wp_aload_n (pc := 5) 0 dX11_pairsThatAre_5 rfl rfl ?_
    refine wp_geti (pc := 6) dX11_pairsThatAre_6 rfl f_X11_415 kd_111 la_111 (Or.inl rfl) ?_
    refine wp_eqst (st' := [vI (T 0 13), vI (i : Int)]) (by rw [rt_q hR]) ?_
    refine wp_icmp_ge (pc := 9) 44 dX11_pairsThatAre_9 (by decide) (by omega) (by omega) (fun h_1 => ?_) (fun h_1 => ?_)
    · exfalso; omega
    · refine wp_iload_n (pc := 12) 2 dX11_pairsThatAre_12 rfl rfl ?_
      refine wp_aload_n (pc := 13) 0 dX11_pairsThatAre_13 rfl rfl ?_
      refine wp_getr (pc := 14) dX11_pairsThatAre_14 rfl f_X11_103 kd_111 la_111 rfl (r_111_60 D) ?_
      refine wp_bipush (pc := 17) dX11_pairsThatAre_17 (by decide) ?_
      refine wp_iload_n (pc := 19) 3 dX11_pairsThatAre_19 rfl rfl ?_
      refine wp_iadd (pc := 20) dX11_pairsThatAre_20 ?_
      refine wq_iald (pc := 21) (8 + i) dX11_pairsThatAre_21 kd_139 la_139 (by omega) (by omega) ?_
      refine wp_eqst (st' := [vI (S (8 + i)), vI ((setOf (fun q => decide (S (8 + q) = c)) i : Nat) : Int)]) (by rw [hN, pS_8 (by omega)]) ?_
      refine wp_iload_n (pc := 22) 1 dX11_pairsThatAre_22 rfl rfl ?_
      refine wp_icmp_ne (pc := 23) 30 dX11_pairsThatAre_23 (by decide) (by omega) (by omega) (fun h_2 => ?_) (fun h_2 => ?_)
      · refine wp_iconst (pc := 30) dX11_pairsThatAre_30 ?_
        refine wp_callS (pc := 31) (st := [vI ((setOf (fun q => decide (S (8 + q) = c)) i : Nat) : Int)]) (nf' := 153) [vI 0] [some (vI 0)] dX11_pairsThatAre_31 rfl c_X11_320 rfl rfl (Nat.le_of_ble_eq_true rfl) rfl (Nat.le_of_ble_eq_true rfl) (by omega) (Nat.le_refl _) (Nat.le_refl _) ?_
        refine wp_iload_n (pc := 0) 0 dX11_truth_0 rfl rfl ?_
        refine wp_if_eq (pc := 1) 8 dX11_truth_1 (by decide) (by decide) (fun _ => ?_) (fun hh => absurd hh (by decide))
        refine wp_iconst (pc := 8) dX11_truth_8 ?_
        refine wp_iret (pc := 9) dX11_truth_9 rfl rfl ?_
        refine wp_eqst (st' := [vI 0, vI ((setOf (fun q => decide (S (8 + q) = c)) i : Nat) : Int)]) rfl ?_
        refine wp_iload_n (pc := 34) 3 dX11_pairsThatAre_34 rfl rfl ?_
        refine wn_shl (pc := 35) 0 i dX11_pairsThatAre_35 rfl rfl (by omega) ?_
        refine wn_or (pc := 36) (setOf (fun q => decide (S (8 + q) = c)) i) (0 * 2 ^ i) dX11_pairsThatAre_36 rfl rfl ?_
        refine wq_istore_n (pc := 37) 2 [some (vR 111), some (vI c), some (vI (((setOf (fun q => decide (S (8 + q) = c)) i) ||| (0 * 2 ^ i) : Nat) : Int)), some (vI (i : Int))] dX11_pairsThatAre_37 rfl rfl (by decide) rfl ?_
        refine wq_iinc (pc := 38) [some (vR 111), some (vI c), some (vI (((setOf (fun q => decide (S (8 + q) = c)) i) ||| (0 * 2 ^ i) : Nat) : Int)), some (vI ((i : Int) + 1))] dX11_pairsThatAre_38 rfl rfl (by decide) rfl ?_
        refine wp_goto (pc := 41) 4 dX11_pairsThatAre_41 (by decide) ?_
        refine wp_eqls (ls' := [some (vR 111), some (vI c), some (vI ((setOf (fun q => decide (S (8 + q) = c)) (i + 1) : Nat) : Int)), some (vI (((i + 1) : Nat) : Int))]) (by rw [setOf_n (f := (fun q => decide (S (8 + q) = c))) (n := i) (decide_eq_false (by omega))]; first | rfl | (rw [Nat.zero_mul, Nat.or_zero]; rfl)) ih
      · refine wp_iconst (pc := 26) dX11_pairsThatAre_26 ?_
        refine wp_goto (pc := 27) 31 dX11_pairsThatAre_27 (by decide) ?_
        refine wp_callS (pc := 31) (st := [vI ((setOf (fun q => decide (S (8 + q) = c)) i : Nat) : Int)]) (nf' := 153) [vI 1] [some (vI 1)] dX11_pairsThatAre_31 rfl c_X11_320 rfl rfl (Nat.le_of_ble_eq_true rfl) rfl (Nat.le_of_ble_eq_true rfl) (by omega) (Nat.le_refl _) (Nat.le_refl _) ?_
        refine wp_iload_n (pc := 0) 0 dX11_truth_0 rfl rfl ?_
        refine wp_if_eq (pc := 1) 8 dX11_truth_1 (by decide) (by decide) (fun hh => absurd hh (by decide)) (fun _ => ?_)
        refine wp_iconst (pc := 4) dX11_truth_4 ?_
        refine wp_goto (pc := 5) 9 dX11_truth_5 (by decide) ?_
        refine wp_iret (pc := 9) dX11_truth_9 rfl rfl ?_
        refine wp_eqst (st' := [vI 1, vI ((setOf (fun q => decide (S (8 + q) = c)) i : Nat) : Int)]) rfl ?_
        refine wp_iload_n (pc := 34) 3 dX11_pairsThatAre_34 rfl rfl ?_
        refine wn_shl1 (pc := 35) i dX11_pairsThatAre_35 rfl (by omega) ?_
        refine wn_or (pc := 36) (setOf (fun q => decide (S (8 + q) = c)) i) (2 ^ i) dX11_pairsThatAre_36 rfl rfl ?_
        refine wq_istore_n (pc := 37) 2 [some (vR 111), some (vI c), some (vI (((setOf (fun q => decide (S (8 + q) = c)) i) ||| (2 ^ i) : Nat) : Int)), some (vI (i : Int))] dX11_pairsThatAre_37 rfl rfl (by decide) rfl ?_
        refine wq_iinc (pc := 38) [some (vR 111), some (vI c), some (vI (((setOf (fun q => decide (S (8 + q) = c)) i) ||| (2 ^ i) : Nat) : Int)), some (vI ((i : Int) + 1))] dX11_pairsThatAre_38 rfl rfl (by decide) rfl ?_
        refine wp_goto (pc := 41) 4 dX11_pairsThatAre_41 (by decide) ?_
        refine wp_eqls (ls' := [some (vR 111), some (vI c), some (vI ((setOf (fun q => decide (S (8 + q) = c)) (i + 1) : Nat) : Int)), some (vI (((i + 1) : Nat) : Int))]) (by rw [setOf_y (f := (fun q => decide (S (8 + q) = c))) (n := i) (decide_eq_true (by omega))]; first | rfl | (rw [Nat.one_mul]; rfl)) ih

theorem rs_thatAre {l : Launch} {G : mG} {d : Nat} {I : mI} {L : Nat → Nat → Int} {D : Nat → Nat} {Q : mQ} {T : mT} {S : mS} {c : Int}  (hR : RT I T) (hN : I 139 = pS S) (hw : tw T) (hv : sw S 999) (hst : stZ T S) (hc : 1 ≤ c ∧ c ≤ 2) (hd : 1 ≤ d) (hQ : Q (some (vI (((thatAre S c : Nat) : Int)))) I (XX L D)) : WP l G m_X11_pairsThatAre d 153 I (XX L D) 0 [some (vR 111), some (vI c), none, none] [] Q := by
  have b_p := tw_p hw
  have b_q := tw_q hw
  have b_c := tw_c hw
  have eP : nP T = (T 0 12).toNat := rfl
  have eQ : nQ T = (T 0 13).toNat := rfl
  have eC : nC T = (T 0 11).toNat := rfl
  refine wp_iconst (pc := 0) dX11_pairsThatAre_0 ?_
  refine wq_istore_n (pc := 1) 2 [some (vR 111), some (vI c), some (vI 0), none] dX11_pairsThatAre_1 rfl rfl (by decide) rfl ?_
  refine wp_iconst (pc := 2) dX11_pairsThatAre_2 ?_
  refine wq_istore_n (pc := 3) 3 [some (vR 111), some (vI c), some (vI 0), some (vI 0)] dX11_pairsThatAre_3 rfl rfl (by decide) rfl ?_
  exact rl_thatAre hR hN hw hv hst hc hd hQ 0 (Nat.zero_le _)

theorem rs_about {l : Launch} {G : mG} {d : Nat} {I : mI} {L : Nat → Nat → Int} {D : Nat → Nat} {Q : mQ} {T : mT} {S : mS} {Z : mT} {H : mH} {w : Int}  (hI : RI I T S) (hst : stZ T S) (hH : RH I H) (hZ : RZ I Z) (hU : I 111 21 = T 17 3) (h_w : inR w) (hd : 2 ≤ d) (hQ : Q (some (vI (aboutA T S Z ((H.2.1 : Nat) : Int) ((H.2.2 : Nat) : Int) (I 111 1) w))) I (XX L D)) : WP l G m_X11_about d 153 I (XX L D) 0 [some (vR 111), some (vI w)] [] Q := by
  obtain ⟨hR, hN, hX, hw, hv, hrd, hC, hcd⟩ := id hI
  have b_p := tw_p hw
  have b_q := tw_q hw
  have b_c := tw_c hw
  have eP : nP T = (T 0 12).toNat := rfl
  have eQ : nQ T = (T 0 13).toNat := rfl
  have eC : nC T = (T 0 11).toNat := rfl
  have b_s := sw_sun hv
  have h65 := hH.1
  have h66 := hH.2.1
  have h41 := hH.2.2.1
  refine wp_iload_n (pc := 0) 1 dX11_about_0 rfl rfl ?_
  by_cases h_1 : w = 0
  · refine wp_tin (pc := 1) 0 68 dX11_about_1 (by omega) (by rw [h_1]; decide) (by decide) rfl (by decide) ?_
    refine wp_aload_n (pc := 68) 0 dX11_about_68 rfl rfl ?_
    refine wp_geti (pc := 69) dX11_about_69 rfl f_X11_412 kd_111 la_111 (Or.inl rfl) ?_
    refine wp_eqst (st' := [vI (T 0 12)]) (by rw [rt_p hR]) ?_
    refine wp_iret (pc := 72) dX11_about_72 rfl rfl ?_
    have e1 : aboutA T S Z ((H.2.1 : Nat) : Int) ((H.2.2 : Nat) : Int) (I 111 1) w = T 0 12 := by
      unfold aboutA
      rw [h_1]; first | rfl | (show ((H.2.2 : Nat) : Int) - ((H.2.1 : Nat) : Int) = _; omega)
    rw [e1] at hQ; exact hQ
  by_cases h_2 : w = 1
  · refine wp_tin (pc := 1) 1 73 dX11_about_1 (by omega) (by rw [h_2]; decide) (by decide) rfl (by decide) ?_
    refine wp_aload_n (pc := 73) 0 dX11_about_73 rfl rfl ?_
    refine wp_geti (pc := 74) dX11_about_74 rfl f_X11_409 kd_111 la_111 (Or.inl rfl) ?_
    refine wp_eqst (st' := [vI (T 0 11)]) (by rw [rt_c hR]) ?_
    refine wp_iret (pc := 77) dX11_about_77 rfl rfl ?_
    have e1 : aboutA T S Z ((H.2.1 : Nat) : Int) ((H.2.2 : Nat) : Int) (I 111 1) w = T 0 11 := by
      unfold aboutA
      rw [h_2]; first | rfl | (show ((H.2.2 : Nat) : Int) - ((H.2.1 : Nat) : Int) = _; omega)
    rw [e1] at hQ; exact hQ
  by_cases h_3 : w = 2
  · refine wp_tin (pc := 1) 2 78 dX11_about_1 (by omega) (by rw [h_3]; decide) (by decide) rfl (by decide) ?_
    refine wp_aload_n (pc := 78) 0 dX11_about_78 rfl rfl ?_
    refine wp_geti (pc := 79) dX11_about_79 rfl f_X11_415 kd_111 la_111 (Or.inl rfl) ?_
    refine wp_eqst (st' := [vI (T 0 13)]) (by rw [rt_q hR]) ?_
    refine wp_iret (pc := 82) dX11_about_82 rfl rfl ?_
    have e1 : aboutA T S Z ((H.2.1 : Nat) : Int) ((H.2.2 : Nat) : Int) (I 111 1) w = T 0 13 := by
      unfold aboutA
      rw [h_3]; first | rfl | (show ((H.2.2 : Nat) : Int) - ((H.2.1 : Nat) : Int) = _; omega)
    rw [e1] at hQ; exact hQ
  by_cases h_4 : w = 3
  · refine wp_tin (pc := 1) 3 83 dX11_about_1 (by omega) (by rw [h_4]; decide) (by decide) rfl (by decide) ?_
    refine wp_aload_n (pc := 83) 0 dX11_about_83 rfl rfl ?_
    refine wp_getr (pc := 84) dX11_about_84 rfl f_X11_103 kd_111 la_111 rfl (r_111_60 D) ?_
    refine wp_bipush (pc := 87) dX11_about_87 (by decide) ?_
    refine wq_iald (pc := 89) 28 dX11_about_89 kd_139 la_139 rfl (by decide) ?_
    refine wp_eqst (st' := [vI (S 28)]) (by rw [hN, pS_28]) ?_
    refine wp_iret (pc := 90) dX11_about_90 rfl rfl ?_
    have e1 : aboutA T S Z ((H.2.1 : Nat) : Int) ((H.2.2 : Nat) : Int) (I 111 1) w = S 28 := by
      unfold aboutA
      rw [h_4]; first | rfl | (show ((H.2.2 : Nat) : Int) - ((H.2.1 : Nat) : Int) = _; omega)
    rw [e1] at hQ; exact hQ
  by_cases h_5 : w = 4
  · refine wp_tin (pc := 1) 4 91 dX11_about_1 (by omega) (by rw [h_5]; decide) (by decide) rfl (by decide) ?_
    refine wp_aload_n (pc := 91) 0 dX11_about_91 rfl rfl ?_
    refine wp_getr (pc := 92) dX11_about_92 rfl f_X11_103 kd_111 la_111 rfl (r_111_60 D) ?_
    refine wp_bipush (pc := 95) dX11_about_95 (by decide) ?_
    refine wq_iald (pc := 97) 29 dX11_about_97 kd_139 la_139 rfl (by decide) ?_
    refine wp_eqst (st' := [vI (S 29)]) (by rw [hN, pS_29]) ?_
    refine wp_iret (pc := 98) dX11_about_98 rfl rfl ?_
    have e1 : aboutA T S Z ((H.2.1 : Nat) : Int) ((H.2.2 : Nat) : Int) (I 111 1) w = S 29 := by
      unfold aboutA
      rw [h_5]; first | rfl | (show ((H.2.2 : Nat) : Int) - ((H.2.1 : Nat) : Int) = _; omega)
    rw [e1] at hQ; exact hQ
  by_cases h_6 : w = 5
  · refine wp_tin (pc := 1) 5 99 dX11_about_1 (by omega) (by rw [h_6]; decide) (by decide) rfl (by decide) ?_
    refine wp_aload_n (pc := 99) 0 dX11_about_99 rfl rfl ?_
    refine wp_iconst (pc := 100) dX11_about_100 ?_
    refine wp_callV (pc := 101) (st := []) (nf' := 153) [vI 1] [some (vR 111), some (vI 1), none, none] dX11_about_101 rfl c_X11_587 rfl kd_111 (by decide) rfl la_111 rfl (Nat.le_of_ble_eq_true rfl) rfl (Nat.le_of_ble_eq_true rfl) (by omega) (Nat.le_refl _) (Nat.le_refl _) ?_
    refine rs_thatAre hR hN hw hv hst (by omega) (by omega) ?_
    refine wp_eqst (st' := [vI ((thatAre S 1 : Nat) : Int)]) rfl ?_
    refine wp_iret (pc := 104) dX11_about_104 rfl rfl ?_
    have e1 : aboutA T S Z ((H.2.1 : Nat) : Int) ((H.2.2 : Nat) : Int) (I 111 1) w = ((thatAre S 1 : Nat) : Int) := by
      unfold aboutA
      rw [h_6]; first | rfl | (show ((H.2.2 : Nat) : Int) - ((H.2.1 : Nat) : Int) = _; omega)
    rw [e1] at hQ; exact hQ
  by_cases h_7 : w = 6
  · refine wp_tin (pc := 1) 6 105 dX11_about_1 (by omega) (by rw [h_7]; decide) (by decide) rfl (by decide) ?_
    refine wp_aload_n (pc := 105) 0 dX11_about_105 rfl rfl ?_
    refine wp_iconst (pc := 106) dX11_about_106 ?_
    refine wp_callV (pc := 107) (st := []) (nf' := 153) [vI 2] [some (vR 111), some (vI 2), none, none] dX11_about_107 rfl c_X11_587 rfl kd_111 (by decide) rfl la_111 rfl (Nat.le_of_ble_eq_true rfl) rfl (Nat.le_of_ble_eq_true rfl) (by omega) (Nat.le_refl _) (Nat.le_refl _) ?_
    refine rs_thatAre hR hN hw hv hst (by omega) (by omega) ?_
    refine wp_eqst (st' := [vI ((thatAre S 2 : Nat) : Int)]) rfl ?_
    refine wp_iret (pc := 110) dX11_about_110 rfl rfl ?_
    have e1 : aboutA T S Z ((H.2.1 : Nat) : Int) ((H.2.2 : Nat) : Int) (I 111 1) w = ((thatAre S 2 : Nat) : Int) := by
      unfold aboutA
      rw [h_7]; first | rfl | (show ((H.2.2 : Nat) : Int) - ((H.2.1 : Nat) : Int) = _; omega)
    rw [e1] at hQ; exact hQ
  by_cases h_8 : w = 7
  · refine wp_tin (pc := 1) 7 111 dX11_about_1 (by omega) (by rw [h_8]; decide) (by decide) rfl (by decide) ?_
    refine wp_aload_n (pc := 111) 0 dX11_about_111 rfl rfl ?_
    refine wp_geti (pc := 112) dX11_about_112 rfl f_X11_424 kd_111 la_111 (Or.inl rfl) ?_
    refine wp_eqst (st' := [vI ((H.2.1 : Nat) : Int)]) (by rw [h65]) ?_
    refine wp_iret (pc := 115) dX11_about_115 rfl rfl ?_
    have e1 : aboutA T S Z ((H.2.1 : Nat) : Int) ((H.2.2 : Nat) : Int) (I 111 1) w = ((H.2.1 : Nat) : Int) := by
      unfold aboutA
      rw [h_8]; first | rfl | (show ((H.2.2 : Nat) : Int) - ((H.2.1 : Nat) : Int) = _; omega)
    rw [e1] at hQ; exact hQ
  by_cases h_9 : w = 8
  · refine wp_tin (pc := 1) 8 116 dX11_about_1 (by omega) (by rw [h_9]; decide) (by decide) rfl (by decide) ?_
    refine wp_aload_n (pc := 116) 0 dX11_about_116 rfl rfl ?_
    refine wp_geti (pc := 117) dX11_about_117 rfl f_X11_427 kd_111 la_111 (Or.inl rfl) ?_
    refine wp_eqst (st' := [vI ((H.2.2 - H.2.1 : Nat) : Int)]) (by rw [h66]) ?_
    refine wp_iret (pc := 120) dX11_about_120 rfl rfl ?_
    have e1 : aboutA T S Z ((H.2.1 : Nat) : Int) ((H.2.2 : Nat) : Int) (I 111 1) w = ((H.2.2 - H.2.1 : Nat) : Int) := by
      unfold aboutA
      rw [h_9]; first | rfl | (show ((H.2.2 : Nat) : Int) - ((H.2.1 : Nat) : Int) = _; omega)
    rw [e1] at hQ; exact hQ
  by_cases h_10 : w = 9
  · refine wp_tin (pc := 1) 9 121 dX11_about_1 (by omega) (by rw [h_10]; decide) (by decide) rfl (by decide) ?_
    refine wp_aload_n (pc := 121) 0 dX11_about_121 rfl rfl ?_
    refine wp_geti (pc := 122) dX11_about_122 rfl f_X11_430 kd_111 la_111 (Or.inl rfl) ?_
    refine wp_eqst (st' := [vI (Z 0 6)]) (by rw [rz_n hZ]) ?_
    refine wp_iret (pc := 125) dX11_about_125 rfl rfl ?_
    have e1 : aboutA T S Z ((H.2.1 : Nat) : Int) ((H.2.2 : Nat) : Int) (I 111 1) w = Z 0 6 := by
      unfold aboutA
      rw [h_10]; first | rfl | (show ((H.2.2 : Nat) : Int) - ((H.2.1 : Nat) : Int) = _; omega)
    rw [e1] at hQ; exact hQ
  by_cases h_11 : w = 10
  · refine wp_tin (pc := 1) 10 126 dX11_about_1 (by omega) (by rw [h_11]; decide) (by decide) rfl (by decide) ?_
    refine wp_aload_n (pc := 126) 0 dX11_about_126 rfl rfl ?_
    refine wp_geti (pc := 127) dX11_about_127 rfl f_X11_567 kd_111 la_111 (Or.inl rfl) ?_
    refine wp_eqst (st' := [vI (Z 0 7)]) (by rw [rz_t hZ]) ?_
    refine wp_iret (pc := 130) dX11_about_130 rfl rfl ?_
    have e1 : aboutA T S Z ((H.2.1 : Nat) : Int) ((H.2.2 : Nat) : Int) (I 111 1) w = Z 0 7 := by
      unfold aboutA
      rw [h_11]; first | rfl | (show ((H.2.2 : Nat) : Int) - ((H.2.1 : Nat) : Int) = _; omega)
    rw [e1] at hQ; exact hQ
  by_cases h_12 : w = 11
  · refine wp_tin (pc := 1) 11 131 dX11_about_1 (by omega) (by rw [h_12]; decide) (by decide) rfl (by decide) ?_
    refine wp_aload_n (pc := 131) 0 dX11_about_131 rfl rfl ?_
    refine wp_geti (pc := 132) dX11_about_132 rfl f_X11_145 kd_111 la_111 (Or.inl rfl) ?_
    refine wp_iret (pc := 135) dX11_about_135 rfl rfl ?_
    have e1 : aboutA T S Z ((H.2.1 : Nat) : Int) ((H.2.2 : Nat) : Int) (I 111 1) w = I 111 1 := by
      unfold aboutA
      rw [h_12]; first | rfl | (show ((H.2.2 : Nat) : Int) - ((H.2.1 : Nat) : Int) = _; omega)
    rw [e1] at hQ; exact hQ
  by_cases h_13 : w = 12
  · refine wp_tin (pc := 1) 12 136 dX11_about_1 (by omega) (by rw [h_13]; decide) (by decide) rfl (by decide) ?_
    refine wp_aload_n (pc := 136) 0 dX11_about_136 rfl rfl ?_
    refine wp_geti (pc := 137) dX11_about_137 rfl f_X11_418 kd_111 la_111 (Or.inl rfl) ?_
    refine wp_eqst (st' := [vI (T 17 3)]) (by rw [hU]) ?_
    refine wp_iret (pc := 140) dX11_about_140 rfl rfl ?_
    have e1 : aboutA T S Z ((H.2.1 : Nat) : Int) ((H.2.2 : Nat) : Int) (I 111 1) w = T 17 3 := by
      unfold aboutA
      rw [h_13]; first | rfl | (show ((H.2.2 : Nat) : Int) - ((H.2.1 : Nat) : Int) = _; omega)
    rw [e1] at hQ; exact hQ
  refine wp_tout (pc := 1) 141 dX11_about_1 (by omega) (by omega) (by decide) ?_
  refine wp_iconst (pc := 141) dX11_about_141 ?_
  refine wp_iret (pc := 142) dX11_about_142 rfl rfl ?_
  have e1 : aboutA T S Z ((H.2.1 : Nat) : Int) ((H.2.2 : Nat) : Int) (I 111 1) w = (-1) := by
    unfold aboutA
    repeat rw [if_neg (by omega)]
  rw [e1] at hQ; exact hQ
