theorem sp_add {l : Launch} {G : mG} {d : Nat} {I : mI} {L : Nat → Nat → Int} {D : Nat → Nat} {Q : mQ} {H : mH} {S : mS}  (hH : HI I H) (hS : SS I 47 = S) (hd : 1 ≤ d) (hQ : ∀ J, Fh I J → HI J (hadd H S) → Q none J (XX L D)) : WP l G m_X2_add d 153 I (XX L D) 0 [some (vR 51), some (vR 47)] [] Q := by
  have b := hH.b
  have t1 := tmod_p (h := I 51 1 + (I 51 2 + 1)) (w := 41) (by omega) (by decide)
  have t2 := tmod_p (h := I 51 1 + 1) (w := 41) (by omega) (by decide)
  have t3 := tmod_p (h := Int.tmod (I 51 1 + 1) 41 + I 51 2) (w := 41) (by omega) (by decide)
  refine wp_aload_n (pc := 0) 0 dX2_add_0 rfl rfl ?_
  refine wp_geti (pc := 1) dX2_add_1 rfl f_X2_20 kd_51 la_51 (Or.inl rfl) ?_
  refine wp_bipush (pc := 4) dX2_add_4 (by decide) ?_
  refine wp_icmp_ge (pc := 6) 22 dX2_add_6 (by decide) (by omega) (by decide) (fun h_1 => ?_) (fun h_1 => ?_)
  · refine wp_aload_n (pc := 22) 0 dX2_add_22 rfl rfl ?_
    refine wp_aload_n (pc := 23) 0 dX2_add_23 rfl rfl ?_
    refine wp_geti (pc := 24) dX2_add_24 rfl f_X2_16 kd_51 la_51 (Or.inl rfl) ?_
    refine wp_iconst (pc := 27) dX2_add_27 ?_
    refine wp_iadd (pc := 28) dX2_add_28 ?_
    refine wp_bipush (pc := 29) dX2_add_29 (by decide) ?_
    refine wp_irem (pc := 31) dX2_add_31 (by omega) (by omega) (by omega) ?_
    refine wp_puti (pc := 32) dX2_add_32 rfl f_X2_16 kd_51 la_51 (fun _ h => by cases h; rfl) rfl ?_
    refine wp_aload_n (pc := 35) 0 dX2_add_35 rfl rfl ?_
    refine wp_aload_n (pc := 36) 0 dX2_add_36 rfl rfl ?_
    refine wp_geti (pc := 37) dX2_add_37 rfl f_X2_20 kd_51 la_51 (Or.inl rfl) ?_
    refine wp_eqst (st' := [vI (I 51 2), vR 51]) (by rw [up_j (by omega)]) ?_
    refine wp_puti (pc := 40) dX2_add_40 rfl f_X2_23 kd_51 la_51 (fun _ h => by cases h; rfl) rfl ?_
    refine wp_aload_n (pc := 43) 1 dX2_add_43 rfl rfl ?_
    refine wp_getr (pc := 44) dX2_add_44 rfl f_X2_26 kd_47 la_47 rfl (r_47_0 D) ?_
    refine wp_iconst (pc := 47) dX2_add_47 ?_
    refine wp_aload_n (pc := 48) 0 dX2_add_48 rfl rfl ?_
    refine wp_getr (pc := 49) dX2_add_49 rfl f_X2_13 kd_51 la_51 rfl (r_51_0 D) ?_
    refine wp_aload_n (pc := 52) 0 dX2_add_52 rfl rfl ?_
    refine wp_geti (pc := 53) dX2_add_53 rfl f_X2_16 kd_51 la_51 (Or.inl rfl) ?_
    refine wp_eqst (st' := [vI (Int.tmod ((I 51 1) + 1) 41), vR 52, vI 0, vR 48]) (by rw [up_j (by omega), up_s]) ?_
    refine wp_aload_n (pc := 56) 0 dX2_add_56 rfl rfl ?_
    refine wp_geti (pc := 57) dX2_add_57 rfl f_X2_20 kd_51 la_51 (Or.inl rfl) ?_
    refine wp_eqst (st' := [vI (I 51 2), vI (Int.tmod ((I 51 1) + 1) 41), vR 52, vI 0, vR 48]) (by rw [up_j (by omega), up_j (by omega)]) ?_
    refine wp_iadd (pc := 60) dX2_add_60 ?_
    refine wp_bipush (pc := 61) dX2_add_61 (by decide) ?_
    refine wp_irem (pc := 63) dX2_add_63 (by omega) (by omega) (by omega) ?_
    refine wp_aald (pc := 64) dX2_add_64 kd_52 (Or.inr rfl) la_52 (by omega) (by omega) (row_r D _ (by omega)) ?_
    refine wp_iconst (pc := 65) dX2_add_65 ?_
    refine wp_bipush (pc := 66) dX2_add_66 (by decide) ?_
    refine wp_row (pc := 68) (st := []) dX2_add_68 rfl c_X2_30 kd_48 (row_k _ (by omega)) la_48 (row_l (by omega)) (Nat.le_of_ble_eq_true rfl) (by omega) ?_
    refine wp_vret (pc := 71) dX2_add_71 rfl rfl ?_
    exact hQ _ (fun b h1 h2 => funext fun j => by rw [upc_c (by omega), up_c (by omega), up_c (by omega)]) (hi_n hH (by omega) (by rw [upc_c (by omega), up_j (by omega), up_s]) (by rw [upc_c (by omega), up_j (by omega), up_j (by omega)]) (by rw [upc_c (by omega), up_s]) (by funext j; rw [upc_s, up_c (by omega), up_c (by omega)]; exact congrFun (row48 hS) j) (fun i hi hne => funext fun j => by rw [upc_c (by omega), up_c (by omega), up_c (by omega)]))
  · refine wp_aload_n (pc := 9) 0 dX2_add_9 rfl rfl ?_
    refine wp_dup (pc := 10) dX2_add_10 rfl ?_
    refine wp_geti (pc := 11) dX2_add_11 rfl f_X2_20 kd_51 la_51 (Or.inl rfl) ?_
    refine wp_iconst (pc := 14) dX2_add_14 ?_
    refine wp_iadd (pc := 15) dX2_add_15 ?_
    refine wp_puti (pc := 16) dX2_add_16 rfl f_X2_20 kd_51 la_51 (fun _ h => by cases h; rfl) rfl ?_
    refine wp_goto (pc := 19) 35 dX2_add_19 (by decide) ?_
    refine wp_aload_n (pc := 35) 0 dX2_add_35 rfl rfl ?_
    refine wp_aload_n (pc := 36) 0 dX2_add_36 rfl rfl ?_
    refine wp_geti (pc := 37) dX2_add_37 rfl f_X2_20 kd_51 la_51 (Or.inl rfl) ?_
    refine wp_eqst (st' := [vI ((I 51 2) + 1), vR 51]) (by rw [up_s]) ?_
    refine wp_puti (pc := 40) dX2_add_40 rfl f_X2_23 kd_51 la_51 (fun _ h => by cases h; rfl) rfl ?_
    refine wp_aload_n (pc := 43) 1 dX2_add_43 rfl rfl ?_
    refine wp_getr (pc := 44) dX2_add_44 rfl f_X2_26 kd_47 la_47 rfl (r_47_0 D) ?_
    refine wp_iconst (pc := 47) dX2_add_47 ?_
    refine wp_aload_n (pc := 48) 0 dX2_add_48 rfl rfl ?_
    refine wp_getr (pc := 49) dX2_add_49 rfl f_X2_13 kd_51 la_51 rfl (r_51_0 D) ?_
    refine wp_aload_n (pc := 52) 0 dX2_add_52 rfl rfl ?_
    refine wp_geti (pc := 53) dX2_add_53 rfl f_X2_16 kd_51 la_51 (Or.inl rfl) ?_
    refine wp_eqst (st' := [vI (I 51 1), vR 52, vI 0, vR 48]) (by rw [up_j (by omega), up_j (by omega)]) ?_
    refine wp_aload_n (pc := 56) 0 dX2_add_56 rfl rfl ?_
    refine wp_geti (pc := 57) dX2_add_57 rfl f_X2_20 kd_51 la_51 (Or.inl rfl) ?_
    refine wp_eqst (st' := [vI ((I 51 2) + 1), vI (I 51 1), vR 52, vI 0, vR 48]) (by rw [up_j (by omega), up_s]) ?_
    refine wp_iadd (pc := 60) dX2_add_60 ?_
    refine wp_bipush (pc := 61) dX2_add_61 (by decide) ?_
    refine wp_irem (pc := 63) dX2_add_63 (by omega) (by omega) (by omega) ?_
    refine wp_aald (pc := 64) dX2_add_64 kd_52 (Or.inr rfl) la_52 (by omega) (by omega) (row_r D _ (by omega)) ?_
    refine wp_iconst (pc := 65) dX2_add_65 ?_
    refine wp_bipush (pc := 66) dX2_add_66 (by decide) ?_
    refine wp_row (pc := 68) (st := []) dX2_add_68 rfl c_X2_30 kd_48 (row_k _ (by omega)) la_48 (row_l (by omega)) (Nat.le_of_ble_eq_true rfl) (by omega) ?_
    refine wp_vret (pc := 71) dX2_add_71 rfl rfl ?_
    exact hQ _ (fun b h1 h2 => funext fun j => by rw [upc_c (by omega), up_c (by omega), up_c (by omega)]) (hi_y hH (by omega) (by rw [upc_c (by omega), up_j (by omega), up_j (by omega)]) (by rw [upc_c (by omega), up_j (by omega), up_s]) (by rw [upc_c (by omega), up_s]) (by funext j; rw [upc_s, up_c (by omega), up_c (by omega)]; exact congrFun (row48 hS) j) (fun i hi hne => funext fun j => by rw [upc_c (by omega), up_c (by omega), up_c (by omega)]))

theorem sp_restart {l : Launch} {G : mG} {d : Nat} {I : mI} {L : Nat → Nat → Int} {D : Nat → Nat} {Q : mQ} {S : mS}  (hS : SS I 47 = S) (hd : 1 ≤ d) (hQ : ∀ J, Fh I J → HI J (fun _ => S, 0, 0) → Q none J (XX L D)) : WP l G m_X2_restart d 153 I (XX L D) 0 [some (vR 51), some (vR 47)] [] Q := by
  refine wp_aload_n (pc := 0) 0 dX2_restart_0 rfl rfl ?_
  refine wp_iconst (pc := 1) dX2_restart_1 ?_
  refine wp_puti (pc := 2) dX2_restart_2 rfl f_X2_16 kd_51 la_51 (fun _ h => by cases h; rfl) rfl ?_
  refine wp_aload_n (pc := 5) 0 dX2_restart_5 rfl rfl ?_
  refine wp_iconst (pc := 6) dX2_restart_6 ?_
  refine wp_puti (pc := 7) dX2_restart_7 rfl f_X2_20 kd_51 la_51 (fun _ h => by cases h; rfl) rfl ?_
  refine wp_aload_n (pc := 10) 0 dX2_restart_10 rfl rfl ?_
  refine wp_iconst (pc := 11) dX2_restart_11 ?_
  refine wp_puti (pc := 12) dX2_restart_12 rfl f_X2_23 kd_51 la_51 (fun _ h => by cases h; rfl) rfl ?_
  refine wp_aload_n (pc := 15) 1 dX2_restart_15 rfl rfl ?_
  refine wp_getr (pc := 16) dX2_restart_16 rfl f_X2_26 kd_47 la_47 rfl (r_47_0 D) ?_
  refine wp_iconst (pc := 19) dX2_restart_19 ?_
  refine wp_aload_n (pc := 20) 0 dX2_restart_20 rfl rfl ?_
  refine wp_getr (pc := 21) dX2_restart_21 rfl f_X2_13 kd_51 la_51 rfl (r_51_0 D) ?_
  refine wp_iconst (pc := 24) dX2_restart_24 ?_
  refine wp_aald (pc := 25) dX2_restart_25 kd_52 (Or.inr rfl) la_52 (by decide) (by decide) (r_52_0 D) ?_
  refine wp_iconst (pc := 26) dX2_restart_26 ?_
  refine wp_bipush (pc := 27) dX2_restart_27 (by decide) ?_
  refine wp_row (pc := 29) (st := []) dX2_restart_29 rfl c_X2_30 kd_48 kd_53 la_48 la_53 (Nat.le_of_ble_eq_true rfl) (by omega) ?_
  refine wp_vret (pc := 32) dX2_restart_32 rfl rfl ?_
  refine hQ _ (fun b h1 h2 => funext fun j => by rw [upc_c (by omega), up_c (by omega), up_c (by omega), up_c (by omega)]) ⟨by rw [upc_c (by omega), up_j (by omega), up_j (by omega), up_s]; decide, by rw [upc_c (by omega), up_j (by omega), up_s]; rfl, by rw [upc_c (by omega), up_s]; rfl, Nat.le_refl 0, Nat.zero_le 40, fun i hi => ?_⟩
  have hi : i = 0 := Nat.le_zero.mp hi
  have e1 : (upc (up (up (up I 51 1 0) 51 2 0) 51 3 0) 53 ((up (up (up I 51 1 0) 51 2 0) 51 3 0) 48)) 51 1 = 0 := (by rw [upc_c (by omega), up_j (by omega), up_j (by omega), up_s])
  rw [hi, e1]
  funext j; show (upc (up (up (up I 51 1 0) 51 2 0) 51 3 0) 53 ((up (up (up I 51 1 0) 51 2 0) 51 3 0) 48)) 53 j = S j; rw [upc_s, up_c (by omega), up_c (by omega), up_c (by omega)]; exact congrFun (row48 hS) j

theorem sp_stepBack {l : Launch} {G : mG} {d : Nat} {I : mI} {L : Nat → Nat → Int} {D : Nat → Nat} {Q : mQ} {H : mH}  (hH : HI I H) (hd : 2 ≤ d) (h1 : 0 < H.2.1 → ∀ J, (∀ b, b ≠ 48 → b ≠ 51 → ¬ (53 ≤ b ∧ b ≤ 93) → J b = I b) → SS J 47 = H.1 (H.2.1 - 1) → HI J (H.1, H.2.1 - 1, H.2.2) → Q (some (vI 1)) J (XX L D)) (h0 : ¬ (0 < H.2.1) → Q (some (vI 0)) I (XX L D)) : WP l G m_X2_stepBack d 153 I (XX L D) 0 [some (vR 51), some (vR 47)] [] Q := by
  have b := hH.b
  have t1 : 0 < I 51 2 → _ := fun _ => tmod_p (h := I 51 1 + (I 51 2 - 1)) (w := 41) (by omega) (by decide)
  have t2 := tmod_p (h := I 51 1 + (I 51 2 + 1)) (w := 41) (by omega) (by decide)
  refine wp_aload_n (pc := 0) 0 dX2_stepBack_0 rfl rfl ?_
  refine wp_geti (pc := 1) dX2_stepBack_1 rfl f_X2_20 kd_51 la_51 (Or.inl rfl) ?_
  refine wp_if_ne (pc := 4) 9 dX2_stepBack_4 (by decide) (by omega) (fun h_1 => ?_) (fun h_1 => ?_)
  · refine wp_aload_n (pc := 9) 0 dX2_stepBack_9 rfl rfl ?_
    refine wp_dup (pc := 10) dX2_stepBack_10 rfl ?_
    refine wp_geti (pc := 11) dX2_stepBack_11 rfl f_X2_20 kd_51 la_51 (Or.inl rfl) ?_
    refine wp_iconst (pc := 14) dX2_stepBack_14 ?_
    refine wp_isub (pc := 15) dX2_stepBack_15 ?_
    refine wp_puti (pc := 16) dX2_stepBack_16 rfl f_X2_20 kd_51 la_51 (fun _ h => by cases h; rfl) rfl ?_
    refine wp_aload_n (pc := 19) 0 dX2_stepBack_19 rfl rfl ?_
    refine wp_aload_n (pc := 20) 1 dX2_stepBack_20 rfl rfl ?_
    refine wp_callV (pc := 21) (st := []) (nf' := 153) [vR 47] [some (vR 51), some (vR 47)] dX2_stepBack_21 rfl c_X2_36 rfl kd_51 (by decide) rfl la_51 rfl (Nat.le_of_ble_eq_true rfl) rfl (Nat.le_of_ble_eq_true rfl) (by omega) (Nat.le_refl _) (Nat.le_refl _) ?_
    refine wp_aload_n (pc := 0) 0 dX2_load_0 rfl rfl ?_
    refine wp_getr (pc := 1) dX2_load_1 rfl f_X2_13 kd_51 la_51 rfl (r_51_0 D) ?_
    refine wp_aload_n (pc := 4) 0 dX2_load_4 rfl rfl ?_
    refine wp_geti (pc := 5) dX2_load_5 rfl f_X2_16 kd_51 la_51 (Or.inl rfl) ?_
    refine wp_eqst (st' := [vI (I 51 1), vR 52]) (by rw [up_j (by omega)]) ?_
    refine wp_aload_n (pc := 8) 0 dX2_load_8 rfl rfl ?_
    refine wp_geti (pc := 9) dX2_load_9 rfl f_X2_20 kd_51 la_51 (Or.inl rfl) ?_
    refine wp_eqst (st' := [vI ((I 51 2) - 1), vI (I 51 1), vR 52]) (by rw [up_s]) ?_
    refine wp_iadd (pc := 12) dX2_load_12 ?_
    refine wp_bipush (pc := 13) dX2_load_13 (by decide) ?_
    refine wp_irem (pc := 15) dX2_load_15 (by omega) (by omega) (by omega) ?_
    refine wp_aald (pc := 16) dX2_load_16 kd_52 (Or.inr rfl) la_52 (by omega) (by omega) (row_r D _ (by omega)) ?_
    refine wp_iconst (pc := 17) dX2_load_17 ?_
    refine wp_aload_n (pc := 18) 1 dX2_load_18 rfl rfl ?_
    refine wp_getr (pc := 19) dX2_load_19 rfl f_X2_26 kd_47 la_47 rfl (r_47_0 D) ?_
    refine wp_iconst (pc := 22) dX2_load_22 ?_
    refine wp_bipush (pc := 23) dX2_load_23 (by decide) ?_
    refine wp_row (pc := 25) (st := []) dX2_load_25 rfl c_X2_30 (row_k _ (by omega)) kd_48 (row_l (by omega)) la_48 (Nat.le_of_ble_eq_true rfl) (by omega) ?_
    refine wp_vret (pc := 28) dX2_load_28 rfl rfl ?_
    refine wp_eqst (st' := []) rfl ?_
    refine wp_iconst (pc := 24) dX2_stepBack_24 ?_
    refine wp_zret (pc := 25) dX2_stepBack_25 rfl rfl (by decide) ?_
    have g := hH.2
    have hj : HI (upc (up I 51 2 ((I 51 2) - 1)) 48 ((up I 51 2 ((I 51 2) - 1)) (53 + Int.toNat (Int.tmod ((I 51 1) + ((I 51 2) - 1)) 41)))) (H.1, H.2.1 - 1, H.2.2) := by
      have e1 : (upc (up I 51 2 ((I 51 2) - 1)) 48 ((up I 51 2 ((I 51 2) - 1)) (53 + Int.toNat (Int.tmod ((I 51 1) + ((I 51 2) - 1)) 41)))) 51 1 = I 51 1 := (by rw [upc_c (by omega), up_j (by omega)])
      have e2 : (upc (up I 51 2 ((I 51 2) - 1)) 48 ((up I 51 2 ((I 51 2) - 1)) (53 + Int.toNat (Int.tmod ((I 51 1) + ((I 51 2) - 1)) 41)))) 51 2 = I 51 2 - 1 := (by rw [upc_c (by omega), up_s])
      have e3 : (upc (up I 51 2 ((I 51 2) - 1)) 48 ((up I 51 2 ((I 51 2) - 1)) (53 + Int.toNat (Int.tmod ((I 51 1) + ((I 51 2) - 1)) 41)))) 51 3 = I 51 3 := (by rw [upc_c (by omega), up_j (by omega)])
      refine ⟨by rw [e1]; exact hH.1, by rw [e2]; show _ = ((H.2.1 - 1 : Nat) : Int); omega, by rw [e3]; exact g.2.1, by show H.2.1 - 1 ≤ H.2.2; omega, g.2.2.2.1, fun i hi => ?_⟩
      rw [e1, ← g.2.2.2.2 i hi]
      funext j; rw [upc_c (by omega), up_c (by omega)]
    have hs : SS (upc (up I 51 2 ((I 51 2) - 1)) 48 ((up I 51 2 ((I 51 2) - 1)) (53 + Int.toNat (Int.tmod ((I 51 1) + ((I 51 2) - 1)) 41)))) 47 = H.1 (H.2.1 - 1) := by
      funext j; show (upc (up I 51 2 ((I 51 2) - 1)) 48 ((up I 51 2 ((I 51 2) - 1)) (53 + Int.toNat (Int.tmod ((I 51 1) + ((I 51 2) - 1)) 41)))) 48 j = _; rw [upc_s, up_c (by omega)]
      exact congrFun (hH.row (i := H.2.1 - 1) (by omega) (by omega)) j
    exact h1 (by omega) _ (fun b h1 h2 h3 => funext fun j => by rw [upc_c (by omega), up_c (by omega)]) hs hj
  · refine wp_iconst (pc := 7) dX2_stepBack_7 ?_
    refine wp_zret (pc := 8) dX2_stepBack_8 rfl rfl (by decide) ?_
    exact h0 (by have g := hH.2; omega)

theorem sp_stepOn {l : Launch} {G : mG} {d : Nat} {I : mI} {L : Nat → Nat → Int} {D : Nat → Nat} {Q : mQ} {H : mH}  (hH : HI I H) (hd : 2 ≤ d) (h1 : H.2.1 < H.2.2 → ∀ J, (∀ b, b ≠ 48 → b ≠ 51 → ¬ (53 ≤ b ∧ b ≤ 93) → J b = I b) → SS J 47 = H.1 (H.2.1 + 1) → HI J (H.1, H.2.1 + 1, H.2.2) → Q (some (vI 1)) J (XX L D)) (h0 : ¬ (H.2.1 < H.2.2) → Q (some (vI 0)) I (XX L D)) : WP l G m_X2_stepOn d 153 I (XX L D) 0 [some (vR 51), some (vR 47)] [] Q := by
  have b := hH.b
  have t2 := tmod_p (h := I 51 1 + (I 51 2 + 1)) (w := 41) (by omega) (by decide)
  refine wp_aload_n (pc := 0) 0 dX2_stepOn_0 rfl rfl ?_
  refine wp_geti (pc := 1) dX2_stepOn_1 rfl f_X2_20 kd_51 la_51 (Or.inl rfl) ?_
  refine wp_aload_n (pc := 4) 0 dX2_stepOn_4 rfl rfl ?_
  refine wp_geti (pc := 5) dX2_stepOn_5 rfl f_X2_23 kd_51 la_51 (Or.inl rfl) ?_
  refine wp_icmp_ne (pc := 8) 13 dX2_stepOn_8 (by decide) (by omega) (by omega) (fun h_1 => ?_) (fun h_1 => ?_)
  · refine wp_aload_n (pc := 13) 0 dX2_stepOn_13 rfl rfl ?_
    refine wp_dup (pc := 14) dX2_stepOn_14 rfl ?_
    refine wp_geti (pc := 15) dX2_stepOn_15 rfl f_X2_20 kd_51 la_51 (Or.inl rfl) ?_
    refine wp_iconst (pc := 18) dX2_stepOn_18 ?_
    refine wp_iadd (pc := 19) dX2_stepOn_19 ?_
    refine wp_puti (pc := 20) dX2_stepOn_20 rfl f_X2_20 kd_51 la_51 (fun _ h => by cases h; rfl) rfl ?_
    refine wp_aload_n (pc := 23) 0 dX2_stepOn_23 rfl rfl ?_
    refine wp_aload_n (pc := 24) 1 dX2_stepOn_24 rfl rfl ?_
    refine wp_callV (pc := 25) (st := []) (nf' := 153) [vR 47] [some (vR 51), some (vR 47)] dX2_stepOn_25 rfl c_X2_36 rfl kd_51 (by decide) rfl la_51 rfl (Nat.le_of_ble_eq_true rfl) rfl (Nat.le_of_ble_eq_true rfl) (by omega) (Nat.le_refl _) (Nat.le_refl _) ?_
    refine wp_aload_n (pc := 0) 0 dX2_load_0 rfl rfl ?_
    refine wp_getr (pc := 1) dX2_load_1 rfl f_X2_13 kd_51 la_51 rfl (r_51_0 D) ?_
    refine wp_aload_n (pc := 4) 0 dX2_load_4 rfl rfl ?_
    refine wp_geti (pc := 5) dX2_load_5 rfl f_X2_16 kd_51 la_51 (Or.inl rfl) ?_
    refine wp_eqst (st' := [vI (I 51 1), vR 52]) (by rw [up_j (by omega)]) ?_
    refine wp_aload_n (pc := 8) 0 dX2_load_8 rfl rfl ?_
    refine wp_geti (pc := 9) dX2_load_9 rfl f_X2_20 kd_51 la_51 (Or.inl rfl) ?_
    refine wp_eqst (st' := [vI ((I 51 2) + 1), vI (I 51 1), vR 52]) (by rw [up_s]) ?_
    refine wp_iadd (pc := 12) dX2_load_12 ?_
    refine wp_bipush (pc := 13) dX2_load_13 (by decide) ?_
    refine wp_irem (pc := 15) dX2_load_15 (by omega) (by omega) (by omega) ?_
    refine wp_aald (pc := 16) dX2_load_16 kd_52 (Or.inr rfl) la_52 (by omega) (by omega) (row_r D _ (by omega)) ?_
    refine wp_iconst (pc := 17) dX2_load_17 ?_
    refine wp_aload_n (pc := 18) 1 dX2_load_18 rfl rfl ?_
    refine wp_getr (pc := 19) dX2_load_19 rfl f_X2_26 kd_47 la_47 rfl (r_47_0 D) ?_
    refine wp_iconst (pc := 22) dX2_load_22 ?_
    refine wp_bipush (pc := 23) dX2_load_23 (by decide) ?_
    refine wp_row (pc := 25) (st := []) dX2_load_25 rfl c_X2_30 (row_k _ (by omega)) kd_48 (row_l (by omega)) la_48 (Nat.le_of_ble_eq_true rfl) (by omega) ?_
    refine wp_vret (pc := 28) dX2_load_28 rfl rfl ?_
    refine wp_eqst (st' := []) rfl ?_
    refine wp_iconst (pc := 28) dX2_stepOn_28 ?_
    refine wp_zret (pc := 29) dX2_stepOn_29 rfl rfl (by decide) ?_
    have g := hH.2
    have hj : HI (upc (up I 51 2 ((I 51 2) + 1)) 48 ((up I 51 2 ((I 51 2) + 1)) (53 + Int.toNat (Int.tmod ((I 51 1) + ((I 51 2) + 1)) 41)))) (H.1, H.2.1 + 1, H.2.2) := by
      have e1 : (upc (up I 51 2 ((I 51 2) + 1)) 48 ((up I 51 2 ((I 51 2) + 1)) (53 + Int.toNat (Int.tmod ((I 51 1) + ((I 51 2) + 1)) 41)))) 51 1 = I 51 1 := (by rw [upc_c (by omega), up_j (by omega)])
      have e2 : (upc (up I 51 2 ((I 51 2) + 1)) 48 ((up I 51 2 ((I 51 2) + 1)) (53 + Int.toNat (Int.tmod ((I 51 1) + ((I 51 2) + 1)) 41)))) 51 2 = I 51 2 + 1 := (by rw [upc_c (by omega), up_s])
      have e3 : (upc (up I 51 2 ((I 51 2) + 1)) 48 ((up I 51 2 ((I 51 2) + 1)) (53 + Int.toNat (Int.tmod ((I 51 1) + ((I 51 2) + 1)) 41)))) 51 3 = I 51 3 := (by rw [upc_c (by omega), up_j (by omega)])
      refine ⟨by rw [e1]; exact hH.1, by rw [e2]; show _ = ((H.2.1 + 1 : Nat) : Int); omega, by rw [e3]; exact g.2.1, by show H.2.1 + 1 ≤ H.2.2; omega, g.2.2.2.1, fun i hi => ?_⟩
      rw [e1, ← g.2.2.2.2 i hi]
      funext j; rw [upc_c (by omega), up_c (by omega)]
    have hs : SS (upc (up I 51 2 ((I 51 2) + 1)) 48 ((up I 51 2 ((I 51 2) + 1)) (53 + Int.toNat (Int.tmod ((I 51 1) + ((I 51 2) + 1)) 41)))) 47 = H.1 (H.2.1 + 1) := by
      funext j; show (upc (up I 51 2 ((I 51 2) + 1)) 48 ((up I 51 2 ((I 51 2) + 1)) (53 + Int.toNat (Int.tmod ((I 51 1) + ((I 51 2) + 1)) 41)))) 48 j = _; rw [upc_s, up_c (by omega)]
      exact congrFun (hH.row (i := H.2.1 + 1) (by omega) (by omega)) j
    exact h1 (by omega) _ (fun b h1 h2 h3 => funext fun j => by rw [upc_c (by omega), up_c (by omega)]) hs hj
  · refine wp_iconst (pc := 11) dX2_stepOn_11 ?_
    refine wp_zret (pc := 12) dX2_stepOn_12 rfl rfl (by decide) ?_
    exact h0 (by have g := hH.2; omega)

theorem sp_sit {l : Launch} {G : mG} {d : Nat} {I : mI} {L : Nat → Nat → Int} {D : Nat → Nat} {Q : mQ} {T : mT} {S : mS} {Z : mT} {H : mH} {a c : Int}  (hC : CI I D T S Z) (hH : HI I H) (h_a : inR a) (h_c : inR c) (hd : 2 ≤ d) (h1 : ((0 ≤ a ∧ a < T 0 12) ∧ (0 ≤ c ∧ c < T 0 11) ∧ S a.toNat ≠ c) → ∀ J, Fm I J (D 3) → SS J 47 = (setF S a.toNat c) → HI J (hadd H (setF S a.toNat c)) → Q (some (vI (S a.toNat))) J (XX L D)) (h0 : ¬ (((0 ≤ a ∧ a < T 0 12) ∧ (0 ≤ c ∧ c < T 0 11) ∧ S a.toNat ≠ c)) → Q (some (vI (-1))) I (XX L D)) : WP l G m_X10_sit d 153 I (XX L D) 0 [some (vR 0), some (vI a), some (vI c), none] [] Q := by
  obtain ⟨hD0, h30, hT0, hS, hZ, hw, hv, hz, hrd, hcd⟩ := hC
  have h3 : isT (D 3) := by rw [h30]; exact hD0
  have hT : TT I (D 3) = T := by rw [h30]; exact hT0
  have b_p := tw_p hw
  have b_c := tw_c hw
  have b_q := tw_q hw
  have b_s := sw_sun hv
  have b_i : 0 ≤ a → a < T 0 13 → 0 ≤ S (8 + a.toNat) ∧ S (8 + a.toNat) ≤ 2 := fun x y => sw_stat hv (by omega)
  have b_j : 0 ≤ a → a < T 0 12 → 0 ≤ S a.toNat ∧ S a.toNat ≤ 3 := fun x y => sw_seat hv (by omega)
  refine wp_aload_n (pc := 0) 0 dX10_sit_0 rfl rfl ?_
  refine wp_getr (pc := 1) dX10_sit_1 rfl f_X10_10 kd_0 la_0 rfl (r_0_0 D) ?_
  refine wp_iload_n (pc := 4) 1 dX10_sit_4 rfl rfl ?_
  refine wp_callV (pc := 5) (st := []) (nf' := 153) [vI a] [some (vR (D 0)), some (vI a)] dX10_sit_5 rfl c_X10_122 rfl (tk_0 hD0) (by decide) rfl (tl_0 hD0) rfl (Nat.le_of_ble_eq_true rfl) rfl (Nat.le_of_ble_eq_true rfl) (by omega) (Nat.le_refl _) (Nat.le_refl _) ?_
  refine sp_hasPerson hD0 hT0 hw (by omega) (by omega) (fun h_1 => ?_) (fun h_1 => ?_)
  · refine wp_eqst (st' := [vI 1]) rfl ?_
    refine wp_if_eq (pc := 8) 22 dX10_sit_8 (by decide) (by decide) (fun hh => absurd hh (by decide)) (fun _ => ?_)
    refine wp_aload_n (pc := 11) 0 dX10_sit_11 rfl rfl ?_
    refine wp_getr (pc := 12) dX10_sit_12 rfl f_X10_10 kd_0 la_0 rfl (r_0_0 D) ?_
    refine wp_iload_n (pc := 15) 2 dX10_sit_15 rfl rfl ?_
    refine wp_callV (pc := 16) (st := []) (nf' := 153) [vI c] [some (vR (D 0)), some (vI c)] dX10_sit_16 rfl c_X10_205 rfl (tk_0 hD0) (by decide) rfl (tl_0 hD0) rfl (Nat.le_of_ble_eq_true rfl) rfl (Nat.le_of_ble_eq_true rfl) (by omega) (Nat.le_refl _) (Nat.le_refl _) ?_
    refine sp_hasChurch hD0 hT0 hw (by omega) (by omega) (fun h_2 => ?_) (fun h_2 => ?_)
    · refine wp_eqst (st' := [vI 1]) rfl ?_
      refine wp_if_ne (pc := 19) 24 dX10_sit_19 (by decide) (by decide) (fun _ => ?_) (fun hh => absurd hh (by decide))
      refine wp_aload_n (pc := 24) 0 dX10_sit_24 rfl rfl ?_
      refine wp_getr (pc := 25) dX10_sit_25 rfl f_X10_47 kd_0 la_0 rfl (r_0_5 D) ?_
      refine wp_iload_n (pc := 28) 1 dX10_sit_28 rfl rfl ?_
      refine wp_callV (pc := 29) (st := []) (nf' := 153) [vI a] [some (vR 47), some (vI a)] dX10_sit_29 rfl c_X10_125 rfl kd_47 (by decide) rfl la_47 rfl (Nat.le_of_ble_eq_true rfl) rfl (Nat.le_of_ble_eq_true rfl) (by omega) (Nat.le_refl _) (Nat.le_refl _) ?_
      refine wp_aload_n (pc := 0) 0 dX7_seat_0 rfl rfl ?_
      refine wp_getr (pc := 1) dX7_seat_1 rfl f_X7_11 kd_47 la_47 rfl (r_47_0 D) ?_
      refine wp_iconst (pc := 4) dX7_seat_4 ?_
      refine wp_iload_n (pc := 5) 1 dX7_seat_5 rfl rfl ?_
      refine wp_iadd (pc := 6) dX7_seat_6 ?_
      refine wq_iald (pc := 7) a.toNat dX7_seat_7 kd_48 la_48 (by omega) (by omega) ?_
      refine wp_eqst (st' := [vI (S a.toNat)]) (by rw [← hS] <;> rfl) ?_
      refine wp_iret (pc := 8) dX7_seat_8 rfl rfl ?_
      refine wp_eqst (st' := [vI (S a.toNat)]) rfl ?_
      refine wq_istore_n (pc := 32) 3 [some (vR 0), some (vI a), some (vI c), some (vI (S a.toNat))] dX10_sit_32 rfl rfl (by decide) rfl ?_
      refine wp_iload_n (pc := 33) 3 dX10_sit_33 rfl rfl ?_
      refine wp_iload_n (pc := 34) 2 dX10_sit_34 rfl rfl ?_
      refine wp_icmp_ne (pc := 35) 40 dX10_sit_35 (by decide) (by omega) (by omega) (fun h_3 => ?_) (fun h_3 => ?_)
      · refine wp_aload_n (pc := 40) 0 dX10_sit_40 rfl rfl ?_
        refine wp_getr (pc := 41) dX10_sit_41 rfl f_X10_47 kd_0 la_0 rfl (r_0_5 D) ?_
        refine wp_iload_n (pc := 44) 1 dX10_sit_44 rfl rfl ?_
        refine wp_iload_n (pc := 45) 2 dX10_sit_45 rfl rfl ?_
        refine wp_callV (pc := 46) (st := []) (nf' := 153) [vI a, vI c] [some (vR 47), some (vI a), some (vI c)] dX10_sit_46 rfl c_X10_214 rfl kd_47 (by decide) rfl la_47 rfl (Nat.le_of_ble_eq_true rfl) rfl (Nat.le_of_ble_eq_true rfl) (by omega) (Nat.le_refl _) (Nat.le_refl _) ?_
        refine wp_aload_n (pc := 0) 0 dX7_setSeat_0 rfl rfl ?_
        refine wp_getr (pc := 1) dX7_setSeat_1 rfl f_X7_11 kd_47 la_47 rfl (r_47_0 D) ?_
        refine wp_iconst (pc := 4) dX7_setSeat_4 ?_
        refine wp_iload_n (pc := 5) 1 dX7_setSeat_5 rfl rfl ?_
        refine wp_iadd (pc := 6) dX7_setSeat_6 ?_
        refine wp_iload_n (pc := 7) 2 dX7_setSeat_7 rfl rfl ?_
        refine wq_iast (pc := 8) a.toNat dX7_setSeat_8 kd_48 la_48 (by omega) (by omega) ?_
        refine wp_vret (pc := 9) dX7_setSeat_9 rfl rfl ?_
        refine wp_eqst (st' := []) rfl ?_
        refine wp_aload_n (pc := 49) 0 dX10_sit_49 rfl rfl ?_
        refine wp_getr (pc := 50) dX10_sit_50 rfl f_X10_57 kd_0 la_0 rfl (r_0_7 D) ?_
        refine wp_aload_n (pc := 53) 0 dX10_sit_53 rfl rfl ?_
        refine wp_getr (pc := 54) dX10_sit_54 rfl f_X10_47 kd_0 la_0 rfl (r_0_5 D) ?_
        refine wp_callV (pc := 57) (st := []) (nf' := 153) [vR 47] [some (vR 51), some (vR 47)] dX10_sit_57 rfl c_X10_218 rfl kd_51 (by decide) rfl la_51 rfl (Nat.le_of_ble_eq_true rfl) rfl (Nat.le_of_ble_eq_true rfl) (by omega) (Nat.le_refl _) (Nat.le_refl _) ?_
        have hS1 : SS (up I 48 a.toNat c) 47 = (setF S a.toNat c) := SS_up (s := 47) hS
        refine sp_add (H := H) (S := (setF S a.toNat c)) (hH.fr (funext fun j => by rw [up_c (by omega)]) (fun i hi => funext fun j => by rw [up_c (by omega)])) hS1 (by omega) (fun J hJ hHJ => ?_)
        have hSJ := hJ.s hS1
        refine wp_eqst (st' := []) rfl ?_
        refine wp_iload_n (pc := 60) 3 dX10_sit_60 rfl rfl ?_
        refine wp_iret (pc := 61) dX10_sit_61 rfl rfl ?_
        have e1 : S a.toNat = S a.toNat := by first | rfl | (repeat rw [setF_n (by omega)])
        exact h1 (by omega) J (fun b g1 g2 g3 g4 g5 => (hJ b g4 g5).trans (funext fun j => by rw [up_c (by omega)])) hSJ hHJ
      · refine wp_iconst (pc := 38) dX10_sit_38 ?_
        refine wp_iret (pc := 39) dX10_sit_39 rfl rfl ?_
        exact h0 (by omega)
    · refine wp_eqst (st' := [vI 0]) rfl ?_
      refine wp_if_ne (pc := 19) 24 dX10_sit_19 (by decide) (by decide) (fun hh => absurd hh (by decide)) (fun _ => ?_)
      refine wp_iconst (pc := 22) dX10_sit_22 ?_
      refine wp_iret (pc := 23) dX10_sit_23 rfl rfl ?_
      exact h0 (by omega)
  · refine wp_eqst (st' := [vI 0]) rfl ?_
    refine wp_if_eq (pc := 8) 22 dX10_sit_8 (by decide) (by decide) (fun _ => ?_) (fun hh => absurd hh (by decide))
    refine wp_iconst (pc := 22) dX10_sit_22 ?_
    refine wp_iret (pc := 23) dX10_sit_23 rfl rfl ?_
    exact h0 (by omega)

theorem sp_move {l : Launch} {G : mG} {d : Nat} {I : mI} {L : Nat → Nat → Int} {D : Nat → Nat} {Q : mQ} {T : mT} {S : mS} {Z : mT} {H : mH} {a c e : Int}  (hC : CI I D T S Z) (hH : HI I H) (h_a : inR a) (h_c : inR c) (h_e : inR e) (hd : 2 ≤ d) (h1 : (openQ T S a ∧ (0 ≤ c ∧ c < T 0 11) ∧ (0 ≤ e ∧ e < T 0 11)) → ∀ J, Fm I J (D 3) → SS J 47 = (setF (setF S (13 + a.toNat) c) (18 + a.toNat) e) → HI J (hadd H (setF (setF S (13 + a.toNat) c) (18 + a.toNat) e)) → Q (some (vI (S (23 + a.toNat)))) J (XX L D)) (h0 : ¬ ((openQ T S a ∧ (0 ≤ c ∧ c < T 0 11) ∧ (0 ≤ e ∧ e < T 0 11))) → Q (some (vI (-1))) I (XX L D)) : WP l G m_X10_move d 153 I (XX L D) 0 [some (vR 0), some (vI a), some (vI c), some (vI e)] [] Q := by
  obtain ⟨hD0, h30, hT0, hS, hZ, hw, hv, hz, hrd, hcd⟩ := hC
  have h3 : isT (D 3) := by rw [h30]; exact hD0
  have hT : TT I (D 3) = T := by rw [h30]; exact hT0
  have b_p := tw_p hw
  have b_c := tw_c hw
  have b_q := tw_q hw
  have b_s := sw_sun hv
  have b_i : 0 ≤ a → a < T 0 13 → 0 ≤ S (8 + a.toNat) ∧ S (8 + a.toNat) ≤ 2 := fun x y => sw_stat hv (by omega)
  have b_j : 0 ≤ a → a < T 0 12 → 0 ≤ S a.toNat ∧ S a.toNat ≤ 3 := fun x y => sw_seat hv (by omega)
  refine wp_aload_n (pc := 0) 0 dX10_move_0 rfl rfl ?_
  refine wp_iload_n (pc := 1) 1 dX10_move_1 rfl rfl ?_
  refine wp_callV (pc := 2) (st := []) (nf' := 153) [vI a] [some (vR 0), some (vI a)] dX10_move_2 rfl c_X10_222 rfl kd_0 (by decide) rfl la_0 rfl (Nat.le_of_ble_eq_true rfl) rfl (Nat.le_of_ble_eq_true rfl) (by omega) (Nat.le_refl _) (Nat.le_refl _) ?_
  refine wp_aload_n (pc := 0) 0 dX10_isOpen_0 rfl rfl ?_
  refine wp_getr (pc := 1) dX10_isOpen_1 rfl f_X10_10 kd_0 la_0 rfl (r_0_0 D) ?_
  refine wp_iload_n (pc := 4) 1 dX10_isOpen_4 rfl rfl ?_
  refine wp_callV (pc := 5) (st := []) (nf' := 153) [vI a] [some (vR (D 0)), some (vI a)] dX10_isOpen_5 rfl c_X10_163 rfl (tk_0 hD0) (by decide) rfl (tl_0 hD0) rfl (Nat.le_of_ble_eq_true rfl) rfl (Nat.le_of_ble_eq_true rfl) (by omega) (Nat.le_refl _) (Nat.le_refl _) ?_
  refine sp_hasPair hD0 hT0 hw (by omega) (by omega) (fun h_1 => ?_) (fun h_1 => ?_)
  · refine wp_eqst (st' := [vI 1]) rfl ?_
    refine wp_if_eq (pc := 8) 26 dX10_isOpen_8 (by decide) (by decide) (fun hh => absurd hh (by decide)) (fun _ => ?_)
    refine wp_aload_n (pc := 11) 0 dX10_isOpen_11 rfl rfl ?_
    refine wp_getr (pc := 12) dX10_isOpen_12 rfl f_X10_47 kd_0 la_0 rfl (r_0_5 D) ?_
    refine wp_iload_n (pc := 15) 1 dX10_isOpen_15 rfl rfl ?_
    refine wp_callV (pc := 16) (st := []) (nf' := 153) [vI a] [some (vR 47), some (vI a)] dX10_isOpen_16 rfl c_X10_181 rfl kd_47 (by decide) rfl la_47 rfl (Nat.le_of_ble_eq_true rfl) rfl (Nat.le_of_ble_eq_true rfl) (by omega) (Nat.le_refl _) (Nat.le_refl _) ?_
    refine wp_aload_n (pc := 0) 0 dX7_status_0 rfl rfl ?_
    refine wp_getr (pc := 1) dX7_status_1 rfl f_X7_11 kd_47 la_47 rfl (r_47_0 D) ?_
    refine wp_bipush (pc := 4) dX7_status_4 (by decide) ?_
    refine wp_iload_n (pc := 6) 1 dX7_status_6 rfl rfl ?_
    refine wp_iadd (pc := 7) dX7_status_7 ?_
    refine wq_iald (pc := 8) (8 + a.toNat) dX7_status_8 kd_48 la_48 (by omega) (by omega) ?_
    refine wp_eqst (st' := [vI (S (8 + a.toNat))]) (by rw [← hS] <;> rfl) ?_
    refine wp_iret (pc := 9) dX7_status_9 rfl rfl ?_
    refine wp_eqst (st' := [vI (S (8 + a.toNat))]) rfl ?_
    refine wp_if_ne (pc := 19) 26 dX10_isOpen_19 (by decide) (by omega) (fun h_2 => ?_) (fun h_2 => ?_)
    · refine wp_iconst (pc := 26) dX10_isOpen_26 ?_
      refine wp_zret (pc := 27) dX10_isOpen_27 rfl rfl (by decide) ?_
      refine wp_eqst (st' := [vI 0]) rfl ?_
      refine wp_if_eq (pc := 5) 30 dX10_move_5 (by decide) (by decide) (fun _ => ?_) (fun hh => absurd hh (by decide))
      refine wp_iconst (pc := 30) dX10_move_30 ?_
      refine wp_iret (pc := 31) dX10_move_31 rfl rfl ?_
      exact h0 (by omega)
    · refine wp_iconst (pc := 22) dX10_isOpen_22 ?_
      refine wp_goto (pc := 23) 27 dX10_isOpen_23 (by decide) ?_
      refine wp_zret (pc := 27) dX10_isOpen_27 rfl rfl (by decide) ?_
      refine wp_eqst (st' := [vI 1]) rfl ?_
      refine wp_if_eq (pc := 5) 30 dX10_move_5 (by decide) (by decide) (fun hh => absurd hh (by decide)) (fun _ => ?_)
      refine wp_aload_n (pc := 8) 0 dX10_move_8 rfl rfl ?_
      refine wp_getr (pc := 9) dX10_move_9 rfl f_X10_10 kd_0 la_0 rfl (r_0_0 D) ?_
      refine wp_iload_n (pc := 12) 2 dX10_move_12 rfl rfl ?_
      refine wp_callV (pc := 13) (st := []) (nf' := 153) [vI c] [some (vR (D 0)), some (vI c)] dX10_move_13 rfl c_X10_205 rfl (tk_0 hD0) (by decide) rfl (tl_0 hD0) rfl (Nat.le_of_ble_eq_true rfl) rfl (Nat.le_of_ble_eq_true rfl) (by omega) (Nat.le_refl _) (Nat.le_refl _) ?_
      refine sp_hasChurch hD0 hT0 hw (by omega) (by omega) (fun h_3 => ?_) (fun h_3 => ?_)
      · refine wp_eqst (st' := [vI 1]) rfl ?_
        refine wp_if_eq (pc := 16) 30 dX10_move_16 (by decide) (by decide) (fun hh => absurd hh (by decide)) (fun _ => ?_)
        refine wp_aload_n (pc := 19) 0 dX10_move_19 rfl rfl ?_
        refine wp_getr (pc := 20) dX10_move_20 rfl f_X10_10 kd_0 la_0 rfl (r_0_0 D) ?_
        refine wp_iload_n (pc := 23) 3 dX10_move_23 rfl rfl ?_
        refine wp_callV (pc := 24) (st := []) (nf' := 153) [vI e] [some (vR (D 0)), some (vI e)] dX10_move_24 rfl c_X10_205 rfl (tk_0 hD0) (by decide) rfl (tl_0 hD0) rfl (Nat.le_of_ble_eq_true rfl) rfl (Nat.le_of_ble_eq_true rfl) (by omega) (Nat.le_refl _) (Nat.le_refl _) ?_
        refine sp_hasChurch hD0 hT0 hw (by omega) (by omega) (fun h_4 => ?_) (fun h_4 => ?_)
        · refine wp_eqst (st' := [vI 1]) rfl ?_
          refine wp_if_ne (pc := 27) 32 dX10_move_27 (by decide) (by decide) (fun _ => ?_) (fun hh => absurd hh (by decide))
          refine wp_aload_n (pc := 32) 0 dX10_move_32 rfl rfl ?_
          refine wp_getr (pc := 33) dX10_move_33 rfl f_X10_47 kd_0 la_0 rfl (r_0_5 D) ?_
          refine wp_iload_n (pc := 36) 1 dX10_move_36 rfl rfl ?_
          refine wp_iload_n (pc := 37) 2 dX10_move_37 rfl rfl ?_
          refine wp_iload_n (pc := 38) 3 dX10_move_38 rfl rfl ?_
          refine wp_callV (pc := 39) (st := []) (nf' := 153) [vI a, vI c, vI e] [some (vR 47), some (vI a), some (vI c), some (vI e)] dX10_move_39 rfl c_X10_225 rfl kd_47 (by decide) rfl la_47 rfl (Nat.le_of_ble_eq_true rfl) rfl (Nat.le_of_ble_eq_true rfl) (by omega) (Nat.le_refl _) (Nat.le_refl _) ?_
          refine wp_aload_n (pc := 0) 0 dX7_setChurches_0 rfl rfl ?_
          refine wp_getr (pc := 1) dX7_setChurches_1 rfl f_X7_11 kd_47 la_47 rfl (r_47_0 D) ?_
          refine wp_bipush (pc := 4) dX7_setChurches_4 (by decide) ?_
          refine wp_iload_n (pc := 6) 1 dX7_setChurches_6 rfl rfl ?_
          refine wp_iadd (pc := 7) dX7_setChurches_7 ?_
          refine wp_iload_n (pc := 8) 2 dX7_setChurches_8 rfl rfl ?_
          refine wq_iast (pc := 9) (13 + a.toNat) dX7_setChurches_9 kd_48 la_48 (by omega) (by omega) ?_
          refine wp_aload_n (pc := 10) 0 dX7_setChurches_10 rfl rfl ?_
          refine wp_getr (pc := 11) dX7_setChurches_11 rfl f_X7_11 kd_47 la_47 rfl (r_47_0 D) ?_
          refine wp_bipush (pc := 14) dX7_setChurches_14 (by decide) ?_
          refine wp_iload_n (pc := 16) 1 dX7_setChurches_16 rfl rfl ?_
          refine wp_iadd (pc := 17) dX7_setChurches_17 ?_
          refine wp_iload_n (pc := 18) 3 dX7_setChurches_18 rfl rfl ?_
          refine wq_iast (pc := 19) (18 + a.toNat) dX7_setChurches_19 kd_48 la_48 (by omega) (by omega) ?_
          refine wp_vret (pc := 20) dX7_setChurches_20 rfl rfl ?_
          refine wp_eqst (st' := []) rfl ?_
          refine wp_aload_n (pc := 42) 0 dX10_move_42 rfl rfl ?_
          refine wp_getr (pc := 43) dX10_move_43 rfl f_X10_57 kd_0 la_0 rfl (r_0_7 D) ?_
          refine wp_aload_n (pc := 46) 0 dX10_move_46 rfl rfl ?_
          refine wp_getr (pc := 47) dX10_move_47 rfl f_X10_47 kd_0 la_0 rfl (r_0_5 D) ?_
          refine wp_callV (pc := 50) (st := []) (nf' := 153) [vR 47] [some (vR 51), some (vR 47)] dX10_move_50 rfl c_X10_218 rfl kd_51 (by decide) rfl la_51 rfl (Nat.le_of_ble_eq_true rfl) rfl (Nat.le_of_ble_eq_true rfl) (by omega) (Nat.le_refl _) (Nat.le_refl _) ?_
          have hS1 : SS (up (up I 48 (13 + a.toNat) c) 48 (18 + a.toNat) e) 47 = (setF (setF S (13 + a.toNat) c) (18 + a.toNat) e) := SS_up (s := 47) (SS_up (s := 47) hS)
          refine sp_add (H := H) (S := (setF (setF S (13 + a.toNat) c) (18 + a.toNat) e)) (hH.fr (funext fun j => by rw [up_c (by omega), up_c (by omega)]) (fun i hi => funext fun j => by rw [up_c (by omega), up_c (by omega)])) hS1 (by omega) (fun J hJ hHJ => ?_)
          have hSJ := hJ.s hS1
          refine wp_eqst (st' := []) rfl ?_
          refine wp_aload_n (pc := 53) 0 dX10_move_53 rfl rfl ?_
          refine wp_getr (pc := 54) dX10_move_54 rfl f_X10_47 kd_0 la_0 rfl (r_0_5 D) ?_
          refine wp_iload_n (pc := 57) 1 dX10_move_57 rfl rfl ?_
          refine wp_callV (pc := 58) (st := []) (nf' := 153) [vI a] [some (vR 47), some (vI a)] dX10_move_58 rfl c_X10_178 rfl kd_47 (by decide) rfl la_47 rfl (Nat.le_of_ble_eq_true rfl) rfl (Nat.le_of_ble_eq_true rfl) (by omega) (Nat.le_refl _) (Nat.le_refl _) ?_
          refine wp_aload_n (pc := 0) 0 dX7_readings_0 rfl rfl ?_
          refine wp_getr (pc := 1) dX7_readings_1 rfl f_X7_11 kd_47 la_47 rfl (r_47_0 D) ?_
          refine wp_bipush (pc := 4) dX7_readings_4 (by decide) ?_
          refine wp_iload_n (pc := 6) 1 dX7_readings_6 rfl rfl ?_
          refine wp_iadd (pc := 7) dX7_readings_7 ?_
          refine wq_iald (pc := 8) (23 + a.toNat) dX7_readings_8 kd_48 la_48 (by omega) (by omega) ?_
          refine wp_eqst (st' := [vI ((setF (setF S (13 + a.toNat) c) (18 + a.toNat) e) (23 + a.toNat))]) (by rw [← hSJ] <;> rfl) ?_
          refine wp_iret (pc := 9) dX7_readings_9 rfl rfl ?_
          refine wp_eqst (st' := [vI ((setF (setF S (13 + a.toNat) c) (18 + a.toNat) e) (23 + a.toNat))]) rfl ?_
          refine wp_iret (pc := 61) dX10_move_61 rfl rfl ?_
          have e1 : (setF (setF S (13 + a.toNat) c) (18 + a.toNat) e) (23 + a.toNat) = S (23 + a.toNat) := by first | rfl | (repeat rw [setF_n (by omega)])
          rw [e1]
          exact h1 (by omega) J (fun b g1 g2 g3 g4 g5 => (hJ b g4 g5).trans (funext fun j => by rw [up_c (by omega), up_c (by omega)])) hSJ hHJ
        · refine wp_eqst (st' := [vI 0]) rfl ?_
          refine wp_if_ne (pc := 27) 32 dX10_move_27 (by decide) (by decide) (fun hh => absurd hh (by decide)) (fun _ => ?_)
          refine wp_iconst (pc := 30) dX10_move_30 ?_
          refine wp_iret (pc := 31) dX10_move_31 rfl rfl ?_
          exact h0 (by omega)
      · refine wp_eqst (st' := [vI 0]) rfl ?_
        refine wp_if_eq (pc := 16) 30 dX10_move_16 (by decide) (by decide) (fun _ => ?_) (fun hh => absurd hh (by decide))
        refine wp_iconst (pc := 30) dX10_move_30 ?_
        refine wp_iret (pc := 31) dX10_move_31 rfl rfl ?_
        exact h0 (by omega)
  · refine wp_eqst (st' := [vI 0]) rfl ?_
    refine wp_if_eq (pc := 8) 26 dX10_isOpen_8 (by decide) (by decide) (fun _ => ?_) (fun hh => absurd hh (by decide))
    refine wp_iconst (pc := 26) dX10_isOpen_26 ?_
    refine wp_zret (pc := 27) dX10_isOpen_27 rfl rfl (by decide) ?_
    refine wp_eqst (st' := [vI 0]) rfl ?_
    refine wp_if_eq (pc := 5) 30 dX10_move_5 (by decide) (by decide) (fun _ => ?_) (fun hh => absurd hh (by decide))
    refine wp_iconst (pc := 30) dX10_move_30 ?_
    refine wp_iret (pc := 31) dX10_move_31 rfl rfl ?_
    exact h0 (by omega)

theorem sp_licence {l : Launch} {G : mG} {d : Nat} {I : mI} {L : Nat → Nat → Int} {D : Nat → Nat} {Q : mQ} {T : mT} {S : mS} {Z : mT} {H : mH} {a : Int}  (hC : CI I D T S Z) (hH : HI I H) (h_a : inR a) (hd : 4 ≤ d) (h1 : (openQ T S a ∧ barQ T S a.toNat = 0) → ∀ J, Fm I J (D 3) → SS J 47 = (setF S (8 + a.toNat) 1) → HI J (hadd H (setF S (8 + a.toNat) 1)) → Q (some (vI (1))) J (XX L D)) (h0 : ¬ ((openQ T S a ∧ barQ T S a.toNat = 0)) → Q (some (vI 0)) I (XX L D)) : WP l G m_X10_licence d 153 I (XX L D) 0 [some (vR 0), some (vI a)] [] Q := by
  obtain ⟨hD0, h30, hT0, hS, hZ, hw, hv, hz, hrd, hcd⟩ := hC
  have h3 : isT (D 3) := by rw [h30]; exact hD0
  have hT : TT I (D 3) = T := by rw [h30]; exact hT0
  have b_p := tw_p hw
  have b_c := tw_c hw
  have b_q := tw_q hw
  have b_s := sw_sun hv
  have b_i : 0 ≤ a → a < T 0 13 → 0 ≤ S (8 + a.toNat) ∧ S (8 + a.toNat) ≤ 2 := fun x y => sw_stat hv (by omega)
  have b_j : 0 ≤ a → a < T 0 12 → 0 ≤ S a.toNat ∧ S a.toNat ≤ 3 := fun x y => sw_seat hv (by omega)
  have b_b := barF_in T S (pa T a.toNat) (pb T a.toNat) a.toNat
  have e_b : barQ T S a.toNat = barF T S (pa T a.toNat) (pb T a.toNat) a.toNat := rfl
  refine wp_aload_n (pc := 0) 0 dX10_licence_0 rfl rfl ?_
  refine wp_iload_n (pc := 1) 1 dX10_licence_1 rfl rfl ?_
  refine wp_callV (pc := 2) (st := []) (nf' := 153) [vI a] [some (vR 0), some (vI a)] dX10_licence_2 rfl c_X10_222 rfl kd_0 (by decide) rfl la_0 rfl (Nat.le_of_ble_eq_true rfl) rfl (Nat.le_of_ble_eq_true rfl) (by omega) (Nat.le_refl _) (Nat.le_refl _) ?_
  refine wp_aload_n (pc := 0) 0 dX10_isOpen_0 rfl rfl ?_
  refine wp_getr (pc := 1) dX10_isOpen_1 rfl f_X10_10 kd_0 la_0 rfl (r_0_0 D) ?_
  refine wp_iload_n (pc := 4) 1 dX10_isOpen_4 rfl rfl ?_
  refine wp_callV (pc := 5) (st := []) (nf' := 153) [vI a] [some (vR (D 0)), some (vI a)] dX10_isOpen_5 rfl c_X10_163 rfl (tk_0 hD0) (by decide) rfl (tl_0 hD0) rfl (Nat.le_of_ble_eq_true rfl) rfl (Nat.le_of_ble_eq_true rfl) (by omega) (Nat.le_refl _) (Nat.le_refl _) ?_
  refine sp_hasPair hD0 hT0 hw (by omega) (by omega) (fun h_1 => ?_) (fun h_1 => ?_)
  · refine wp_eqst (st' := [vI 1]) rfl ?_
    refine wp_if_eq (pc := 8) 26 dX10_isOpen_8 (by decide) (by decide) (fun hh => absurd hh (by decide)) (fun _ => ?_)
    refine wp_aload_n (pc := 11) 0 dX10_isOpen_11 rfl rfl ?_
    refine wp_getr (pc := 12) dX10_isOpen_12 rfl f_X10_47 kd_0 la_0 rfl (r_0_5 D) ?_
    refine wp_iload_n (pc := 15) 1 dX10_isOpen_15 rfl rfl ?_
    refine wp_callV (pc := 16) (st := []) (nf' := 153) [vI a] [some (vR 47), some (vI a)] dX10_isOpen_16 rfl c_X10_181 rfl kd_47 (by decide) rfl la_47 rfl (Nat.le_of_ble_eq_true rfl) rfl (Nat.le_of_ble_eq_true rfl) (by omega) (Nat.le_refl _) (Nat.le_refl _) ?_
    refine wp_aload_n (pc := 0) 0 dX7_status_0 rfl rfl ?_
    refine wp_getr (pc := 1) dX7_status_1 rfl f_X7_11 kd_47 la_47 rfl (r_47_0 D) ?_
    refine wp_bipush (pc := 4) dX7_status_4 (by decide) ?_
    refine wp_iload_n (pc := 6) 1 dX7_status_6 rfl rfl ?_
    refine wp_iadd (pc := 7) dX7_status_7 ?_
    refine wq_iald (pc := 8) (8 + a.toNat) dX7_status_8 kd_48 la_48 (by omega) (by omega) ?_
    refine wp_eqst (st' := [vI (S (8 + a.toNat))]) (by rw [← hS] <;> rfl) ?_
    refine wp_iret (pc := 9) dX7_status_9 rfl rfl ?_
    refine wp_eqst (st' := [vI (S (8 + a.toNat))]) rfl ?_
    refine wp_if_ne (pc := 19) 26 dX10_isOpen_19 (by decide) (by omega) (fun h_2 => ?_) (fun h_2 => ?_)
    · refine wp_iconst (pc := 26) dX10_isOpen_26 ?_
      refine wp_zret (pc := 27) dX10_isOpen_27 rfl rfl (by decide) ?_
      refine wp_eqst (st' := [vI 0]) rfl ?_
      refine wp_if_eq (pc := 5) 23 dX10_licence_5 (by decide) (by decide) (fun _ => ?_) (fun hh => absurd hh (by decide))
      refine wp_iconst (pc := 23) dX10_licence_23 ?_
      refine wp_zret (pc := 24) dX10_licence_24 rfl rfl (by decide) ?_
      exact h0 (by omega)
    · refine wp_iconst (pc := 22) dX10_isOpen_22 ?_
      refine wp_goto (pc := 23) 27 dX10_isOpen_23 (by decide) ?_
      refine wp_zret (pc := 27) dX10_isOpen_27 rfl rfl (by decide) ?_
      refine wp_eqst (st' := [vI 1]) rfl ?_
      refine wp_if_eq (pc := 5) 23 dX10_licence_5 (by decide) (by decide) (fun hh => absurd hh (by decide)) (fun _ => ?_)
      refine wp_aload_n (pc := 8) 0 dX10_licence_8 rfl rfl ?_
      refine wp_getr (pc := 9) dX10_licence_9 rfl f_X10_40 kd_0 la_0 rfl (r_0_4 D) ?_
      refine wp_aload_n (pc := 12) 0 dX10_licence_12 rfl rfl ?_
      refine wp_getr (pc := 13) dX10_licence_13 rfl f_X10_47 kd_0 la_0 rfl (r_0_5 D) ?_
      refine wp_iload_n (pc := 16) 1 dX10_licence_16 rfl rfl ?_
      refine wp_callV (pc := 17) (st := []) (nf' := 153) [vR 47, vI a] [some (vR 45), some (vR 47), some (vI a)] dX10_licence_17 rfl c_X10_184 rfl kd_45 (by decide) rfl la_45 rfl (Nat.le_of_ble_eq_true rfl) rfl (Nat.le_of_ble_eq_true rfl) (by omega) (Nat.le_refl _) (Nat.le_refl _) ?_
      refine sp_barOf a.toNat (by omega) h3 is47 hT hS hw hv (by omega) (by omega) ?_
      refine wp_eqst (st' := [vI (barQ T S a.toNat)]) rfl ?_
      refine wp_if_eq (pc := 20) 25 dX10_licence_20 (by decide) (by omega) (fun h_3 => ?_) (fun h_3 => ?_)
      · refine wp_aload_n (pc := 25) 0 dX10_licence_25 rfl rfl ?_
        refine wp_getr (pc := 26) dX10_licence_26 rfl f_X10_47 kd_0 la_0 rfl (r_0_5 D) ?_
        refine wp_iload_n (pc := 29) 1 dX10_licence_29 rfl rfl ?_
        refine wp_iconst (pc := 30) dX10_licence_30 ?_
        refine wp_callV (pc := 31) (st := []) (nf' := 153) [vI a, vI 1] [some (vR 47), some (vI a), some (vI 1)] dX10_licence_31 rfl c_X10_229 rfl kd_47 (by decide) rfl la_47 rfl (Nat.le_of_ble_eq_true rfl) rfl (Nat.le_of_ble_eq_true rfl) (by omega) (Nat.le_refl _) (Nat.le_refl _) ?_
        refine wp_aload_n (pc := 0) 0 dX7_setStatus_0 rfl rfl ?_
        refine wp_getr (pc := 1) dX7_setStatus_1 rfl f_X7_11 kd_47 la_47 rfl (r_47_0 D) ?_
        refine wp_bipush (pc := 4) dX7_setStatus_4 (by decide) ?_
        refine wp_iload_n (pc := 6) 1 dX7_setStatus_6 rfl rfl ?_
        refine wp_iadd (pc := 7) dX7_setStatus_7 ?_
        refine wp_iload_n (pc := 8) 2 dX7_setStatus_8 rfl rfl ?_
        refine wq_iast (pc := 9) (8 + a.toNat) dX7_setStatus_9 kd_48 la_48 (by omega) (by omega) ?_
        refine wp_vret (pc := 10) dX7_setStatus_10 rfl rfl ?_
        refine wp_eqst (st' := []) rfl ?_
        refine wp_aload_n (pc := 34) 0 dX10_licence_34 rfl rfl ?_
        refine wp_getr (pc := 35) dX10_licence_35 rfl f_X10_57 kd_0 la_0 rfl (r_0_7 D) ?_
        refine wp_aload_n (pc := 38) 0 dX10_licence_38 rfl rfl ?_
        refine wp_getr (pc := 39) dX10_licence_39 rfl f_X10_47 kd_0 la_0 rfl (r_0_5 D) ?_
        refine wp_callV (pc := 42) (st := []) (nf' := 153) [vR 47] [some (vR 51), some (vR 47)] dX10_licence_42 rfl c_X10_218 rfl kd_51 (by decide) rfl la_51 rfl (Nat.le_of_ble_eq_true rfl) rfl (Nat.le_of_ble_eq_true rfl) (by omega) (Nat.le_refl _) (Nat.le_refl _) ?_
        have hS1 : SS (up I 48 (8 + a.toNat) 1) 47 = (setF S (8 + a.toNat) 1) := SS_up (s := 47) hS
        refine sp_add (H := H) (S := (setF S (8 + a.toNat) 1)) (hH.fr (funext fun j => by rw [up_c (by omega)]) (fun i hi => funext fun j => by rw [up_c (by omega)])) hS1 (by omega) (fun J hJ hHJ => ?_)
        have hSJ := hJ.s hS1
        refine wp_eqst (st' := []) rfl ?_
        refine wp_iconst (pc := 45) dX10_licence_45 ?_
        refine wp_zret (pc := 46) dX10_licence_46 rfl rfl (by decide) ?_
        have e1 : 1 = 1 := by first | rfl | (repeat rw [setF_n (by omega)])
        exact h1 (by omega) J (fun b g1 g2 g3 g4 g5 => (hJ b g4 g5).trans (funext fun j => by rw [up_c (by omega)])) hSJ hHJ
      · refine wp_iconst (pc := 23) dX10_licence_23 ?_
        refine wp_zret (pc := 24) dX10_licence_24 rfl rfl (by decide) ?_
        exact h0 (by omega)
  · refine wp_eqst (st' := [vI 0]) rfl ?_
    refine wp_if_eq (pc := 8) 26 dX10_isOpen_8 (by decide) (by decide) (fun _ => ?_) (fun hh => absurd hh (by decide))
    refine wp_iconst (pc := 26) dX10_isOpen_26 ?_
    refine wp_zret (pc := 27) dX10_isOpen_27 rfl rfl (by decide) ?_
    refine wp_eqst (st' := [vI 0]) rfl ?_
    refine wp_if_eq (pc := 5) 23 dX10_licence_5 (by decide) (by decide) (fun _ => ?_) (fun hh => absurd hh (by decide))
    refine wp_iconst (pc := 23) dX10_licence_23 ?_
    refine wp_zret (pc := 24) dX10_licence_24 rfl rfl (by decide) ?_
    exact h0 (by omega)

theorem sp_sunday {l : Launch} {G : mG} {d : Nat} {I : mI} {L : Nat → Nat → Int} {D : Nat → Nat} {Q : mQ} {T : mT} {S : mS} {Z : mT} {H : mH}  (hC : CI I D T S Z) (hH : HI I H) (hd : 7 ≤ d) (h1 : S 28 < 999 → ∀ J, Fm I J (D 3) → SS J 47 = (sunF T S).1 → HI J (hadd H (sunF T S).1) → Q (some (vI ((sunF T S).2 : Nat))) J (XX L D)) (h0 : ¬ (S 28 < 999) → Q (some (vI (-1))) I (XX L D)) : WP l G m_X10_sunday d 153 I (XX L D) 0 [some (vR 0), none] [] Q := by
  obtain ⟨hD0, h30, hT0, hS, hZ, hw, hv, hz, hrd, hcd⟩ := hC
  have h3 : isT (D 3) := by rw [h30]; exact hD0
  have hT : TT I (D 3) = T := by rw [h30]; exact hT0
  have b_p := tw_p hw
  have b_c := tw_c hw
  have b_q := tw_q hw
  have b_s := sw_sun hv
  refine wp_aload_n (pc := 0) 0 dX10_sunday_0 rfl rfl ?_
  refine wp_getr (pc := 1) dX10_sunday_1 rfl f_X10_47 kd_0 la_0 rfl (r_0_5 D) ?_
  refine wp_callV (pc := 4) (st := []) (nf' := 153) [] [some (vR 47)] dX10_sunday_4 rfl c_X10_232 rfl kd_47 (by decide) rfl la_47 rfl (Nat.le_of_ble_eq_true rfl) rfl (Nat.le_of_ble_eq_true rfl) (by omega) (Nat.le_refl _) (Nat.le_refl _) ?_
  refine wp_aload_n (pc := 0) 0 dX7_sundays_0 rfl rfl ?_
  refine wp_getr (pc := 1) dX7_sundays_1 rfl f_X7_11 kd_47 la_47 rfl (r_47_0 D) ?_
  refine wp_bipush (pc := 4) dX7_sundays_4 (by decide) ?_
  refine wq_iald (pc := 6) 28 dX7_sundays_6 kd_48 la_48 rfl (by decide) ?_
  refine wp_eqst (st' := [vI (S 28)]) (by rw [← hS] <;> rfl) ?_
  refine wp_iret (pc := 7) dX7_sundays_7 rfl rfl ?_
  refine wp_eqst (st' := [vI (S 28)]) rfl ?_
  refine wp_sipush (pc := 7) dX10_sunday_7 (by decide) ?_
  refine wp_icmp_lt (pc := 10) 15 dX10_sunday_10 (by decide) (by omega) (by decide) (fun h_1 => ?_) (fun h_1 => ?_)
  · refine wp_aload_n (pc := 15) 0 dX10_sunday_15 rfl rfl ?_
    refine wp_getr (pc := 16) dX10_sunday_16 rfl f_X10_40 kd_0 la_0 rfl (r_0_4 D) ?_
    refine wp_aload_n (pc := 19) 0 dX10_sunday_19 rfl rfl ?_
    refine wp_getr (pc := 20) dX10_sunday_20 rfl f_X10_47 kd_0 la_0 rfl (r_0_5 D) ?_
    refine wp_callV (pc := 23) (st := []) (nf' := 153) [vR 47] [some (vR 45), some (vR 47), none, none, none] dX10_sunday_23 rfl c_X10_235 rfl kd_45 (by decide) rfl la_45 rfl (Nat.le_of_ble_eq_true rfl) rfl (Nat.le_of_ble_eq_true rfl) (by omega) (Nat.le_refl _) (Nat.le_refl _) ?_
    refine sp_keepSunday h3 is47 hT hS hw hv (by omega) hcd hrd (by omega) (fun K hK hSK => ?_)
    refine wp_eqst (st' := [vI (((sunF T S).2 : Nat) : Int)]) rfl ?_
    refine wq_istore_n (pc := 26) 1 [some (vR 0), some (vI (((sunF T S).2 : Nat) : Int))] dX10_sunday_26 rfl rfl (by decide) rfl ?_
    refine wp_aload_n (pc := 27) 0 dX10_sunday_27 rfl rfl ?_
    refine wp_getr (pc := 28) dX10_sunday_28 rfl f_X10_57 kd_0 la_0 rfl (r_0_7 D) ?_
    refine wp_aload_n (pc := 31) 0 dX10_sunday_31 rfl rfl ?_
    refine wp_getr (pc := 32) dX10_sunday_32 rfl f_X10_47 kd_0 la_0 rfl (r_0_5 D) ?_
    refine wp_callV (pc := 35) (st := []) (nf' := 153) [vR 47] [some (vR 51), some (vR 47)] dX10_sunday_35 rfl c_X10_218 rfl kd_51 (by decide) rfl la_51 rfl (Nat.le_of_ble_eq_true rfl) rfl (Nat.le_of_ble_eq_true rfl) (by omega) (Nat.le_refl _) (Nat.le_refl _) ?_
    refine sp_add (H := H) (S := (sunF T S).1) (hH.fr (hK 51 (by omega) (by omega) (by omega)) (fun i hi => hK _ (by omega) (by omega) (by omega))) hSK (by omega) (fun J hJ hHJ => ?_)
    refine wp_eqst (st' := []) rfl ?_
    refine wp_iload_n (pc := 38) 1 dX10_sunday_38 rfl rfl ?_
    refine wp_iret (pc := 39) dX10_sunday_39 rfl rfl ?_
    exact h1 (by omega) J (fun b g1 g2 g3 g4 g5 => (hJ b g4 g5).trans (hK b g1 g2 g3)) (hJ.s hSK) hHJ
  · refine wp_iconst (pc := 13) dX10_sunday_13 ?_
    refine wp_iret (pc := 14) dX10_sunday_14 rfl rfl ?_
    exact h0 (by omega)

theorem sp_undo {l : Launch} {G : mG} {d : Nat} {I : mI} {L : Nat → Nat → Int} {D : Nat → Nat} {Q : mQ} {T : mT} {S : mS} {Z : mT} {H : mH}  (hC : CI I D T S Z) (hH : HI I H) (hd : 3 ≤ d) (h1 : 0 < H.2.1 → ∀ J, Fm I J (D 3) → SS J 47 = H.1 (H.2.1 - 1) → HI J (H.1, H.2.1 - 1, H.2.2) → Q (some (vI 1)) J (XX L D)) (h0 : ¬ (0 < H.2.1) → Q (some (vI 0)) I (XX L D)) : WP l G m_X10_undo d 153 I (XX L D) 0 [some (vR 0)] [] Q := by
  obtain ⟨hD0, h30, hT0, hS, hZ, hw, hv, hz, hrd, hcd⟩ := hC
  have h3 : isT (D 3) := by rw [h30]; exact hD0
  have hT : TT I (D 3) = T := by rw [h30]; exact hT0
  have b_p := tw_p hw
  have b_c := tw_c hw
  have b_q := tw_q hw
  have b_s := sw_sun hv
  refine wp_aload_n (pc := 0) 0 dX10_undo_0 rfl rfl ?_
  refine wp_getr (pc := 1) dX10_undo_1 rfl f_X10_57 kd_0 la_0 rfl (r_0_7 D) ?_
  refine wp_aload_n (pc := 4) 0 dX10_undo_4 rfl rfl ?_
  refine wp_getr (pc := 5) dX10_undo_5 rfl f_X10_47 kd_0 la_0 rfl (r_0_5 D) ?_
  refine wp_callV (pc := 8) (st := []) (nf' := 153) [vR 47] [some (vR 51), some (vR 47)] dX10_undo_8 rfl c_X10_238 rfl kd_51 (by decide) rfl la_51 rfl (Nat.le_of_ble_eq_true rfl) rfl (Nat.le_of_ble_eq_true rfl) (by omega) (Nat.le_refl _) (Nat.le_refl _) ?_
  refine sp_stepBack hH (by omega) (fun hc J hJ hSJ hHJ => ?_) (fun hc => ?_)
  · refine wp_eqst (st' := [vI 1]) rfl ?_
    refine wp_zret (pc := 11) dX10_undo_11 rfl rfl (by decide) ?_
    exact h1 hc J (fun b g1 g2 g3 g4 g5 => hJ b g3 g4 g5) hSJ hHJ
  · refine wp_eqst (st' := [vI 0]) rfl ?_
    refine wp_zret (pc := 11) dX10_undo_11 rfl rfl (by decide) ?_
    exact h0 hc

theorem sp_redo {l : Launch} {G : mG} {d : Nat} {I : mI} {L : Nat → Nat → Int} {D : Nat → Nat} {Q : mQ} {T : mT} {S : mS} {Z : mT} {H : mH}  (hC : CI I D T S Z) (hH : HI I H) (hd : 3 ≤ d) (h1 : H.2.1 < H.2.2 → ∀ J, Fm I J (D 3) → SS J 47 = H.1 (H.2.1 + 1) → HI J (H.1, H.2.1 + 1, H.2.2) → Q (some (vI 1)) J (XX L D)) (h0 : ¬ (H.2.1 < H.2.2) → Q (some (vI 0)) I (XX L D)) : WP l G m_X10_redo d 153 I (XX L D) 0 [some (vR 0)] [] Q := by
  obtain ⟨hD0, h30, hT0, hS, hZ, hw, hv, hz, hrd, hcd⟩ := hC
  have h3 : isT (D 3) := by rw [h30]; exact hD0
  have hT : TT I (D 3) = T := by rw [h30]; exact hT0
  have b_p := tw_p hw
  have b_c := tw_c hw
  have b_q := tw_q hw
  have b_s := sw_sun hv
  refine wp_aload_n (pc := 0) 0 dX10_redo_0 rfl rfl ?_
  refine wp_getr (pc := 1) dX10_redo_1 rfl f_X10_57 kd_0 la_0 rfl (r_0_7 D) ?_
  refine wp_aload_n (pc := 4) 0 dX10_redo_4 rfl rfl ?_
  refine wp_getr (pc := 5) dX10_redo_5 rfl f_X10_47 kd_0 la_0 rfl (r_0_5 D) ?_
  refine wp_callV (pc := 8) (st := []) (nf' := 153) [vR 47] [some (vR 51), some (vR 47)] dX10_redo_8 rfl c_X10_242 rfl kd_51 (by decide) rfl la_51 rfl (Nat.le_of_ble_eq_true rfl) rfl (Nat.le_of_ble_eq_true rfl) (by omega) (Nat.le_refl _) (Nat.le_refl _) ?_
  refine sp_stepOn hH (by omega) (fun hc J hJ hSJ hHJ => ?_) (fun hc => ?_)
  · refine wp_eqst (st' := [vI 1]) rfl ?_
    refine wp_zret (pc := 11) dX10_redo_11 rfl rfl (by decide) ?_
    exact h1 hc J (fun b g1 g2 g3 g4 g5 => hJ b g3 g4 g5) hSJ hHJ
  · refine wp_eqst (st' := [vI 0]) rfl ?_
    refine wp_zret (pc := 11) dX10_redo_11 rfl rfl (by decide) ?_
    exact h0 hc

theorem sp_image {l : Launch} {G : mG} {d : Nat} {I : mI} {L : Nat → Nat → Int} {D : Nat → Nat} {Q : mQ} {T : mT} {S : mS} {Z : mT} {Bx : Nat → mS} {m : Nat} {a : Int}  (hC : CI I D T S Z) (hB : BI I Bx m) (h_a : inR a) (hd : 2 ≤ d) (h1 : (0 ≤ a ∧ a < 3) → ∀ J, (∀ b, b ≠ 0 → b ≠ 96 + 2 * a.toNat → J b = I b) → BI J (fun i => if i = a.toNat then S else Bx i) (m ||| 2 ^ a.toNat) → Q (some (vI (S 28))) J (XX L D)) (h0 : ¬ (0 ≤ a ∧ a < 3) → Q (some (vI (-1))) I (XX L D)) : WP l G m_X10_image d 153 I (XX L D) 0 [some (vR 0), some (vI a)] [] Q := by
  obtain ⟨hD0, h30, hT0, hS, hZ, hw, hv, hz, hrd, hcd⟩ := hC
  have h3 : isT (D 3) := by rw [h30]; exact hD0
  have hT : TT I (D 3) = T := by rw [h30]; exact hT0
  have b_p := tw_p hw
  have b_c := tw_c hw
  have b_q := tw_q hw
  have b_s := sw_sun hv
  obtain ⟨hB1, hB2, hB3⟩ := hB
  have b_t := bit_lt (Int.toNat (I 0 11)) a.toNat
  have e_m : Int.toNat (I 0 11) = m := by omega
  refine wp_iload_n (pc := 0) 1 dX10_image_0 rfl rfl ?_
  refine wp_if_lt (pc := 1) 9 dX10_image_1 (by decide) (by omega) (fun h_1 => ?_) (fun h_1 => ?_)
  · refine wp_iconst (pc := 9) dX10_image_9 ?_
    refine wp_iret (pc := 10) dX10_image_10 rfl rfl ?_
    exact h0 (by omega)
  · refine wp_iload_n (pc := 4) 1 dX10_image_4 rfl rfl ?_
    refine wp_iconst (pc := 5) dX10_image_5 ?_
    refine wp_icmp_lt (pc := 6) 11 dX10_image_6 (by decide) (by omega) (by decide) (fun h_2 => ?_) (fun h_2 => ?_)
    · refine wp_aload_n (pc := 11) 0 dX10_image_11 rfl rfl ?_
      refine wp_getr (pc := 12) dX10_image_12 rfl f_X10_61 kd_0 la_0 rfl (r_0_8 D) ?_
      refine wp_iload_n (pc := 15) 1 dX10_image_15 rfl rfl ?_
      refine wp_aald (pc := 16) dX10_image_16 kd_94 (Or.inl rfl) la_94 (by omega) (by omega) (box_r D _ (by omega)) ?_
      refine wp_aload_n (pc := 17) 0 dX10_image_17 rfl rfl ?_
      refine wp_getr (pc := 18) dX10_image_18 rfl f_X10_47 kd_0 la_0 rfl (r_0_5 D) ?_
      refine wp_callV (pc := 21) (st := []) (nf' := 153) [vR 47] [some (vR (95 + 2 * Int.toNat a)), some (vR 47)] dX10_image_21 rfl c_X10_264 rfl (sk_0 (box_s (by omega))) (by decide) rfl (sl_0 (box_s (by omega))) rfl (Nat.le_of_ble_eq_true rfl) rfl (Nat.le_of_ble_eq_true rfl) (by omega) (Nat.le_refl _) (Nat.le_refl _) ?_
      refine sp_copyFrom (s := (95 + 2 * Int.toNat a)) (u := 47) (box_s (by omega)) is47 (by omega) ?_
      refine wp_eqst (st' := []) rfl ?_
      refine wp_aload_n (pc := 24) 0 dX10_image_24 rfl rfl ?_
      refine wp_dup (pc := 25) dX10_image_25 rfl ?_
      refine wp_geti (pc := 26) dX10_image_26 rfl f_X10_302 kd_0 la_0 (Or.inl rfl) ?_
      refine wp_eqst (st' := [vI (I 0 11), vR 0]) (by rw [upc_c (by omega)]) ?_
      refine wp_iconst (pc := 29) dX10_image_29 ?_
      refine wp_iload_n (pc := 30) 1 dX10_image_30 rfl rfl ?_
      refine wn_shl1 (pc := 31) a.toNat dX10_image_31 (by omega) (by omega) ?_
      refine wn_or (pc := 32) (Int.toNat (I 0 11)) (2 ^ a.toNat) dX10_image_32 (by omega) rfl ?_
      refine wp_puti (pc := 33) dX10_image_33 rfl f_X10_302 kd_0 la_0 (fun _ h => by cases h; rfl) rfl ?_
      refine wp_aload_n (pc := 36) 0 dX10_image_36 rfl rfl ?_
      refine wp_getr (pc := 37) dX10_image_37 rfl f_X10_47 kd_0 la_0 rfl (r_0_5 D) ?_
      refine wp_callV (pc := 40) (st := []) (nf' := 153) [] [some (vR 47)] dX10_image_40 rfl c_X10_232 rfl kd_47 (by decide) rfl la_47 rfl (Nat.le_of_ble_eq_true rfl) rfl (Nat.le_of_ble_eq_true rfl) (by omega) (Nat.le_refl _) (Nat.le_refl _) ?_
      refine wp_aload_n (pc := 0) 0 dX7_sundays_0 rfl rfl ?_
      refine wp_getr (pc := 1) dX7_sundays_1 rfl f_X7_11 kd_47 la_47 rfl (r_47_0 D) ?_
      refine wp_bipush (pc := 4) dX7_sundays_4 (by decide) ?_
      refine wq_iald (pc := 6) 28 dX7_sundays_6 kd_48 la_48 rfl (by decide) ?_
      refine wp_eqst (st' := [vI (S 28)]) (by rw [up_c (by omega), upc_c (by omega), ← hS] <;> rfl) ?_
      refine wp_iret (pc := 7) dX7_sundays_7 rfl rfl ?_
      refine wp_eqst (st' := [vI (S 28)]) rfl ?_
      refine wp_iret (pc := 43) dX10_image_43 rfl rfl ?_
      refine h1 (by omega) _ (fun b h1 h2 => funext fun j => by rw [up_c (by omega), upc_c (by omega)]) ⟨?_, ?_, ?_⟩
      · rw [up_s, e_m]
      · exact or_lt (n := 3) hB2 (Nat.pow_lt_pow_right (by decide) (by omega))
      · intro i hi ht
        show _ = if i = a.toNat then S else Bx i
        by_cases e : i = a.toNat
        · rw [if_pos e, e]; funext j; rw [up_c (by omega), show 96 + 2 * a.toNat = (95 + 2 * Int.toNat a) + 1 by omega, upc_s]; exact congrFun (row48 hS) j
        · rw [if_neg e, ← hB3 i hi ?_]
          · funext j; rw [up_c (by omega), upc_c (by omega)]
          · rw [Nat.testBit_or, Nat.testBit_two_pow_of_ne (fun x => e x.symm), Bool.or_false] at ht; exact ht
    · refine wp_iconst (pc := 9) dX10_image_9 ?_
      refine wp_iret (pc := 10) dX10_image_10 rfl rfl ?_
      exact h0 (by omega)

theorem sp_back {l : Launch} {G : mG} {d : Nat} {I : mI} {L : Nat → Nat → Int} {D : Nat → Nat} {Q : mQ} {T : mT} {S : mS} {Z : mT} {Bx : Nat → mS} {m : Nat} {a : Int}  (hC : CI I D T S Z) (hB : BI I Bx m) (h_a : inR a) (hd : 2 ≤ d) (h1 : ((0 ≤ a ∧ a < 3) ∧ m.testBit a.toNat = true) → ∀ J, Fm I J (D 3) → SS J 47 = Bx a.toNat → HI J (fun _ => Bx a.toNat, 0, 0) → Q (some (vI (Bx a.toNat 28))) J (XX L D)) (h0 : ¬ ((0 ≤ a ∧ a < 3) ∧ m.testBit a.toNat = true) → Q (some (vI (-1))) I (XX L D)) : WP l G m_X10_back d 153 I (XX L D) 0 [some (vR 0), some (vI a)] [] Q := by
  obtain ⟨hD0, h30, hT0, hS, hZ, hw, hv, hz, hrd, hcd⟩ := hC
  have h3 : isT (D 3) := by rw [h30]; exact hD0
  have hT : TT I (D 3) = T := by rw [h30]; exact hT0
  have b_p := tw_p hw
  have b_c := tw_c hw
  have b_q := tw_q hw
  have b_s := sw_sun hv
  obtain ⟨hB1, hB2, hB3⟩ := hB
  have b_t := bit_lt (Int.toNat (I 0 11)) a.toNat
  have e_m : Int.toNat (I 0 11) = m := by omega
  refine wp_iload_n (pc := 0) 1 dX10_back_0 rfl rfl ?_
  refine wp_if_lt (pc := 1) 20 dX10_back_1 (by decide) (by omega) (fun h_1 => ?_) (fun h_1 => ?_)
  · refine wp_iconst (pc := 20) dX10_back_20 ?_
    refine wp_iret (pc := 21) dX10_back_21 rfl rfl ?_
    refine h0 (fun x => ?_)
    have x2 := x.2
    rw [← e_m, ← bit_iff] at x2
    omega
  · refine wp_iload_n (pc := 4) 1 dX10_back_4 rfl rfl ?_
    refine wp_iconst (pc := 5) dX10_back_5 ?_
    refine wp_icmp_ge (pc := 6) 20 dX10_back_6 (by decide) (by omega) (by decide) (fun h_2 => ?_) (fun h_2 => ?_)
    · refine wp_iconst (pc := 20) dX10_back_20 ?_
      refine wp_iret (pc := 21) dX10_back_21 rfl rfl ?_
      refine h0 (fun x => ?_)
      have x2 := x.2
      rw [← e_m, ← bit_iff] at x2
      omega
    · refine wp_aload_n (pc := 9) 0 dX10_back_9 rfl rfl ?_
      refine wp_geti (pc := 10) dX10_back_10 rfl f_X10_302 kd_0 la_0 (Or.inl rfl) ?_
      refine wp_iload_n (pc := 13) 1 dX10_back_13 rfl rfl ?_
      refine wn_shr (pc := 14) (Int.toNat (I 0 11)) a.toNat dX10_back_14 (by omega) (by omega) (by omega) (by omega) ?_
      refine wp_iconst (pc := 15) dX10_back_15 ?_
      refine wn_mask (pc := 16) ((Int.toNat (I 0 11)) / 2 ^ a.toNat) 1 dX10_back_16 rfl rfl (by decide) ?_
      refine wp_if_ne (pc := 17) 22 dX10_back_17 (by decide) (by omega) (fun h_3 => ?_) (fun h_3 => ?_)
      · refine wp_aload_n (pc := 22) 0 dX10_back_22 rfl rfl ?_
        refine wp_getr (pc := 23) dX10_back_23 rfl f_X10_47 kd_0 la_0 rfl (r_0_5 D) ?_
        refine wp_aload_n (pc := 26) 0 dX10_back_26 rfl rfl ?_
        refine wp_getr (pc := 27) dX10_back_27 rfl f_X10_61 kd_0 la_0 rfl (r_0_8 D) ?_
        refine wp_iload_n (pc := 30) 1 dX10_back_30 rfl rfl ?_
        refine wp_aald (pc := 31) dX10_back_31 kd_94 (Or.inl rfl) la_94 (by omega) (by omega) (box_r D _ (by omega)) ?_
        refine wp_callV (pc := 32) (st := []) (nf' := 153) [vR (95 + 2 * Int.toNat a)] [some (vR 47), some (vR (95 + 2 * Int.toNat a))] dX10_back_32 rfl c_X10_264 rfl kd_47 (by decide) rfl la_47 rfl (Nat.le_of_ble_eq_true rfl) rfl (Nat.le_of_ble_eq_true rfl) (by omega) (Nat.le_refl _) (Nat.le_refl _) ?_
        refine sp_copyFrom (s := 47) (u := (95 + 2 * Int.toNat a)) is47 (box_s (by omega)) (by omega) ?_
        refine wp_eqst (st' := []) rfl ?_
        refine wp_aload_n (pc := 35) 0 dX10_back_35 rfl rfl ?_
        refine wp_getr (pc := 36) dX10_back_36 rfl f_X10_57 kd_0 la_0 rfl (r_0_7 D) ?_
        refine wp_aload_n (pc := 39) 0 dX10_back_39 rfl rfl ?_
        refine wp_getr (pc := 40) dX10_back_40 rfl f_X10_47 kd_0 la_0 rfl (r_0_5 D) ?_
        refine wp_callV (pc := 43) (st := []) (nf' := 153) [vR 47] [some (vR 51), some (vR 47)] dX10_back_43 rfl c_X10_305 rfl kd_51 (by decide) rfl la_51 rfl (Nat.le_of_ble_eq_true rfl) rfl (Nat.le_of_ble_eq_true rfl) (by omega) (Nat.le_refl _) (Nat.le_refl _) ?_
        have ht : m.testBit a.toNat = true := by rw [← e_m]; exact (bit_iff _ _).mp (by omega)
        have hS1 : SS (upc I 48 (I ((95 + 2 * Int.toNat a) + 1))) 47 = Bx a.toNat := by rw [← hB3 a.toNat (by omega) ht]; funext j; show (upc I 48 (I ((95 + 2 * Int.toNat a) + 1))) 48 j = _; rw [upc_s]; congr 1; omega
        refine sp_restart hS1 (by omega) (fun J hJ hHJ => ?_)
        have hSJ := hJ.s hS1
        refine wp_eqst (st' := []) rfl ?_
        refine wp_aload_n (pc := 46) 0 dX10_back_46 rfl rfl ?_
        refine wp_getr (pc := 47) dX10_back_47 rfl f_X10_47 kd_0 la_0 rfl (r_0_5 D) ?_
        refine wp_callV (pc := 50) (st := []) (nf' := 153) [] [some (vR 47)] dX10_back_50 rfl c_X10_232 rfl kd_47 (by decide) rfl la_47 rfl (Nat.le_of_ble_eq_true rfl) rfl (Nat.le_of_ble_eq_true rfl) (by omega) (Nat.le_refl _) (Nat.le_refl _) ?_
        refine wp_aload_n (pc := 0) 0 dX7_sundays_0 rfl rfl ?_
        refine wp_getr (pc := 1) dX7_sundays_1 rfl f_X7_11 kd_47 la_47 rfl (r_47_0 D) ?_
        refine wp_bipush (pc := 4) dX7_sundays_4 (by decide) ?_
        refine wq_iald (pc := 6) 28 dX7_sundays_6 kd_48 la_48 rfl (by decide) ?_
        refine wp_eqst (st' := [vI ((Bx a.toNat) 28)]) (by rw [← hSJ] <;> rfl) ?_
        refine wp_iret (pc := 7) dX7_sundays_7 rfl rfl ?_
        refine wp_eqst (st' := [vI ((Bx a.toNat) 28)]) rfl ?_
        refine wp_iret (pc := 53) dX10_back_53 rfl rfl ?_
        exact h1 ⟨by omega, ht⟩ J (fun b g1 g2 g3 g4 g5 => (hJ b g4 g5).trans (funext fun j => upc_c g3)) hSJ hHJ
      · refine wp_iconst (pc := 20) dX10_back_20 ?_
        refine wp_iret (pc := 21) dX10_back_21 rfl rfl ?_
        refine h0 (fun x => ?_)
        have x2 := x.2
        rw [← e_m, ← bit_iff] at x2
        omega

theorem sp_tell {l : Launch} {G : mG} {d : Nat} {I : mI} {L : Nat → Nat → Int} {D : Nat → Nat} {Q : mQ} {Z : mT} {so su dg bo : Int}  (hZ : ZZ I = Z) (hz : zw Z) (hbo : bo = 0 ∨ bo = 1) (hd : 0 ≤ d) (h1 : Z 0 6 < 30 → ∀ J, Fz I J → ZZ J = tellZ Z so su dg bo → Q (some (vI (Z 0 6))) J (XX L D)) (h0 : ¬ (Z 0 6 < 30) → Q (some (vI (-1))) I (XX L D)) : WP l G m_X5_tell d 153 I (XX L D) 0 [some (vR 104), some (vI so), some (vI su), some (vI dg), some (vI bo)] [] Q := by
  have z0 := hz.1
  have z7 := hz.2.1
  refine wp_aload_n (pc := 0) 0 dX5_tell_0 rfl rfl ?_
  refine wp_geti (pc := 1) dX5_tell_1 rfl f_X5_31 kd_104 la_104 (Or.inl rfl) ?_
  refine wp_eqst (st' := [vI ((Z 0) 6)]) (by rw [← hZ] <;> rfl) ?_
  refine wp_bipush (pc := 4) dX5_tell_4 (by decide) ?_
  refine wp_icmp_lt (pc := 6) 11 dX5_tell_6 (by decide) (by omega) (by decide) (fun h_1 => ?_) (fun h_1 => ?_)
  · refine wp_aload_n (pc := 11) 0 dX5_tell_11 rfl rfl ?_
    refine wp_getr (pc := 12) dX5_tell_12 rfl f_X5_11 kd_104 la_104 rfl (r_104_0 D) ?_
    refine wp_aload_n (pc := 15) 0 dX5_tell_15 rfl rfl ?_
    refine wp_geti (pc := 16) dX5_tell_16 rfl f_X5_31 kd_104 la_104 (Or.inl rfl) ?_
    refine wp_eqst (st' := [vI ((Z 0) 6), vR 105]) (by rw [← hZ] <;> rfl) ?_
    refine wp_iload_n (pc := 19) 1 dX5_tell_19 rfl rfl ?_
    refine wq_iast (pc := 20) (Int.toNat ((Z 0) 6)) dX5_tell_20 kd_105 la_105 (by omega) (by omega) ?_
    refine wp_aload_n (pc := 21) 0 dX5_tell_21 rfl rfl ?_
    refine wp_getr (pc := 22) dX5_tell_22 rfl f_X5_15 kd_104 la_104 rfl (r_104_1 D) ?_
    refine wp_aload_n (pc := 25) 0 dX5_tell_25 rfl rfl ?_
    refine wp_geti (pc := 26) dX5_tell_26 rfl f_X5_31 kd_104 la_104 (Or.inl rfl) ?_
    refine wp_eqst (st' := [vI ((Z 0) 6), vR 106]) (by rw [up_c (by omega), ← hZ] <;> rfl) ?_
    refine wp_iload_n (pc := 29) 2 dX5_tell_29 rfl rfl ?_
    refine wq_iast (pc := 30) (Int.toNat ((Z 0) 6)) dX5_tell_30 kd_106 la_106 (by omega) (by omega) ?_
    refine wp_aload_n (pc := 31) 0 dX5_tell_31 rfl rfl ?_
    refine wp_getr (pc := 32) dX5_tell_32 rfl f_X5_18 kd_104 la_104 rfl (r_104_2 D) ?_
    refine wp_aload_n (pc := 35) 0 dX5_tell_35 rfl rfl ?_
    refine wp_geti (pc := 36) dX5_tell_36 rfl f_X5_31 kd_104 la_104 (Or.inl rfl) ?_
    refine wp_eqst (st' := [vI ((Z 0) 6), vR 107]) (by rw [up_c (by omega), up_c (by omega), ← hZ] <;> rfl) ?_
    refine wp_iload_n (pc := 39) 3 dX5_tell_39 rfl rfl ?_
    refine wq_iast (pc := 40) (Int.toNat ((Z 0) 6)) dX5_tell_40 kd_107 la_107 (by omega) (by omega) ?_
    refine wp_aload_n (pc := 41) 0 dX5_tell_41 rfl rfl ?_
    refine wp_getr (pc := 42) dX5_tell_42 rfl f_X5_21 kd_104 la_104 rfl (r_104_3 D) ?_
    refine wp_aload_n (pc := 45) 0 dX5_tell_45 rfl rfl ?_
    refine wp_geti (pc := 46) dX5_tell_46 rfl f_X5_31 kd_104 la_104 (Or.inl rfl) ?_
    refine wp_eqst (st' := [vI ((Z 0) 6), vR 108]) (by rw [up_c (by omega), up_c (by omega), up_c (by omega), ← hZ] <;> rfl) ?_
    refine wp_iload (pc := 49) dX5_tell_49 rfl ?_
    refine wq_zast (pc := 51) (Int.toNat ((Z 0) 6)) dX5_tell_51 kd_108 la_108 (by omega) (by omega) (by omega) ?_
    refine wp_aload_n (pc := 52) 0 dX5_tell_52 rfl rfl ?_
    refine wp_getr (pc := 53) dX5_tell_53 rfl f_X5_25 kd_104 la_104 rfl (r_104_4 D) ?_
    refine wp_aload_n (pc := 56) 0 dX5_tell_56 rfl rfl ?_
    refine wp_geti (pc := 57) dX5_tell_57 rfl f_X5_31 kd_104 la_104 (Or.inl rfl) ?_
    refine wp_eqst (st' := [vI ((Z 0) 6), vR 109]) (by rw [up_c (by omega), up_c (by omega), up_c (by omega), up_c (by omega), ← hZ] <;> rfl) ?_
    refine wp_aload_n (pc := 60) 0 dX5_tell_60 rfl rfl ?_
    refine wp_geti (pc := 61) dX5_tell_61 rfl f_X5_35 kd_104 la_104 (Or.inl rfl) ?_
    refine wp_eqst (st' := [vI ((Z 0) 7), vI ((Z 0) 6), vR 109]) (by rw [up_c (by omega), up_c (by omega), up_c (by omega), up_c (by omega), ← hZ] <;> rfl) ?_
    refine wq_iast (pc := 64) (Int.toNat ((Z 0) 6)) dX5_tell_64 kd_109 la_109 (by omega) (by omega) ?_
    refine wp_aload_n (pc := 65) 0 dX5_tell_65 rfl rfl ?_
    refine wp_getr (pc := 66) dX5_tell_66 rfl f_X5_28 kd_104 la_104 rfl (r_104_5 D) ?_
    refine wp_aload_n (pc := 69) 0 dX5_tell_69 rfl rfl ?_
    refine wp_geti (pc := 70) dX5_tell_70 rfl f_X5_31 kd_104 la_104 (Or.inl rfl) ?_
    refine wp_eqst (st' := [vI ((Z 0) 6), vR 110]) (by rw [up_c (by omega), up_c (by omega), up_c (by omega), up_c (by omega), up_c (by omega), ← hZ] <;> rfl) ?_
    refine wp_iconst (pc := 73) dX5_tell_73 ?_
    refine wq_iast (pc := 74) (Int.toNat ((Z 0) 6)) dX5_tell_74 kd_110 la_110 (by omega) (by omega) ?_
    refine wp_aload_n (pc := 75) 0 dX5_tell_75 rfl rfl ?_
    refine wp_dup (pc := 76) dX5_tell_76 rfl ?_
    refine wp_geti (pc := 77) dX5_tell_77 rfl f_X5_31 kd_104 la_104 (Or.inl rfl) ?_
    refine wp_eqst (st' := [vI ((Z 0) 6), vR 104]) (by rw [up_c (by omega), up_c (by omega), up_c (by omega), up_c (by omega), up_c (by omega), up_c (by omega), ← hZ] <;> rfl) ?_
    refine wp_iconst (pc := 80) dX5_tell_80 ?_
    refine wp_iadd (pc := 81) dX5_tell_81 ?_
    refine wp_puti (pc := 82) dX5_tell_82 rfl f_X5_31 kd_104 la_104 (fun _ h => by cases h; rfl) rfl ?_
    refine wp_aload_n (pc := 85) 0 dX5_tell_85 rfl rfl ?_
    refine wp_geti (pc := 86) dX5_tell_86 rfl f_X5_31 kd_104 la_104 (Or.inl rfl) ?_
    refine wp_eqst (st' := [vI (((Z 0) 6) + 1)]) (by rw [up_s]) ?_
    refine wp_iconst (pc := 89) dX5_tell_89 ?_
    refine wp_isub (pc := 90) dX5_tell_90 ?_
    refine wp_iret (pc := 91) dX5_tell_91 rfl rfl ?_
    have e1 : ZZ (up (up (up (up (up (up (up I 105 (Int.toNat ((Z 0) 6)) so) 106 (Int.toNat ((Z 0) 6)) su) 107 (Int.toNat ((Z 0) 6)) dg) 108 (Int.toNat ((Z 0) 6)) bo) 109 (Int.toNat ((Z 0) 6)) ((Z 0) 7)) 110 (Int.toNat ((Z 0) 6)) (-1)) 104 6 (((Z 0) 6) + 1)) = tellZ Z so su dg bo := Eq.trans (ZZ_up (k0 := 0) (ZZ_up (k0 := 6) (ZZ_up (k0 := 5) (ZZ_up (k0 := 4) (ZZ_up (k0 := 3) (ZZ_up (k0 := 2) (ZZ_up (k0 := 1) hZ (by decide)) (by decide)) (by decide)) (by decide)) (by decide)) (by decide)) (by decide)) (tellZ_eq Z so su dg bo)
    have e2 : (((Z 0) 6) + 1) - 1 = Z 0 6 := by omega
    rw [e2]
    exact h1 (by omega) _ (fun b h1 => funext fun j => by rw [up_c (by omega), up_c (by omega), up_c (by omega), up_c (by omega), up_c (by omega), up_c (by omega), up_c (by omega)]) e1
  · refine wp_iconst (pc := 9) dX5_tell_9 ?_
    refine wp_iret (pc := 10) dX5_tell_10 rfl rfl ?_
    exact h0 (by omega)

theorem sp_takeBack {l : Launch} {G : mG} {d : Nat} {I : mI} {L : Nat → Nat → Int} {D : Nat → Nat} {Q : mQ} {Z : mT} {a : Int}  (hZ : ZZ I = Z) (hz : zw Z) (h_a : inR a) (hd : 0 ≤ d) (h1 : ((0 ≤ a ∧ a < Z 0 6) ∧ Z 6 a.toNat = -1) → ∀ J, Fz I J → ZZ J = setZ Z 6 a.toNat (Z 0 7) → Q (some (vI 1)) J (XX L D)) (h0 : ¬ ((0 ≤ a ∧ a < Z 0 6) ∧ Z 6 a.toNat = -1) → Q (some (vI 0)) I (XX L D)) : WP l G m_X5_takeBack d 153 I (XX L D) 0 [some (vR 104), some (vI a)] [] Q := by
  have z0 := hz.1
  have z7 := hz.2.1
  have z6 := hz.2.2.2.2.2.2.2 a.toNat
  refine wp_iload_n (pc := 0) 1 dX5_takeBack_0 rfl rfl ?_
  refine wp_if_lt (pc := 1) 22 dX5_takeBack_1 (by decide) (by omega) (fun h_1 => ?_) (fun h_1 => ?_)
  · refine wp_iconst (pc := 22) dX5_takeBack_22 ?_
    refine wp_zret (pc := 23) dX5_takeBack_23 rfl rfl (by decide) ?_
    exact h0 (by omega)
  · refine wp_iload_n (pc := 4) 1 dX5_takeBack_4 rfl rfl ?_
    refine wp_aload_n (pc := 5) 0 dX5_takeBack_5 rfl rfl ?_
    refine wp_geti (pc := 6) dX5_takeBack_6 rfl f_X5_31 kd_104 la_104 (Or.inl rfl) ?_
    refine wp_eqst (st' := [vI ((Z 0) 6), vI a]) (by rw [← hZ] <;> rfl) ?_
    refine wp_icmp_ge (pc := 9) 22 dX5_takeBack_9 (by decide) (by omega) (by omega) (fun h_2 => ?_) (fun h_2 => ?_)
    · refine wp_iconst (pc := 22) dX5_takeBack_22 ?_
      refine wp_zret (pc := 23) dX5_takeBack_23 rfl rfl (by decide) ?_
      exact h0 (by omega)
    · refine wp_aload_n (pc := 12) 0 dX5_takeBack_12 rfl rfl ?_
      refine wp_getr (pc := 13) dX5_takeBack_13 rfl f_X5_28 kd_104 la_104 rfl (r_104_5 D) ?_
      refine wp_iload_n (pc := 16) 1 dX5_takeBack_16 rfl rfl ?_
      refine wq_iald (pc := 17) a.toNat dX5_takeBack_17 kd_110 la_110 (by omega) (by omega) ?_
      refine wp_eqst (st' := [vI ((Z 6) a.toNat)]) (by rw [← hZ] <;> rfl) ?_
      refine wp_iconst (pc := 18) dX5_takeBack_18 ?_
      refine wp_icmp_eq (pc := 19) 24 dX5_takeBack_19 (by decide) (by omega) (by decide) (fun h_3 => ?_) (fun h_3 => ?_)
      · refine wp_aload_n (pc := 24) 0 dX5_takeBack_24 rfl rfl ?_
        refine wp_getr (pc := 25) dX5_takeBack_25 rfl f_X5_28 kd_104 la_104 rfl (r_104_5 D) ?_
        refine wp_iload_n (pc := 28) 1 dX5_takeBack_28 rfl rfl ?_
        refine wp_aload_n (pc := 29) 0 dX5_takeBack_29 rfl rfl ?_
        refine wp_geti (pc := 30) dX5_takeBack_30 rfl f_X5_35 kd_104 la_104 (Or.inl rfl) ?_
        refine wp_eqst (st' := [vI ((Z 0) 7), vI a, vR 110]) (by rw [← hZ] <;> rfl) ?_
        refine wq_iast (pc := 33) a.toNat dX5_takeBack_33 kd_110 la_110 (by omega) (by omega) ?_
        refine wp_iconst (pc := 34) dX5_takeBack_34 ?_
        refine wp_zret (pc := 35) dX5_takeBack_35 rfl rfl (by decide) ?_
        exact h1 (by omega) _ (fun b h1 => funext fun j => by rw [up_c (by omega)]) (ZZ_up (k0 := 6) hZ (by decide))
      · refine wp_iconst (pc := 22) dX5_takeBack_22 ?_
        refine wp_zret (pc := 23) dX5_takeBack_23 rfl rfl (by decide) ?_
        exact h0 (by omega)

theorem sp_passTime {l : Launch} {G : mG} {d : Nat} {I : mI} {L : Nat → Nat → Int} {D : Nat → Nat} {Q : mQ} {Z : mT} {a : Int}  (hZ : ZZ I = Z) (hz : zw Z) (h_a : inR a) (hd : 0 ≤ d) (h1 : (0 ≤ a ∧ a ≤ 1000 ∧ Z 0 7 + a ≤ 100000) → ∀ J, Fz I J → ZZ J = setZ Z 0 7 (Z 0 7 + a) → Q (some (vI (Z 0 7 + a))) J (XX L D)) (h0 : ¬ (0 ≤ a ∧ a ≤ 1000 ∧ Z 0 7 + a ≤ 100000) → Q (some (vI (-1))) I (XX L D)) : WP l G m_X5_passTime d 153 I (XX L D) 0 [some (vR 104), some (vI a)] [] Q := by
  have z0 := hz.1
  have z7 := hz.2.1
  refine wp_iload_n (pc := 0) 1 dX5_passTime_0 rfl rfl ?_
  refine wp_if_lt (pc := 1) 22 dX5_passTime_1 (by decide) (by omega) (fun h_1 => ?_) (fun h_1 => ?_)
  · refine wp_iconst (pc := 22) dX5_passTime_22 ?_
    refine wp_iret (pc := 23) dX5_passTime_23 rfl rfl ?_
    exact h0 (by omega)
  · refine wp_iload_n (pc := 4) 1 dX5_passTime_4 rfl rfl ?_
    refine wp_sipush (pc := 5) dX5_passTime_5 (by decide) ?_
    refine wp_icmp_gt (pc := 8) 22 dX5_passTime_8 (by decide) (by omega) (by decide) (fun h_2 => ?_) (fun h_2 => ?_)
    · refine wp_iconst (pc := 22) dX5_passTime_22 ?_
      refine wp_iret (pc := 23) dX5_passTime_23 rfl rfl ?_
      exact h0 (by omega)
    · refine wp_aload_n (pc := 11) 0 dX5_passTime_11 rfl rfl ?_
      refine wp_geti (pc := 12) dX5_passTime_12 rfl f_X5_35 kd_104 la_104 (Or.inl rfl) ?_
      refine wp_eqst (st' := [vI ((Z 0) 7)]) (by rw [← hZ] <;> rfl) ?_
      refine wp_iload_n (pc := 15) 1 dX5_passTime_15 rfl rfl ?_
      refine wp_iadd (pc := 16) dX5_passTime_16 ?_
      refine wp_ldc (pc := 17) (z := 100000) dX5_passTime_17 rfl k_X5_38 rfl ?_
      refine wp_icmp_le (pc := 19) 24 dX5_passTime_19 (by decide) (by omega) (by decide) (fun h_3 => ?_) (fun h_3 => ?_)
      · refine wp_aload_n (pc := 24) 0 dX5_passTime_24 rfl rfl ?_
        refine wp_dup (pc := 25) dX5_passTime_25 rfl ?_
        refine wp_geti (pc := 26) dX5_passTime_26 rfl f_X5_35 kd_104 la_104 (Or.inl rfl) ?_
        refine wp_eqst (st' := [vI ((Z 0) 7), vR 104]) (by rw [← hZ] <;> rfl) ?_
        refine wp_iload_n (pc := 29) 1 dX5_passTime_29 rfl rfl ?_
        refine wp_iadd (pc := 30) dX5_passTime_30 ?_
        refine wp_puti (pc := 31) dX5_passTime_31 rfl f_X5_35 kd_104 la_104 (fun _ h => by cases h; rfl) rfl ?_
        refine wp_aload_n (pc := 34) 0 dX5_passTime_34 rfl rfl ?_
        refine wp_geti (pc := 35) dX5_passTime_35 rfl f_X5_35 kd_104 la_104 (Or.inl rfl) ?_
        refine wp_eqst (st' := [vI (((Z 0) 7) + a)]) (by rw [up_s]) ?_
        refine wp_iret (pc := 38) dX5_passTime_38 rfl rfl ?_
        exact h1 (by omega) _ (fun b h1 => funext fun j => by rw [up_c (by omega)]) (ZZ_up (k0 := 0) hZ (by decide))
      · refine wp_iconst (pc := 22) dX5_passTime_22 ?_
        refine wp_iret (pc := 23) dX5_passTime_23 rfl rfl ?_
        exact h0 (by omega)

theorem sp_sits {l : Launch} {G : mG} {d : Nat} {I : mI} {L : Nat → Nat → Int} {D : Nat → Nat} {Q : mQ} {T : mT} {S : mS} {Z : mT} {a b : Int}  (hC : CI I D T S Z) (h_a : inR a) (h_b : b = 0 ∨ b = 1) (hd : 1 ≤ d) (h1 : ((0 ≤ a ∧ a < T 0 11) ∧ Z 0 6 < 30) → ∀ J, Fz I J → ZZ J = tellZ Z 0 a 0 b → Q (some (vI (Z 0 6))) J (XX L D)) (h0 : ¬ ((0 ≤ a ∧ a < T 0 11) ∧ Z 0 6 < 30) → Q (some (vI (-1))) I (XX L D)) : WP l G m_X10_sits d 153 I (XX L D) 0 [some (vR 0), some (vI a), some (vI b)] [] Q := by
  obtain ⟨hD0, h30, hT0, hS, hZ, hw, hv, hz, hrd, hcd⟩ := hC
  have h3 : isT (D 3) := by rw [h30]; exact hD0
  have hT : TT I (D 3) = T := by rw [h30]; exact hT0
  have b_p := tw_p hw
  have b_c := tw_c hw
  have b_q := tw_q hw
  have b_s := sw_sun hv
  refine wp_aload_n (pc := 0) 0 dX10_sits_0 rfl rfl ?_
  refine wp_getr (pc := 1) dX10_sits_1 rfl f_X10_10 kd_0 la_0 rfl (r_0_0 D) ?_
  refine wp_iload_n (pc := 4) 1 dX10_sits_4 rfl rfl ?_
  refine wp_callV (pc := 5) (st := []) (nf' := 153) [vI a] [some (vR (D 0)), some (vI a)] dX10_sits_5 rfl c_X10_205 rfl (tk_0 hD0) (by decide) rfl (tl_0 hD0) rfl (Nat.le_of_ble_eq_true rfl) rfl (Nat.le_of_ble_eq_true rfl) (by omega) (Nat.le_refl _) (Nat.le_refl _) ?_
  refine sp_hasChurch hD0 hT0 hw (by omega) (by omega) (fun h_1 => ?_) (fun h_1 => ?_)
  · refine wp_eqst (st' := [vI 1]) rfl ?_
    refine wp_if_eq (pc := 8) 25 dX10_sits_8 (by decide) (by decide) (fun hh => absurd hh (by decide)) (fun _ => ?_)
    refine wp_aload_n (pc := 11) 0 dX10_sits_11 rfl rfl ?_
    refine wp_getr (pc := 12) dX10_sits_12 rfl f_X10_75 kd_0 la_0 rfl (r_0_10 D) ?_
    refine wp_iconst (pc := 15) dX10_sits_15 ?_
    refine wp_iload_n (pc := 16) 1 dX10_sits_16 rfl rfl ?_
    refine wp_iconst (pc := 17) dX10_sits_17 ?_
    refine wp_iload_n (pc := 18) 2 dX10_sits_18 rfl rfl ?_
    refine wp_callV (pc := 19) (st := []) (nf' := 153) [vI 0, vI a, vI 0, vI b] [some (vR 104), some (vI 0), some (vI a), some (vI 0), some (vI b)] dX10_sits_19 rfl c_X10_280 rfl kd_104 (by decide) rfl la_104 rfl (Nat.le_of_ble_eq_true rfl) rfl (Nat.le_of_ble_eq_true rfl) (by omega) (Nat.le_refl _) (Nat.le_refl _) ?_
    refine sp_tell hZ hz (by omega) (by omega) (fun hc J hJ hZJ => ?_) (fun hc => ?_)
    · refine wp_eqst (st' := [vI (Z 0 6)]) rfl ?_
      refine wp_goto (pc := 22) 26 dX10_sits_22 (by decide) ?_
      refine wp_iret (pc := 26) dX10_sits_26 rfl rfl ?_
      exact h1 (by omega) J hJ hZJ
    · refine wp_eqst (st' := [vI (-1)]) rfl ?_
      refine wp_goto (pc := 22) 26 dX10_sits_22 (by decide) ?_
      refine wp_iret (pc := 26) dX10_sits_26 rfl rfl ?_
      exact h0 (by omega)
  · refine wp_eqst (st' := [vI 0]) rfl ?_
    refine wp_if_eq (pc := 8) 25 dX10_sits_8 (by decide) (by decide) (fun _ => ?_) (fun hh => absurd hh (by decide))
    refine wp_iconst (pc := 25) dX10_sits_25 ?_
    refine wp_iret (pc := 26) dX10_sits_26 rfl rfl ?_
    exact h0 (by omega)

theorem sp_knew {l : Launch} {G : mG} {d : Nat} {I : mI} {L : Nat → Nat → Int} {D : Nat → Nat} {Q : mQ} {T : mT} {S : mS} {Z : mT} {a b : Int}  (hC : CI I D T S Z) (h_a : inR a) (h_b : b = 0 ∨ b = 1) (hd : 1 ≤ d) (h1 : ((0 ≤ a ∧ a < T 0 12) ∧ Z 0 6 < 30) → ∀ J, Fz I J → ZZ J = tellZ Z 1 a 0 b → Q (some (vI (Z 0 6))) J (XX L D)) (h0 : ¬ ((0 ≤ a ∧ a < T 0 12) ∧ Z 0 6 < 30) → Q (some (vI (-1))) I (XX L D)) : WP l G m_X10_knew d 153 I (XX L D) 0 [some (vR 0), some (vI a), some (vI b)] [] Q := by
  obtain ⟨hD0, h30, hT0, hS, hZ, hw, hv, hz, hrd, hcd⟩ := hC
  have h3 : isT (D 3) := by rw [h30]; exact hD0
  have hT : TT I (D 3) = T := by rw [h30]; exact hT0
  have b_p := tw_p hw
  have b_c := tw_c hw
  have b_q := tw_q hw
  have b_s := sw_sun hv
  refine wp_aload_n (pc := 0) 0 dX10_knew_0 rfl rfl ?_
  refine wp_getr (pc := 1) dX10_knew_1 rfl f_X10_10 kd_0 la_0 rfl (r_0_0 D) ?_
  refine wp_iload_n (pc := 4) 1 dX10_knew_4 rfl rfl ?_
  refine wp_callV (pc := 5) (st := []) (nf' := 153) [vI a] [some (vR (D 0)), some (vI a)] dX10_knew_5 rfl c_X10_122 rfl (tk_0 hD0) (by decide) rfl (tl_0 hD0) rfl (Nat.le_of_ble_eq_true rfl) rfl (Nat.le_of_ble_eq_true rfl) (by omega) (Nat.le_refl _) (Nat.le_refl _) ?_
  refine sp_hasPerson hD0 hT0 hw (by omega) (by omega) (fun h_1 => ?_) (fun h_1 => ?_)
  · refine wp_eqst (st' := [vI 1]) rfl ?_
    refine wp_if_eq (pc := 8) 25 dX10_knew_8 (by decide) (by decide) (fun hh => absurd hh (by decide)) (fun _ => ?_)
    refine wp_aload_n (pc := 11) 0 dX10_knew_11 rfl rfl ?_
    refine wp_getr (pc := 12) dX10_knew_12 rfl f_X10_75 kd_0 la_0 rfl (r_0_10 D) ?_
    refine wp_iconst (pc := 15) dX10_knew_15 ?_
    refine wp_iload_n (pc := 16) 1 dX10_knew_16 rfl rfl ?_
    refine wp_iconst (pc := 17) dX10_knew_17 ?_
    refine wp_iload_n (pc := 18) 2 dX10_knew_18 rfl rfl ?_
    refine wp_callV (pc := 19) (st := []) (nf' := 153) [vI 1, vI a, vI 0, vI b] [some (vR 104), some (vI 1), some (vI a), some (vI 0), some (vI b)] dX10_knew_19 rfl c_X10_280 rfl kd_104 (by decide) rfl la_104 rfl (Nat.le_of_ble_eq_true rfl) rfl (Nat.le_of_ble_eq_true rfl) (by omega) (Nat.le_refl _) (Nat.le_refl _) ?_
    refine sp_tell hZ hz (by omega) (by omega) (fun hc J hJ hZJ => ?_) (fun hc => ?_)
    · refine wp_eqst (st' := [vI (Z 0 6)]) rfl ?_
      refine wp_goto (pc := 22) 26 dX10_knew_22 (by decide) ?_
      refine wp_iret (pc := 26) dX10_knew_26 rfl rfl ?_
      exact h1 (by omega) J hJ hZJ
    · refine wp_eqst (st' := [vI (-1)]) rfl ?_
      refine wp_goto (pc := 22) 26 dX10_knew_22 (by decide) ?_
      refine wp_iret (pc := 26) dX10_knew_26 rfl rfl ?_
      exact h0 (by omega)
  · refine wp_eqst (st' := [vI 0]) rfl ?_
    refine wp_if_eq (pc := 8) 25 dX10_knew_8 (by decide) (by decide) (fun _ => ?_) (fun hh => absurd hh (by decide))
    refine wp_iconst (pc := 25) dX10_knew_25 ?_
    refine wp_iret (pc := 26) dX10_knew_26 rfl rfl ?_
    exact h0 (by omega)

theorem sp_kin {l : Launch} {G : mG} {d : Nat} {I : mI} {L : Nat → Nat → Int} {D : Nat → Nat} {Q : mQ} {T : mT} {S : mS} {Z : mT} {a e b : Int}  (hC : CI I D T S Z) (h_a : inR a) (h_e : inR e) (h_b : b = 0 ∨ b = 1) (hd : 1 ≤ d) (h1 : (((0 ≤ a ∧ a < T 0 12) ∧ 0 ≤ e ∧ e ≤ 8) ∧ Z 0 6 < 30) → ∀ J, Fz I J → ZZ J = tellZ Z 2 a e b → Q (some (vI (Z 0 6))) J (XX L D)) (h0 : ¬ (((0 ≤ a ∧ a < T 0 12) ∧ 0 ≤ e ∧ e ≤ 8) ∧ Z 0 6 < 30) → Q (some (vI (-1))) I (XX L D)) : WP l G m_X10_kin d 153 I (XX L D) 0 [some (vR 0), some (vI a), some (vI e), some (vI b)] [] Q := by
  obtain ⟨hD0, h30, hT0, hS, hZ, hw, hv, hz, hrd, hcd⟩ := hC
  have h3 : isT (D 3) := by rw [h30]; exact hD0
  have hT : TT I (D 3) = T := by rw [h30]; exact hT0
  have b_p := tw_p hw
  have b_c := tw_c hw
  have b_q := tw_q hw
  have b_s := sw_sun hv
  refine wp_aload_n (pc := 0) 0 dX10_kin_0 rfl rfl ?_
  refine wp_getr (pc := 1) dX10_kin_1 rfl f_X10_10 kd_0 la_0 rfl (r_0_0 D) ?_
  refine wp_iload_n (pc := 4) 1 dX10_kin_4 rfl rfl ?_
  refine wp_callV (pc := 5) (st := []) (nf' := 153) [vI a] [some (vR (D 0)), some (vI a)] dX10_kin_5 rfl c_X10_122 rfl (tk_0 hD0) (by decide) rfl (tl_0 hD0) rfl (Nat.le_of_ble_eq_true rfl) rfl (Nat.le_of_ble_eq_true rfl) (by omega) (Nat.le_refl _) (Nat.le_refl _) ?_
  refine sp_hasPerson hD0 hT0 hw (by omega) (by omega) (fun h_1 => ?_) (fun h_1 => ?_)
  · refine wp_eqst (st' := [vI 1]) rfl ?_
    refine wp_if_eq (pc := 8) 21 dX10_kin_8 (by decide) (by decide) (fun hh => absurd hh (by decide)) (fun _ => ?_)
    refine wp_iload_n (pc := 11) 2 dX10_kin_11 rfl rfl ?_
    refine wp_if_lt (pc := 12) 21 dX10_kin_12 (by decide) (by omega) (fun h_2 => ?_) (fun h_2 => ?_)
    · refine wp_iconst (pc := 21) dX10_kin_21 ?_
      refine wp_iret (pc := 22) dX10_kin_22 rfl rfl ?_
      exact h0 (by omega)
    · refine wp_iload_n (pc := 15) 2 dX10_kin_15 rfl rfl ?_
      refine wp_bipush (pc := 16) dX10_kin_16 (by decide) ?_
      refine wp_icmp_le (pc := 18) 23 dX10_kin_18 (by decide) (by omega) (by decide) (fun h_3 => ?_) (fun h_3 => ?_)
      · refine wp_aload_n (pc := 23) 0 dX10_kin_23 rfl rfl ?_
        refine wp_getr (pc := 24) dX10_kin_24 rfl f_X10_75 kd_0 la_0 rfl (r_0_10 D) ?_
        refine wp_iconst (pc := 27) dX10_kin_27 ?_
        refine wp_iload_n (pc := 28) 1 dX10_kin_28 rfl rfl ?_
        refine wp_iload_n (pc := 29) 2 dX10_kin_29 rfl rfl ?_
        refine wp_iload_n (pc := 30) 3 dX10_kin_30 rfl rfl ?_
        refine wp_callV (pc := 31) (st := []) (nf' := 153) [vI 2, vI a, vI e, vI b] [some (vR 104), some (vI 2), some (vI a), some (vI e), some (vI b)] dX10_kin_31 rfl c_X10_280 rfl kd_104 (by decide) rfl la_104 rfl (Nat.le_of_ble_eq_true rfl) rfl (Nat.le_of_ble_eq_true rfl) (by omega) (Nat.le_refl _) (Nat.le_refl _) ?_
        refine sp_tell hZ hz (by omega) (by omega) (fun hc J hJ hZJ => ?_) (fun hc => ?_)
        · refine wp_eqst (st' := [vI (Z 0 6)]) rfl ?_
          refine wp_iret (pc := 34) dX10_kin_34 rfl rfl ?_
          exact h1 (by omega) J hJ hZJ
        · refine wp_eqst (st' := [vI (-1)]) rfl ?_
          refine wp_iret (pc := 34) dX10_kin_34 rfl rfl ?_
          exact h0 (by omega)
      · refine wp_iconst (pc := 21) dX10_kin_21 ?_
        refine wp_iret (pc := 22) dX10_kin_22 rfl rfl ?_
        exact h0 (by omega)
  · refine wp_eqst (st' := [vI 0]) rfl ?_
    refine wp_if_eq (pc := 8) 21 dX10_kin_8 (by decide) (by decide) (fun _ => ?_) (fun hh => absurd hh (by decide))
    refine wp_iconst (pc := 21) dX10_kin_21 ?_
    refine wp_iret (pc := 22) dX10_kin_22 rfl rfl ?_
    exact h0 (by omega)

theorem sp_untell {l : Launch} {G : mG} {d : Nat} {I : mI} {L : Nat → Nat → Int} {D : Nat → Nat} {Q : mQ} {T : mT} {S : mS} {Z : mT} {a : Int}  (hC : CI I D T S Z) (h_a : inR a) (hd : 1 ≤ d) (h1 : ((0 ≤ a ∧ a < Z 0 6) ∧ Z 6 a.toNat = -1) → ∀ J, Fz I J → ZZ J = setZ Z 6 a.toNat (Z 0 7) → Q (some (vI 1)) J (XX L D)) (h0 : ¬ ((0 ≤ a ∧ a < Z 0 6) ∧ Z 6 a.toNat = -1) → Q (some (vI 0)) I (XX L D)) : WP l G m_X10_untell d 153 I (XX L D) 0 [some (vR 0), some (vI a)] [] Q := by
  obtain ⟨hD0, h30, hT0, hS, hZ, hw, hv, hz, hrd, hcd⟩ := hC
  have h3 : isT (D 3) := by rw [h30]; exact hD0
  have hT : TT I (D 3) = T := by rw [h30]; exact hT0
  have b_p := tw_p hw
  have b_c := tw_c hw
  have b_q := tw_q hw
  have b_s := sw_sun hv
  refine wp_aload_n (pc := 0) 0 dX10_untell_0 rfl rfl ?_
  refine wp_getr (pc := 1) dX10_untell_1 rfl f_X10_75 kd_0 la_0 rfl (r_0_10 D) ?_
  refine wp_iload_n (pc := 4) 1 dX10_untell_4 rfl rfl ?_
  refine wp_callV (pc := 5) (st := []) (nf' := 153) [vI a] [some (vR 104), some (vI a)] dX10_untell_5 rfl c_X10_284 rfl kd_104 (by decide) rfl la_104 rfl (Nat.le_of_ble_eq_true rfl) rfl (Nat.le_of_ble_eq_true rfl) (by omega) (Nat.le_refl _) (Nat.le_refl _) ?_
  refine sp_takeBack hZ hz h_a (by omega) (fun hc J hJ hZJ => ?_) (fun hc => ?_)
  · refine wp_eqst (st' := [vI 1]) rfl ?_
    refine wp_zret (pc := 8) dX10_untell_8 rfl rfl (by decide) ?_
    exact h1 hc J hJ hZJ
  · refine wp_eqst (st' := [vI 0]) rfl ?_
    refine wp_zret (pc := 8) dX10_untell_8 rfl rfl (by decide) ?_
    exact h0 hc

theorem sp_later {l : Launch} {G : mG} {d : Nat} {I : mI} {L : Nat → Nat → Int} {D : Nat → Nat} {Q : mQ} {T : mT} {S : mS} {Z : mT} {a : Int}  (hC : CI I D T S Z) (h_a : inR a) (hd : 1 ≤ d) (h1 : (0 ≤ a ∧ a ≤ 1000 ∧ Z 0 7 + a ≤ 100000) → ∀ J, Fz I J → ZZ J = setZ Z 0 7 (Z 0 7 + a) → Q (some (vI (Z 0 7 + a))) J (XX L D)) (h0 : ¬ (0 ≤ a ∧ a ≤ 1000 ∧ Z 0 7 + a ≤ 100000) → Q (some (vI (-1))) I (XX L D)) : WP l G m_X10_later d 153 I (XX L D) 0 [some (vR 0), some (vI a)] [] Q := by
  obtain ⟨hD0, h30, hT0, hS, hZ, hw, hv, hz, hrd, hcd⟩ := hC
  have h3 : isT (D 3) := by rw [h30]; exact hD0
  have hT : TT I (D 3) = T := by rw [h30]; exact hT0
  have b_p := tw_p hw
  have b_c := tw_c hw
  have b_q := tw_q hw
  have b_s := sw_sun hv
  refine wp_aload_n (pc := 0) 0 dX10_later_0 rfl rfl ?_
  refine wp_getr (pc := 1) dX10_later_1 rfl f_X10_75 kd_0 la_0 rfl (r_0_10 D) ?_
  refine wp_iload_n (pc := 4) 1 dX10_later_4 rfl rfl ?_
  refine wp_callV (pc := 5) (st := []) (nf' := 153) [vI a] [some (vR 104), some (vI a)] dX10_later_5 rfl c_X10_287 rfl kd_104 (by decide) rfl la_104 rfl (Nat.le_of_ble_eq_true rfl) rfl (Nat.le_of_ble_eq_true rfl) (by omega) (Nat.le_refl _) (Nat.le_refl _) ?_
  refine sp_passTime hZ hz h_a (by omega) (fun hc J hJ hZJ => ?_) (fun hc => ?_)
  · refine wp_eqst (st' := [vI (Z 0 7 + a)]) rfl ?_
    refine wp_iret (pc := 8) dX10_later_8 rfl rfl ?_
    exact h1 hc J hJ hZJ
  · refine wp_eqst (st' := [vI (-1)]) rfl ?_
    refine wp_iret (pc := 8) dX10_later_8 rfl rfl ?_
    exact h0 hc
