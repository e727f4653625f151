theorem sp_begin {l : Launch} {G : mG} {d : Nat} {I : mI} {L : Nat → Nat → Int} {D : Nat → Nat} {Q : mQ} {s t : Nat} {T : mT}  (hs : isS s) (ht : isT t) (hT : TT I t = T) (hd : 1 ≤ d) (hQ : Q none (upc I (s + 1) (beginS T)) (XX L D)) : WP l G m_X7_begin d 153 I (XX L D) 0 [some (vR s), some (vR t)] [] Q := by
  have g1 : s = 47 ∨ s = 49 ∨ s = 95 ∨ s = 97 ∨ s = 99 := hs
  have g2 : t = 1 ∨ t = 21 := ht
  refine wp_aload_n (pc := 0) 0 dX7_begin_0 rfl rfl ?_
  refine wp_getr (pc := 1) dX7_begin_1 rfl f_X7_11 (sk_0 hs) (sl_0 hs) rfl (sr_0_0 D hs) ?_
  refine wp_iconst (pc := 4) dX7_begin_4 ?_
  refine wp_callS (pc := 5) (st := []) (nf' := 153) [vR (s + 1), vI 0] [some (vR (s + 1)), some (vI 0), none, none] dX7_begin_5 rfl c_X7_15 rfl rfl (Nat.le_of_ble_eq_true rfl) rfl (Nat.le_of_ble_eq_true rfl) (by omega) (Nat.le_refl _) (Nat.le_refl _) ?_
  refine sp_fill (sk_1 hs) (sl_1 hs) (by decide) (by omega) ?_
  refine wp_eqst (st' := []) rfl ?_
  refine wp_aload_n (pc := 8) 1 dX7_begin_8 rfl rfl ?_
  refine wp_getr (pc := 9) dX7_begin_9 rfl f_X7_21 (tk_0 ht) (tl_0 ht) rfl (tr_0_2 D ht) ?_
  refine wp_iconst (pc := 12) dX7_begin_12 ?_
  refine wp_aload_n (pc := 13) 0 dX7_begin_13 rfl rfl ?_
  refine wp_getr (pc := 14) dX7_begin_14 rfl f_X7_11 (sk_0 hs) (sl_0 hs) rfl (sr_0_0 D hs) ?_
  refine wp_iconst (pc := 17) dX7_begin_17 ?_
  refine wp_bipush (pc := 18) dX7_begin_18 (by decide) ?_
  refine wp_copy (pc := 20) (st := []) dX7_begin_20 rfl c_X7_26 (tk_3 ht) (sk_1 hs) (tl_3 ht) (sl_1 hs) (by decide) (by decide) (by decide) (by decide) (by decide) (Nat.le_of_ble_eq_true rfl) (by omega) ?_
  refine wp_aload_n (pc := 23) 1 dX7_begin_23 rfl rfl ?_
  refine wp_getr (pc := 24) dX7_begin_24 rfl f_X7_32 (tk_0 ht) (tl_0 ht) rfl (tr_0_7 D ht) ?_
  refine wp_iconst (pc := 27) dX7_begin_27 ?_
  refine wp_aload_n (pc := 28) 0 dX7_begin_28 rfl rfl ?_
  refine wp_getr (pc := 29) dX7_begin_29 rfl f_X7_11 (sk_0 hs) (sl_0 hs) rfl (sr_0_0 D hs) ?_
  refine wp_bipush (pc := 32) dX7_begin_32 (by decide) ?_
  refine wp_iconst (pc := 34) dX7_begin_34 ?_
  refine wp_copy (pc := 35) (st := []) dX7_begin_35 rfl c_X7_26 (tk_8 ht) (sk_1 hs) (tl_8 ht) (sl_1 hs) (by decide) (by decide) (by decide) (by decide) (by decide) (Nat.le_of_ble_eq_true rfl) (by omega) ?_
  refine wp_aload_n (pc := 38) 1 dX7_begin_38 rfl rfl ?_
  refine wp_getr (pc := 39) dX7_begin_39 rfl f_X7_35 (tk_0 ht) (tl_0 ht) rfl (tr_0_8 D ht) ?_
  refine wp_iconst (pc := 42) dX7_begin_42 ?_
  refine wp_aload_n (pc := 43) 0 dX7_begin_43 rfl rfl ?_
  refine wp_getr (pc := 44) dX7_begin_44 rfl f_X7_11 (sk_0 hs) (sl_0 hs) rfl (sr_0_0 D hs) ?_
  refine wp_bipush (pc := 47) dX7_begin_47 (by decide) ?_
  refine wp_iconst (pc := 49) dX7_begin_49 ?_
  refine wp_copy (pc := 50) (st := []) dX7_begin_50 rfl c_X7_26 (tk_9 ht) (sk_1 hs) (tl_9 ht) (sl_1 hs) (by decide) (by decide) (by decide) (by decide) (by decide) (Nat.le_of_ble_eq_true rfl) (by omega) ?_
  refine wp_aload_n (pc := 53) 0 dX7_begin_53 rfl rfl ?_
  refine wp_getr (pc := 54) dX7_begin_54 rfl f_X7_11 (sk_0 hs) (sl_0 hs) rfl (sr_0_0 D hs) ?_
  refine wp_bipush (pc := 57) dX7_begin_57 (by decide) ?_
  refine wp_aload_n (pc := 59) 1 dX7_begin_59 rfl rfl ?_
  refine wp_geti (pc := 60) dX7_begin_60 rfl f_X7_38 (tk_0 ht) (tl_0 ht) (Or.inl rfl) ?_
  refine wp_eqst (st' := [vI (T 0 17), vI 29, vR (s + 1)]) (by rw [cpy_c (by omega), cpy_c (by omega), cpy_c (by omega), upc_c (by omega), ← hT] <;> rfl) ?_
  refine wq_iast (pc := 63) 29 dX7_begin_63 (sk_1 hs) (sl_1 hs) rfl (by decide) ?_
  refine wp_ext (I' := upc I (s + 1) (beginS T)) (begin_eq ht hs hT) ?_
  refine wp_vret (pc := 64) dX7_begin_64 rfl rfl ?_
  exact hQ

theorem sp_settle2 {l : Launch} {G : mG} {d : Nat} {I : mI} {L : Nat → Nat → Int} {D : Nat → Nat} {Q : mQ} {T : mT}  (hD0 : isT (D 0)) (hT0 : TT I (D 0) = T) (hd : 2 ≤ d) (hQ : ∀ J, (∀ b, b ≠ 0 → b ≠ 48 → b ≠ 51 → ¬ (53 ≤ b ∧ b ≤ 93) → b ≠ 104 → J b = I b) → (∀ j, j ≠ 6 → J 104 j = I 104 j) → J 104 6 = 0 → J 0 11 = 0 → SS J 47 = beginS T → HI J (fun _ => beginS T, 0, 0) → Q none J (XX L D)) : WP l G m_X10_settleIn d 153 I (XX L D) 11 [some (vR 0)] [] Q := by
  refine wp_aload_n (pc := 11) 0 dX10_settleIn_11 rfl rfl ?_
  refine wp_getr (pc := 12) dX10_settleIn_12 rfl f_X10_47 kd_0 la_0 rfl (r_0_5 D) ?_
  refine wp_aload_n (pc := 15) 0 dX10_settleIn_15 rfl rfl ?_
  refine wp_getr (pc := 16) dX10_settleIn_16 rfl f_X10_10 kd_0 la_0 rfl (r_0_0 D) ?_
  refine wp_callV (pc := 19) (st := []) (nf' := 153) [vR (D 0)] [some (vR 47), some (vR (D 0))] dX10_settleIn_19 rfl c_X10_341 rfl kd_47 (by decide) rfl la_47 rfl (Nat.le_of_ble_eq_true rfl) rfl (Nat.le_of_ble_eq_true rfl) (by omega) (Nat.le_refl _) (Nat.le_refl _) ?_
  refine sp_begin (s := 47) is47 hD0 hT0 (by omega) ?_
  refine wp_eqst (st' := []) rfl ?_
  refine wp_aload_n (pc := 22) 0 dX10_settleIn_22 rfl rfl ?_
  refine wp_getr (pc := 23) dX10_settleIn_23 rfl f_X10_57 kd_0 la_0 rfl (r_0_7 D) ?_
  refine wp_aload_n (pc := 26) 0 dX10_settleIn_26 rfl rfl ?_
  refine wp_getr (pc := 27) dX10_settleIn_27 rfl f_X10_47 kd_0 la_0 rfl (r_0_5 D) ?_
  refine wp_callV (pc := 30) (st := []) (nf' := 153) [vR 47] [some (vR 51), some (vR 47)] dX10_settleIn_30 rfl c_X10_305 rfl kd_51 (by decide) rfl la_51 rfl (Nat.le_of_ble_eq_true rfl) rfl (Nat.le_of_ble_eq_true rfl) (by omega) (Nat.le_refl _) (Nat.le_refl _) ?_
  have hS1 : SS (upc I 48 (beginS T)) 47 = beginS T := funext fun j => upc_s
  refine sp_restart hS1 (by omega) (fun J hJ hHJ => ?_)
  refine wp_eqst (st' := []) rfl ?_
  refine wp_aload_n (pc := 33) 0 dX10_settleIn_33 rfl rfl ?_
  refine wp_getr (pc := 34) dX10_settleIn_34 rfl f_X10_75 kd_0 la_0 rfl (r_0_10 D) ?_
  refine wp_iconst (pc := 37) dX10_settleIn_37 ?_
  refine wp_puti (pc := 38) dX10_settleIn_38 rfl f_X10_323 kd_104 la_104 (fun _ h => by cases h; rfl) rfl ?_
  refine wp_aload_n (pc := 41) 0 dX10_settleIn_41 rfl rfl ?_
  refine wp_iconst (pc := 42) dX10_settleIn_42 ?_
  refine wp_puti (pc := 43) dX10_settleIn_43 rfl f_X10_302 kd_0 la_0 (fun _ h => by cases h; rfl) rfl ?_
  refine wp_vret (pc := 46) dX10_settleIn_46 rfl rfl ?_
  refine hQ _ (fun b g1 g2 g3 g4 g5 => (funext fun j => by rw [up_c (by omega), up_c (by omega)]).trans ((hJ b g3 g4).trans (funext fun j => upc_c g2))) (fun j hj => ?_) ?_ ?_ ?_ ?_
  · rw [up_c (by omega), up_j hj, hJ 104 (by decide) (by decide), upc_c (by decide)]
  · rw [up_c (by omega), up_s]
  · rw [up_s]
  · have e := hJ.s hS1
    funext j; rw [← e]; show _ = J 48 j; show up (up J 104 6 0) 0 11 0 48 j = J 48 j; rw [up_c (by omega), up_c (by omega)]
  · exact hHJ.fr (funext fun j => by rw [up_c (by omega), up_c (by omega)]) (fun i hi => funext fun j => by rw [up_c (by omega), up_c (by omega)])

theorem sp_put {l : Launch} {G : mG} {d : Nat} {I : mI} {L : Nat → Nat → Int} {D : Nat → Nat} {Q : mQ} {a : Int}  (h0 : 0 ≤ I 41 3) (h4 : I 41 3 + 4 ≤ 1600) (hd : 0 ≤ d) (hQ : ∀ J, Ft I J → J 41 3 = I 41 3 + 4 → J 42 = putT (I 42) (I 41 3) a → Q none J (XX L D)) : WP l G m_X8_put d 153 I (XX L D) 0 [some (vR 41), some (vI a), none] [] Q := by
  have k24 := bm256 (w32 a / 2 ^ Int.toNat 24)
  have k16 := bm256 (w32 a / 2 ^ Int.toNat 16)
  have k8 := bm256 (w32 a / 2 ^ Int.toNat 8)
  have k0 := bm256 (w32 a / 2 ^ Int.toNat 0)
  refine wp_bipush (pc := 0) dX8_put_0 (by decide) ?_
  refine wq_istore_n (pc := 2) 2 [some (vR 41), some (vI a), some (vI 24)] dX8_put_2 rfl rfl (by decide) rfl ?_
  refine wp_iload_n (pc := 3) 2 dX8_put_3 rfl rfl ?_
  refine wp_if_lt (pc := 4) 46 dX8_put_4 (by decide) (by decide) (fun hh => absurd hh (by decide)) (fun _ => ?_)
  refine wp_aload_n (pc := 7) 0 dX8_put_7 rfl rfl ?_
  refine wp_geti (pc := 8) dX8_put_8 rfl f_X8_35 kd_41 la_41 (Or.inl rfl) ?_
  refine wp_sipush (pc := 11) dX8_put_11 (by decide) ?_
  refine wp_icmp_ge (pc := 14) 40 dX8_put_14 (by decide) (by omega) (by decide) (fun h_1 => ?_) (fun h_1 => ?_)
  · exfalso; omega
  · refine wp_aload_n (pc := 17) 0 dX8_put_17 rfl rfl ?_
    refine wp_getr (pc := 18) dX8_put_18 rfl f_X8_11 kd_41 la_41 rfl (r_41_0 D) ?_
    refine wp_aload_n (pc := 21) 0 dX8_put_21 rfl rfl ?_
    refine wp_geti (pc := 22) dX8_put_22 rfl f_X8_35 kd_41 la_41 (Or.inl rfl) ?_
    refine wp_iload_n (pc := 25) 1 dX8_put_25 rfl rfl ?_
    refine wp_iload_n (pc := 26) 2 dX8_put_26 rfl rfl ?_
    refine wp_ishr (pc := 27) dX8_put_27 (by omega) (by omega) ?_
    refine wp_i2b (pc := 28) dX8_put_28 ?_
    refine wq_bast (pc := 29) (Int.toNat (I 41 3)) dX8_put_29 kd_42 la_42 (by omega) (by omega) (by omega) ?_
    refine wp_aload_n (pc := 30) 0 dX8_put_30 rfl rfl ?_
    refine wp_dup (pc := 31) dX8_put_31 rfl ?_
    refine wp_geti (pc := 32) dX8_put_32 rfl f_X8_35 kd_41 la_41 (Or.inl rfl) ?_
    refine wp_eqst (st' := [vI (I 41 3), vR 41]) (by rw [up_c (by omega)]) ?_
    refine wp_iconst (pc := 35) dX8_put_35 ?_
    refine wp_iadd (pc := 36) dX8_put_36 ?_
    refine wp_puti (pc := 37) dX8_put_37 rfl f_X8_35 kd_41 la_41 (fun _ h => by cases h; rfl) rfl ?_
    refine wq_iinc (pc := 40) [some (vR 41), some (vI a), some (vI 16)] dX8_put_40 rfl rfl (by decide) rfl ?_
    refine wp_goto (pc := 43) 3 dX8_put_43 (by decide) ?_
    refine wp_iload_n (pc := 3) 2 dX8_put_3 rfl rfl ?_
    refine wp_if_lt (pc := 4) 46 dX8_put_4 (by decide) (by decide) (fun hh => absurd hh (by decide)) (fun _ => ?_)
    refine wp_aload_n (pc := 7) 0 dX8_put_7 rfl rfl ?_
    refine wp_geti (pc := 8) dX8_put_8 rfl f_X8_35 kd_41 la_41 (Or.inl rfl) ?_
    refine wp_eqst (st' := [vI ((I 41 3) + 1)]) (by rw [up_s]) ?_
    refine wp_sipush (pc := 11) dX8_put_11 (by decide) ?_
    refine wp_icmp_ge (pc := 14) 40 dX8_put_14 (by decide) (by omega) (by decide) (fun h_2 => ?_) (fun h_2 => ?_)
    · exfalso; omega
    · refine wp_aload_n (pc := 17) 0 dX8_put_17 rfl rfl ?_
      refine wp_getr (pc := 18) dX8_put_18 rfl f_X8_11 kd_41 la_41 rfl (r_41_0 D) ?_
      refine wp_aload_n (pc := 21) 0 dX8_put_21 rfl rfl ?_
      refine wp_geti (pc := 22) dX8_put_22 rfl f_X8_35 kd_41 la_41 (Or.inl rfl) ?_
      refine wp_eqst (st' := [vI ((I 41 3) + 1), vR 42]) (by rw [up_s]) ?_
      refine wp_iload_n (pc := 25) 1 dX8_put_25 rfl rfl ?_
      refine wp_iload_n (pc := 26) 2 dX8_put_26 rfl rfl ?_
      refine wp_ishr (pc := 27) dX8_put_27 (by omega) (by omega) ?_
      refine wp_i2b (pc := 28) dX8_put_28 ?_
      refine wq_bast (pc := 29) (Int.toNat ((I 41 3) + 1)) dX8_put_29 kd_42 la_42 (by omega) (by omega) (by omega) ?_
      refine wp_aload_n (pc := 30) 0 dX8_put_30 rfl rfl ?_
      refine wp_dup (pc := 31) dX8_put_31 rfl ?_
      refine wp_geti (pc := 32) dX8_put_32 rfl f_X8_35 kd_41 la_41 (Or.inl rfl) ?_
      refine wp_eqst (st' := [vI ((I 41 3) + 1), vR 41]) (by rw [up_c (by omega), up_s]) ?_
      refine wp_iconst (pc := 35) dX8_put_35 ?_
      refine wp_iadd (pc := 36) dX8_put_36 ?_
      refine wp_puti (pc := 37) dX8_put_37 rfl f_X8_35 kd_41 la_41 (fun _ h => by cases h; rfl) rfl ?_
      refine wq_iinc (pc := 40) [some (vR 41), some (vI a), some (vI 8)] dX8_put_40 rfl rfl (by decide) rfl ?_
      refine wp_goto (pc := 43) 3 dX8_put_43 (by decide) ?_
      refine wp_iload_n (pc := 3) 2 dX8_put_3 rfl rfl ?_
      refine wp_if_lt (pc := 4) 46 dX8_put_4 (by decide) (by decide) (fun hh => absurd hh (by decide)) (fun _ => ?_)
      refine wp_aload_n (pc := 7) 0 dX8_put_7 rfl rfl ?_
      refine wp_geti (pc := 8) dX8_put_8 rfl f_X8_35 kd_41 la_41 (Or.inl rfl) ?_
      refine wp_eqst (st' := [vI (((I 41 3) + 1) + 1)]) (by rw [up_s]) ?_
      refine wp_sipush (pc := 11) dX8_put_11 (by decide) ?_
      refine wp_icmp_ge (pc := 14) 40 dX8_put_14 (by decide) (by omega) (by decide) (fun h_3 => ?_) (fun h_3 => ?_)
      · exfalso; omega
      · refine wp_aload_n (pc := 17) 0 dX8_put_17 rfl rfl ?_
        refine wp_getr (pc := 18) dX8_put_18 rfl f_X8_11 kd_41 la_41 rfl (r_41_0 D) ?_
        refine wp_aload_n (pc := 21) 0 dX8_put_21 rfl rfl ?_
        refine wp_geti (pc := 22) dX8_put_22 rfl f_X8_35 kd_41 la_41 (Or.inl rfl) ?_
        refine wp_eqst (st' := [vI (((I 41 3) + 1) + 1), vR 42]) (by rw [up_s]) ?_
        refine wp_iload_n (pc := 25) 1 dX8_put_25 rfl rfl ?_
        refine wp_iload_n (pc := 26) 2 dX8_put_26 rfl rfl ?_
        refine wp_ishr (pc := 27) dX8_put_27 (by omega) (by omega) ?_
        refine wp_i2b (pc := 28) dX8_put_28 ?_
        refine wq_bast (pc := 29) (Int.toNat (((I 41 3) + 1) + 1)) dX8_put_29 kd_42 la_42 (by omega) (by omega) (by omega) ?_
        refine wp_aload_n (pc := 30) 0 dX8_put_30 rfl rfl ?_
        refine wp_dup (pc := 31) dX8_put_31 rfl ?_
        refine wp_geti (pc := 32) dX8_put_32 rfl f_X8_35 kd_41 la_41 (Or.inl rfl) ?_
        refine wp_eqst (st' := [vI (((I 41 3) + 1) + 1), vR 41]) (by rw [up_c (by omega), up_s]) ?_
        refine wp_iconst (pc := 35) dX8_put_35 ?_
        refine wp_iadd (pc := 36) dX8_put_36 ?_
        refine wp_puti (pc := 37) dX8_put_37 rfl f_X8_35 kd_41 la_41 (fun _ h => by cases h; rfl) rfl ?_
        refine wq_iinc (pc := 40) [some (vR 41), some (vI a), some (vI 0)] dX8_put_40 rfl rfl (by decide) rfl ?_
        refine wp_goto (pc := 43) 3 dX8_put_43 (by decide) ?_
        refine wp_iload_n (pc := 3) 2 dX8_put_3 rfl rfl ?_
        refine wp_if_lt (pc := 4) 46 dX8_put_4 (by decide) (by decide) (fun hh => absurd hh (by decide)) (fun _ => ?_)
        refine wp_aload_n (pc := 7) 0 dX8_put_7 rfl rfl ?_
        refine wp_geti (pc := 8) dX8_put_8 rfl f_X8_35 kd_41 la_41 (Or.inl rfl) ?_
        refine wp_eqst (st' := [vI ((((I 41 3) + 1) + 1) + 1)]) (by rw [up_s]) ?_
        refine wp_sipush (pc := 11) dX8_put_11 (by decide) ?_
        refine wp_icmp_ge (pc := 14) 40 dX8_put_14 (by decide) (by omega) (by decide) (fun h_4 => ?_) (fun h_4 => ?_)
        · exfalso; omega
        · refine wp_aload_n (pc := 17) 0 dX8_put_17 rfl rfl ?_
          refine wp_getr (pc := 18) dX8_put_18 rfl f_X8_11 kd_41 la_41 rfl (r_41_0 D) ?_
          refine wp_aload_n (pc := 21) 0 dX8_put_21 rfl rfl ?_
          refine wp_geti (pc := 22) dX8_put_22 rfl f_X8_35 kd_41 la_41 (Or.inl rfl) ?_
          refine wp_eqst (st' := [vI ((((I 41 3) + 1) + 1) + 1), vR 42]) (by rw [up_s]) ?_
          refine wp_iload_n (pc := 25) 1 dX8_put_25 rfl rfl ?_
          refine wp_iload_n (pc := 26) 2 dX8_put_26 rfl rfl ?_
          refine wp_ishr (pc := 27) dX8_put_27 (by omega) (by omega) ?_
          refine wp_i2b (pc := 28) dX8_put_28 ?_
          refine wq_bast (pc := 29) (Int.toNat ((((I 41 3) + 1) + 1) + 1)) dX8_put_29 kd_42 la_42 (by omega) (by omega) (by omega) ?_
          refine wp_aload_n (pc := 30) 0 dX8_put_30 rfl rfl ?_
          refine wp_dup (pc := 31) dX8_put_31 rfl ?_
          refine wp_geti (pc := 32) dX8_put_32 rfl f_X8_35 kd_41 la_41 (Or.inl rfl) ?_
          refine wp_eqst (st' := [vI ((((I 41 3) + 1) + 1) + 1), vR 41]) (by rw [up_c (by omega), up_s]) ?_
          refine wp_iconst (pc := 35) dX8_put_35 ?_
          refine wp_iadd (pc := 36) dX8_put_36 ?_
          refine wp_puti (pc := 37) dX8_put_37 rfl f_X8_35 kd_41 la_41 (fun _ h => by cases h; rfl) rfl ?_
          refine wq_iinc (pc := 40) [some (vR 41), some (vI a), some (vI (-8))] dX8_put_40 rfl rfl (by decide) rfl ?_
          refine wp_goto (pc := 43) 3 dX8_put_43 (by decide) ?_
          refine wp_iload_n (pc := 3) 2 dX8_put_3 rfl rfl ?_
          refine wp_if_lt (pc := 4) 46 dX8_put_4 (by decide) (by decide) (fun _ => ?_) (fun hh => absurd hh (by decide))
          refine wp_vret (pc := 46) dX8_put_46 rfl rfl ?_
          refine hQ _ ⟨(fun b h1 h2 => funext fun j => by rw [up_c (by omega), up_c (by omega), up_c (by omega), up_c (by omega), up_c (by omega), up_c (by omega), up_c (by omega), up_c (by omega)]), fun j hj => by rw [up_j hj, up_c (by omega), up_j hj, up_c (by omega), up_j hj, up_c (by omega), up_j hj, up_c (by omega)]⟩ ?_ ?_
          · rw [up_s]; omega
          · funext j; unfold putT; simp only [up, byteOf, true_and, false_and, if_false, show (42 = 41) = False from by decide]; repeat' split
            all_goals first | rfl | omega

theorem sp_feed {l : Launch} {G : mG} {d : Nat} {I : mI} {L : Nat → Nat → Int} {D : Nat → Nat} {Q : mQ} {a b c e f : Int}  (h0 : 0 ≤ I 41 3 ∧ I 41 3 ≤ 1600) (hd : 1 ≤ d) (g1 : I 41 3 + 20 ≤ 1600 → ∀ J, Ft I J → J 41 3 = I 41 3 + 20 → J 42 = feedT (I 42) (I 41 3) a b c e f → Q (some (vI (I 41 3 + 20))) J (XX L D)) (g0 : ¬ (I 41 3 + 20 ≤ 1600) → Q (some (vI (-1))) I (XX L D)) : WP l G m_X10_feed d 153 I (XX L D) 0 [some (vR 0), some (vI a), some (vI b), some (vI c), some (vI e), some (vI f)] [] Q := by
  refine wp_aload_n (pc := 0) 0 dX10_feed_0 rfl rfl ?_
  refine wp_getr (pc := 1) dX10_feed_1 rfl f_X10_22 kd_0 la_0 rfl (r_0_2 D) ?_
  refine wp_bipush (pc := 4) dX10_feed_4 (by decide) ?_
  refine wp_callV (pc := 6) (st := []) (nf' := 153) [vI 20] [some (vR 41), some (vI 20)] dX10_feed_6 rfl c_X10_82 rfl kd_41 (by decide) rfl la_41 rfl (Nat.le_of_ble_eq_true rfl) rfl (Nat.le_of_ble_eq_true rfl) (by omega) (Nat.le_refl _) (Nat.le_refl _) ?_
  refine wp_aload_n (pc := 0) 0 dX8_hasRoom_0 rfl rfl ?_
  refine wp_geti (pc := 1) dX8_hasRoom_1 rfl f_X8_35 kd_41 la_41 (Or.inl rfl) ?_
  refine wp_iload_n (pc := 4) 1 dX8_hasRoom_4 rfl rfl ?_
  refine wp_iadd (pc := 5) dX8_hasRoom_5 ?_
  refine wp_sipush (pc := 6) dX8_hasRoom_6 (by decide) ?_
  refine wp_icmp_gt (pc := 9) 16 dX8_hasRoom_9 (by decide) (by omega) (by decide) (fun h_1 => ?_) (fun h_1 => ?_)
  · refine wp_iconst (pc := 16) dX8_hasRoom_16 ?_
    refine wp_zret (pc := 17) dX8_hasRoom_17 rfl rfl (by decide) ?_
    refine wp_eqst (st' := [vI 0]) rfl ?_
    refine wp_if_ne (pc := 9) 14 dX10_feed_9 (by decide) (by decide) (fun hh => absurd hh (by decide)) (fun _ => ?_)
    refine wp_iconst (pc := 12) dX10_feed_12 ?_
    refine wp_iret (pc := 13) dX10_feed_13 rfl rfl ?_
    exact g0 (by omega)
  · refine wp_iconst (pc := 12) dX8_hasRoom_12 ?_
    refine wp_goto (pc := 13) 17 dX8_hasRoom_13 (by decide) ?_
    refine wp_zret (pc := 17) dX8_hasRoom_17 rfl rfl (by decide) ?_
    refine wp_eqst (st' := [vI 1]) rfl ?_
    refine wp_if_ne (pc := 9) 14 dX10_feed_9 (by decide) (by decide) (fun _ => ?_) (fun hh => absurd hh (by decide))
    refine wp_aload_n (pc := 14) 0 dX10_feed_14 rfl rfl ?_
    refine wp_getr (pc := 15) dX10_feed_15 rfl f_X10_22 kd_0 la_0 rfl (r_0_2 D) ?_
    refine wp_iload_n (pc := 18) 1 dX10_feed_18 rfl rfl ?_
    refine wp_callV (pc := 19) (st := []) (nf' := 153) [vI a] [some (vR 41), some (vI a), none] dX10_feed_19 rfl c_X10_86 rfl kd_41 (by decide) rfl la_41 rfl (Nat.le_of_ble_eq_true rfl) rfl (Nat.le_of_ble_eq_true rfl) (by omega) (Nat.le_refl _) (Nat.le_refl _) ?_
    refine sp_put (a := a) (by omega) (by omega) (by omega) (fun J1 hf1 hl1 hb1 => ?_)
    refine wp_eqst (st' := []) rfl ?_
    refine wp_aload_n (pc := 22) 0 dX10_feed_22 rfl rfl ?_
    refine wp_getr (pc := 23) dX10_feed_23 rfl f_X10_22 kd_0 la_0 rfl (r_0_2 D) ?_
    refine wp_iload_n (pc := 26) 2 dX10_feed_26 rfl rfl ?_
    refine wp_callV (pc := 27) (st := []) (nf' := 153) [vI b] [some (vR 41), some (vI b), none] dX10_feed_27 rfl c_X10_86 rfl kd_41 (by decide) rfl la_41 rfl (Nat.le_of_ble_eq_true rfl) rfl (Nat.le_of_ble_eq_true rfl) (by omega) (Nat.le_refl _) (Nat.le_refl _) ?_
    refine sp_put (a := b) (by omega) (by omega) (by omega) (fun J2 hf2 hl2 hb2 => ?_)
    refine wp_eqst (st' := []) rfl ?_
    refine wp_aload_n (pc := 30) 0 dX10_feed_30 rfl rfl ?_
    refine wp_getr (pc := 31) dX10_feed_31 rfl f_X10_22 kd_0 la_0 rfl (r_0_2 D) ?_
    refine wp_iload_n (pc := 34) 3 dX10_feed_34 rfl rfl ?_
    refine wp_callV (pc := 35) (st := []) (nf' := 153) [vI c] [some (vR 41), some (vI c), none] dX10_feed_35 rfl c_X10_86 rfl kd_41 (by decide) rfl la_41 rfl (Nat.le_of_ble_eq_true rfl) rfl (Nat.le_of_ble_eq_true rfl) (by omega) (Nat.le_refl _) (Nat.le_refl _) ?_
    refine sp_put (a := c) (by omega) (by omega) (by omega) (fun J3 hf3 hl3 hb3 => ?_)
    refine wp_eqst (st' := []) rfl ?_
    refine wp_aload_n (pc := 38) 0 dX10_feed_38 rfl rfl ?_
    refine wp_getr (pc := 39) dX10_feed_39 rfl f_X10_22 kd_0 la_0 rfl (r_0_2 D) ?_
    refine wp_iload (pc := 42) dX10_feed_42 rfl ?_
    refine wp_callV (pc := 44) (st := []) (nf' := 153) [vI e] [some (vR 41), some (vI e), none] dX10_feed_44 rfl c_X10_86 rfl kd_41 (by decide) rfl la_41 rfl (Nat.le_of_ble_eq_true rfl) rfl (Nat.le_of_ble_eq_true rfl) (by omega) (Nat.le_refl _) (Nat.le_refl _) ?_
    refine sp_put (a := e) (by omega) (by omega) (by omega) (fun J4 hf4 hl4 hb4 => ?_)
    refine wp_eqst (st' := []) rfl ?_
    refine wp_aload_n (pc := 47) 0 dX10_feed_47 rfl rfl ?_
    refine wp_getr (pc := 48) dX10_feed_48 rfl f_X10_22 kd_0 la_0 rfl (r_0_2 D) ?_
    refine wp_iload (pc := 51) dX10_feed_51 rfl ?_
    refine wp_callV (pc := 53) (st := []) (nf' := 153) [vI f] [some (vR 41), some (vI f), none] dX10_feed_53 rfl c_X10_86 rfl kd_41 (by decide) rfl la_41 rfl (Nat.le_of_ble_eq_true rfl) rfl (Nat.le_of_ble_eq_true rfl) (by omega) (Nat.le_refl _) (Nat.le_refl _) ?_
    refine sp_put (a := f) (by omega) (by omega) (by omega) (fun J5 hf5 hl5 hb5 => ?_)
    refine wp_eqst (st' := []) rfl ?_
    refine wp_aload_n (pc := 56) 0 dX10_feed_56 rfl rfl ?_
    refine wp_getr (pc := 57) dX10_feed_57 rfl f_X10_22 kd_0 la_0 rfl (r_0_2 D) ?_
    refine wp_geti (pc := 60) dX10_feed_60 rfl f_X10_90 kd_41 la_41 (Or.inl rfl) ?_
    refine wp_iret (pc := 63) dX10_feed_63 rfl rfl ?_
    have e1 : J5 41 3 = I 41 3 + 20 := by omega
    rw [e1]
    refine g1 (by omega) J5 ((((hf1.trans hf2).trans hf3).trans hf4).trans hf5) e1 ?_
    rw [hb5, hb4, hb3, hb2, hb1, hl4, hl3, hl2, hl1]; rfl

theorem sp_end {l : Launch} {G : mG} {d : Nat} {I : mI} {L : Nat → Nat → Int} {D : Nat → Nat} {Q : mQ} {a : Int}  (h0 : 0 ≤ I 41 3 ∧ I 41 3 ≤ 1600) (h_a : inR a) (hd : 0 ≤ d) (g1 : (0 ≤ a ∧ a ≤ I 41 3) → Q (some (vI a)) (up I 41 3 a) (XX L D)) (g0 : ¬ (0 ≤ a ∧ a ≤ I 41 3) → Q (some (vI (-1))) I (XX L D)) : WP l G m_X10_end d 153 I (XX L D) 0 [some (vR 0), some (vI a)] [] Q := by
  refine wp_iload_n (pc := 0) 1 dX10_end_0 rfl rfl ?_
  refine wp_if_lt (pc := 1) 15 dX10_end_1 (by decide) (by omega) (fun h_1 => ?_) (fun h_1 => ?_)
  · refine wp_iconst (pc := 15) dX10_end_15 ?_
    refine wp_iret (pc := 16) dX10_end_16 rfl rfl ?_
    exact g0 (by omega)
  · refine wp_iload_n (pc := 4) 1 dX10_end_4 rfl rfl ?_
    refine wp_aload_n (pc := 5) 0 dX10_end_5 rfl rfl ?_
    refine wp_getr (pc := 6) dX10_end_6 rfl f_X10_22 kd_0 la_0 rfl (r_0_2 D) ?_
    refine wp_geti (pc := 9) dX10_end_9 rfl f_X10_90 kd_41 la_41 (Or.inl rfl) ?_
    refine wp_icmp_le (pc := 12) 17 dX10_end_12 (by decide) (by omega) (by omega) (fun h_2 => ?_) (fun h_2 => ?_)
    · refine wp_aload_n (pc := 17) 0 dX10_end_17 rfl rfl ?_
      refine wp_getr (pc := 18) dX10_end_18 rfl f_X10_22 kd_0 la_0 rfl (r_0_2 D) ?_
      refine wp_iload_n (pc := 21) 1 dX10_end_21 rfl rfl ?_
      refine wp_puti (pc := 22) dX10_end_22 rfl f_X10_90 kd_41 la_41 (fun _ h => by cases h; rfl) rfl ?_
      refine wp_iload_n (pc := 25) 1 dX10_end_25 rfl rfl ?_
      refine wp_iret (pc := 26) dX10_end_26 rfl rfl ?_
      exact g1 (by omega)
    · refine wp_iconst (pc := 15) dX10_end_15 ?_
      refine wp_iret (pc := 16) dX10_end_16 rfl rfl ?_
      exact g0 (by omega)
