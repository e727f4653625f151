/-! a beginning: the draft is cleared -/
def clrT (T : mT) : mT := fun k j => if k = 0 then (if j = 17 then 0 else if j = 16 then 2 else if j = 15 then 4 else if j = 14 then 0 else if j = 13 then 0 else if j = 12 then 0 else if j = 11 then 0 else T 0 j) else if k = 17 then (if j = 3 then 0 else if j = 2 then 0 else T 17 j) else if k = 11 ∨ k = 12 then (if j < 8 then -1 else T k j) else if k = 13 ∨ k = 4 ∨ k = 5 then (if j < 8 then 0 else T k j) else T k j
theorem clrT_tw {T : mT} (hw : tw T) : tw (clrT T) := by
  obtain ⟨h1, h2, h3, h4, h5, h6, h7, h8, h9, h10, h11, h12, h13, h14, h15, h16, h17, h18, h19, h20, h21, h22⟩ := hw
  refine ⟨(by decide : (0 : Int) ≤ 0 ∧ (0 : Int) ≤ 4), (by decide : (0 : Int) ≤ 0 ∧ (0 : Int) ≤ 8), (by decide : (0 : Int) ≤ 0 ∧ (0 : Int) ≤ 5), (by decide : (0 : Int) ≤ 0 ∧ (0 : Int) ≤ 255), (by decide : (0 : Int) ≤ 4 ∧ (4 : Int) ≤ 8), (by decide : (1 : Int) ≤ 2 ∧ (2 : Int) ≤ 5), (by decide : (0 : Int) ≤ 0 ∧ (0 : Int) ≤ 999), h8, fun j => ?_, fun j => ?_, h11, h12, h13, h14, fun j => ?_, fun j => ?_, fun j => ?_, h18, h19, h20, (by decide : (0 : Int) ≤ 0 ∧ (0 : Int) ≤ 300), (by decide : (0 : Int) ≤ 0 ∧ (0 : Int) ≤ 30)⟩
  · show 0 ≤ (if j < 8 then 0 else T 4 j) ∧ (if j < 8 then 0 else T 4 j) ≤ 12
    split
    · decide
    · exact h9 j
  · show 0 ≤ (if j < 8 then 0 else T 5 j) ∧ (if j < 8 then 0 else T 5 j) ≤ 255
    split
    · decide
    · exact h10 j
  · show -1 ≤ (if j < 8 then -1 else T 11 j) ∧ (if j < 8 then -1 else T 11 j) ≤ 7
    split
    · decide
    · exact h15 j
  · show -1 ≤ (if j < 8 then -1 else T 12 j) ∧ (if j < 8 then -1 else T 12 j) ≤ 7
    split
    · decide
    · exact h16 j
  · show 0 ≤ (if j < 8 then 0 else T 13 j) ∧ (if j < 8 then 0 else T 13 j) ≤ 255
    split
    · decide
    · exact h17 j

theorem sp_clear {l : Launch} {G : mG} {d : Nat} {I : mI} {L : Nat → Nat → Int} {D : Nat → Nat} {Q : mQ} {t : Nat} {T : mT}  (ht : isT t) (hT : TT I t = T) (hd : 2 ≤ d) (hQ : ∀ J, (∀ b, ¬ (t ≤ b ∧ b < t + 20) → J b = I b) → TT J t = clrT T → Q none J (XX L D)) : WP l G m_X9_clear d 153 I (XX L D) 0 [some (vR t)] [] Q := by
  have g2 : t = 1 ∨ t = 21 := ht
  refine wp_aload_n (pc := 0) 0 dX9_clear_0 rfl rfl ?_
  refine wp_iconst (pc := 1) dX9_clear_1 ?_
  refine wp_puti (pc := 2) dX9_clear_2 rfl f_X9_61 (tk_0 ht) (tl_0 ht) (fun _ h => by cases h; rfl) rfl ?_
  refine wp_aload_n (pc := 5) 0 dX9_clear_5 rfl rfl ?_
  refine wp_iconst (pc := 6) dX9_clear_6 ?_
  refine wp_puti (pc := 7) dX9_clear_7 rfl f_X9_64 (tk_0 ht) (tl_0 ht) (fun _ h => by cases h; rfl) rfl ?_
  refine wp_aload_n (pc := 10) 0 dX9_clear_10 rfl rfl ?_
  refine wp_iconst (pc := 11) dX9_clear_11 ?_
  refine wp_puti (pc := 12) dX9_clear_12 rfl f_X9_67 (tk_0 ht) (tl_0 ht) (fun _ h => by cases h; rfl) rfl ?_
  refine wp_aload_n (pc := 15) 0 dX9_clear_15 rfl rfl ?_
  refine wp_iconst (pc := 16) dX9_clear_16 ?_
  refine wp_puti (pc := 17) dX9_clear_17 rfl f_X9_70 (tk_0 ht) (tl_0 ht) (fun _ h => by cases h; rfl) rfl ?_
  refine wp_aload_n (pc := 20) 0 dX9_clear_20 rfl rfl ?_
  refine wp_iconst (pc := 21) dX9_clear_21 ?_
  refine wp_puti (pc := 22) dX9_clear_22 rfl f_X9_54 (tk_0 ht) (tl_0 ht) (fun _ h => by cases h; rfl) rfl ?_
  refine wp_aload_n (pc := 25) 0 dX9_clear_25 rfl rfl ?_
  refine wp_iconst (pc := 26) dX9_clear_26 ?_
  refine wp_puti (pc := 27) dX9_clear_27 rfl f_X9_58 (tk_0 ht) (tl_0 ht) (fun _ h => by cases h; rfl) rfl ?_
  refine wp_aload_n (pc := 30) 0 dX9_clear_30 rfl rfl ?_
  refine wp_iconst (pc := 31) dX9_clear_31 ?_
  refine wp_puti (pc := 32) dX9_clear_32 rfl f_X9_73 (tk_0 ht) (tl_0 ht) (fun _ h => by cases h; rfl) rfl ?_
  refine wp_aload_n (pc := 35) 0 dX9_clear_35 rfl rfl ?_
  refine wp_getr (pc := 36) dX9_clear_36 rfl f_X9_50 (tk_0 ht) (tl_0 ht) rfl (tr_0_10 D ht) ?_
  refine wp_callV (pc := 39) (st := []) (nf' := 153) [] [some (vR (t + 17))] dX9_clear_39 rfl c_X9_76 rfl (tk_17 ht) (by decide) rfl (tl_17 ht) rfl (Nat.le_of_ble_eq_true rfl) rfl (Nat.le_of_ble_eq_true rfl) (by omega) (Nat.le_refl _) (Nat.le_refl _) ?_
  refine wp_aload_n (pc := 0) 0 dX1_clear_0 rfl rfl ?_
  refine wp_iconst (pc := 1) dX1_clear_1 ?_
  refine wp_puti (pc := 2) dX1_clear_2 rfl f_X1_16 (tk_17 ht) (tl_17 ht) (fun _ h => by cases h; rfl) rfl ?_
  refine wp_aload_n (pc := 5) 0 dX1_clear_5 rfl rfl ?_
  refine wp_iconst (pc := 6) dX1_clear_6 ?_
  refine wp_puti (pc := 7) dX1_clear_7 rfl f_X1_20 (tk_17 ht) (tl_17 ht) (fun _ h => by cases h; rfl) rfl ?_
  refine wp_vret (pc := 10) dX1_clear_10 rfl rfl ?_
  refine wp_eqst (st' := []) rfl ?_
  refine wp_aload_n (pc := 42) 0 dX9_clear_42 rfl rfl ?_
  refine wp_getr (pc := 43) dX9_clear_43 rfl f_X9_43 (tk_0 ht) (tl_0 ht) rfl (tr_0_9 D ht) ?_
  refine wp_callV (pc := 46) (st := []) (nf' := 153) [] [some (vR (t + 10))] dX9_clear_46 rfl c_X9_79 rfl (tk_10 ht) (by decide) rfl (tl_10 ht) rfl (Nat.le_of_ble_eq_true rfl) rfl (Nat.le_of_ble_eq_true rfl) (by omega) (Nat.le_refl _) (Nat.le_refl _) ?_
  refine wp_aload_n (pc := 0) 0 dX0_clear_0 rfl rfl ?_
  refine wp_getr (pc := 1) dX0_clear_1 rfl f_X0_9 (tk_10 ht) (tl_10 ht) rfl (tr_10_0 D ht) ?_
  refine wp_iconst (pc := 4) dX0_clear_4 ?_
  refine wp_callS (pc := 5) (st := []) (nf' := 153) [vR (t + 11), vI (-1)] [some (vR (t + 11)), some (vI (-1)), none, none] dX0_clear_5 rfl c_X0_30 rfl rfl (Nat.le_of_ble_eq_true rfl) rfl (Nat.le_of_ble_eq_true rfl) (by omega) (Nat.le_refl _) (Nat.le_refl _) ?_
  refine sp_fill (tk_11 ht) (tl_11 ht) (by decide) (by omega) ?_
  refine wp_eqst (st' := []) rfl ?_
  refine wp_aload_n (pc := 8) 0 dX0_clear_8 rfl rfl ?_
  refine wp_getr (pc := 9) dX0_clear_9 rfl f_X0_15 (tk_10 ht) (tl_10 ht) rfl (tr_10_1 D ht) ?_
  refine wp_iconst (pc := 12) dX0_clear_12 ?_
  refine wp_callS (pc := 13) (st := []) (nf' := 153) [vR (t + 12), vI (-1)] [some (vR (t + 12)), some (vI (-1)), none, none] dX0_clear_13 rfl c_X0_30 rfl rfl (Nat.le_of_ble_eq_true rfl) rfl (Nat.le_of_ble_eq_true rfl) (by omega) (Nat.le_refl _) (Nat.le_refl _) ?_
  refine sp_fill (tk_12 ht) (tl_12 ht) (by decide) (by omega) ?_
  refine wp_eqst (st' := []) rfl ?_
  refine wp_aload_n (pc := 16) 0 dX0_clear_16 rfl rfl ?_
  refine wp_getr (pc := 17) dX0_clear_17 rfl f_X0_18 (tk_10 ht) (tl_10 ht) rfl (tr_10_2 D ht) ?_
  refine wp_iconst (pc := 20) dX0_clear_20 ?_
  refine wp_callS (pc := 21) (st := []) (nf' := 153) [vR (t + 13), vI 0] [some (vR (t + 13)), some (vI 0), none, none] dX0_clear_21 rfl c_X0_30 rfl rfl (Nat.le_of_ble_eq_true rfl) rfl (Nat.le_of_ble_eq_true rfl) (by omega) (Nat.le_refl _) (Nat.le_refl _) ?_
  refine sp_fill (tk_13 ht) (tl_13 ht) (by decide) (by omega) ?_
  refine wp_eqst (st' := []) rfl ?_
  refine wp_vret (pc := 24) dX0_clear_24 rfl rfl ?_
  refine wp_eqst (st' := []) rfl ?_
  refine wp_aload_n (pc := 49) 0 dX9_clear_49 rfl rfl ?_
  refine wp_getr (pc := 50) dX9_clear_50 rfl f_X9_22 (tk_0 ht) (tl_0 ht) rfl (tr_0_3 D ht) ?_
  refine wp_iconst (pc := 53) dX9_clear_53 ?_
  refine wp_callS (pc := 54) (st := []) (nf' := 153) [vR (t + 4), vI 0] [some (vR (t + 4)), some (vI 0), none, none] dX9_clear_54 rfl c_X9_80 rfl rfl (Nat.le_of_ble_eq_true rfl) rfl (Nat.le_of_ble_eq_true rfl) (by omega) (Nat.le_refl _) (Nat.le_refl _) ?_
  refine sp_fill (tk_4 ht) (tl_4 ht) (by decide) (by omega) ?_
  refine wp_eqst (st' := []) rfl ?_
  refine wp_aload_n (pc := 57) 0 dX9_clear_57 rfl rfl ?_
  refine wp_getr (pc := 58) dX9_clear_58 rfl f_X9_25 (tk_0 ht) (tl_0 ht) rfl (tr_0_4 D ht) ?_
  refine wp_iconst (pc := 61) dX9_clear_61 ?_
  refine wp_callS (pc := 62) (st := []) (nf' := 153) [vR (t + 5), vI 0] [some (vR (t + 5)), some (vI 0), none, none] dX9_clear_62 rfl c_X9_80 rfl rfl (Nat.le_of_ble_eq_true rfl) rfl (Nat.le_of_ble_eq_true rfl) (by omega) (Nat.le_refl _) (Nat.le_refl _) ?_
  refine sp_fill (tk_5 ht) (tl_5 ht) (by decide) (by omega) ?_
  refine wp_eqst (st' := []) rfl ?_
  refine wp_vret (pc := 65) dX9_clear_65 rfl rfl ?_
  refine hQ _ (fun b hb => funext fun j => by rw [upc_c (by omega), upc_c (by omega), upc_c (by omega), upc_c (by omega), upc_c (by omega), up_c (by omega), up_c (by omega), up_c (by omega), up_c (by omega), up_c (by omega), up_c (by omega), up_c (by omega), up_c (by omega), up_c (by omega)]) ?_
  funext k j
  have e3 : ∀ k j, k < 19 → I (t + k) j = T k j := fun k j hk => by rw [← hT]; exact (if_pos hk).symm
  have e0 : ∀ j, I t j = T 0 j := fun j => e3 0 j (by decide)
  unfold TT
  by_cases hk : k < 19
  · rw [if_pos hk]
    have hkk : k = 0 ∨ k = 1 ∨ k = 2 ∨ k = 3 ∨ k = 4 ∨ k = 5 ∨ k = 6 ∨ k = 7 ∨ k = 8 ∨ k = 9 ∨ k = 10 ∨ k = 11 ∨ k = 12 ∨ k = 13 ∨ k = 14 ∨ k = 15 ∨ k = 16 ∨ k = 17 ∨ k = 18 := by omega
    rcases hkk with rfl | rfl | rfl | rfl | rfl | rfl | rfl | rfl | rfl | rfl | rfl | rfl | rfl | rfl | rfl | rfl | rfl | rfl | rfl
    all_goals simp [up, upc, clrT, e3, e0]
  · rw [if_neg hk]
    have : T k j = 0 := by rw [← hT]; exact if_neg hk
    unfold clrT; rw [if_neg (by omega), if_neg (by omega), if_neg (by omega), if_neg (by omega), this]

theorem sp_begin_ {l : Launch} {G : mG} {d : Nat} {I : mI} {L : Nat → Nat → Int} {D : Nat → Nat} {Q : mQ} {b : Nat → Int} {n : Nat} {T : mT} (ht : isT (D 1)) (hT : TT I (D 1) = T) (hw : tw T) (h18 : ∀ j, inR (T 18 j)) (hB : TBk I b n) (hsp : ∀ k, k < 21 → L 43 k = W5 k) (hnm : ∀ k j, inL (NN L (D 1) k j)) (hd : 8 ≤ d)
    (hQ : ∀ J M, Fp I J (D 1) → Lp L M (D 1) → J 44 3 = 0 → J 44 4 = -1 → PS J M (dset D 2 (D 1)) b n 0 (clrT T) (NN L (D 1)) 0 → Q none J (XX M (dset D 2 (D 1)))) : WP l G m_X4_begin d 153 I (XX L D) 0 [some (vR 44), some (vR (D 1))] [] Q := by
  have g2 : D 1 = 1 ∨ D 1 = 21 := ht
  refine wp_aload_n (pc := 0) 0 dX4_begin_0 rfl rfl ?_
  refine wp_aload_n (pc := 1) 1 dX4_begin_1 rfl rfl ?_
  refine wp_putr (pc := 2) dX4_begin_2 rfl f_X4_19 kd_44 la_44 (fun _ h => by cases h; rfl) rfl ?_
  refine wp_eqX (X' := XX L (dset D 2 (D 1))) (by show (L, upR (Rf D) 44 1 (some (D 1)), 153) = _; rw [rf_2]) ?_
  generalize hE : dset D 2 (D 1) = E at hQ ⊢
  have e2 : E 2 = D 1 := by rw [← hE]; rfl
  have htE : isT (E 2) := by rw [e2]; exact ht
  refine wp_aload_n (pc := 5) 0 dX4_begin_5 rfl rfl ?_
  refine wp_getr (pc := 6) dX4_begin_6 rfl f_X4_19 kd_44 la_44 rfl (r_44_1 E) ?_
  refine wp_callV (pc := 9) (st := []) (nf' := 153) [] [some (vR (E 2))] dX4_begin_9 rfl c_X4_23 rfl (tk_0 htE) (by decide) rfl (tl_0 htE) rfl (Nat.le_of_ble_eq_true rfl) rfl (Nat.le_of_ble_eq_true rfl) (by omega) (Nat.le_refl _) (Nat.le_refl _) ?_
  refine sp_clear (T := T) htE (by rw [e2]; exact hT) (by omega) (fun J hJ hTJ => ?_)
  refine wp_eqst (st' := []) rfl ?_
  refine wp_aload_n (pc := 12) 0 dX4_begin_12 rfl rfl ?_
  refine wp_iconst (pc := 13) dX4_begin_13 ?_
  refine wp_puti (pc := 14) dX4_begin_14 rfl f_X4_28 kd_44 la_44 (fun _ h => by cases h; rfl) rfl ?_
  refine wp_aload_n (pc := 17) 0 dX4_begin_17 rfl rfl ?_
  refine wp_iconst (pc := 18) dX4_begin_18 ?_
  refine wp_puti (pc := 19) dX4_begin_19 rfl f_X4_31 kd_44 la_44 (fun _ h => by cases h; rfl) rfl ?_
  refine wp_aload_n (pc := 22) 0 dX4_begin_22 rfl rfl ?_
  refine wp_iconst (pc := 23) dX4_begin_23 ?_
  refine wp_puti (pc := 24) dX4_begin_24 rfl f_X4_9 kd_44 la_44 (fun _ h => by cases h; rfl) rfl ?_
  refine wp_aload_n (pc := 27) 0 dX4_begin_27 rfl rfl ?_
  refine wp_getr (pc := 28) dX4_begin_28 rfl f_X4_15 kd_44 la_44 rfl (r_44_0 E) ?_
  refine wp_callV (pc := 31) (st := []) (nf' := 153) [] [some (vR 41)] dX4_begin_31 rfl c_X4_34 rfl kd_41 (by decide) rfl la_41 rfl (Nat.le_of_ble_eq_true rfl) rfl (Nat.le_of_ble_eq_true rfl) (by omega) (Nat.le_refl _) (Nat.le_refl _) ?_
  refine wp_aload_n (pc := 0) 0 dX8_rewind_0 rfl rfl ?_
  refine wp_iconst (pc := 1) dX8_rewind_1 ?_
  refine wp_puti (pc := 2) dX8_rewind_2 rfl f_X8_38 kd_41 la_41 (fun _ h => by cases h; rfl) rfl ?_
  refine wp_aload_n (pc := 5) 0 dX8_rewind_5 rfl rfl ?_
  refine wp_callV (pc := 6) (st := []) (nf' := 153) [] [some (vR 41), none] dX8_rewind_6 rfl c_X8_41 rfl kd_41 (by decide) rfl la_41 rfl (Nat.le_of_ble_eq_true rfl) rfl (Nat.le_of_ble_eq_true rfl) (by omega) (Nat.le_refl _) (Nat.le_refl _) ?_
  have hBm : TBk (up (up (up (up J 44 2 0) 44 3 0) 44 4 (-1)) 41 2 0) b n := by
    refine ⟨?_, ?_, hB.2.2⟩
    · rw [hB.1]; congr 1; funext j; rw [up_c (by decide), up_c (by decide), up_c (by decide), up_c (by decide), hJ 42 (by omega)]
    · rw [up_j (by decide), up_c (by decide), up_c (by decide), up_c (by decide), hJ 41 (by omega)]; exact hB.2.1
  refine sp_advance (c := 0) hBm (Nat.zero_le _) hsp (by rw [up_s]; rfl) (by omega) (fun K M hFa hLa hTk => ?_)
  refine wp_eqst (st' := []) rfl ?_
  refine wp_vret (pc := 9) dX8_rewind_9 rfl rfl ?_
  refine wp_eqst (st' := []) rfl ?_
  refine wp_vret (pc := 34) dX4_begin_34 rfl rfl ?_
  have tt : TT K (E 2) = clrT T := by
    rw [← hTJ]; funext k j; unfold TT; split
    · rw [hFa.1 _ (by omega), up_c (by omega), up_c (by omega), up_c (by omega), up_c (by omega)]
    · rfl
  have nn : NN M (E 2) = NN L (D 1) := by rw [e2]; exact NN_o (hLa _ (by omega)) (hLa _ (by omega))
  refine hQ K M ⟨fun a h1 h2 h3 => ?_, ?_⟩ (fun a h1 h2 h3 => hLa a h1) ?_ ?_ ⟨⟨htE, hFa.tb hBm, fun k hk => by rw [hLa 43 (by decide)]; exact hsp k hk, by rw [tt]; exact clrT_tw hw, by rw [tt]; exact h18, by rw [nn]; exact hnm⟩, Nat.zero_le _, hTk, tt, nn, ?_, ⟨by decide, ?_, ?_⟩, fun i j hi => absurd hi (Nat.not_lt_zero i), fun i j hi => absurd hi (Nat.not_lt_zero i)⟩
  · rw [hFa.1 a h1]; funext j; rw [up_c (by omega), up_c (by omega), up_c (by omega), up_c (by omega), hJ a (by rw [e2]; exact h3)]
  · rw [hFa.2, up_j (by decide), up_c (by decide), up_c (by decide), up_c (by decide), hJ 41 (by omega)]
  · rw [hFa.1 44 (by decide), up_c (by decide), up_j (by decide), up_s]
  · rw [hFa.1 44 (by decide), up_c (by decide), up_s]
  · rw [hFa.1 44 (by decide), up_c (by decide), up_j (by decide), up_j (by decide), up_s]; rfl
  · rw [hFa.1 44 (by decide), up_c (by decide), up_j (by decide), up_s]
  · rw [hFa.1 44 (by decide), up_c (by decide), up_s]
