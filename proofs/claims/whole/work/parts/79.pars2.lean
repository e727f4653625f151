/-! the class's Parser: lines -/
section PSV
variable {I : mI} {M : Nat → Nat → Int} {D : Nat → Nat} {b : Nat → Int} {n c : Nat} {T N : mT} {mo : Nat}
theorem PS.addC (h : PS I M D b n c T N mo) {z : Int} (h4 : T 0 11 < 4) (hf : fnd (N 0) z (nC T) = -1) (hz : inL z) : PS (up I (D 2) 11 (T 0 11 + 1)) (upL M (D 2 + 1) (nC T) z) D b n c (setT T 0 11 (T 0 11 + 1)) (setT N 0 (nC T) z) mo := by
  have b1 := tw_c h.tw
  have h1 := h.upN (k := 0) (j := nC T) (v := z) (by decide) hz (dst_o h.2.2.2.2.2.2.2.1 (fun j hj => setT_j (by omega))) (dst_o h.2.2.2.2.2.2.2.2 (fun j hj => setT_k (by decide)))
  refine h1.upT (k := 0) (j := 11) (v := T 0 11 + 1) (by decide) (by unfold twB; omega) (fun e => absurd e (by decide)) ?_ ?_
  · show dst _ (T 0 11 + 1).toNat
    have e : (T 0 11 + 1).toNat = nC T + 1 := by show _ = (T 0 11).toNat + 1; omega
    rw [e]
    exact dst_s h.2.2.2.2.2.2.2.1 (fun j hj => setT_j (by omega)) (fun j hj => by rw [setT_s]; exact fnd_m _ hf j hj)
  · exact h1.2.2.2.2.2.2.2.2
theorem PS.desc (h : PS I M D b n c T N mo) {z x : Int} (h8 : T 0 12 < 8) (hx : 0 ≤ x ∧ x ≤ 3) (hz : inL z) : PS (up I (D 2 + 3) (nP T) x) (upL M (D 2 + 2) (nP T) z) D b n c (setT T 3 (nP T) x) (setT N 1 (nP T) z) mo := by
  have h1 := h.upN (k := 1) (j := nP T) (v := z) (by decide) hz (dst_o h.2.2.2.2.2.2.2.1 (fun j hj => setT_k (by decide))) (dst_o h.2.2.2.2.2.2.2.2 (fun j hj => setT_j (by omega)))
  exact h1.upT1 (k := 3) (by decide) (by unfold twB; omega) (fun e => absurd e (by decide)) (Or.inl (by decide))
theorem PS.incP (h : PS I M D b n c T N mo) (h8 : T 0 12 < 8) (hd : dst (N 1) (nP T + 1)) : PS (up I (D 2) 12 (T 0 12 + 1)) M D b n c (setT T 0 12 (T 0 12 + 1)) N mo := by
  have b1 := tw_p h.tw
  refine h.upT (k := 0) (j := 12) (v := T 0 12 + 1) (by decide) (by unfold twB; omega) (fun e => absurd e (by decide)) h.2.2.2.2.2.2.2.1 ?_
  show dst _ (T 0 12 + 1).toNat
  have e : (T 0 12 + 1).toNat = nP T + 1 := by show _ = (T 0 12).toNat + 1; omega
  rw [e]; exact hd
theorem PS.addPr (h : PS I M D b n c T N mo) {a e x y : Int} (h5 : T 0 13 < 5) (ha : 0 ≤ a ∧ a ≤ 7) (he : 0 ≤ e ∧ e ≤ 7) (hx : 0 ≤ x ∧ x ≤ 3) (hy : 0 ≤ y ∧ y ≤ 3) : PS (up (up (up (up (up I (D 2 + 6) (nQ T) a) (D 2 + 7) (nQ T) e) (D 2 + 8) (nQ T) x) (D 2 + 9) (nQ T) y) (D 2) 13 (T 0 13 + 1)) M D b n c (addP T a e x y) N mo := by
  have b1 := tw_q h.tw
  have h1 := h.upT1 (k := 6) (j := nQ T) (v := a) (by decide) (by unfold twB; omega) (fun e => absurd e (by decide)) (Or.inl (by decide))
  have h2 := h1.upT1 (k := 7) (j := nQ T) (v := e) (by decide) (by unfold twB; omega) (fun e => absurd e (by decide)) (Or.inl (by decide))
  have h3 := h2.upT1 (k := 8) (j := nQ T) (v := x) (by decide) (by unfold twB; omega) (fun e => absurd e (by decide)) (Or.inl (by decide))
  have h4 := h3.upT1 (k := 9) (j := nQ T) (v := y) (by decide) (by unfold twB; omega) (fun e => absurd e (by decide)) (Or.inl (by decide))
  exact h4.upT1 (k := 0) (j := 13) (v := T 0 13 + 1) (by decide) (by unfold twB; omega) (fun e => absurd e (by decide)) (Or.inr (by decide))
end PSV
theorem parF_n {b : Nat → Int} {c c' : Nat} {T N T' N' : mT} (h : parF b c T N = .inr (c', T', N')) : N' = N ∧ T' 0 12 = T 0 12 ∧ T' 0 11 = T 0 11 ∧ T' 0 14 = T 0 14 := by
  unfold parF at h
  split at h
  · cases h; exact ⟨rfl, rfl, rfl, rfl⟩
  · split at h
    · cases h
    · split at h
      · cases h; exact ⟨rfl, rfl, rfl, rfl⟩
      · split at h
        · cases h
        · cases h; exact ⟨rfl, rfl, rfl, rfl⟩
theorem slF_n {b : Nat → Int} {c c' : Nat} {T N T' N' : mT} (h : slF b c T N = .inr (c', T', N')) : N' = N ∧ T' 0 12 = T 0 12 := by
  unfold slF at h
  split at h
  · cases h; exact ⟨rfl, rfl⟩
  · split at h
    · cases h
    · cases h; exact ⟨rfl, rfl⟩
theorem vwF_n {b : Nat → Int} {c : Nat} {T : mT} : (vwF b c T).2 0 12 = T 0 12 := by
  unfold vwF
  split <;> rfl
theorem bnd_l {r : mP} {k : Nat → mT → mT → mP} {e : Int × Int} (h : r = .inl e) : bnd r k = .inl e := by rw [h]; rfl
theorem bnd_r {r : mP} {k : Nat → mT → mT → mP} {c : Nat} {T N : mT} (h : r = .inr (c, T, N)) : bnd r k = k c T N := by rw [h]; rfl

theorem sp_number {l : Launch} {G : mG} {d : Nat} {I : mI} {L : Nat → Nat → Int} {D : Nat → Nat} {Q : mQ} {b : Nat → Int} {n c : Nat} {T N : mT} {mo : Nat} {x y : Int}  (hP : PS I L D b n c T N mo) (hx : 0 ≤ x ∧ x ≤ 1000) (hy : 0 ≤ y ∧ y ≤ 1000) (hd : 7 ≤ d) (h1 : 0 ≤ nbF b c x y → ∀ J M, Fp I J (D 2) → Lp L M (D 2) → PS J M D b n (te b c) T N mo → Q (some (vI (nbF b c x y))) J (XX M D)) (h0 : nbF b c x y < 0 → ∀ J M, Fp I J (D 2) → Lp L M (D 2) → PE J M D b n (bad b c (-nbF b c x y)) → Q (some (vI (-1))) J (XX M D)) : WP l G m_X4_number d 153 I (XX L D) 0 [some (vR 44), some (vI x), some (vI y), none] [] Q := by
  have ht := hP.1.1
  have g2 : D 2 = 1 ∨ D 2 = 21 := ht
  have hT := hP.2.2.2.1
  have hw := hP.tw
  have k4 := hP.2.2.1.1
  have k5 := hP.2.2.1.2.1
  have k6 := hP.2.2.1.2.2.1.1
  have m4 := hP.2.2.2.2.2.1
  have ki := kC_in b c
  have kw := wi_in b c
  have tr := ts_rng b c
  have l7 := hP.2.2.1.2.2.2.2.1
  have b_c := tw_c hw
  have b_p := tw_p hw
  have b_q := tw_q hw
  have b_v := tw_vows hw
  have eC : nC T = (T 0 11).toNat := rfl
  have eP : nP T = (T 0 12).toNat := rfl
  have eQ : nQ T = (T 0 13).toNat := rfl
  have kv : ¬ kC b c = 4 ∨ I 41 6 = tn b c := by
    by_cases z : kC b c = 4
    · refine Or.inr ?_
      have z2 := (kC_ts b c).2.2.1.mp z
      rw [hP.2.2.1.2.2.1.2 (by omega), vC_n z2]
    · exact Or.inl z
  refine wp_aload_n (pc := 0) 0 dX4_number_0 rfl rfl ?_
  refine wp_getr (pc := 1) dX4_number_1 rfl f_X4_15 kd_44 la_44 rfl (r_44_0 D) ?_
  refine wp_geti (pc := 4) dX4_number_4 rfl f_X4_46 kd_41 la_41 (Or.inl rfl) ?_
  refine wq_istore_n (pc := 7) 3 [some (vR 44), some (vI x), some (vI y), some (vI (I 41 6))] dX4_number_7 rfl rfl (by decide) rfl ?_
  refine wp_aload_n (pc := 8) 0 dX4_number_8 rfl rfl ?_
  refine wp_getr (pc := 9) dX4_number_9 rfl f_X4_15 kd_44 la_44 rfl (r_44_0 D) ?_
  refine wp_geti (pc := 12) dX4_number_12 rfl f_X4_39 kd_41 la_41 (Or.inl rfl) ?_
  refine wp_eqst (st' := [vI (kC b c)]) (by rw [k4]) ?_
  refine wp_iconst (pc := 15) dX4_number_15 ?_
  refine wp_icmp_eq (pc := 16) 27 dX4_number_16 (by decide) (by omega) (by decide) (fun h_1 => ?_) (fun h_1 => ?_)
  · refine wp_iload_n (pc := 27) 3 dX4_number_27 rfl rfl ?_
    refine wp_iload_n (pc := 28) 1 dX4_number_28 rfl rfl ?_
    refine wp_icmp_lt (pc := 29) 37 dX4_number_29 (by decide) (by omega) (by omega) (fun h_2 => ?_) (fun h_2 => ?_)
    · refine wp_aload_n (pc := 37) 0 dX4_number_37 rfl rfl ?_
      refine wp_iconst (pc := 38) dX4_number_38 ?_
      refine wp_callV (pc := 39) (st := []) (nf' := 153) [vI 4] [some (vR 44), some (vI 4)] dX4_number_39 rfl c_X4_42 rfl kd_44 (by decide) rfl la_44 rfl (Nat.le_of_ble_eq_true rfl) rfl (Nat.le_of_ble_eq_true rfl) (by omega) (Nat.le_refl _) (Nat.le_refl _) ?_
      refine sp_refuse hP.2.2.1 (by decide) (by omega) ?_
      refine wp_eqst (st' := [vI 0]) rfl ?_
      refine wp_pop (pc := 42) dX4_number_42 rfl ?_
      refine wp_iconst (pc := 43) dX4_number_43 ?_
      refine wp_iret (pc := 44) dX4_number_44 rfl rfl ?_
      exact h0 (by rw [nbF_4 (by omega) (by omega)]; decide) _ _ Fp.refl.up44.up44 Lp.refl (by rw [nbF_4 (by omega) (by omega)]; exact (hP.ref 4))
    · refine wp_iload_n (pc := 32) 3 dX4_number_32 rfl rfl ?_
      refine wp_iload_n (pc := 33) 2 dX4_number_33 rfl rfl ?_
      refine wp_icmp_le (pc := 34) 45 dX4_number_34 (by decide) (by omega) (by omega) (fun h_3 => ?_) (fun h_3 => ?_)
      · refine wp_aload_n (pc := 45) 0 dX4_number_45 rfl rfl ?_
        refine wp_getr (pc := 46) dX4_number_46 rfl f_X4_15 kd_44 la_44 rfl (r_44_0 D) ?_
        refine wp_callV (pc := 49) (st := []) (nf' := 153) [] [some (vR 41), none] dX4_number_49 rfl c_X4_93 rfl kd_41 (by decide) rfl la_41 rfl (Nat.le_of_ble_eq_true rfl) rfl (Nat.le_of_ble_eq_true rfl) (by omega) (Nat.le_refl _) (Nat.le_refl _) ?_
        have n31 : ts b c ≠ 3 := (by first | exact n3_k (by omega) | exact n3_4 (by omega) | exact n3_w (by omega) | exact n3_s (by omega))
        refine sp_advance hP.1.2.1 hP.nx hP.1.2.2.1 (hP.2.2.1.2.2.2.1 n31) (by omega) (fun J1 M1 hFa1 hLa1 hTk1 => ?_)
        have hP1 := hP.adv hP.nx hFa1 hLa1 hTk1
        have hT_1 := hP1.2.2.2.1
        have hw_1 := hP1.tw
        have k4_1 := hP1.2.2.1.1
        have k5_1 := hP1.2.2.1.2.1
        have k6_1 := hP1.2.2.1.2.2.1.1
        have m4_1 := hP1.2.2.2.2.2.1
        have ki_1 := kC_in b (te b c)
        have kw_1 := wi_in b (te b c)
        have tr_1 := ts_rng b (te b c)
        have l7_1 := hP1.2.2.1.2.2.2.2.1
        refine wp_eqst (st' := []) rfl ?_
        refine wp_iload_n (pc := 52) 3 dX4_number_52 rfl rfl ?_
        refine wp_iret (pc := 53) dX4_number_53 rfl rfl ?_
        have e3 : nbF b c x y = I 41 6 := by rw [nbF_y (by omega) (by omega)]; omega
        rw [← e3]; exact h1 (by omega) _ _ (Fp.refl.trans hFa1.p) (Lp.refl.trans hLa1.p) hP1
      · refine wp_aload_n (pc := 37) 0 dX4_number_37 rfl rfl ?_
        refine wp_iconst (pc := 38) dX4_number_38 ?_
        refine wp_callV (pc := 39) (st := []) (nf' := 153) [vI 4] [some (vR 44), some (vI 4)] dX4_number_39 rfl c_X4_42 rfl kd_44 (by decide) rfl la_44 rfl (Nat.le_of_ble_eq_true rfl) rfl (Nat.le_of_ble_eq_true rfl) (by omega) (Nat.le_refl _) (Nat.le_refl _) ?_
        refine sp_refuse hP.2.2.1 (by decide) (by omega) ?_
        refine wp_eqst (st' := [vI 0]) rfl ?_
        refine wp_pop (pc := 42) dX4_number_42 rfl ?_
        refine wp_iconst (pc := 43) dX4_number_43 ?_
        refine wp_iret (pc := 44) dX4_number_44 rfl rfl ?_
        exact h0 (by rw [nbF_4 (by omega) (by omega)]; decide) _ _ Fp.refl.up44.up44 Lp.refl (by rw [nbF_4 (by omega) (by omega)]; exact (hP.ref 4))
  · refine wp_aload_n (pc := 19) 0 dX4_number_19 rfl rfl ?_
    refine wp_iconst (pc := 20) dX4_number_20 ?_
    refine wp_callV (pc := 21) (st := []) (nf' := 153) [vI 2] [some (vR 44), some (vI 2)] dX4_number_21 rfl c_X4_42 rfl kd_44 (by decide) rfl la_44 rfl (Nat.le_of_ble_eq_true rfl) rfl (Nat.le_of_ble_eq_true rfl) (by omega) (Nat.le_refl _) (Nat.le_refl _) ?_
    refine sp_refuse hP.2.2.1 (by decide) (by omega) ?_
    refine wp_eqst (st' := [vI 0]) rfl ?_
    refine wp_pop (pc := 24) dX4_number_24 rfl ?_
    refine wp_iconst (pc := 25) dX4_number_25 ?_
    refine wp_iret (pc := 26) dX4_number_26 rfl rfl ?_
    exact h0 (by rw [nbF_2 (by omega)]; decide) _ _ Fp.refl.up44.up44 Lp.refl (by rw [nbF_2 (by omega)]; exact (hP.ref 2))

theorem sp_isNewName {l : Launch} {G : mG} {d : Nat} {I : mI} {L : Nat → Nat → Int} {D : Nat → Nat} {Q : mQ} {b : Nat → Int} {n c : Nat} {T N : mT} {mo : Nat} {f : Int} {NA : Nat → Int} {nn : Nat}  (hP : PS I L D b n c T N mo) (hf : kC b c = 2 → f = fnd NA (w5 b c) nn) (hfi : inR f) (hd : 1 ≤ d) (h1 : nwF b c NA nn = 0 → Q (some (vI 1)) I (XX L D)) (h0 : ¬ nwF b c NA nn = 0 → ∀ J, Fp I J (D 2) → PE J L D b n (bad b c (nwF b c NA nn)) → Q (some (vI 0)) J (XX L D)) : WP l G m_X4_isNewName d 153 I (XX L D) 0 [some (vR 44), some (vI f)] [] Q := by
  have ht := hP.1.1
  have g2 : D 2 = 1 ∨ D 2 = 21 := ht
  have hT := hP.2.2.2.1
  have hw := hP.tw
  have k4 := hP.2.2.1.1
  have k5 := hP.2.2.1.2.1
  have k6 := hP.2.2.1.2.2.1.1
  have m4 := hP.2.2.2.2.2.1
  have ki := kC_in b c
  have kw := wi_in b c
  have tr := ts_rng b c
  have l7 := hP.2.2.1.2.2.2.2.1
  have b_c := tw_c hw
  have b_p := tw_p hw
  have b_q := tw_q hw
  have b_v := tw_vows hw
  have eC : nC T = (T 0 11).toNat := rfl
  have eP : nP T = (T 0 12).toNat := rfl
  have eQ : nQ T = (T 0 13).toNat := rfl
  have hf2 : ¬ kC b c = 2 ∨ f = fnd NA (w5 b c) nn := by by_cases z : kC b c = 2; exact Or.inr (hf z); exact Or.inl z
  refine wp_aload_n (pc := 0) 0 dX4_isNewName_0 rfl rfl ?_
  refine wp_getr (pc := 1) dX4_isNewName_1 rfl f_X4_15 kd_44 la_44 rfl (r_44_0 D) ?_
  refine wp_geti (pc := 4) dX4_isNewName_4 rfl f_X4_39 kd_41 la_41 (Or.inl rfl) ?_
  refine wp_eqst (st' := [vI (kC b c)]) (by rw [k4]) ?_
  refine wp_iconst (pc := 7) dX4_isNewName_7 ?_
  refine wp_icmp_eq (pc := 8) 17 dX4_isNewName_8 (by decide) (by omega) (by decide) (fun h_1 => ?_) (fun h_1 => ?_)
  · refine wp_iload_n (pc := 17) 1 dX4_isNewName_17 rfl rfl ?_
    refine wp_iconst (pc := 18) dX4_isNewName_18 ?_
    refine wp_icmp_eq (pc := 19) 30 dX4_isNewName_19 (by decide) (by omega) (by decide) (fun h_2 => ?_) (fun h_2 => ?_)
    · refine wp_iconst (pc := 30) dX4_isNewName_30 ?_
      refine wp_goto (pc := 31) 35 dX4_isNewName_31 (by decide) ?_
      refine wp_zret (pc := 35) dX4_isNewName_35 rfl rfl (by decide) ?_
      exact h1 (nwF_0 (by omega) (by omega))
    · refine wp_aload_n (pc := 22) 0 dX4_isNewName_22 rfl rfl ?_
      refine wp_iconst (pc := 23) dX4_isNewName_23 ?_
      refine wp_callV (pc := 24) (st := []) (nf' := 153) [vI 3] [some (vR 44), some (vI 3)] dX4_isNewName_24 rfl c_X4_42 rfl kd_44 (by decide) rfl la_44 rfl (Nat.le_of_ble_eq_true rfl) rfl (Nat.le_of_ble_eq_true rfl) (by omega) (Nat.le_refl _) (Nat.le_refl _) ?_
      refine sp_refuse hP.2.2.1 (by decide) (by omega) ?_
      refine wp_eqst (st' := [vI 0]) rfl ?_
      refine wp_if_eq (pc := 27) 34 dX4_isNewName_27 (by decide) (by decide) (fun _ => ?_) (fun hh => absurd hh (by decide))
      refine wp_iconst (pc := 34) dX4_isNewName_34 ?_
      refine wp_zret (pc := 35) dX4_isNewName_35 rfl rfl (by decide) ?_
      exact h0 (by rw [nwF_3 (by omega) (by omega)]; decide) _ Fp.refl.up44.up44 (by rw [nwF_3 (by omega) (by omega)]; exact (hP.ref 3))
  · refine wp_aload_n (pc := 11) 0 dX4_isNewName_11 rfl rfl ?_
    refine wp_iconst (pc := 12) dX4_isNewName_12 ?_
    refine wp_callV (pc := 13) (st := []) (nf' := 153) [vI 2] [some (vR 44), some (vI 2)] dX4_isNewName_13 rfl c_X4_42 rfl kd_44 (by decide) rfl la_44 rfl (Nat.le_of_ble_eq_true rfl) rfl (Nat.le_of_ble_eq_true rfl) (by omega) (Nat.le_refl _) (Nat.le_refl _) ?_
    refine sp_refuse hP.2.2.1 (by decide) (by omega) ?_
    refine wp_eqst (st' := [vI 0]) rfl ?_
    refine wp_zret (pc := 16) dX4_isNewName_16 rfl rfl (by decide) ?_
    exact h0 (by rw [nwF_2 (by omega)]; decide) _ Fp.refl.up44.up44 (by rw [nwF_2 (by omega)]; exact (hP.ref 2))

theorem sp_word {l : Launch} {G : mG} {d : Nat} {I : mI} {L : Nat → Nat → Int} {D : Nat → Nat} {Q : mQ} {b : Nat → Int} {n c : Nat} {T N : mT} {mo : Nat} {x : Int}  (hP : PS I L D b n c T N mo) (hx : 0 ≤ x ∧ x ≤ 20) (hd : 7 ≤ d) (h1 : wi b c = x → ∀ J M, Fp I J (D 2) → Lp L M (D 2) → PS J M D b n (te b c) T N mo → Q (some (vI 1)) J (XX M D)) (h0 : ¬ (wi b c = x) → ∀ J M, Fp I J (D 2) → Lp L M (D 2) → PE J M D b n (bad b c 2) → Q (some (vI 0)) J (XX M D)) : WP l G m_X4_word d 153 I (XX L D) 0 [some (vR 44), some (vI x)] [] Q := by
  have ht := hP.1.1
  have g2 : D 2 = 1 ∨ D 2 = 21 := ht
  have hT := hP.2.2.2.1
  have hw := hP.tw
  have k4 := hP.2.2.1.1
  have k5 := hP.2.2.1.2.1
  have k6 := hP.2.2.1.2.2.1.1
  have m4 := hP.2.2.2.2.2.1
  have ki := kC_in b c
  have kw := wi_in b c
  have tr := ts_rng b c
  have l7 := hP.2.2.1.2.2.2.2.1
  have b_c := tw_c hw
  have b_p := tw_p hw
  have b_q := tw_q hw
  have b_v := tw_vows hw
  have eC : nC T = (T 0 11).toNat := rfl
  have eP : nP T = (T 0 12).toNat := rfl
  have eQ : nQ T = (T 0 13).toNat := rfl
  refine wp_aload_n (pc := 0) 0 dX4_word_0 rfl rfl ?_
  refine wp_getr (pc := 1) dX4_word_1 rfl f_X4_15 kd_44 la_44 rfl (r_44_0 D) ?_
  refine wp_iload_n (pc := 4) 1 dX4_word_4 rfl rfl ?_
  refine wp_callV (pc := 5) (st := []) (nf' := 153) [vI x] [some (vR 41), some (vI x)] dX4_word_5 rfl c_X4_134 rfl kd_41 (by decide) rfl la_41 rfl (Nat.le_of_ble_eq_true rfl) rfl (Nat.le_of_ble_eq_true rfl) (by omega) (Nat.le_refl _) (Nat.le_refl _) ?_
  refine sp_isWord hP.2.2.1 hx (by omega) (fun h_1 => ?_) (fun h_1 => ?_)
  · refine wp_eqst (st' := [vI 1]) rfl ?_
    refine wp_if_ne (pc := 8) 17 dX4_word_8 (by decide) (by decide) (fun _ => ?_) (fun hh => absurd hh (by decide))
    refine wp_aload_n (pc := 17) 0 dX4_word_17 rfl rfl ?_
    refine wp_getr (pc := 18) dX4_word_18 rfl f_X4_15 kd_44 la_44 rfl (r_44_0 D) ?_
    refine wp_callV (pc := 21) (st := []) (nf' := 153) [] [some (vR 41), none] dX4_word_21 rfl c_X4_93 rfl kd_41 (by decide) rfl la_41 rfl (Nat.le_of_ble_eq_true rfl) rfl (Nat.le_of_ble_eq_true rfl) (by omega) (Nat.le_refl _) (Nat.le_refl _) ?_
    have n31 : ts b c ≠ 3 := (by first | exact n3_k (by omega) | exact n3_4 (by omega) | exact n3_w (by omega) | exact n3_s (by omega))
    refine sp_advance hP.1.2.1 hP.nx hP.1.2.2.1 (hP.2.2.1.2.2.2.1 n31) (by omega) (fun J1 M1 hFa1 hLa1 hTk1 => ?_)
    have hP1 := hP.adv hP.nx hFa1 hLa1 hTk1
    have hT_1 := hP1.2.2.2.1
    have hw_1 := hP1.tw
    have k4_1 := hP1.2.2.1.1
    have k5_1 := hP1.2.2.1.2.1
    have k6_1 := hP1.2.2.1.2.2.1.1
    have m4_1 := hP1.2.2.2.2.2.1
    have ki_1 := kC_in b (te b c)
    have kw_1 := wi_in b (te b c)
    have tr_1 := ts_rng b (te b c)
    have l7_1 := hP1.2.2.1.2.2.2.2.1
    refine wp_eqst (st' := []) rfl ?_
    refine wp_iconst (pc := 24) dX4_word_24 ?_
    refine wp_zret (pc := 25) dX4_word_25 rfl rfl (by decide) ?_
    exact h1 (by omega) _ _ (Fp.refl.trans hFa1.p) (Lp.refl.trans hLa1.p) hP1
  · refine wp_eqst (st' := [vI 0]) rfl ?_
    refine wp_if_ne (pc := 8) 17 dX4_word_8 (by decide) (by decide) (fun hh => absurd hh (by decide)) (fun _ => ?_)
    refine wp_aload_n (pc := 11) 0 dX4_word_11 rfl rfl ?_
    refine wp_iconst (pc := 12) dX4_word_12 ?_
    refine wp_callV (pc := 13) (st := []) (nf' := 153) [vI 2] [some (vR 44), some (vI 2)] dX4_word_13 rfl c_X4_42 rfl kd_44 (by decide) rfl la_44 rfl (Nat.le_of_ble_eq_true rfl) rfl (Nat.le_of_ble_eq_true rfl) (by omega) (Nat.le_refl _) (Nat.le_refl _) ?_
    refine sp_refuse hP.2.2.1 (by decide) (by omega) ?_
    refine wp_eqst (st' := [vI 0]) rfl ?_
    refine wp_zret (pc := 16) dX4_word_16 rfl rfl (by decide) ?_
    exact h0 (by omega) _ _ Fp.refl.up44.up44 Lp.refl (hP.ref 2)

theorem sp_sign {l : Launch} {G : mG} {d : Nat} {I : mI} {L : Nat → Nat → Int} {D : Nat → Nat} {Q : mQ} {b : Nat → Int} {n c : Nat} {T N : mT} {mo : Nat} {x : Int}  (hP : PS I L D b n c T N mo) (hx : (x = 59 ∨ x = 40 ∨ x = 41 ∨ x = 60 ∨ x = 62 ∨ x = 61 ∨ x = 43 ∨ x = 45 ∨ x = 42 ∨ x = 47 ∨ x = 37)) (hd : 7 ≤ d) (h1 : ts b c = x → ∀ J M, Fp I J (D 2) → Lp L M (D 2) → PS J M D b n (te b c) T N mo → Q (some (vI 1)) J (XX M D)) (h0 : ¬ (ts b c = x) → ∀ J M, Fp I J (D 2) → Lp L M (D 2) → PE J M D b n (bad b c 2) → Q (some (vI 0)) J (XX M D)) : WP l G m_X4_sign d 153 I (XX L D) 0 [some (vR 44), some (vI x)] [] Q := by
  have ht := hP.1.1
  have g2 : D 2 = 1 ∨ D 2 = 21 := ht
  have hT := hP.2.2.2.1
  have hw := hP.tw
  have k4 := hP.2.2.1.1
  have k5 := hP.2.2.1.2.1
  have k6 := hP.2.2.1.2.2.1.1
  have m4 := hP.2.2.2.2.2.1
  have ki := kC_in b c
  have kw := wi_in b c
  have tr := ts_rng b c
  have l7 := hP.2.2.1.2.2.2.2.1
  have b_c := tw_c hw
  have b_p := tw_p hw
  have b_q := tw_q hw
  have b_v := tw_vows hw
  have eC : nC T = (T 0 11).toNat := rfl
  have eP : nP T = (T 0 12).toNat := rfl
  have eQ : nQ T = (T 0 13).toNat := rfl
  refine wp_aload_n (pc := 0) 0 dX4_sign_0 rfl rfl ?_
  refine wp_getr (pc := 1) dX4_sign_1 rfl f_X4_15 kd_44 la_44 rfl (r_44_0 D) ?_
  refine wp_iload_n (pc := 4) 1 dX4_sign_4 rfl rfl ?_
  refine wp_callV (pc := 5) (st := []) (nf' := 153) [vI x] [some (vR 41), some (vI x)] dX4_sign_5 rfl c_X4_191 rfl kd_41 (by decide) rfl la_41 rfl (Nat.le_of_ble_eq_true rfl) rfl (Nat.le_of_ble_eq_true rfl) (by omega) (Nat.le_refl _) (Nat.le_refl _) ?_
  refine sp_isSign hP.2.2.1 hx (by omega) (fun h_1 => ?_) (fun h_1 => ?_)
  · refine wp_eqst (st' := [vI 1]) rfl ?_
    refine wp_if_ne (pc := 8) 17 dX4_sign_8 (by decide) (by decide) (fun _ => ?_) (fun hh => absurd hh (by decide))
    refine wp_aload_n (pc := 17) 0 dX4_sign_17 rfl rfl ?_
    refine wp_getr (pc := 18) dX4_sign_18 rfl f_X4_15 kd_44 la_44 rfl (r_44_0 D) ?_
    refine wp_callV (pc := 21) (st := []) (nf' := 153) [] [some (vR 41), none] dX4_sign_21 rfl c_X4_93 rfl kd_41 (by decide) rfl la_41 rfl (Nat.le_of_ble_eq_true rfl) rfl (Nat.le_of_ble_eq_true rfl) (by omega) (Nat.le_refl _) (Nat.le_refl _) ?_
    have n31 : ts b c ≠ 3 := (by first | exact n3_k (by omega) | exact n3_4 (by omega) | exact n3_w (by omega) | exact n3_s (by omega))
    refine sp_advance hP.1.2.1 hP.nx hP.1.2.2.1 (hP.2.2.1.2.2.2.1 n31) (by omega) (fun J1 M1 hFa1 hLa1 hTk1 => ?_)
    have hP1 := hP.adv hP.nx hFa1 hLa1 hTk1
    have hT_1 := hP1.2.2.2.1
    have hw_1 := hP1.tw
    have k4_1 := hP1.2.2.1.1
    have k5_1 := hP1.2.2.1.2.1
    have k6_1 := hP1.2.2.1.2.2.1.1
    have m4_1 := hP1.2.2.2.2.2.1
    have ki_1 := kC_in b (te b c)
    have kw_1 := wi_in b (te b c)
    have tr_1 := ts_rng b (te b c)
    have l7_1 := hP1.2.2.1.2.2.2.2.1
    refine wp_eqst (st' := []) rfl ?_
    refine wp_iconst (pc := 24) dX4_sign_24 ?_
    refine wp_zret (pc := 25) dX4_sign_25 rfl rfl (by decide) ?_
    exact h1 (by omega) _ _ (Fp.refl.trans hFa1.p) (Lp.refl.trans hLa1.p) hP1
  · refine wp_eqst (st' := [vI 0]) rfl ?_
    refine wp_if_ne (pc := 8) 17 dX4_sign_8 (by decide) (by decide) (fun hh => absurd hh (by decide)) (fun _ => ?_)
    refine wp_aload_n (pc := 11) 0 dX4_sign_11 rfl rfl ?_
    refine wp_iconst (pc := 12) dX4_sign_12 ?_
    refine wp_callV (pc := 13) (st := []) (nf' := 153) [vI 2] [some (vR 44), some (vI 2)] dX4_sign_13 rfl c_X4_42 rfl kd_44 (by decide) rfl la_44 rfl (Nat.le_of_ble_eq_true rfl) rfl (Nat.le_of_ble_eq_true rfl) (by omega) (Nat.le_refl _) (Nat.le_refl _) ?_
    refine sp_refuse hP.2.2.1 (by decide) (by omega) ?_
    refine wp_eqst (st' := [vI 0]) rfl ?_
    refine wp_zret (pc := 16) dX4_sign_16 rfl rfl (by decide) ?_
    exact h0 (by omega) _ _ Fp.refl.up44.up44 Lp.refl (hP.ref 2)

theorem sp_addChurch {l : Launch} {G : mG} {d : Nat} {I : mI} {L : Nat → Nat → Int} {D : Nat → Nat} {Q : mQ} {t : Nat} {T : mT} {z : Int}  (ht : isT t) (hT : TT I t = T) (hw : tw T) (h4 : T 0 11 < 4) (hd : 0 ≤ d) (hQ : Q none (up I t 11 (T 0 11 + 1)) (XX (upL L (t + 1) (nC T) z) D)) : WP l G m_X9_addChurch d 153 I (XX L D) 0 [some (vR t), some (vJ z), none] [] Q := by
  have g2 : t = 1 ∨ t = 21 := ht
  have b_c := tw_c hw
  have b_p := tw_p hw
  have b_q := tw_q hw
  have eC : nC T = (T 0 11).toNat := rfl
  have eP : nP T = (T 0 12).toNat := rfl
  have eQ : nQ T = (T 0 13).toNat := rfl
  refine wp_aload_n (pc := 0) 0 dX9_addChurch_0 rfl rfl ?_
  refine wp_geti (pc := 1) dX9_addChurch_1 rfl f_X9_61 (tk_0 ht) (tl_0 ht) (Or.inl rfl) ?_
  refine wp_eqst (st' := [vI (T 0 11)]) (by rw [← hT] <;> rfl) ?_
  refine wp_iconst (pc := 4) dX9_addChurch_4 ?_
  refine wp_icmp_ge (pc := 5) 28 dX9_addChurch_5 (by decide) (by omega) (by decide) (fun h_1 => ?_) (fun h_1 => ?_)
  · refine wp_vret (pc := 28) dX9_addChurch_28 rfl rfl ?_
    exfalso; omega
  · refine wp_aload_n (pc := 8) 0 dX9_addChurch_8 rfl rfl ?_
    refine wp_getr (pc := 9) dX9_addChurch_9 rfl f_X9_9 (tk_0 ht) (tl_0 ht) rfl (tr_0_0 D ht) ?_
    refine wp_aload_n (pc := 12) 0 dX9_addChurch_12 rfl rfl ?_
    refine wp_geti (pc := 13) dX9_addChurch_13 rfl f_X9_61 (tk_0 ht) (tl_0 ht) (Or.inl rfl) ?_
    refine wp_eqst (st' := [vI (T 0 11), vR (t + 1)]) (by rw [← hT] <;> rfl) ?_
    refine wp_lload_n (pc := 16) 1 dX9_addChurch_16 rfl rfl ?_
    refine wq_last (pc := 17) (Int.toNat (T 0 11)) dX9_addChurch_17 (tk_1 ht) (tl_1 ht) (by omega) (by omega) ?_
    refine wp_aload_n (pc := 18) 0 dX9_addChurch_18 rfl rfl ?_
    refine wp_dup (pc := 19) dX9_addChurch_19 rfl ?_
    refine wp_geti (pc := 20) dX9_addChurch_20 rfl f_X9_61 (tk_0 ht) (tl_0 ht) (Or.inl rfl) ?_
    refine wp_eqst (st' := [vI (T 0 11), vR t]) (by rw [← hT] <;> rfl) ?_
    refine wp_iconst (pc := 23) dX9_addChurch_23 ?_
    refine wp_iadd (pc := 24) dX9_addChurch_24 ?_
    refine wp_puti (pc := 25) dX9_addChurch_25 rfl f_X9_61 (tk_0 ht) (tl_0 ht) (fun _ h => by cases h; rfl) rfl ?_
    refine wp_vret (pc := 28) dX9_addChurch_28 rfl rfl ?_
    exact hQ

theorem sp_describe {l : Launch} {G : mG} {d : Nat} {I : mI} {L : Nat → Nat → Int} {D : Nat → Nat} {Q : mQ} {t : Nat} {T : mT} {z x : Int}  (ht : isT t) (hT : TT I t = T) (hw : tw T) (h8 : T 0 12 < 8) (hd : 0 ≤ d) (hQ : Q none (up I (t + 3) (nP T) x) (XX (upL L (t + 2) (nP T) z) D)) : WP l G m_X9_describe d 153 I (XX L D) 0 [some (vR t), some (vJ z), none, some (vI x)] [] Q := by
  have g2 : t = 1 ∨ t = 21 := ht
  have b_c := tw_c hw
  have b_p := tw_p hw
  have b_q := tw_q hw
  have eC : nC T = (T 0 11).toNat := rfl
  have eP : nP T = (T 0 12).toNat := rfl
  have eQ : nQ T = (T 0 13).toNat := rfl
  refine wp_aload_n (pc := 0) 0 dX9_describe_0 rfl rfl ?_
  refine wp_geti (pc := 1) dX9_describe_1 rfl f_X9_64 (tk_0 ht) (tl_0 ht) (Or.inl rfl) ?_
  refine wp_eqst (st' := [vI (T 0 12)]) (by rw [← hT] <;> rfl) ?_
  refine wp_bipush (pc := 4) dX9_describe_4 (by decide) ?_
  refine wp_icmp_ge (pc := 6) 29 dX9_describe_6 (by decide) (by omega) (by decide) (fun h_1 => ?_) (fun h_1 => ?_)
  · refine wp_vret (pc := 29) dX9_describe_29 rfl rfl ?_
    exfalso; omega
  · refine wp_aload_n (pc := 9) 0 dX9_describe_9 rfl rfl ?_
    refine wp_getr (pc := 10) dX9_describe_10 rfl f_X9_15 (tk_0 ht) (tl_0 ht) rfl (tr_0_1 D ht) ?_
    refine wp_aload_n (pc := 13) 0 dX9_describe_13 rfl rfl ?_
    refine wp_geti (pc := 14) dX9_describe_14 rfl f_X9_64 (tk_0 ht) (tl_0 ht) (Or.inl rfl) ?_
    refine wp_eqst (st' := [vI (T 0 12), vR (t + 2)]) (by rw [← hT] <;> rfl) ?_
    refine wp_lload_n (pc := 17) 1 dX9_describe_17 rfl rfl ?_
    refine wq_last (pc := 18) (Int.toNat (T 0 12)) dX9_describe_18 (tk_2 ht) (tl_2 ht) (by omega) (by omega) ?_
    refine wp_aload_n (pc := 19) 0 dX9_describe_19 rfl rfl ?_
    refine wp_getr (pc := 20) dX9_describe_20 rfl f_X9_18 (tk_0 ht) (tl_0 ht) rfl (tr_0_2 D ht) ?_
    refine wp_aload_n (pc := 23) 0 dX9_describe_23 rfl rfl ?_
    refine wp_geti (pc := 24) dX9_describe_24 rfl f_X9_64 (tk_0 ht) (tl_0 ht) (Or.inl rfl) ?_
    refine wp_eqst (st' := [vI (T 0 12), vR (t + 3)]) (by rw [← hT] <;> rfl) ?_
    refine wp_iload_n (pc := 27) 3 dX9_describe_27 rfl rfl ?_
    refine wq_iast (pc := 28) (Int.toNat (T 0 12)) dX9_describe_28 (tk_3 ht) (tl_3 ht) (by omega) (by omega) ?_
    refine wp_vret (pc := 29) dX9_describe_29 rfl rfl ?_
    exact hQ

theorem sp_addPair {l : Launch} {G : mG} {d : Nat} {I : mI} {L : Nat → Nat → Int} {D : Nat → Nat} {Q : mQ} {t : Nat} {T : mT} {a e x y : Int}  (ht : isT t) (hT : TT I t = T) (hw : tw T) (h5 : T 0 13 < 5) (hd : 0 ≤ d) (hQ : Q none (up (up (up (up (up I (t + 6) (nQ T) a) (t + 7) (nQ T) e) (t + 8) (nQ T) x) (t + 9) (nQ T) y) t 13 (T 0 13 + 1)) (XX L D)) : WP l G m_X9_addPair d 153 I (XX L D) 0 [some (vR t), some (vI a), some (vI e), some (vI x), some (vI y)] [] Q := by
  have g2 : t = 1 ∨ t = 21 := ht
  have b_c := tw_c hw
  have b_p := tw_p hw
  have b_q := tw_q hw
  have eC : nC T = (T 0 11).toNat := rfl
  have eP : nP T = (T 0 12).toNat := rfl
  have eQ : nQ T = (T 0 13).toNat := rfl
  refine wp_aload_n (pc := 0) 0 dX9_addPair_0 rfl rfl ?_
  refine wp_geti (pc := 1) dX9_addPair_1 rfl f_X9_67 (tk_0 ht) (tl_0 ht) (Or.inl rfl) ?_
  refine wp_eqst (st' := [vI (T 0 13)]) (by rw [← hT] <;> rfl) ?_
  refine wp_iconst (pc := 4) dX9_addPair_4 ?_
  refine wp_icmp_ge (pc := 5) 59 dX9_addPair_5 (by decide) (by omega) (by decide) (fun h_1 => ?_) (fun h_1 => ?_)
  · refine wp_vret (pc := 59) dX9_addPair_59 rfl rfl ?_
    exfalso; omega
  · refine wp_aload_n (pc := 8) 0 dX9_addPair_8 rfl rfl ?_
    refine wp_getr (pc := 9) dX9_addPair_9 rfl f_X9_28 (tk_0 ht) (tl_0 ht) rfl (tr_0_5 D ht) ?_
    refine wp_aload_n (pc := 12) 0 dX9_addPair_12 rfl rfl ?_
    refine wp_geti (pc := 13) dX9_addPair_13 rfl f_X9_67 (tk_0 ht) (tl_0 ht) (Or.inl rfl) ?_
    refine wp_eqst (st' := [vI (T 0 13), vR (t + 6)]) (by rw [← hT] <;> rfl) ?_
    refine wp_iload_n (pc := 16) 1 dX9_addPair_16 rfl rfl ?_
    refine wq_iast (pc := 17) (Int.toNat (T 0 13)) dX9_addPair_17 (tk_6 ht) (tl_6 ht) (by omega) (by omega) ?_
    refine wp_aload_n (pc := 18) 0 dX9_addPair_18 rfl rfl ?_
    refine wp_getr (pc := 19) dX9_addPair_19 rfl f_X9_31 (tk_0 ht) (tl_0 ht) rfl (tr_0_6 D ht) ?_
    refine wp_aload_n (pc := 22) 0 dX9_addPair_22 rfl rfl ?_
    refine wp_geti (pc := 23) dX9_addPair_23 rfl f_X9_67 (tk_0 ht) (tl_0 ht) (Or.inl rfl) ?_
    refine wp_eqst (st' := [vI (T 0 13), vR (t + 7)]) (by rw [up_c (by omega), ← hT] <;> rfl) ?_
    refine wp_iload_n (pc := 26) 2 dX9_addPair_26 rfl rfl ?_
    refine wq_iast (pc := 27) (Int.toNat (T 0 13)) dX9_addPair_27 (tk_7 ht) (tl_7 ht) (by omega) (by omega) ?_
    refine wp_aload_n (pc := 28) 0 dX9_addPair_28 rfl rfl ?_
    refine wp_getr (pc := 29) dX9_addPair_29 rfl f_X9_34 (tk_0 ht) (tl_0 ht) rfl (tr_0_7 D ht) ?_
    refine wp_aload_n (pc := 32) 0 dX9_addPair_32 rfl rfl ?_
    refine wp_geti (pc := 33) dX9_addPair_33 rfl f_X9_67 (tk_0 ht) (tl_0 ht) (Or.inl rfl) ?_
    refine wp_eqst (st' := [vI (T 0 13), vR (t + 8)]) (by rw [up_c (by omega), up_c (by omega), ← hT] <;> rfl) ?_
    refine wp_iload_n (pc := 36) 3 dX9_addPair_36 rfl rfl ?_
    refine wq_iast (pc := 37) (Int.toNat (T 0 13)) dX9_addPair_37 (tk_8 ht) (tl_8 ht) (by omega) (by omega) ?_
    refine wp_aload_n (pc := 38) 0 dX9_addPair_38 rfl rfl ?_
    refine wp_getr (pc := 39) dX9_addPair_39 rfl f_X9_37 (tk_0 ht) (tl_0 ht) rfl (tr_0_8 D ht) ?_
    refine wp_aload_n (pc := 42) 0 dX9_addPair_42 rfl rfl ?_
    refine wp_geti (pc := 43) dX9_addPair_43 rfl f_X9_67 (tk_0 ht) (tl_0 ht) (Or.inl rfl) ?_
    refine wp_eqst (st' := [vI (T 0 13), vR (t + 9)]) (by rw [up_c (by omega), up_c (by omega), up_c (by omega), ← hT] <;> rfl) ?_
    refine wp_iload (pc := 46) dX9_addPair_46 rfl ?_
    refine wq_iast (pc := 48) (Int.toNat (T 0 13)) dX9_addPair_48 (tk_9 ht) (tl_9 ht) (by omega) (by omega) ?_
    refine wp_aload_n (pc := 49) 0 dX9_addPair_49 rfl rfl ?_
    refine wp_dup (pc := 50) dX9_addPair_50 rfl ?_
    refine wp_geti (pc := 51) dX9_addPair_51 rfl f_X9_67 (tk_0 ht) (tl_0 ht) (Or.inl rfl) ?_
    refine wp_eqst (st' := [vI (T 0 13), vR t]) (by rw [up_c (by omega), up_c (by omega), up_c (by omega), up_c (by omega), ← hT] <;> rfl) ?_
    refine wp_iconst (pc := 54) dX9_addPair_54 ?_
    refine wp_iadd (pc := 55) dX9_addPair_55 ?_
    refine wp_puti (pc := 56) dX9_addPair_56 rfl f_X9_67 (tk_0 ht) (tl_0 ht) (fun _ h => by cases h; rfl) rfl ?_
    refine wp_vret (pc := 59) dX9_addPair_59 rfl rfl ?_
    exact hQ

theorem sp_churchLine {l : Launch} {G : mG} {d : Nat} {I : mI} {L : Nat → Nat → Int} {D : Nat → Nat} {Q : mQ} {b : Nat → Int} {n c : Nat} {T N : mT} {mo : Nat}   (hP : PS I L D b n c T N mo) (hwi : 0 ≤ wi b c) (hd : 7 ≤ d) (h1 : ∀ c' T' N', churchF b c T N = .inr (c', T', N') → ∀ J M, Fp I J (D 2) → Lp L M (D 2) → PS J M D b n c' T' N' mo → Q (some (vI 1)) J (XX M D)) (h0 : ∀ er, churchF b c T N = .inl er → ∀ J M, Fp I J (D 2) → Lp L M (D 2) → PE J M D b n er → Q (some (vI 0)) J (XX M D)) : WP l G m_X4_churchLine d 153 I (XX L D) 0 [some (vR 44)] [] Q := by
  have ht := hP.1.1
  have g2 : D 2 = 1 ∨ D 2 = 21 := ht
  have hT := hP.2.2.2.1
  have hw := hP.tw
  have k4 := hP.2.2.1.1
  have k5 := hP.2.2.1.2.1
  have k6 := hP.2.2.1.2.2.1.1
  have m4 := hP.2.2.2.2.2.1
  have ki := kC_in b c
  have kw := wi_in b c
  have tr := ts_rng b c
  have l7 := hP.2.2.1.2.2.2.2.1
  have b_c := tw_c hw
  have b_p := tw_p hw
  have b_q := tw_q hw
  have b_v := tw_vows hw
  have eC : nC T = (T 0 11).toNat := rfl
  have eP : nP T = (T 0 12).toNat := rfl
  have eQ : nQ T = (T 0 13).toNat := rfl
  refine wp_aload_n (pc := 0) 0 dX4_churchLine_0 rfl rfl ?_
  refine wp_getr (pc := 1) dX4_churchLine_1 rfl f_X4_19 kd_44 la_44 rfl (r_44_1 D) ?_
  refine wp_geti (pc := 4) dX4_churchLine_4 rfl f_X4_90 (tk_0 ht) (tl_0 ht) (Or.inl rfl) ?_
  refine wp_eqst (st' := [vI (T 0 11)]) (by rw [← hT] <;> rfl) ?_
  refine wp_iconst (pc := 7) dX4_churchLine_7 ?_
  refine wp_icmp_lt (pc := 8) 17 dX4_churchLine_8 (by decide) (by omega) (by decide) (fun h_1 => ?_) (fun h_1 => ?_)
  · refine wp_aload_n (pc := 17) 0 dX4_churchLine_17 rfl rfl ?_
    refine wp_getr (pc := 18) dX4_churchLine_18 rfl f_X4_15 kd_44 la_44 rfl (r_44_0 D) ?_
    refine wp_callV (pc := 21) (st := []) (nf' := 153) [] [some (vR 41), none] dX4_churchLine_21 rfl c_X4_93 rfl kd_41 (by decide) rfl la_41 rfl (Nat.le_of_ble_eq_true rfl) rfl (Nat.le_of_ble_eq_true rfl) (by omega) (Nat.le_refl _) (Nat.le_refl _) ?_
    have n31 : ts b c ≠ 3 := (by first | exact n3_k (by omega) | exact n3_4 (by omega) | exact n3_w (by omega) | exact n3_s (by omega))
    refine sp_advance hP.1.2.1 hP.nx hP.1.2.2.1 (hP.2.2.1.2.2.2.1 n31) (by omega) (fun J1 M1 hFa1 hLa1 hTk1 => ?_)
    have hP1 := hP.adv hP.nx hFa1 hLa1 hTk1
    have hT_1 := hP1.2.2.2.1
    have hw_1 := hP1.tw
    have k4_1 := hP1.2.2.1.1
    have k5_1 := hP1.2.2.1.2.1
    have k6_1 := hP1.2.2.1.2.2.1.1
    have m4_1 := hP1.2.2.2.2.2.1
    have ki_1 := kC_in b (te b c)
    have kw_1 := wi_in b (te b c)
    have tr_1 := ts_rng b (te b c)
    have l7_1 := hP1.2.2.1.2.2.2.2.1
    refine wp_eqst (st' := []) rfl ?_
    refine wp_aload_n (pc := 24) 0 dX4_churchLine_24 rfl rfl ?_
    refine wp_aload_n (pc := 25) 0 dX4_churchLine_25 rfl rfl ?_
    refine wp_getr (pc := 26) dX4_churchLine_26 rfl f_X4_19 kd_44 la_44 rfl (r_44_1 D) ?_
    refine wp_aload_n (pc := 29) 0 dX4_churchLine_29 rfl rfl ?_
    refine wp_getr (pc := 30) dX4_churchLine_30 rfl f_X4_15 kd_44 la_44 rfl (r_44_0 D) ?_
    refine wp_getl (pc := 33) dX4_churchLine_33 rfl f_X4_96 kd_41 la_41 rfl ?_
    refine wp_eqst (st' := [vJ (M1 41 7), vR (D 2), vR 44]) rfl ?_
    refine wp_callV (pc := 36) (st := [vR 44]) (nf' := 153) [vJ (M1 41 7)] [some (vR (D 2)), some (vJ (M1 41 7)), none] dX4_churchLine_36 rfl c_X4_100 rfl (tk_0 ht) (by decide) rfl (tl_0 ht) rfl (Nat.le_of_ble_eq_true rfl) rfl (Nat.le_of_ble_eq_true rfl) (by omega) (Nat.le_refl _) (Nat.le_refl _) ?_
    refine wp_aload_n (pc := 0) 0 dX9_findChurch_0 rfl rfl ?_
    refine wp_getr (pc := 1) dX9_findChurch_1 rfl f_X9_9 (tk_0 ht) (tl_0 ht) rfl (tr_0_0 D ht) ?_
    refine wp_aload_n (pc := 4) 0 dX9_findChurch_4 rfl rfl ?_
    refine wp_geti (pc := 5) dX9_findChurch_5 rfl f_X9_61 (tk_0 ht) (tl_0 ht) (Or.inl rfl) ?_
    refine wp_eqst (st' := [vI (T 0 11), vR ((D 2) + 1)]) (by rw [← hT_1] <;> rfl) ?_
    refine wp_lload_n (pc := 8) 1 dX9_findChurch_8 rfl rfl ?_
    refine wp_callS (pc := 9) (st := []) (nf' := 153) [vR ((D 2) + 1), vI (T 0 11), vJ (M1 41 7)] [some (vR ((D 2) + 1)), some (vI (T 0 11)), some (vJ (M1 41 7)), none, none] dX9_findChurch_9 rfl c_X9_86 rfl rfl (Nat.le_of_ble_eq_true rfl) rfl (Nat.le_of_ble_eq_true rfl) (by omega) (Nat.le_refl _) (Nat.le_refl _) ?_
    have hN2 : M1 (D 2 + 1) = N 0 := by rw [← hP1.2.2.2.2.1]; rfl
    have bc2 := tw_c hP1.tw
    have ec2 : nC T = (T 0 11).toNat := rfl
    refine sp_find4 (nC T) (by omega) (tk_1 ht) (tl_1 ht) (by omega) (by omega) (fun j => by rw [hN2]; exact hP1.nm 0 j) (by rw [hN2]; exact hP1.2.2.2.2.2.2.2.1) (by omega) ?_
    rw [hN2]
    have fi2 := fnd_in (N 0) (M1 41 7) (nC T)
    refine wp_eqst (st' := [vI (fnd (N 0) (M1 41 7) (nC T))]) rfl ?_
    refine wp_iret (pc := 12) dX9_findChurch_12 rfl rfl ?_
    refine wp_eqst (st' := [vI (fnd (N 0) (M1 41 7) (nC T)), vR 44]) rfl ?_
    refine wp_callV (pc := 39) (st := []) (nf' := 153) [vI (fnd (N 0) (M1 41 7) (nC T))] [some (vR 44), some (vI (fnd (N 0) (M1 41 7) (nC T)))] dX4_churchLine_39 rfl c_X4_104 rfl kd_44 (by decide) rfl la_44 rfl (Nat.le_of_ble_eq_true rfl) rfl (Nat.le_of_ble_eq_true rfl) (by omega) (Nat.le_refl _) (Nat.le_refl _) ?_
    refine sp_isNewName (NA := (N 0)) (nn := (nC T)) hP1 (fun z => by rw [hP1.2.2.1.2.2.2.2.2 (k2_w z)]) (by omega) (by omega) (fun h_2 => ?_) (fun h_2 J3 hF3 hE3 => ?_)
    · have nk3 := nwF_ok h_2
      have nk13 := nk3.1
      have ew3 := hP1.2.2.1.2.2.2.2.2 (k2_w nk3.1)
      refine wp_eqst (st' := [vI 1]) rfl ?_
      refine wp_if_ne (pc := 42) 47 dX4_churchLine_42 (by decide) (by decide) (fun _ => ?_) (fun hh => absurd hh (by decide))
      refine wp_aload_n (pc := 47) 0 dX4_churchLine_47 rfl rfl ?_
      refine wp_getr (pc := 48) dX4_churchLine_48 rfl f_X4_19 kd_44 la_44 rfl (r_44_1 D) ?_
      refine wp_aload_n (pc := 51) 0 dX4_churchLine_51 rfl rfl ?_
      refine wp_getr (pc := 52) dX4_churchLine_52 rfl f_X4_15 kd_44 la_44 rfl (r_44_0 D) ?_
      refine wp_getl (pc := 55) dX4_churchLine_55 rfl f_X4_96 kd_41 la_41 rfl ?_
      refine wp_eqst (st' := [vJ (M1 41 7), vR (D 2)]) rfl ?_
      refine wp_callV (pc := 58) (st := []) (nf' := 153) [vJ (M1 41 7)] [some (vR (D 2)), some (vJ (M1 41 7)), none] dX4_churchLine_58 rfl c_X4_107 rfl (tk_0 ht) (by decide) rfl (tl_0 ht) rfl (Nat.le_of_ble_eq_true rfl) rfl (Nat.le_of_ble_eq_true rfl) (by omega) (Nat.le_refl _) (Nat.le_refl _) ?_
      refine sp_addChurch ht hT_1 hw_1 (by omega) (by omega) ?_
      have hP4_ : PS (up J1 (D 2) 11 (T 0 11 + 1)) (upL M1 (D 2 + 1) (nC T) (M1 41 7)) D b n (te b c) (setT T 0 11 (T 0 11 + 1)) (setT N 0 (nC T) (w5 b (te b c))) mo := by rw [← ew3]; exact hP1.addC (by omega) (by rw [ew3]; exact nk3.2) hP1.2.2.1.2.2.2.2.1
      have hF4_ : Fp I (up J1 (D 2) 11 (T 0 11 + 1)) (D 2) := (Fp.refl.trans hFa1.p).upt ht (by omega)
      refine wp_gen (fun J => Fp I J (D 2) ∧ PS J (upL M1 (D 2 + 1) (nC T) (M1 41 7)) D b n (te b c) (setT T 0 11 (T 0 11 + 1)) (setT N 0 (nC T) (w5 b (te b c))) mo) ⟨hF4_, hP4_⟩ (fun J4 hJ4 => ?_)
      have hF4 := hJ4.1
      have hP4 := hJ4.2
      have hT_4 := hP4.2.2.2.1
      have hw_4 := hP4.tw
      have k4_4 := hP4.2.2.1.1
      have k5_4 := hP4.2.2.1.2.1
      have k6_4 := hP4.2.2.1.2.2.1.1
      have m4_4 := hP4.2.2.2.2.2.1
      have ki_4 := kC_in b (te b c)
      have kw_4 := wi_in b (te b c)
      have tr_4 := ts_rng b (te b c)
      have l7_4 := hP4.2.2.1.2.2.2.2.1
      refine wp_eqst (st' := []) rfl ?_
      refine wp_aload_n (pc := 61) 0 dX4_churchLine_61 rfl rfl ?_
      refine wp_getr (pc := 62) dX4_churchLine_62 rfl f_X4_15 kd_44 la_44 rfl (r_44_0 D) ?_
      refine wp_callV (pc := 65) (st := []) (nf' := 153) [] [some (vR 41), none] dX4_churchLine_65 rfl c_X4_93 rfl kd_41 (by decide) rfl la_41 rfl (Nat.le_of_ble_eq_true rfl) rfl (Nat.le_of_ble_eq_true rfl) (by omega) (Nat.le_refl _) (Nat.le_refl _) ?_
      have n35 : ts b (te b c) ≠ 3 := (by first | exact n3_k (by omega) | exact n3_4 (by omega) | exact n3_w (by omega) | exact n3_s (by omega))
      refine sp_advance hP4.1.2.1 hP4.nx hP4.1.2.2.1 (hP4.2.2.1.2.2.2.1 n35) (by omega) (fun J5 M5 hFa5 hLa5 hTk5 => ?_)
      have hP5 := hP4.adv hP4.nx hFa5 hLa5 hTk5
      have hT_5 := hP5.2.2.2.1
      have hw_5 := hP5.tw
      have k4_5 := hP5.2.2.1.1
      have k5_5 := hP5.2.2.1.2.1
      have k6_5 := hP5.2.2.1.2.2.1.1
      have m4_5 := hP5.2.2.2.2.2.1
      have ki_5 := kC_in b (te b (te b c))
      have kw_5 := wi_in b (te b (te b c))
      have tr_5 := ts_rng b (te b (te b c))
      have l7_5 := hP5.2.2.1.2.2.2.2.1
      refine wp_eqst (st' := []) rfl ?_
      refine wp_iconst (pc := 68) dX4_churchLine_68 ?_
      refine wp_zret (pc := 69) dX4_churchLine_69 rfl rfl (by decide) ?_
      exact h1 _ _ _ (by unfold churchF; (repeat (first | rw [if_pos (by omega)] | rw [if_neg (by omega)])); first | done | rfl) _ _ (hF4.trans hFa5.p) (((Lp.refl.trans hLa1.p).upt (by omega)).trans hLa5.p) hP5
    · skip
      refine wp_eqst (st' := [vI 0]) rfl ?_
      refine wp_if_ne (pc := 42) 47 dX4_churchLine_42 (by decide) (by decide) (fun hh => absurd hh (by decide)) (fun _ => ?_)
      refine wp_iconst (pc := 45) dX4_churchLine_45 ?_
      refine wp_zret (pc := 46) dX4_churchLine_46 rfl rfl (by decide) ?_
      exact h0 _ (by unfold churchF; (repeat (first | rw [if_pos (by omega)] | rw [if_neg (by omega)])); first | done | rfl) _ _ ((Fp.refl.trans hFa1.p).trans hF3) (Lp.refl.trans hLa1.p) hE3
  · refine wp_aload_n (pc := 11) 0 dX4_churchLine_11 rfl rfl ?_
    refine wp_iconst (pc := 12) dX4_churchLine_12 ?_
    refine wp_callV (pc := 13) (st := []) (nf' := 153) [vI 2] [some (vR 44), some (vI 2)] dX4_churchLine_13 rfl c_X4_42 rfl kd_44 (by decide) rfl la_44 rfl (Nat.le_of_ble_eq_true rfl) rfl (Nat.le_of_ble_eq_true rfl) (by omega) (Nat.le_refl _) (Nat.le_refl _) ?_
    refine sp_refuse hP.2.2.1 (by decide) (by omega) ?_
    refine wp_eqst (st' := [vI 0]) rfl ?_
    refine wp_zret (pc := 16) dX4_churchLine_16 rfl rfl (by decide) ?_
    exact h0 _ (by unfold churchF; (repeat (first | rw [if_pos (by omega)] | rw [if_neg (by omega)])); first | done | rfl) _ _ Fp.refl.up44.up44 Lp.refl (hP.ref 2)

theorem sp_parents {l : Launch} {G : mG} {d : Nat} {I : mI} {L : Nat → Nat → Int} {D : Nat → Nat} {Q : mQ} {b : Nat → Int} {n c : Nat} {T N : mT} {mo : Nat}   (hP : PS I L D b n c T N mo) (h8 : T 0 12 < 8) (hd : 8 ≤ d) (h1 : ∀ c' T' N', parF b c T N = .inr (c', T', N') → ∀ J M, Fp I J (D 2) → Lp L M (D 2) → PS J M D b n c' T' N' mo → Q (some (vI 1)) J (XX M D)) (h0 : ∀ er, parF b c T N = .inl er → ∀ J M, Fp I J (D 2) → Lp L M (D 2) → PE J M D b n er → Q (some (vI 0)) J (XX M D)) : WP l G m_X4_parents d 153 I (XX L D) 0 [some (vR 44), none, none] [] Q := by
  have ht := hP.1.1
  have g2 : D 2 = 1 ∨ D 2 = 21 := ht
  have hT := hP.2.2.2.1
  have hw := hP.tw
  have k4 := hP.2.2.1.1
  have k5 := hP.2.2.1.2.1
  have k6 := hP.2.2.1.2.2.1.1
  have m4 := hP.2.2.2.2.2.1
  have ki := kC_in b c
  have kw := wi_in b c
  have tr := ts_rng b c
  have l7 := hP.2.2.1.2.2.2.2.1
  have b_c := tw_c hw
  have b_p := tw_p hw
  have b_q := tw_q hw
  have b_v := tw_vows hw
  have eC : nC T = (T 0 11).toNat := rfl
  have eP : nP T = (T 0 12).toNat := rfl
  have eQ : nQ T = (T 0 13).toNat := rfl
  refine wp_aload_n (pc := 0) 0 dX4_parents_0 rfl rfl ?_
  refine wp_getr (pc := 1) dX4_parents_1 rfl f_X4_15 kd_44 la_44 rfl (r_44_0 D) ?_
  refine wp_iconst (pc := 4) dX4_parents_4 ?_
  refine wp_callV (pc := 5) (st := []) (nf' := 153) [vI 3] [some (vR 41), some (vI 3)] dX4_parents_5 rfl c_X4_134 rfl kd_41 (by decide) rfl la_41 rfl (Nat.le_of_ble_eq_true rfl) rfl (Nat.le_of_ble_eq_true rfl) (by omega) (Nat.le_refl _) (Nat.le_refl _) ?_
  refine sp_isWord hP.2.2.1 (by decide) (by omega) (fun h_1 => ?_) (fun h_1 => ?_)
  · refine wp_eqst (st' := [vI 1]) rfl ?_
    refine wp_if_ne (pc := 8) 13 dX4_parents_8 (by decide) (by decide) (fun _ => ?_) (fun hh => absurd hh (by decide))
    refine wp_aload_n (pc := 13) 0 dX4_parents_13 rfl rfl ?_
    refine wp_getr (pc := 14) dX4_parents_14 rfl f_X4_15 kd_44 la_44 rfl (r_44_0 D) ?_
    refine wp_callV (pc := 17) (st := []) (nf' := 153) [] [some (vR 41), none] dX4_parents_17 rfl c_X4_93 rfl kd_41 (by decide) rfl la_41 rfl (Nat.le_of_ble_eq_true rfl) rfl (Nat.le_of_ble_eq_true rfl) (by omega) (Nat.le_refl _) (Nat.le_refl _) ?_
    have n31 : ts b c ≠ 3 := (by first | exact n3_k (by omega) | exact n3_4 (by omega) | exact n3_w (by omega) | exact n3_s (by omega))
    refine sp_advance hP.1.2.1 hP.nx hP.1.2.2.1 (hP.2.2.1.2.2.2.1 n31) (by omega) (fun J1 M1 hFa1 hLa1 hTk1 => ?_)
    have hP1 := hP.adv hP.nx hFa1 hLa1 hTk1
    have hT_1 := hP1.2.2.2.1
    have hw_1 := hP1.tw
    have k4_1 := hP1.2.2.1.1
    have k5_1 := hP1.2.2.1.2.1
    have k6_1 := hP1.2.2.1.2.2.1.1
    have m4_1 := hP1.2.2.2.2.2.1
    have ki_1 := kC_in b (te b c)
    have kw_1 := wi_in b (te b c)
    have tr_1 := ts_rng b (te b c)
    have l7_1 := hP1.2.2.1.2.2.2.2.1
    refine wp_eqst (st' := []) rfl ?_
    refine wp_aload_n (pc := 20) 0 dX4_parents_20 rfl rfl ?_
    refine wp_iconst (pc := 21) dX4_parents_21 ?_
    refine wp_callV (pc := 22) (st := []) (nf' := 153) [vI 0] [some (vR 44), some (vI 0), none] dX4_parents_22 rfl c_X4_137 rfl kd_44 (by decide) rfl la_44 rfl (Nat.le_of_ble_eq_true rfl) rfl (Nat.le_of_ble_eq_true rfl) (by omega) (Nat.le_refl _) (Nat.le_refl _) ?_
    refine sp_takePerson 0 rfl hP1 (by first | omega | exact Nat.lt_of_lt_of_le (two_lt (by omega)) (by decide) | exact Nat.lt_of_lt_of_le (or_lt (n := 8) (by omega) (two_lt (by omega))) (by decide)) (nn := nP T) rfl (by omega) (fun h_2 J2 M2 hF2 hL2 hP2 => ?_) (fun h_2 J3 M3 hF3 hL3 hE3 => ?_)
    · skip
      have pi2 := prF_in (b := b) (c := te b c) (N := N 1) (n := nP T) (rep := 0)
      have po2 := (prF_ok (b := b) (c := te b c) (N := N 1) (n := nP T) (rep := 0) (by assumption)).1
      have hT_2 := hP2.2.2.2.1
      have hw_2 := hP2.tw
      have k4_2 := hP2.2.2.1.1
      have k5_2 := hP2.2.2.1.2.1
      have k6_2 := hP2.2.2.1.2.2.1.1
      have m4_2 := hP2.2.2.2.2.2.1
      have ki_2 := kC_in b (te b (te b c))
      have kw_2 := wi_in b (te b (te b c))
      have tr_2 := ts_rng b (te b (te b c))
      have l7_2 := hP2.2.2.1.2.2.2.2.1
      refine wp_eqst (st' := [vI (prF b (te b c) (N 1) (nP T) 0)]) rfl ?_
      refine wq_istore_n (pc := 25) 1 [some (vR 44), some (vI (prF b (te b c) (N 1) (nP T) 0)), none] dX4_parents_25 rfl rfl (by decide) rfl ?_
      refine wp_iload_n (pc := 26) 1 dX4_parents_26 rfl rfl ?_
      refine wp_iconst (pc := 27) dX4_parents_27 ?_
      refine wp_icmp_ne (pc := 28) 33 dX4_parents_28 (by decide) (by omega) (by decide) (fun h_3 => ?_) (fun h_3 => ?_)
      · refine wp_aload_n (pc := 33) 0 dX4_parents_33 rfl rfl ?_
        refine wp_getr (pc := 34) dX4_parents_34 rfl f_X4_19 kd_44 la_44 rfl (r_44_1 D) ?_
        refine wp_getr (pc := 37) dX4_parents_37 rfl f_X4_56 (tk_0 ht) (tl_0 ht) rfl (tr_0_9 D ht) ?_
        refine wp_getr (pc := 40) dX4_parents_40 rfl f_X4_141 (tk_10 ht) (tl_10 ht) rfl (tr_10_0 D ht) ?_
        refine wp_aload_n (pc := 43) 0 dX4_parents_43 rfl rfl ?_
        refine wp_getr (pc := 44) dX4_parents_44 rfl f_X4_19 kd_44 la_44 rfl (r_44_1 D) ?_
        refine wp_geti (pc := 47) dX4_parents_47 rfl f_X4_111 (tk_0 ht) (tl_0 ht) (Or.inl rfl) ?_
        refine wp_eqst (st' := [vI (T 0 12), vR ((D 2) + 11)]) (by rw [← hT_2] <;> rfl) ?_
        refine wp_iload_n (pc := 50) 1 dX4_parents_50 rfl rfl ?_
        refine wq_iast (pc := 51) (Int.toNat (T 0 12)) dX4_parents_51 (tk_11 ht) (tl_11 ht) (by omega) (by omega) ?_
        have hP4_ : PS (up J2 ((D 2) + 11) (Int.toNat (T 0 12)) (prF b (te b c) (N 1) (nP T) 0)) (M2) D b n (te b (te b c)) (setT T 11 (nP T) (prF b (te b c) (N 1) (nP T) 0)) N mo := hP2.upT1 (k := 11) (by decide) (by unfold twB; omega) (fun e => absurd e (by decide)) (by first | exact Or.inl (by decide) | exact Or.inr (by decide))
        have hF4_ : Fp I (up J2 ((D 2) + 11) (Int.toNat (T 0 12)) (prF b (te b c) (N 1) (nP T) 0)) (D 2) := ((Fp.refl.trans hFa1.p).trans hF2).upt ht (by omega)
        refine wp_gen (fun J => Fp I J (D 2) ∧ PS J (M2) D b n (te b (te b c)) (setT T 11 (nP T) (prF b (te b c) (N 1) (nP T) 0)) N mo) ⟨hF4_, hP4_⟩ (fun J4 hJ4 => ?_)
        have hF4 := hJ4.1
        have hP4 := hJ4.2
        have hT_4 := hP4.2.2.2.1
        have hw_4 := hP4.tw
        have k4_4 := hP4.2.2.1.1
        have k5_4 := hP4.2.2.1.2.1
        have k6_4 := hP4.2.2.1.2.2.1.1
        have m4_4 := hP4.2.2.2.2.2.1
        have ki_4 := kC_in b (te b (te b c))
        have kw_4 := wi_in b (te b (te b c))
        have tr_4 := ts_rng b (te b (te b c))
        have l7_4 := hP4.2.2.1.2.2.2.2.1
        refine wp_aload_n (pc := 52) 0 dX4_parents_52 rfl rfl ?_
        refine wp_getr (pc := 53) dX4_parents_53 rfl f_X4_15 kd_44 la_44 rfl (r_44_0 D) ?_
        refine wp_iconst (pc := 56) dX4_parents_56 ?_
        refine wp_callV (pc := 57) (st := []) (nf' := 153) [vI 4] [some (vR 41), some (vI 4)] dX4_parents_57 rfl c_X4_134 rfl kd_41 (by decide) rfl la_41 rfl (Nat.le_of_ble_eq_true rfl) rfl (Nat.le_of_ble_eq_true rfl) (by omega) (Nat.le_refl _) (Nat.le_refl _) ?_
        refine sp_isWord hP4.2.2.1 (by decide) (by omega) (fun h_4 => ?_) (fun h_4 => ?_)
        · refine wp_eqst (st' := [vI 1]) rfl ?_
          refine wp_if_ne (pc := 60) 65 dX4_parents_60 (by decide) (by decide) (fun _ => ?_) (fun hh => absurd hh (by decide))
          refine wp_aload_n (pc := 65) 0 dX4_parents_65 rfl rfl ?_
          refine wp_getr (pc := 66) dX4_parents_66 rfl f_X4_15 kd_44 la_44 rfl (r_44_0 D) ?_
          refine wp_callV (pc := 69) (st := []) (nf' := 153) [] [some (vR 41), none] dX4_parents_69 rfl c_X4_93 rfl kd_41 (by decide) rfl la_41 rfl (Nat.le_of_ble_eq_true rfl) rfl (Nat.le_of_ble_eq_true rfl) (by omega) (Nat.le_refl _) (Nat.le_refl _) ?_
          have n35 : ts b (te b (te b c)) ≠ 3 := (by first | exact n3_k (by omega) | exact n3_4 (by omega) | exact n3_w (by omega) | exact n3_s (by omega))
          refine sp_advance hP4.1.2.1 hP4.nx hP4.1.2.2.1 (hP4.2.2.1.2.2.2.1 n35) (by omega) (fun J5 M5 hFa5 hLa5 hTk5 => ?_)
          have hP5 := hP4.adv hP4.nx hFa5 hLa5 hTk5
          have hT_5 := hP5.2.2.2.1
          have hw_5 := hP5.tw
          have k4_5 := hP5.2.2.1.1
          have k5_5 := hP5.2.2.1.2.1
          have k6_5 := hP5.2.2.1.2.2.1.1
          have m4_5 := hP5.2.2.2.2.2.1
          have ki_5 := kC_in b (te b (te b (te b c)))
          have kw_5 := wi_in b (te b (te b (te b c)))
          have tr_5 := ts_rng b (te b (te b (te b c)))
          have l7_5 := hP5.2.2.1.2.2.2.2.1
          refine wp_eqst (st' := []) rfl ?_
          refine wp_aload_n (pc := 72) 0 dX4_parents_72 rfl rfl ?_
          refine wp_iconst (pc := 73) dX4_parents_73 ?_
          refine wp_iload_n (pc := 74) 1 dX4_parents_74 rfl rfl ?_
          refine wn_shl1 (pc := 75) (Int.toNat (prF b (te b c) (N 1) (nP T) 0)) dX4_parents_75 (by omega) (by omega) ?_
          refine wp_callV (pc := 76) (st := []) (nf' := 153) [vI ((2 ^ (Int.toNat (prF b (te b c) (N 1) (nP T) 0)) : Nat) : Int)] [some (vR 44), some (vI ((2 ^ (Int.toNat (prF b (te b c) (N 1) (nP T) 0)) : Nat) : Int)), none] dX4_parents_76 rfl c_X4_137 rfl kd_44 (by decide) rfl la_44 rfl (Nat.le_of_ble_eq_true rfl) rfl (Nat.le_of_ble_eq_true rfl) (by omega) (Nat.le_refl _) (Nat.le_refl _) ?_
          refine sp_takePerson (2 ^ (Int.toNat (prF b (te b c) (N 1) (nP T) 0))) rfl hP5 (by first | omega | exact Nat.lt_of_lt_of_le (two_lt (by omega)) (by decide) | exact Nat.lt_of_lt_of_le (or_lt (n := 8) (by omega) (two_lt (by omega))) (by decide)) (nn := nP T) rfl (by omega) (fun h_5 J6 M6 hF6 hL6 hP6 => ?_) (fun h_5 J7 M7 hF7 hL7 hE7 => ?_)
          · skip
            have pi6 := prF_in (b := b) (c := te b (te b (te b c))) (N := N 1) (n := nP T) (rep := 2 ^ (Int.toNat (prF b (te b c) (N 1) (nP T) 0)))
            have po6 := (prF_ok (b := b) (c := te b (te b (te b c))) (N := N 1) (n := nP T) (rep := 2 ^ (Int.toNat (prF b (te b c) (N 1) (nP T) 0))) (by assumption)).1
            have hT_6 := hP6.2.2.2.1
            have hw_6 := hP6.tw
            have k4_6 := hP6.2.2.1.1
            have k5_6 := hP6.2.2.1.2.1
            have k6_6 := hP6.2.2.1.2.2.1.1
            have m4_6 := hP6.2.2.2.2.2.1
            have ki_6 := kC_in b (te b (te b (te b (te b c))))
            have kw_6 := wi_in b (te b (te b (te b (te b c))))
            have tr_6 := ts_rng b (te b (te b (te b (te b c))))
            have l7_6 := hP6.2.2.1.2.2.2.2.1
            refine wp_eqst (st' := [vI (prF b (te b (te b (te b c))) (N 1) (nP T) (2 ^ (Int.toNat (prF b (te b c) (N 1) (nP T) 0))))]) rfl ?_
            refine wq_istore_n (pc := 79) 2 [some (vR 44), some (vI (prF b (te b c) (N 1) (nP T) 0)), some (vI (prF b (te b (te b (te b c))) (N 1) (nP T) (2 ^ (Int.toNat (prF b (te b c) (N 1) (nP T) 0)))))] dX4_parents_79 rfl rfl (by decide) rfl ?_
            refine wp_iload_n (pc := 80) 2 dX4_parents_80 rfl rfl ?_
            refine wp_iconst (pc := 81) dX4_parents_81 ?_
            refine wp_icmp_ne (pc := 82) 87 dX4_parents_82 (by decide) (by omega) (by decide) (fun h_6 => ?_) (fun h_6 => ?_)
            · refine wp_aload_n (pc := 87) 0 dX4_parents_87 rfl rfl ?_
              refine wp_getr (pc := 88) dX4_parents_88 rfl f_X4_19 kd_44 la_44 rfl (r_44_1 D) ?_
              refine wp_getr (pc := 91) dX4_parents_91 rfl f_X4_56 (tk_0 ht) (tl_0 ht) rfl (tr_0_9 D ht) ?_
              refine wp_getr (pc := 94) dX4_parents_94 rfl f_X4_144 (tk_10 ht) (tl_10 ht) rfl (tr_10_1 D ht) ?_
              refine wp_aload_n (pc := 97) 0 dX4_parents_97 rfl rfl ?_
              refine wp_getr (pc := 98) dX4_parents_98 rfl f_X4_19 kd_44 la_44 rfl (r_44_1 D) ?_
              refine wp_geti (pc := 101) dX4_parents_101 rfl f_X4_111 (tk_0 ht) (tl_0 ht) (Or.inl rfl) ?_
              refine wp_eqst (st' := [vI (T 0 12), vR ((D 2) + 12)]) (by rw [show J6 (D 2) 12 = (setT T 11 (nP T) (prF b (te b c) (N 1) (nP T) 0)) 0 12 from (by rw [← hT_6] <;> rfl), setT_k (by decide)]) ?_
              refine wp_iload_n (pc := 104) 2 dX4_parents_104 rfl rfl ?_
              refine wq_iast (pc := 105) (Int.toNat (T 0 12)) dX4_parents_105 (tk_12 ht) (tl_12 ht) (by omega) (by omega) ?_
              have hP8_ : PS (up J6 ((D 2) + 12) (Int.toNat (T 0 12)) (prF b (te b (te b (te b c))) (N 1) (nP T) (2 ^ (Int.toNat (prF b (te b c) (N 1) (nP T) 0))))) (M6) D b n (te b (te b (te b (te b c)))) (setT (setT T 11 (nP T) (prF b (te b c) (N 1) (nP T) 0)) 12 (nP T) (prF b (te b (te b (te b c))) (N 1) (nP T) (2 ^ (Int.toNat (prF b (te b c) (N 1) (nP T) 0))))) N mo := hP6.upT1 (k := 12) (by decide) (by unfold twB; omega) (fun e => absurd e (by decide)) (by first | exact Or.inl (by decide) | exact Or.inr (by decide))
              have hF8_ : Fp I (up J6 ((D 2) + 12) (Int.toNat (T 0 12)) (prF b (te b (te b (te b c))) (N 1) (nP T) (2 ^ (Int.toNat (prF b (te b c) (N 1) (nP T) 0))))) (D 2) := ((hF4.trans hFa5.p).trans hF6).upt ht (by omega)
              refine wp_gen (fun J => Fp I J (D 2) ∧ PS J (M6) D b n (te b (te b (te b (te b c)))) (setT (setT T 11 (nP T) (prF b (te b c) (N 1) (nP T) 0)) 12 (nP T) (prF b (te b (te b (te b c))) (N 1) (nP T) (2 ^ (Int.toNat (prF b (te b c) (N 1) (nP T) 0))))) N mo) ⟨hF8_, hP8_⟩ (fun J8 hJ8 => ?_)
              have hF8 := hJ8.1
              have hP8 := hJ8.2
              have hT_8 := hP8.2.2.2.1
              have hw_8 := hP8.tw
              have k4_8 := hP8.2.2.1.1
              have k5_8 := hP8.2.2.1.2.1
              have k6_8 := hP8.2.2.1.2.2.1.1
              have m4_8 := hP8.2.2.2.2.2.1
              have ki_8 := kC_in b (te b (te b (te b (te b c))))
              have kw_8 := wi_in b (te b (te b (te b (te b c))))
              have tr_8 := ts_rng b (te b (te b (te b (te b c))))
              have l7_8 := hP8.2.2.1.2.2.2.2.1
              refine wp_iconst (pc := 106) dX4_parents_106 ?_
              refine wp_zret (pc := 107) dX4_parents_107 rfl rfl (by decide) ?_
              exact h1 _ _ _ (by unfold parF; (repeat (first | rw [if_pos (by omega)] | rw [if_neg (by omega)])); first | done | rfl) _ _ hF8 ((((Lp.refl.trans hLa1.p).trans hL2).trans hLa5.p).trans hL6) hP8
            · refine wp_iconst (pc := 85) dX4_parents_85 ?_
              refine wp_zret (pc := 86) dX4_parents_86 rfl rfl (by decide) ?_
              exfalso; omega
          · skip
            refine wp_eqst (st' := [vI (-1)]) rfl ?_
            refine wq_istore_n (pc := 79) 2 [some (vR 44), some (vI (prF b (te b c) (N 1) (nP T) 0)), some (vI (-1))] dX4_parents_79 rfl rfl (by decide) rfl ?_
            refine wp_iload_n (pc := 80) 2 dX4_parents_80 rfl rfl ?_
            refine wp_iconst (pc := 81) dX4_parents_81 ?_
            refine wp_icmp_ne (pc := 82) 87 dX4_parents_82 (by decide) (by decide) (by decide) (fun hh => absurd hh (by decide)) (fun _ => ?_)
            refine wp_iconst (pc := 85) dX4_parents_85 ?_
            refine wp_zret (pc := 86) dX4_parents_86 rfl rfl (by decide) ?_
            exact h0 _ (by unfold parF; (repeat (first | rw [if_pos (by omega)] | rw [if_neg (by omega)])); first | done | rfl) _ _ ((hF4.trans hFa5.p).trans hF7) ((((Lp.refl.trans hLa1.p).trans hL2).trans hLa5.p).trans hL7) hE7
        · refine wp_eqst (st' := [vI 0]) rfl ?_
          refine wp_if_ne (pc := 60) 65 dX4_parents_60 (by decide) (by decide) (fun hh => absurd hh (by decide)) (fun _ => ?_)
          refine wp_iconst (pc := 63) dX4_parents_63 ?_
          refine wp_zret (pc := 64) dX4_parents_64 rfl rfl (by decide) ?_
          exact h1 _ _ _ (by unfold parF; (repeat (first | rw [if_pos (by omega)] | rw [if_neg (by omega)])); first | done | rfl) _ _ hF4 ((Lp.refl.trans hLa1.p).trans hL2) hP4
      · refine wp_iconst (pc := 31) dX4_parents_31 ?_
        refine wp_zret (pc := 32) dX4_parents_32 rfl rfl (by decide) ?_
        exfalso; omega
    · skip
      refine wp_eqst (st' := [vI (-1)]) rfl ?_
      refine wq_istore_n (pc := 25) 1 [some (vR 44), some (vI (-1)), none] dX4_parents_25 rfl rfl (by decide) rfl ?_
      refine wp_iload_n (pc := 26) 1 dX4_parents_26 rfl rfl ?_
      refine wp_iconst (pc := 27) dX4_parents_27 ?_
      refine wp_icmp_ne (pc := 28) 33 dX4_parents_28 (by decide) (by decide) (by decide) (fun hh => absurd hh (by decide)) (fun _ => ?_)
      refine wp_iconst (pc := 31) dX4_parents_31 ?_
      refine wp_zret (pc := 32) dX4_parents_32 rfl rfl (by decide) ?_
      exact h0 _ (by unfold parF; (repeat (first | rw [if_pos (by omega)] | rw [if_neg (by omega)])); first | done | rfl) _ _ ((Fp.refl.trans hFa1.p).trans hF3) ((Lp.refl.trans hLa1.p).trans hL3) hE3
  · refine wp_eqst (st' := [vI 0]) rfl ?_
    refine wp_if_ne (pc := 8) 13 dX4_parents_8 (by decide) (by decide) (fun hh => absurd hh (by decide)) (fun _ => ?_)
    refine wp_iconst (pc := 11) dX4_parents_11 ?_
    refine wp_zret (pc := 12) dX4_parents_12 rfl rfl (by decide) ?_
    exact h1 _ _ _ (by unfold parF; (repeat (first | rw [if_pos (by omega)] | rw [if_neg (by omega)])); first | done | rfl) _ _ Fp.refl Lp.refl hP
