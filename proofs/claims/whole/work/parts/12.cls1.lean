theorem sp_hasChurch {l : Launch} {G : mG} {d : Nat} {I : mI} {L : Nat → Nat → Int} {D : Nat → Nat} {Q : mQ} {t : Nat} {T : mT} {c : Int}  (ht : isT t) (hT : TT I t = T) (hw : tw T) (hc : inR c) (hd : 0 ≤ d) (h1 : 0 ≤ c ∧ c < T 0 11 → Q (some (vI 1)) I (XX L D)) (h0 : ¬ (0 ≤ c ∧ c < T 0 11) → Q (some (vI 0)) I (XX L D)) : WP l G m_X9_hasChurch d 153 I (XX L D) 0 [some (vR t), some (vI c)] [] Q := by
  have b := tw_c hw
  refine wp_iload_n (pc := 0) 1 dX9_hasChurch_0 rfl rfl ?_
  refine wp_if_lt (pc := 1) 16 dX9_hasChurch_1 (by decide) (by omega) (fun h_1 => ?_) (fun h_1 => ?_)
  · refine wp_iconst (pc := 16) dX9_hasChurch_16 ?_
    refine wp_zret (pc := 17) dX9_hasChurch_17 rfl rfl (by decide) ?_
    exact h0 (by omega)
  · refine wp_iload_n (pc := 4) 1 dX9_hasChurch_4 rfl rfl ?_
    refine wp_aload_n (pc := 5) 0 dX9_hasChurch_5 rfl rfl ?_
    refine wp_geti (pc := 6) dX9_hasChurch_6 rfl f_X9_61 (tk_0 ht) (tl_0 ht) (Or.inl rfl) ?_
    refine wp_eqst (st' := [vI (T 0 11), vI c]) (by rw [← hT] <;> rfl) ?_
    refine wp_icmp_ge (pc := 9) 16 dX9_hasChurch_9 (by decide) (by omega) (by omega) (fun h_2 => ?_) (fun h_2 => ?_)
    · refine wp_iconst (pc := 16) dX9_hasChurch_16 ?_
      refine wp_zret (pc := 17) dX9_hasChurch_17 rfl rfl (by decide) ?_
      exact h0 (by omega)
    · refine wp_iconst (pc := 12) dX9_hasChurch_12 ?_
      refine wp_goto (pc := 13) 17 dX9_hasChurch_13 (by decide) ?_
      refine wp_zret (pc := 17) dX9_hasChurch_17 rfl rfl (by decide) ?_
      exact h1 (by omega)

theorem sp_hasPerson {l : Launch} {G : mG} {d : Nat} {I : mI} {L : Nat → Nat → Int} {D : Nat → Nat} {Q : mQ} {t : Nat} {T : mT} {c : Int}  (ht : isT t) (hT : TT I t = T) (hw : tw T) (hc : inR c) (hd : 0 ≤ d) (h1 : 0 ≤ c ∧ c < T 0 12 → Q (some (vI 1)) I (XX L D)) (h0 : ¬ (0 ≤ c ∧ c < T 0 12) → Q (some (vI 0)) I (XX L D)) : WP l G m_X9_hasPerson d 153 I (XX L D) 0 [some (vR t), some (vI c)] [] Q := by
  have b := tw_p hw
  refine wp_iload_n (pc := 0) 1 dX9_hasPerson_0 rfl rfl ?_
  refine wp_if_lt (pc := 1) 16 dX9_hasPerson_1 (by decide) (by omega) (fun h_1 => ?_) (fun h_1 => ?_)
  · refine wp_iconst (pc := 16) dX9_hasPerson_16 ?_
    refine wp_zret (pc := 17) dX9_hasPerson_17 rfl rfl (by decide) ?_
    exact h0 (by omega)
  · refine wp_iload_n (pc := 4) 1 dX9_hasPerson_4 rfl rfl ?_
    refine wp_aload_n (pc := 5) 0 dX9_hasPerson_5 rfl rfl ?_
    refine wp_geti (pc := 6) dX9_hasPerson_6 rfl f_X9_64 (tk_0 ht) (tl_0 ht) (Or.inl rfl) ?_
    refine wp_eqst (st' := [vI (T 0 12), vI c]) (by rw [← hT] <;> rfl) ?_
    refine wp_icmp_ge (pc := 9) 16 dX9_hasPerson_9 (by decide) (by omega) (by omega) (fun h_2 => ?_) (fun h_2 => ?_)
    · refine wp_iconst (pc := 16) dX9_hasPerson_16 ?_
      refine wp_zret (pc := 17) dX9_hasPerson_17 rfl rfl (by decide) ?_
      exact h0 (by omega)
    · refine wp_iconst (pc := 12) dX9_hasPerson_12 ?_
      refine wp_goto (pc := 13) 17 dX9_hasPerson_13 (by decide) ?_
      refine wp_zret (pc := 17) dX9_hasPerson_17 rfl rfl (by decide) ?_
      exact h1 (by omega)

theorem sp_hasPair {l : Launch} {G : mG} {d : Nat} {I : mI} {L : Nat → Nat → Int} {D : Nat → Nat} {Q : mQ} {t : Nat} {T : mT} {c : Int}  (ht : isT t) (hT : TT I t = T) (hw : tw T) (hc : inR c) (hd : 0 ≤ d) (h1 : 0 ≤ c ∧ c < T 0 13 → Q (some (vI 1)) I (XX L D)) (h0 : ¬ (0 ≤ c ∧ c < T 0 13) → Q (some (vI 0)) I (XX L D)) : WP l G m_X9_hasPair d 153 I (XX L D) 0 [some (vR t), some (vI c)] [] Q := by
  have b := tw_q hw
  refine wp_iload_n (pc := 0) 1 dX9_hasPair_0 rfl rfl ?_
  refine wp_if_lt (pc := 1) 16 dX9_hasPair_1 (by decide) (by omega) (fun h_1 => ?_) (fun h_1 => ?_)
  · refine wp_iconst (pc := 16) dX9_hasPair_16 ?_
    refine wp_zret (pc := 17) dX9_hasPair_17 rfl rfl (by decide) ?_
    exact h0 (by omega)
  · refine wp_iload_n (pc := 4) 1 dX9_hasPair_4 rfl rfl ?_
    refine wp_aload_n (pc := 5) 0 dX9_hasPair_5 rfl rfl ?_
    refine wp_geti (pc := 6) dX9_hasPair_6 rfl f_X9_67 (tk_0 ht) (tl_0 ht) (Or.inl rfl) ?_
    refine wp_eqst (st' := [vI (T 0 13), vI c]) (by rw [← hT] <;> rfl) ?_
    refine wp_icmp_ge (pc := 9) 16 dX9_hasPair_9 (by decide) (by omega) (by omega) (fun h_2 => ?_) (fun h_2 => ?_)
    · refine wp_iconst (pc := 16) dX9_hasPair_16 ?_
      refine wp_zret (pc := 17) dX9_hasPair_17 rfl rfl (by decide) ?_
      exact h0 (by omega)
    · refine wp_iconst (pc := 12) dX9_hasPair_12 ?_
      refine wp_goto (pc := 13) 17 dX9_hasPair_13 (by decide) ?_
      refine wp_zret (pc := 17) dX9_hasPair_17 rfl rfl (by decide) ?_
      exact h1 (by omega)

theorem sp_isAway {l : Launch} {G : mG} {d : Nat} {I : mI} {L : Nat → Nat → Int} {D : Nat → Nat} {Q : mQ} {t : Nat} {T : mT} {c : Int} (p : Nat) {p_ : Int} (hp_ : p_ = (p : Int)) (ht : isT t) (hT : TT I t = T) (hw : tw T) (hp : p < 8) (hc : inR c) (hd : 0 ≤ d) (h1 : away T p c → Q (some (vI 1)) I (XX L D)) (h0 : ¬ (away T p c) → Q (some (vI 0)) I (XX L D)) : WP l G m_X9_isAway d 153 I (XX L D) 0 [some (vR t), some (vI p_), some (vI c)] [] Q := by
  subst hp_
  have b := tw_sails hw p
  refine wp_aload_n (pc := 0) 0 dX9_isAway_0 rfl rfl ?_
  refine wp_getr (pc := 1) dX9_isAway_1 rfl f_X9_22 (tk_0 ht) (tl_0 ht) rfl (tr_0_3 D ht) ?_
  refine wp_iload_n (pc := 4) 1 dX9_isAway_4 rfl rfl ?_
  refine wq_iald (pc := 5) p dX9_isAway_5 (tk_4 ht) (tl_4 ht) rfl (by omega) ?_
  refine wp_eqst (st' := [vI (T 4 p)]) (by rw [← hT] <;> rfl) ?_
  refine wp_if_le (pc := 6) 23 dX9_isAway_6 (by decide) (by omega) (fun h_1 => ?_) (fun h_1 => ?_)
  · refine wp_iconst (pc := 23) dX9_isAway_23 ?_
    refine wp_zret (pc := 24) dX9_isAway_24 rfl rfl (by decide) ?_
    exact h0 (by omega)
  · refine wp_iload_n (pc := 9) 2 dX9_isAway_9 rfl rfl ?_
    refine wp_aload_n (pc := 10) 0 dX9_isAway_10 rfl rfl ?_
    refine wp_getr (pc := 11) dX9_isAway_11 rfl f_X9_22 (tk_0 ht) (tl_0 ht) rfl (tr_0_3 D ht) ?_
    refine wp_iload_n (pc := 14) 1 dX9_isAway_14 rfl rfl ?_
    refine wq_iald (pc := 15) p dX9_isAway_15 (tk_4 ht) (tl_4 ht) rfl (by omega) ?_
    refine wp_eqst (st' := [vI (T 4 p), vI c]) (by rw [← hT] <;> rfl) ?_
    refine wp_icmp_lt (pc := 16) 23 dX9_isAway_16 (by decide) (by omega) (by omega) (fun h_2 => ?_) (fun h_2 => ?_)
    · refine wp_iconst (pc := 23) dX9_isAway_23 ?_
      refine wp_zret (pc := 24) dX9_isAway_24 rfl rfl (by decide) ?_
      exact h0 (by omega)
    · refine wp_iconst (pc := 19) dX9_isAway_19 ?_
      refine wp_goto (pc := 20) 24 dX9_isAway_20 (by decide) ?_
      refine wp_zret (pc := 24) dX9_isAway_24 rfl rfl (by decide) ?_
      exact h1 (by omega)

theorem sp_isPairAway {l : Launch} {G : mG} {d : Nat} {I : mI} {L : Nat → Nat → Int} {D : Nat → Nat} {Q : mQ} {t : Nat} {T : mT} {c : Int} (q : Nat) {q_ : Int} (hq_ : q_ = (q : Int)) (ht : isT t) (hT : TT I t = T) (hw : tw T) (hq : q < 5) (hc : inR c) (hd : 1 ≤ d) (h1 : pairAway T q c → Q (some (vI 1)) I (XX L D)) (h0 : ¬ (pairAway T q c) → Q (some (vI 0)) I (XX L D)) : WP l G m_X9_isPairAway d 153 I (XX L D) 0 [some (vR t), some (vI q_), some (vI c)] [] Q := by
  subst hq_
  have b := tw_one hw q
  have b2 := tw_other hw q
  refine wp_aload_n (pc := 0) 0 dX9_isPairAway_0 rfl rfl ?_
  refine wp_aload_n (pc := 1) 0 dX9_isPairAway_1 rfl rfl ?_
  refine wp_getr (pc := 2) dX9_isPairAway_2 rfl f_X9_28 (tk_0 ht) (tl_0 ht) rfl (tr_0_5 D ht) ?_
  refine wp_iload_n (pc := 5) 1 dX9_isPairAway_5 rfl rfl ?_
  refine wq_iald (pc := 6) q dX9_isPairAway_6 (tk_6 ht) (tl_6 ht) rfl (by omega) ?_
  refine wp_eqst (st' := [vI (T 6 q), vR t]) (by rw [← hT] <;> rfl) ?_
  refine wp_iload_n (pc := 7) 2 dX9_isPairAway_7 rfl rfl ?_
  refine wp_callV (pc := 8) (st := []) (nf' := 153) [vI (T 6 q), vI c] [some (vR t), some (vI (T 6 q)), some (vI c)] dX9_isPairAway_8 rfl c_X9_94 rfl (tk_0 ht) (by decide) rfl (tl_0 ht) rfl (Nat.le_of_ble_eq_true rfl) rfl (Nat.le_of_ble_eq_true rfl) (by omega) (Nat.le_refl _) (Nat.le_refl _) ?_
  refine sp_isAway (Int.toNat (T 6 q)) (by omega) ht hT hw (by omega) (by omega) (by omega) (fun h_1 => ?_) (fun h_1 => ?_)
  · refine wp_eqst (st' := [vI 1]) rfl ?_
    refine wp_if_ne (pc := 11) 28 dX9_isPairAway_11 (by decide) (by decide) (fun _ => ?_) (fun hh => absurd hh (by decide))
    refine wp_iconst (pc := 28) dX9_isPairAway_28 ?_
    refine wp_goto (pc := 29) 33 dX9_isPairAway_29 (by decide) ?_
    refine wp_zret (pc := 33) dX9_isPairAway_33 rfl rfl (by decide) ?_
    exact h1 (by first | exact Or.inl h_1 | exact Or.inr h_2)
  · refine wp_eqst (st' := [vI 0]) rfl ?_
    refine wp_if_ne (pc := 11) 28 dX9_isPairAway_11 (by decide) (by decide) (fun hh => absurd hh (by decide)) (fun _ => ?_)
    refine wp_aload_n (pc := 14) 0 dX9_isPairAway_14 rfl rfl ?_
    refine wp_aload_n (pc := 15) 0 dX9_isPairAway_15 rfl rfl ?_
    refine wp_getr (pc := 16) dX9_isPairAway_16 rfl f_X9_31 (tk_0 ht) (tl_0 ht) rfl (tr_0_6 D ht) ?_
    refine wp_iload_n (pc := 19) 1 dX9_isPairAway_19 rfl rfl ?_
    refine wq_iald (pc := 20) q dX9_isPairAway_20 (tk_7 ht) (tl_7 ht) rfl (by omega) ?_
    refine wp_eqst (st' := [vI (T 7 q), vR t]) (by rw [← hT] <;> rfl) ?_
    refine wp_iload_n (pc := 21) 2 dX9_isPairAway_21 rfl rfl ?_
    refine wp_callV (pc := 22) (st := []) (nf' := 153) [vI (T 7 q), vI c] [some (vR t), some (vI (T 7 q)), some (vI c)] dX9_isPairAway_22 rfl c_X9_94 rfl (tk_0 ht) (by decide) rfl (tl_0 ht) rfl (Nat.le_of_ble_eq_true rfl) rfl (Nat.le_of_ble_eq_true rfl) (by omega) (Nat.le_refl _) (Nat.le_refl _) ?_
    refine sp_isAway (Int.toNat (T 7 q)) (by omega) ht hT hw (by omega) (by omega) (by omega) (fun h_2 => ?_) (fun h_2 => ?_)
    · refine wp_eqst (st' := [vI 1]) rfl ?_
      refine wp_if_eq (pc := 25) 32 dX9_isPairAway_25 (by decide) (by decide) (fun hh => absurd hh (by decide)) (fun _ => ?_)
      refine wp_iconst (pc := 28) dX9_isPairAway_28 ?_
      refine wp_goto (pc := 29) 33 dX9_isPairAway_29 (by decide) ?_
      refine wp_zret (pc := 33) dX9_isPairAway_33 rfl rfl (by decide) ?_
      exact h1 (by first | exact Or.inl h_1 | exact Or.inr h_2)
    · refine wp_eqst (st' := [vI 0]) rfl ?_
      refine wp_if_eq (pc := 25) 32 dX9_isPairAway_25 (by decide) (by decide) (fun _ => ?_) (fun hh => absurd hh (by decide))
      refine wp_iconst (pc := 32) dX9_isPairAway_32 ?_
      refine wp_zret (pc := 33) dX9_isPairAway_33 rfl rfl (by decide) ?_
      exact h0 (fun z => z.elim h_1 h_2)

theorem sp_pairMask {l : Launch} {G : mG} {d : Nat} {I : mI} {L : Nat → Nat → Int} {D : Nat → Nat} {Q : mQ} {t : Nat} {T : mT} (q : Nat) {q_ : Int} (hq_ : q_ = (q : Int)) (ht : isT t) (hT : TT I t = T) (hw : tw T) (hq : q < 5) (hd : 0 ≤ d) (hQ : Q (some (vI ((pm T q : Int)))) I (XX L D)) : WP l G m_X9_pairMask d 153 I (XX L D) 0 [some (vR t), some (vI q_)] [] Q := by
  subst hq_
  have b := tw_one hw q
  have b2 := tw_other hw q
  refine wp_iconst (pc := 0) dX9_pairMask_0 ?_
  refine wp_aload_n (pc := 1) 0 dX9_pairMask_1 rfl rfl ?_
  refine wp_getr (pc := 2) dX9_pairMask_2 rfl f_X9_28 (tk_0 ht) (tl_0 ht) rfl (tr_0_5 D ht) ?_
  refine wp_iload_n (pc := 5) 1 dX9_pairMask_5 rfl rfl ?_
  refine wq_iald (pc := 6) q dX9_pairMask_6 (tk_6 ht) (tl_6 ht) rfl (by omega) ?_
  refine wp_eqst (st' := [vI (T 6 q), vI 1]) (by rw [← hT] <;> rfl) ?_
  refine wn_shl1 (pc := 7) (Int.toNat (T 6 q)) dX9_pairMask_7 (by omega) (by omega) ?_
  refine wp_iconst (pc := 8) dX9_pairMask_8 ?_
  refine wp_aload_n (pc := 9) 0 dX9_pairMask_9 rfl rfl ?_
  refine wp_getr (pc := 10) dX9_pairMask_10 rfl f_X9_31 (tk_0 ht) (tl_0 ht) rfl (tr_0_6 D ht) ?_
  refine wp_iload_n (pc := 13) 1 dX9_pairMask_13 rfl rfl ?_
  refine wq_iald (pc := 14) q dX9_pairMask_14 (tk_7 ht) (tl_7 ht) rfl (by omega) ?_
  refine wp_eqst (st' := [vI (T 7 q), vI 1, vI ((2 ^ (Int.toNat (T 6 q)) : Nat) : Int)]) (by rw [← hT] <;> rfl) ?_
  refine wn_shl1 (pc := 15) (Int.toNat (T 7 q)) dX9_pairMask_15 (by omega) (by omega) ?_
  refine wn_or (pc := 16) (2 ^ (Int.toNat (T 6 q))) (2 ^ (Int.toNat (T 7 q))) dX9_pairMask_16 rfl rfl ?_
  refine wp_iret (pc := 17) dX9_pairMask_17 rfl rfl ?_
  exact hQ

theorem sp_isWithin {l : Launch} {G : mG} {d : Nat} {I : mI} {L : Nat → Nat → Int} {D : Nat → Nat} {Q : mQ} {t : Nat} {T : mT} {c : Int} (p : Nat) {p_ : Int} (hp_ : p_ = (p : Int)) (q : Nat) {q_ : Int} (hq_ : q_ = (q : Int)) (ht : isT t) (hT : TT I t = T) (hw : tw T) (hp : p < 8) (hq : q < 8) (hc : inR c) (hd : 0 ≤ d) (h1 : kinW T p q c → Q (some (vI 1)) I (XX L D)) (h0 : ¬ (kinW T p q c) → Q (some (vI 0)) I (XX L D)) : WP l G m_X0_isWithin d 153 I (XX L D) 0 [some (vR (t + 10)), some (vI p_), some (vI q_), some (vI c), none] [] Q := by
  subst hp_
  subst hq_
  have b := tw_degs hw (p * 8 + q)
  refine wp_aload_n (pc := 0) 0 dX0_isWithin_0 rfl rfl ?_
  refine wp_getr (pc := 1) dX0_isWithin_1 rfl f_X0_27 (tk_10 ht) (tl_10 ht) rfl (tr_10_5 D ht) ?_
  refine wp_iload_n (pc := 4) 1 dX0_isWithin_4 rfl rfl ?_
  refine wp_bipush (pc := 5) dX0_isWithin_5 (by decide) ?_
  refine wp_imul (pc := 7) dX0_isWithin_7 ?_
  refine wp_iload_n (pc := 8) 2 dX0_isWithin_8 rfl rfl ?_
  refine wp_iadd (pc := 9) dX0_isWithin_9 ?_
  refine wq_iald (pc := 10) ((p * 8) + q) dX0_isWithin_10 (tk_16 ht) (tl_16 ht) (by omega) (by omega) ?_
  refine wp_eqst (st' := [vI (T 16 ((p * 8) + q))]) (by rw [← hT] <;> rfl) ?_
  refine wq_istore (pc := 11) [some (vR (t + 10)), some (vI (p : Int)), some (vI (q : Int)), some (vI c), some (vI (T 16 ((p * 8) + q)))] dX0_isWithin_11 rfl (by decide) rfl ?_
  refine wp_iload (pc := 13) dX0_isWithin_13 rfl ?_
  refine wp_iconst (pc := 15) dX0_isWithin_15 ?_
  refine wp_icmp_eq (pc := 16) 29 dX0_isWithin_16 (by decide) (by omega) (by decide) (fun h_1 => ?_) (fun h_1 => ?_)
  · refine wp_iconst (pc := 29) dX0_isWithin_29 ?_
    refine wp_zret (pc := 30) dX0_isWithin_30 rfl rfl (by decide) ?_
    exact h0 (by omega)
  · refine wp_iload (pc := 19) dX0_isWithin_19 rfl ?_
    refine wp_iload_n (pc := 21) 3 dX0_isWithin_21 rfl rfl ?_
    refine wp_icmp_gt (pc := 22) 29 dX0_isWithin_22 (by decide) (by omega) (by omega) (fun h_2 => ?_) (fun h_2 => ?_)
    · refine wp_iconst (pc := 29) dX0_isWithin_29 ?_
      refine wp_zret (pc := 30) dX0_isWithin_30 rfl rfl (by decide) ?_
      exact h0 (by omega)
    · refine wp_iconst (pc := 25) dX0_isWithin_25 ?_
      refine wp_goto (pc := 26) 30 dX0_isWithin_26 (by decide) ?_
      refine wp_zret (pc := 30) dX0_isWithin_30 rfl rfl (by decide) ?_
      exact h1 (by omega)

theorem sp_isReadIn {l : Launch} {G : mG} {d : Nat} {I : mI} {L : Nat → Nat → Int} {D : Nat → Nat} {Q : mQ} {s : Nat} {S : mS} {B c : Int} (q : Nat) {q_ : Int} (hq_ : q_ = (q : Int)) (hs : isS s) (hS : SS I s = S) (hv : sw S B) (hq : q < 5) (hc : inR c) (hd : 1 ≤ d) (h1 : S (13 + q) = c ∨ S (18 + q) = c → Q (some (vI 1)) I (XX L D)) (h0 : ¬ (S (13 + q) = c ∨ S (18 + q) = c) → Q (some (vI 0)) I (XX L D)) : WP l G m_X7_isReadIn d 153 I (XX L D) 0 [some (vR s), some (vI q_), some (vI c)] [] Q := by
  subst hq_
  have b1 := sw_c1 hv hq
  have b2 := sw_c2 hv hq
  refine wp_aload_n (pc := 0) 0 dX7_isReadIn_0 rfl rfl ?_
  refine wp_iload_n (pc := 1) 1 dX7_isReadIn_1 rfl rfl ?_
  refine wp_callV (pc := 2) (st := []) (nf' := 153) [vI (q : Int)] [some (vR s), some (vI (q : Int))] dX7_isReadIn_2 rfl c_X7_46 rfl (sk_0 hs) (by decide) rfl (sl_0 hs) rfl (Nat.le_of_ble_eq_true rfl) rfl (Nat.le_of_ble_eq_true rfl) (by omega) (Nat.le_refl _) (Nat.le_refl _) ?_
  refine wp_aload_n (pc := 0) 0 dX7_churchOne_0 rfl rfl ?_
  refine wp_getr (pc := 1) dX7_churchOne_1 rfl f_X7_11 (sk_0 hs) (sl_0 hs) rfl (sr_0_0 D hs) ?_
  refine wp_bipush (pc := 4) dX7_churchOne_4 (by decide) ?_
  refine wp_iload_n (pc := 6) 1 dX7_churchOne_6 rfl rfl ?_
  refine wp_iadd (pc := 7) dX7_churchOne_7 ?_
  refine wq_iald (pc := 8) (13 + q) dX7_churchOne_8 (sk_1 hs) (sl_1 hs) (by omega) (by omega) ?_
  refine wp_eqst (st' := [vI (S (13 + q))]) (by rw [← hS] <;> rfl) ?_
  refine wp_iret (pc := 9) dX7_churchOne_9 rfl rfl ?_
  refine wp_eqst (st' := [vI (S (13 + q))]) rfl ?_
  refine wp_iload_n (pc := 5) 2 dX7_isReadIn_5 rfl rfl ?_
  refine wp_icmp_eq (pc := 6) 18 dX7_isReadIn_6 (by decide) (by omega) (by omega) (fun h_1 => ?_) (fun h_1 => ?_)
  · refine wp_iconst (pc := 18) dX7_isReadIn_18 ?_
    refine wp_goto (pc := 19) 23 dX7_isReadIn_19 (by decide) ?_
    refine wp_zret (pc := 23) dX7_isReadIn_23 rfl rfl (by decide) ?_
    exact h1 (by omega)
  · refine wp_aload_n (pc := 9) 0 dX7_isReadIn_9 rfl rfl ?_
    refine wp_iload_n (pc := 10) 1 dX7_isReadIn_10 rfl rfl ?_
    refine wp_callV (pc := 11) (st := []) (nf' := 153) [vI (q : Int)] [some (vR s), some (vI (q : Int))] dX7_isReadIn_11 rfl c_X7_48 rfl (sk_0 hs) (by decide) rfl (sl_0 hs) rfl (Nat.le_of_ble_eq_true rfl) rfl (Nat.le_of_ble_eq_true rfl) (by omega) (Nat.le_refl _) (Nat.le_refl _) ?_
    refine wp_aload_n (pc := 0) 0 dX7_churchOther_0 rfl rfl ?_
    refine wp_getr (pc := 1) dX7_churchOther_1 rfl f_X7_11 (sk_0 hs) (sl_0 hs) rfl (sr_0_0 D hs) ?_
    refine wp_bipush (pc := 4) dX7_churchOther_4 (by decide) ?_
    refine wp_iload_n (pc := 6) 1 dX7_churchOther_6 rfl rfl ?_
    refine wp_iadd (pc := 7) dX7_churchOther_7 ?_
    refine wq_iald (pc := 8) (18 + q) dX7_churchOther_8 (sk_1 hs) (sl_1 hs) (by omega) (by omega) ?_
    refine wp_eqst (st' := [vI (S (18 + q))]) (by rw [← hS] <;> rfl) ?_
    refine wp_iret (pc := 9) dX7_churchOther_9 rfl rfl ?_
    refine wp_eqst (st' := [vI (S (18 + q))]) rfl ?_
    refine wp_iload_n (pc := 14) 2 dX7_isReadIn_14 rfl rfl ?_
    refine wp_icmp_ne (pc := 15) 22 dX7_isReadIn_15 (by decide) (by omega) (by omega) (fun h_2 => ?_) (fun h_2 => ?_)
    · refine wp_iconst (pc := 22) dX7_isReadIn_22 ?_
      refine wp_zret (pc := 23) dX7_isReadIn_23 rfl rfl (by decide) ?_
      exact h0 (by omega)
    · refine wp_iconst (pc := 18) dX7_isReadIn_18 ?_
      refine wp_goto (pc := 19) 23 dX7_isReadIn_19 (by decide) ?_
      refine wp_zret (pc := 23) dX7_isReadIn_23 rfl rfl (by decide) ?_
      exact h1 (by omega)

theorem lp_wedBeside {l : Launch} {G : mG} {d : Nat} {I : mI} {L : Nat → Nat → Int} {D : Nat → Nat} {Q : mQ} {s : Nat} {T : mT} {S : mS} {B : Int} {ex : Int} (h3 : isT (D 3)) (hs : isS s) (hT : TT I (D 3) = T) (hS : SS I s = S) (hw : tw T) (hv : sw S B) (hx : inR ex) (hd : 1 ≤ d) (hQ : Q (some (vI ((wedB T S ex : Int)))) I (XX L D)) : ∀ i : Nat, i ≤ nQ T → WP l G m_X3_wedBeside d 153 I (XX L D) 5 [some (vR 45), some (vR s), some (vI ex), some (vI ((wedM T S ex i : Nat) : Int)), some (vI (i : Int))] [] Q := by
  have b0 := tw_q hw
  have eN : nQ T = (T 0 13).toNat := rfl
  refine loop_dn (fun i => WP l G m_X3_wedBeside d 153 I (XX L D) 5 [some (vR 45), some (vR s), some (vI ex), some (vI ((wedM T S ex i : Nat) : Int)), some (vI (i : Int))] [] Q) (nQ T) ?_ (fun i hi ih => ?_)
  · refine wp_iload (pc := 5) dX3_wedBeside_5 rfl ?_
    refine wp_aload_n (pc := 7) 0 dX3_wedBeside_7 rfl rfl ?_
    refine wp_getr (pc := 8) dX3_wedBeside_8 rfl f_X3_15 kd_45 la_45 rfl (r_45_1 D) ?_
    refine wp_geti (pc := 11) dX3_wedBeside_11 rfl f_X3_19 (tk_0 h3) (tl_0 h3) (Or.inl rfl) ?_
    refine wp_eqst (st' := [vI (T 0 13), vI (((nQ T) : Nat) : Int)]) (by rw [← hT] <;> rfl) ?_
    refine wp_icmp_ge (pc := 14) 51 dX3_wedBeside_14 (by decide) (by omega) (by omega) (fun h_1 => ?_) (fun h_1 => ?_)
    · refine wp_iload_n (pc := 51) 3 dX3_wedBeside_51 rfl rfl ?_
      refine wp_iret (pc := 52) dX3_wedBeside_52 rfl rfl ?_
      exact hQ
    · exfalso; omega
  · have b2 := sw_stat hv (j := i) (by omega)
    refine wp_iload (pc := 5) dX3_wedBeside_5 rfl ?_
    refine wp_aload_n (pc := 7) 0 dX3_wedBeside_7 rfl rfl ?_
    refine wp_getr (pc := 8) dX3_wedBeside_8 rfl f_X3_15 kd_45 la_45 rfl (r_45_1 D) ?_
    refine wp_geti (pc := 11) dX3_wedBeside_11 rfl f_X3_19 (tk_0 h3) (tl_0 h3) (Or.inl rfl) ?_
    refine wp_eqst (st' := [vI (T 0 13), vI (i : Int)]) (by rw [← hT] <;> rfl) ?_
    refine wp_icmp_ge (pc := 14) 51 dX3_wedBeside_14 (by decide) (by omega) (by omega) (fun h_1 => ?_) (fun h_1 => ?_)
    · exfalso; omega
    · refine wp_iload (pc := 17) dX3_wedBeside_17 rfl ?_
      refine wp_iload_n (pc := 19) 2 dX3_wedBeside_19 rfl rfl ?_
      refine wp_icmp_eq (pc := 20) 45 dX3_wedBeside_20 (by decide) (by omega) (by omega) (fun h_2 => ?_) (fun h_2 => ?_)
      · refine wq_iinc (pc := 45) [some (vR 45), some (vR s), some (vI ex), some (vI ((wedM T S ex i : Nat) : Int)), some (vI ((i : Int) + 1))] dX3_wedBeside_45 rfl rfl (by decide) rfl ?_
        refine wp_goto (pc := 48) 5 dX3_wedBeside_48 (by decide) ?_
        refine wp_eqls (ls' := [some (vR 45), some (vR s), some (vI ex), some (vI ((wedM T S ex (i + 1) : Nat) : Int)), some (vI (((i + 1) : Nat) : Int))]) (by rw [wedM]; first | (rw [if_pos (by constructor <;> omega)]; rfl) | (rw [if_neg (by omega)]; rfl)) ih
      · refine wp_aload_n (pc := 23) 1 dX3_wedBeside_23 rfl rfl ?_
        refine wp_iload (pc := 24) dX3_wedBeside_24 rfl ?_
        refine wp_callV (pc := 26) (st := []) (nf' := 153) [vI (i : Int)] [some (vR s), some (vI (i : Int))] dX3_wedBeside_26 rfl c_X3_25 rfl (sk_0 hs) (by decide) rfl (sl_0 hs) rfl (Nat.le_of_ble_eq_true rfl) rfl (Nat.le_of_ble_eq_true rfl) (by omega) (Nat.le_refl _) (Nat.le_refl _) ?_
        refine wp_aload_n (pc := 0) 0 dX7_status_0 rfl rfl ?_
        refine wp_getr (pc := 1) dX7_status_1 rfl f_X7_11 (sk_0 hs) (sl_0 hs) rfl (sr_0_0 D hs) ?_
        refine wp_bipush (pc := 4) dX7_status_4 (by decide) ?_
        refine wp_iload_n (pc := 6) 1 dX7_status_6 rfl rfl ?_
        refine wp_iadd (pc := 7) dX7_status_7 ?_
        refine wq_iald (pc := 8) (8 + i) dX7_status_8 (sk_1 hs) (sl_1 hs) (by omega) (by omega) ?_
        refine wp_eqst (st' := [vI (S (8 + i))]) (by rw [← hS] <;> rfl) ?_
        refine wp_iret (pc := 9) dX7_status_9 rfl rfl ?_
        refine wp_eqst (st' := [vI (S (8 + i))]) rfl ?_
        refine wp_iconst (pc := 29) dX3_wedBeside_29 ?_
        refine wp_icmp_ne (pc := 30) 45 dX3_wedBeside_30 (by decide) (by omega) (by decide) (fun h_3 => ?_) (fun h_3 => ?_)
        · refine wq_iinc (pc := 45) [some (vR 45), some (vR s), some (vI ex), some (vI ((wedM T S ex i : Nat) : Int)), some (vI ((i : Int) + 1))] dX3_wedBeside_45 rfl rfl (by decide) rfl ?_
          refine wp_goto (pc := 48) 5 dX3_wedBeside_48 (by decide) ?_
          refine wp_eqls (ls' := [some (vR 45), some (vR s), some (vI ex), some (vI ((wedM T S ex (i + 1) : Nat) : Int)), some (vI (((i + 1) : Nat) : Int))]) (by rw [wedM]; first | (rw [if_pos (by constructor <;> omega)]; rfl) | (rw [if_neg (by omega)]; rfl)) ih
        · refine wp_iload_n (pc := 33) 3 dX3_wedBeside_33 rfl rfl ?_
          refine wp_aload_n (pc := 34) 0 dX3_wedBeside_34 rfl rfl ?_
          refine wp_getr (pc := 35) dX3_wedBeside_35 rfl f_X3_15 kd_45 la_45 rfl (r_45_1 D) ?_
          refine wp_iload (pc := 38) dX3_wedBeside_38 rfl ?_
          refine wp_callV (pc := 40) (st := [vI ((wedM T S ex i : Nat) : Int)]) (nf' := 153) [vI (i : Int)] [some (vR (D 3)), some (vI (i : Int))] dX3_wedBeside_40 rfl c_X3_37 rfl (tk_0 h3) (by decide) rfl (tl_0 h3) rfl (Nat.le_of_ble_eq_true rfl) rfl (Nat.le_of_ble_eq_true rfl) (by omega) (Nat.le_refl _) (Nat.le_refl _) ?_
          refine sp_pairMask i rfl h3 hT hw (by omega) (by omega) ?_
          refine wp_eqst (st' := [vI ((pm T i : Nat) : Int), vI ((wedM T S ex i : Nat) : Int)]) rfl ?_
          refine wn_or (pc := 43) (wedM T S ex i) (pm T i) dX3_wedBeside_43 rfl rfl ?_
          refine wq_istore_n (pc := 44) 3 [some (vR 45), some (vR s), some (vI ex), some (vI (((wedM T S ex i) ||| (pm T i) : Nat) : Int)), some (vI (i : Int))] dX3_wedBeside_44 rfl rfl (by decide) rfl ?_
          refine wq_iinc (pc := 45) [some (vR 45), some (vR s), some (vI ex), some (vI (((wedM T S ex i) ||| (pm T i) : Nat) : Int)), some (vI ((i : Int) + 1))] dX3_wedBeside_45 rfl rfl (by decide) rfl ?_
          refine wp_goto (pc := 48) 5 dX3_wedBeside_48 (by decide) ?_
          refine wp_eqls (ls' := [some (vR 45), some (vR s), some (vI ex), some (vI ((wedM T S ex (i + 1) : Nat) : Int)), some (vI (((i + 1) : Nat) : Int))]) (by rw [wedM]; first | (rw [if_pos (by constructor <;> omega)]; rfl) | (rw [if_neg (by omega)]; rfl)) ih

theorem sp_wedBeside {l : Launch} {G : mG} {d : Nat} {I : mI} {L : Nat → Nat → Int} {D : Nat → Nat} {Q : mQ} {s : Nat} {T : mT} {S : mS} {B : Int} {ex : Int}  (h3 : isT (D 3)) (hs : isS s) (hT : TT I (D 3) = T) (hS : SS I s = S) (hw : tw T) (hv : sw S B) (hx : inR ex) (hd : 1 ≤ d) (hQ : Q (some (vI ((wedB T S ex : Int)))) I (XX L D)) : WP l G m_X3_wedBeside d 153 I (XX L D) 0 [some (vR 45), some (vR s), some (vI ex), none, none] [] Q := by
  refine wp_iconst (pc := 0) dX3_wedBeside_0 ?_
  refine wq_istore_n (pc := 1) 3 [some (vR 45), some (vR s), some (vI ex), some (vI 0), none] dX3_wedBeside_1 rfl rfl (by decide) rfl ?_
  refine wp_iconst (pc := 2) dX3_wedBeside_2 ?_
  refine wq_istore (pc := 3) [some (vR 45), some (vR s), some (vI ex), some (vI 0), some (vI 0)] dX3_wedBeside_3 rfl (by decide) rfl ?_
  exact lp_wedBeside h3 hs hT hS hw hv hx hd hQ 0 (Nat.zero_le _)

theorem sp_barBetween {l : Launch} {G : mG} {d : Nat} {I : mI} {L : Nat → Nat → Int} {D : Nat → Nat} {Q : mQ} {s : Nat} {T : mT} {S : mS} {B : Int} {ex : Int} (a : Nat) {a_ : Int} (ha_ : a_ = (a : Int)) (b : Nat) {b_ : Int} (hb_ : b_ = (b : Int)) (h3 : isT (D 3)) (hs : isS s) (hT : TT I (D 3) = T) (hS : SS I s = S) (hw : tw T) (hv : sw S B) (hx : inR ex) (ha : a < 8) (hb : b < 8) (hd : 2 ≤ d) (hQ : Q (some (vI (barF T S a b ex))) I (XX L D)) : WP l G m_X3_barBetween d 153 I (XX L D) 0 [some (vR 45), some (vR s), some (vI a_), some (vI b_), some (vI ex), none] [] Q := by
  subst ha_
  subst hb_
  have b1 := tw_deg hw
  have b2 := tw_vows hw
  have b3 : (T 0 14).toNat &&& (2 ^ a ||| 2 ^ b) < 256 := Nat.lt_of_le_of_lt Nat.and_le_right (two_lt2 ha hb)
  have b4 : wedB T S ex &&& (2 ^ a ||| 2 ^ b) < 256 := Nat.lt_of_le_of_lt Nat.and_le_right (two_lt2 ha hb)
  refine wp_iconst (pc := 0) dX3_barBetween_0 ?_
  refine wp_iload_n (pc := 1) 2 dX3_barBetween_1 rfl rfl ?_
  refine wn_shl1 (pc := 2) a dX3_barBetween_2 rfl (by omega) ?_
  refine wp_iconst (pc := 3) dX3_barBetween_3 ?_
  refine wp_iload_n (pc := 4) 3 dX3_barBetween_4 rfl rfl ?_
  refine wn_shl1 (pc := 5) b dX3_barBetween_5 rfl (by omega) ?_
  refine wn_or (pc := 6) (2 ^ a) (2 ^ b) dX3_barBetween_6 rfl rfl ?_
  refine wq_istore (pc := 7) [some (vR 45), some (vR s), some (vI (a : Int)), some (vI (b : Int)), some (vI ex), some (vI (((2 ^ a) ||| (2 ^ b) : Nat) : Int))] dX3_barBetween_7 rfl (by decide) rfl ?_
  refine wp_aload_n (pc := 9) 0 dX3_barBetween_9 rfl rfl ?_
  refine wp_getr (pc := 10) dX3_barBetween_10 rfl f_X3_15 kd_45 la_45 rfl (r_45_1 D) ?_
  refine wp_getr (pc := 13) dX3_barBetween_13 rfl f_X3_44 (tk_0 h3) (tl_0 h3) rfl (tr_0_9 D h3) ?_
  refine wp_iload_n (pc := 16) 2 dX3_barBetween_16 rfl rfl ?_
  refine wp_iload_n (pc := 17) 3 dX3_barBetween_17 rfl rfl ?_
  refine wp_aload_n (pc := 18) 0 dX3_barBetween_18 rfl rfl ?_
  refine wp_getr (pc := 19) dX3_barBetween_19 rfl f_X3_15 kd_45 la_45 rfl (r_45_1 D) ?_
  refine wp_geti (pc := 22) dX3_barBetween_22 rfl f_X3_48 (tk_0 h3) (tl_0 h3) (Or.inl rfl) ?_
  refine wp_eqst (st' := [vI (T 0 15), vI (b : Int), vI (a : Int), vR ((D 3) + 10)]) (by rw [← hT] <;> rfl) ?_
  refine wp_callV (pc := 25) (st := []) (nf' := 153) [vI (a : Int), vI (b : Int), vI (T 0 15)] [some (vR ((D 3) + 10)), some (vI (a : Int)), some (vI (b : Int)), some (vI (T 0 15)), none] dX3_barBetween_25 rfl c_X3_51 rfl (tk_10 h3) (by decide) rfl (tl_10 h3) rfl (Nat.le_of_ble_eq_true rfl) rfl (Nat.le_of_ble_eq_true rfl) (by omega) (Nat.le_refl _) (Nat.le_refl _) ?_
  refine sp_isWithin a rfl b rfl h3 hT hw (by omega) (by omega) (by omega) (by omega) (fun h_1 => ?_) (fun h_1 => ?_)
  · refine wp_eqst (st' := [vI 1]) rfl ?_
    refine wp_if_eq (pc := 28) 33 dX3_barBetween_28 (by decide) (by decide) (fun hh => absurd hh (by decide)) (fun _ => ?_)
    refine wp_iconst (pc := 31) dX3_barBetween_31 ?_
    refine wp_iret (pc := 32) dX3_barBetween_32 rfl rfl ?_
    have e : barF T S a b ex = 1 := barF_1 h_1
    rw [e] at hQ; exact hQ
  · refine wp_eqst (st' := [vI 0]) rfl ?_
    refine wp_if_eq (pc := 28) 33 dX3_barBetween_28 (by decide) (by decide) (fun _ => ?_) (fun hh => absurd hh (by decide))
    refine wp_aload_n (pc := 33) 0 dX3_barBetween_33 rfl rfl ?_
    refine wp_getr (pc := 34) dX3_barBetween_34 rfl f_X3_15 kd_45 la_45 rfl (r_45_1 D) ?_
    refine wp_geti (pc := 37) dX3_barBetween_37 rfl f_X3_57 (tk_0 h3) (tl_0 h3) (Or.inl rfl) ?_
    refine wp_eqst (st' := [vI (T 0 14)]) (by rw [← hT] <;> rfl) ?_
    refine wp_iload (pc := 40) dX3_barBetween_40 rfl ?_
    refine wn_and (pc := 42) (Int.toNat (T 0 14)) ((2 ^ a) ||| (2 ^ b)) dX3_barBetween_42 (by omega) rfl ?_
    refine wp_if_eq (pc := 43) 48 dX3_barBetween_43 (by decide) (by omega) (fun h_2 => ?_) (fun h_2 => ?_)
    · refine wp_aload_n (pc := 48) 0 dX3_barBetween_48 rfl rfl ?_
      refine wp_aload_n (pc := 49) 1 dX3_barBetween_49 rfl rfl ?_
      refine wp_iload (pc := 50) dX3_barBetween_50 rfl ?_
      refine wp_callV (pc := 52) (st := []) (nf' := 153) [vR s, vI ex] [some (vR 45), some (vR s), some (vI ex), none, none] dX3_barBetween_52 rfl c_X3_60 rfl kd_45 (by decide) rfl la_45 rfl (Nat.le_of_ble_eq_true rfl) rfl (Nat.le_of_ble_eq_true rfl) (by omega) (Nat.le_refl _) (Nat.le_refl _) ?_
      refine sp_wedBeside h3 hs hT hS hw hv (by omega) (by omega) ?_
      refine wp_eqst (st' := [vI ((wedB T S ex : Nat) : Int)]) rfl ?_
      refine wp_iload (pc := 55) dX3_barBetween_55 rfl ?_
      refine wn_and (pc := 57) (wedB T S ex) ((2 ^ a) ||| (2 ^ b)) dX3_barBetween_57 rfl rfl ?_
      refine wp_if_eq (pc := 58) 65 dX3_barBetween_58 (by decide) (by omega) (fun h_3 => ?_) (fun h_3 => ?_)
      · refine wp_iconst (pc := 65) dX3_barBetween_65 ?_
        refine wp_iret (pc := 66) dX3_barBetween_66 rfl rfl ?_
        have e : barF T S a b ex = 0 := barF_0 h_1 h_2 h_3
        rw [e] at hQ; exact hQ
      · refine wp_iconst (pc := 61) dX3_barBetween_61 ?_
        refine wp_goto (pc := 62) 66 dX3_barBetween_62 (by decide) ?_
        refine wp_iret (pc := 66) dX3_barBetween_66 rfl rfl ?_
        have e : barF T S a b ex = 3 := barF_3 h_1 h_2 h_3
        rw [e] at hQ; exact hQ
    · refine wp_iconst (pc := 46) dX3_barBetween_46 ?_
      refine wp_iret (pc := 47) dX3_barBetween_47 rfl rfl ?_
      have e : barF T S a b ex = 2 := barF_2 h_1 h_2
      rw [e] at hQ; exact hQ

theorem lp_sittersIn {l : Launch} {G : mG} {d : Nat} {I : mI} {L : Nat → Nat → Int} {D : Nat → Nat} {Q : mQ} {s : Nat} {T : mT} {S : mS} {B : Int} {c : Int} (h3 : isT (D 3)) (hs : isS s) (hT : TT I (D 3) = T) (hS : SS I s = S) (hw : tw T) (hv : sw S B) (hc : inR c) (hd : 1 ≤ d) (hQ : Q (some (vI ((sitters T S c : Int)))) I (XX L D)) : ∀ i : Nat, i ≤ nP T → WP l G m_X3_sittersIn d 153 I (XX L D) 5 [some (vR 45), some (vR s), some (vI c), some (vI ((setOf (fun p => decide (S p = c)) i : Nat) : Int)), some (vI (i : Int))] [] Q := by
  have b0 := tw_p hw
  have eN : nP T = (T 0 12).toNat := rfl
  refine loop_dn (fun i => WP l G m_X3_sittersIn d 153 I (XX L D) 5 [some (vR 45), some (vR s), some (vI c), some (vI ((setOf (fun p => decide (S p = c)) i : Nat) : Int)), some (vI (i : Int))] [] Q) (nP T) ?_ (fun i hi ih => ?_)
  · refine wp_iload (pc := 5) dX3_sittersIn_5 rfl ?_
    refine wp_aload_n (pc := 7) 0 dX3_sittersIn_7 rfl rfl ?_
    refine wp_getr (pc := 8) dX3_sittersIn_8 rfl f_X3_15 kd_45 la_45 rfl (r_45_1 D) ?_
    refine wp_geti (pc := 11) dX3_sittersIn_11 rfl f_X3_64 (tk_0 h3) (tl_0 h3) (Or.inl rfl) ?_
    refine wp_eqst (st' := [vI (T 0 12), vI (((nP T) : Nat) : Int)]) (by rw [← hT] <;> rfl) ?_
    refine wp_icmp_ge (pc := 14) 40 dX3_sittersIn_14 (by decide) (by omega) (by omega) (fun h_1 => ?_) (fun h_1 => ?_)
    · refine wp_iload_n (pc := 40) 3 dX3_sittersIn_40 rfl rfl ?_
      refine wp_iret (pc := 41) dX3_sittersIn_41 rfl rfl ?_
      exact hQ
    · exfalso; omega
  · have b2 := sw_seat hv (j := i) (by omega)
    refine wp_iload (pc := 5) dX3_sittersIn_5 rfl ?_
    refine wp_aload_n (pc := 7) 0 dX3_sittersIn_7 rfl rfl ?_
    refine wp_getr (pc := 8) dX3_sittersIn_8 rfl f_X3_15 kd_45 la_45 rfl (r_45_1 D) ?_
    refine wp_geti (pc := 11) dX3_sittersIn_11 rfl f_X3_64 (tk_0 h3) (tl_0 h3) (Or.inl rfl) ?_
    refine wp_eqst (st' := [vI (T 0 12), vI (i : Int)]) (by rw [← hT] <;> rfl) ?_
    refine wp_icmp_ge (pc := 14) 40 dX3_sittersIn_14 (by decide) (by omega) (by omega) (fun h_1 => ?_) (fun h_1 => ?_)
    · exfalso; omega
    · refine wp_aload_n (pc := 17) 1 dX3_sittersIn_17 rfl rfl ?_
      refine wp_iload (pc := 18) dX3_sittersIn_18 rfl ?_
      refine wp_callV (pc := 20) (st := []) (nf' := 153) [vI (i : Int)] [some (vR s), some (vI (i : Int))] dX3_sittersIn_20 rfl c_X3_73 rfl (sk_0 hs) (by decide) rfl (sl_0 hs) rfl (Nat.le_of_ble_eq_true rfl) rfl (Nat.le_of_ble_eq_true rfl) (by omega) (Nat.le_refl _) (Nat.le_refl _) ?_
      refine wp_aload_n (pc := 0) 0 dX7_seat_0 rfl rfl ?_
      refine wp_getr (pc := 1) dX7_seat_1 rfl f_X7_11 (sk_0 hs) (sl_0 hs) rfl (sr_0_0 D hs) ?_
      refine wp_iconst (pc := 4) dX7_seat_4 ?_
      refine wp_iload_n (pc := 5) 1 dX7_seat_5 rfl rfl ?_
      refine wp_iadd (pc := 6) dX7_seat_6 ?_
      refine wq_iald (pc := 7) i dX7_seat_7 (sk_1 hs) (sl_1 hs) (by omega) (by omega) ?_
      refine wp_eqst (st' := [vI (S i)]) (by rw [← hS] <;> rfl) ?_
      refine wp_iret (pc := 8) dX7_seat_8 rfl rfl ?_
      refine wp_eqst (st' := [vI (S i)]) rfl ?_
      refine wp_iload_n (pc := 23) 2 dX3_sittersIn_23 rfl rfl ?_
      refine wp_icmp_ne (pc := 24) 34 dX3_sittersIn_24 (by decide) (by omega) (by omega) (fun h_2 => ?_) (fun h_2 => ?_)
      · refine wq_iinc (pc := 34) [some (vR 45), some (vR s), some (vI c), some (vI ((setOf (fun p => decide (S p = c)) i : Nat) : Int)), some (vI ((i : Int) + 1))] dX3_sittersIn_34 rfl rfl (by decide) rfl ?_
        refine wp_goto (pc := 37) 5 dX3_sittersIn_37 (by decide) ?_
        refine wp_eqls (ls' := [some (vR 45), some (vR s), some (vI c), some (vI ((setOf (fun p => decide (S p = c)) (i + 1) : Nat) : Int)), some (vI (((i + 1) : Nat) : Int))]) (by rw [setOf_n (f := (fun p => decide (S p = c))) (n := i) (by exact decide_eq_false (by omega))]; rfl) ih
      · refine wp_iload_n (pc := 27) 3 dX3_sittersIn_27 rfl rfl ?_
        refine wp_iconst (pc := 28) dX3_sittersIn_28 ?_
        refine wp_iload (pc := 29) dX3_sittersIn_29 rfl ?_
        refine wn_shl1 (pc := 31) i dX3_sittersIn_31 rfl (by omega) ?_
        refine wn_or (pc := 32) (setOf (fun p => decide (S p = c)) i) (2 ^ i) dX3_sittersIn_32 rfl rfl ?_
        refine wq_istore_n (pc := 33) 3 [some (vR 45), some (vR s), some (vI c), some (vI (((setOf (fun p => decide (S p = c)) i) ||| (2 ^ i) : Nat) : Int)), some (vI (i : Int))] dX3_sittersIn_33 rfl rfl (by decide) rfl ?_
        refine wq_iinc (pc := 34) [some (vR 45), some (vR s), some (vI c), some (vI (((setOf (fun p => decide (S p = c)) i) ||| (2 ^ i) : Nat) : Int)), some (vI ((i : Int) + 1))] dX3_sittersIn_34 rfl rfl (by decide) rfl ?_
        refine wp_goto (pc := 37) 5 dX3_sittersIn_37 (by decide) ?_
        refine wp_eqls (ls' := [some (vR 45), some (vR s), some (vI c), some (vI ((setOf (fun p => decide (S p = c)) (i + 1) : Nat) : Int)), some (vI (((i + 1) : Nat) : Int))]) (by rw [setOf_y (f := (fun p => decide (S p = c))) (n := i) (by exact decide_eq_true (by omega))]; rfl) ih

theorem sp_sittersIn {l : Launch} {G : mG} {d : Nat} {I : mI} {L : Nat → Nat → Int} {D : Nat → Nat} {Q : mQ} {s : Nat} {T : mT} {S : mS} {B : Int} {c : Int}  (h3 : isT (D 3)) (hs : isS s) (hT : TT I (D 3) = T) (hS : SS I s = S) (hw : tw T) (hv : sw S B) (hc : inR c) (hd : 1 ≤ d) (hQ : Q (some (vI ((sitters T S c : Int)))) I (XX L D)) : WP l G m_X3_sittersIn d 153 I (XX L D) 0 [some (vR 45), some (vR s), some (vI c), none, none] [] Q := by
  refine wp_iconst (pc := 0) dX3_sittersIn_0 ?_
  refine wq_istore_n (pc := 1) 3 [some (vR 45), some (vR s), some (vI c), some (vI 0), none] dX3_sittersIn_1 rfl rfl (by decide) rfl ?_
  refine wp_iconst (pc := 2) dX3_sittersIn_2 ?_
  refine wq_istore (pc := 3) [some (vR 45), some (vR s), some (vI c), some (vI 0), some (vI 0)] dX3_sittersIn_3 rfl (by decide) rfl ?_
  exact lp_sittersIn h3 hs hT hS hw hv hc hd hQ 0 (Nat.zero_le _)

theorem lp_presentIn {l : Launch} {G : mG} {d : Nat} {I : mI} {L : Nat → Nat → Int} {D : Nat → Nat} {Q : mQ} {s : Nat} {T : mT} {S : mS} {B : Int} {c e : Int} (h3 : isT (D 3)) (hs : isS s) (hT : TT I (D 3) = T) (hS : SS I s = S) (hw : tw T) (hv : sw S B) (hB : B ≤ 100000) (hc : inR c) (he : inR e) (hd : 1 ≤ d) (hQ : Q (some (vI ((present T S c e : Int)))) I (XX L D)) : ∀ i : Nat, i ≤ nP T → WP l G m_X3_presentIn d 153 I (XX L D) 6 [some (vR 45), some (vR s), some (vI c), some (vI e), some (vI ((setOf (fun p => decide ((S p = c ∨ S p = e) ∧ ¬ away T p (S 28 + 1))) i : Nat) : Int)), some (vI (i : Int)), none] [] Q := by
  have b0 := tw_p hw
  have eN : nP T = (T 0 12).toNat := rfl
  have b3 := sw_sun hv
  refine loop_dn (fun i => WP l G m_X3_presentIn d 153 I (XX L D) 6 [some (vR 45), some (vR s), some (vI c), some (vI e), some (vI ((setOf (fun p => decide ((S p = c ∨ S p = e) ∧ ¬ away T p (S 28 + 1))) i : Nat) : Int)), some (vI (i : Int)), none] [] Q) (nP T) ?_ (fun i hi ih => ?_)
  · refine wp_iload (pc := 6) dX3_presentIn_6 rfl ?_
    refine wp_aload_n (pc := 8) 0 dX3_presentIn_8 rfl rfl ?_
    refine wp_getr (pc := 9) dX3_presentIn_9 rfl f_X3_15 kd_45 la_45 rfl (r_45_1 D) ?_
    refine wp_geti (pc := 12) dX3_presentIn_12 rfl f_X3_64 (tk_0 h3) (tl_0 h3) (Or.inl rfl) ?_
    refine wp_eqst (st' := [vI (T 0 12), vI (((nP T) : Nat) : Int)]) (by rw [← hT] <;> rfl) ?_
    refine wp_icmp_ge (pc := 15) 69 dX3_presentIn_15 (by decide) (by omega) (by omega) (fun h_1 => ?_) (fun h_1 => ?_)
    · refine wp_iload (pc := 69) dX3_presentIn_69 rfl ?_
      refine wp_iret (pc := 71) dX3_presentIn_71 rfl rfl ?_
      exact hQ
    · exfalso; omega
  · have b2 := sw_seat hv (j := i) (by omega)
    refine wp_iload (pc := 6) dX3_presentIn_6 rfl ?_
    refine wp_aload_n (pc := 8) 0 dX3_presentIn_8 rfl rfl ?_
    refine wp_getr (pc := 9) dX3_presentIn_9 rfl f_X3_15 kd_45 la_45 rfl (r_45_1 D) ?_
    refine wp_geti (pc := 12) dX3_presentIn_12 rfl f_X3_64 (tk_0 h3) (tl_0 h3) (Or.inl rfl) ?_
    refine wp_eqst (st' := [vI (T 0 12), vI (i : Int)]) (by rw [← hT] <;> rfl) ?_
    refine wp_icmp_ge (pc := 15) 69 dX3_presentIn_15 (by decide) (by omega) (by omega) (fun h_1 => ?_) (fun h_1 => ?_)
    · exfalso; omega
    · refine wp_aload_n (pc := 18) 1 dX3_presentIn_18 rfl rfl ?_
      refine wp_iload (pc := 19) dX3_presentIn_19 rfl ?_
      refine wp_callV (pc := 21) (st := []) (nf' := 153) [vI (i : Int)] [some (vR s), some (vI (i : Int))] dX3_presentIn_21 rfl c_X3_73 rfl (sk_0 hs) (by decide) rfl (sl_0 hs) rfl (Nat.le_of_ble_eq_true rfl) rfl (Nat.le_of_ble_eq_true rfl) (by omega) (Nat.le_refl _) (Nat.le_refl _) ?_
      refine wp_aload_n (pc := 0) 0 dX7_seat_0 rfl rfl ?_
      refine wp_getr (pc := 1) dX7_seat_1 rfl f_X7_11 (sk_0 hs) (sl_0 hs) rfl (sr_0_0 D hs) ?_
      refine wp_iconst (pc := 4) dX7_seat_4 ?_
      refine wp_iload_n (pc := 5) 1 dX7_seat_5 rfl rfl ?_
      refine wp_iadd (pc := 6) dX7_seat_6 ?_
      refine wq_iald (pc := 7) i dX7_seat_7 (sk_1 hs) (sl_1 hs) (by omega) (by omega) ?_
      refine wp_eqst (st' := [vI (S i)]) (by rw [← hS] <;> rfl) ?_
      refine wp_iret (pc := 8) dX7_seat_8 rfl rfl ?_
      refine wp_eqst (st' := [vI (S i)]) rfl ?_
      refine wq_istore (pc := 24) [some (vR 45), some (vR s), some (vI c), some (vI e), some (vI ((setOf (fun p => decide ((S p = c ∨ S p = e) ∧ ¬ away T p (S 28 + 1))) i : Nat) : Int)), some (vI (i : Int)), some (vI (S i))] dX3_presentIn_24 rfl (by decide) rfl ?_
      refine wp_iload (pc := 26) dX3_presentIn_26 rfl ?_
      refine wp_iload_n (pc := 28) 2 dX3_presentIn_28 rfl rfl ?_
      refine wp_icmp_eq (pc := 29) 38 dX3_presentIn_29 (by decide) (by omega) (by omega) (fun h_2 => ?_) (fun h_2 => ?_)
      · refine wp_aload_n (pc := 38) 0 dX3_presentIn_38 rfl rfl ?_
        refine wp_getr (pc := 39) dX3_presentIn_39 rfl f_X3_15 kd_45 la_45 rfl (r_45_1 D) ?_
        refine wp_iload (pc := 42) dX3_presentIn_42 rfl ?_
        refine wp_aload_n (pc := 44) 1 dX3_presentIn_44 rfl rfl ?_
        refine wp_callV (pc := 45) (st := [vI (i : Int), vR (D 3)]) (nf' := 153) [] [some (vR s)] dX3_presentIn_45 rfl c_X3_76 rfl (sk_0 hs) (by decide) rfl (sl_0 hs) rfl (Nat.le_of_ble_eq_true rfl) rfl (Nat.le_of_ble_eq_true rfl) (by omega) (Nat.le_refl _) (Nat.le_refl _) ?_
        refine wp_aload_n (pc := 0) 0 dX7_nextSunday_0 rfl rfl ?_
        refine wp_getr (pc := 1) dX7_nextSunday_1 rfl f_X7_11 (sk_0 hs) (sl_0 hs) rfl (sr_0_0 D hs) ?_
        refine wp_bipush (pc := 4) dX7_nextSunday_4 (by decide) ?_
        refine wq_iald (pc := 6) 28 dX7_nextSunday_6 (sk_1 hs) (sl_1 hs) rfl (by decide) ?_
        refine wp_eqst (st' := [vI (S 28)]) (by rw [← hS] <;> rfl) ?_
        refine wp_iconst (pc := 7) dX7_nextSunday_7 ?_
        refine wp_iadd (pc := 8) dX7_nextSunday_8 ?_
        refine wp_iret (pc := 9) dX7_nextSunday_9 rfl rfl ?_
        refine wp_eqst (st' := [vI ((S 28) + 1), vI (i : Int), vR (D 3)]) rfl ?_
        refine wp_callV (pc := 48) (st := []) (nf' := 153) [vI (i : Int), vI ((S 28) + 1)] [some (vR (D 3)), some (vI (i : Int)), some (vI ((S 28) + 1))] dX3_presentIn_48 rfl c_X3_80 rfl (tk_0 h3) (by decide) rfl (tl_0 h3) rfl (Nat.le_of_ble_eq_true rfl) rfl (Nat.le_of_ble_eq_true rfl) (by omega) (Nat.le_refl _) (Nat.le_refl _) ?_
        refine sp_isAway i rfl h3 hT hw (by omega) (by omega) (by omega) (fun h_3 => ?_) (fun h_3 => ?_)
        · refine wp_eqst (st' := [vI 1]) rfl ?_
          refine wp_if_ne (pc := 51) 63 dX3_presentIn_51 (by decide) (by decide) (fun _ => ?_) (fun hh => absurd hh (by decide))
          refine wq_iinc (pc := 63) [some (vR 45), some (vR s), some (vI c), some (vI e), some (vI ((setOf (fun p => decide ((S p = c ∨ S p = e) ∧ ¬ away T p (S 28 + 1))) i : Nat) : Int)), some (vI ((i : Int) + 1)), some (vI (S i))] dX3_presentIn_63 rfl rfl (by decide) rfl ?_
          refine wp_goto (pc := 66) 6 dX3_presentIn_66 (by decide) ?_
          refine wp_none 6 [some (vR 45), some (vR s), some (vI c), some (vI e), some (vI ((setOf (fun p => decide ((S p = c ∨ S p = e) ∧ ¬ away T p (S 28 + 1))) i : Nat) : Int)), some (vI ((i : Int) + 1)), none] rfl ?_
          refine wp_eqls (ls' := [some (vR 45), some (vR s), some (vI c), some (vI e), some (vI ((setOf (fun p => decide ((S p = c ∨ S p = e) ∧ ¬ away T p (S 28 + 1))) (i + 1) : Nat) : Int)), some (vI (((i + 1) : Nat) : Int)), none]) (by rw [setOf_n (f := (fun p => decide ((S p = c ∨ S p = e) ∧ ¬ away T p (S 28 + 1)))) (n := i) (by refine decide_eq_false (fun z => ?_); first | exact z.2 (by assumption) | (have z1 := z.1; omega))]; rfl) ih
        · refine wp_eqst (st' := [vI 0]) rfl ?_
          refine wp_if_ne (pc := 51) 63 dX3_presentIn_51 (by decide) (by decide) (fun hh => absurd hh (by decide)) (fun _ => ?_)
          refine wp_iload (pc := 54) dX3_presentIn_54 rfl ?_
          refine wp_iconst (pc := 56) dX3_presentIn_56 ?_
          refine wp_iload (pc := 57) dX3_presentIn_57 rfl ?_
          refine wn_shl1 (pc := 59) i dX3_presentIn_59 rfl (by omega) ?_
          refine wn_or (pc := 60) (setOf (fun p => decide ((S p = c ∨ S p = e) ∧ ¬ away T p (S 28 + 1))) i) (2 ^ i) dX3_presentIn_60 rfl rfl ?_
          refine wq_istore (pc := 61) [some (vR 45), some (vR s), some (vI c), some (vI e), some (vI (((setOf (fun p => decide ((S p = c ∨ S p = e) ∧ ¬ away T p (S 28 + 1))) i) ||| (2 ^ i) : Nat) : Int)), some (vI (i : Int)), some (vI (S i))] dX3_presentIn_61 rfl (by decide) rfl ?_
          refine wq_iinc (pc := 63) [some (vR 45), some (vR s), some (vI c), some (vI e), some (vI (((setOf (fun p => decide ((S p = c ∨ S p = e) ∧ ¬ away T p (S 28 + 1))) i) ||| (2 ^ i) : Nat) : Int)), some (vI ((i : Int) + 1)), some (vI (S i))] dX3_presentIn_63 rfl rfl (by decide) rfl ?_
          refine wp_goto (pc := 66) 6 dX3_presentIn_66 (by decide) ?_
          refine wp_none 6 [some (vR 45), some (vR s), some (vI c), some (vI e), some (vI (((setOf (fun p => decide ((S p = c ∨ S p = e) ∧ ¬ away T p (S 28 + 1))) i) ||| (2 ^ i) : Nat) : Int)), some (vI ((i : Int) + 1)), none] rfl ?_
          refine wp_eqls (ls' := [some (vR 45), some (vR s), some (vI c), some (vI e), some (vI ((setOf (fun p => decide ((S p = c ∨ S p = e) ∧ ¬ away T p (S 28 + 1))) (i + 1) : Nat) : Int)), some (vI (((i + 1) : Nat) : Int)), none]) (by rw [setOf_y (f := (fun p => decide ((S p = c ∨ S p = e) ∧ ¬ away T p (S 28 + 1)))) (n := i) (by refine decide_eq_true ⟨?_, ?_⟩; omega; assumption)]; rfl) ih
      · refine wp_iload (pc := 32) dX3_presentIn_32 rfl ?_
        refine wp_iload_n (pc := 34) 3 dX3_presentIn_34 rfl rfl ?_
        refine wp_icmp_ne (pc := 35) 63 dX3_presentIn_35 (by decide) (by omega) (by omega) (fun h_4 => ?_) (fun h_4 => ?_)
        · refine wq_iinc (pc := 63) [some (vR 45), some (vR s), some (vI c), some (vI e), some (vI ((setOf (fun p => decide ((S p = c ∨ S p = e) ∧ ¬ away T p (S 28 + 1))) i : Nat) : Int)), some (vI ((i : Int) + 1)), some (vI (S i))] dX3_presentIn_63 rfl rfl (by decide) rfl ?_
          refine wp_goto (pc := 66) 6 dX3_presentIn_66 (by decide) ?_
          refine wp_none 6 [some (vR 45), some (vR s), some (vI c), some (vI e), some (vI ((setOf (fun p => decide ((S p = c ∨ S p = e) ∧ ¬ away T p (S 28 + 1))) i : Nat) : Int)), some (vI ((i : Int) + 1)), none] rfl ?_
          refine wp_eqls (ls' := [some (vR 45), some (vR s), some (vI c), some (vI e), some (vI ((setOf (fun p => decide ((S p = c ∨ S p = e) ∧ ¬ away T p (S 28 + 1))) (i + 1) : Nat) : Int)), some (vI (((i + 1) : Nat) : Int)), none]) (by rw [setOf_n (f := (fun p => decide ((S p = c ∨ S p = e) ∧ ¬ away T p (S 28 + 1)))) (n := i) (by refine decide_eq_false (fun z => ?_); first | exact z.2 (by assumption) | (have z1 := z.1; omega))]; rfl) ih
        · refine wp_aload_n (pc := 38) 0 dX3_presentIn_38 rfl rfl ?_
          refine wp_getr (pc := 39) dX3_presentIn_39 rfl f_X3_15 kd_45 la_45 rfl (r_45_1 D) ?_
          refine wp_iload (pc := 42) dX3_presentIn_42 rfl ?_
          refine wp_aload_n (pc := 44) 1 dX3_presentIn_44 rfl rfl ?_
          refine wp_callV (pc := 45) (st := [vI (i : Int), vR (D 3)]) (nf' := 153) [] [some (vR s)] dX3_presentIn_45 rfl c_X3_76 rfl (sk_0 hs) (by decide) rfl (sl_0 hs) rfl (Nat.le_of_ble_eq_true rfl) rfl (Nat.le_of_ble_eq_true rfl) (by omega) (Nat.le_refl _) (Nat.le_refl _) ?_
          refine wp_aload_n (pc := 0) 0 dX7_nextSunday_0 rfl rfl ?_
          refine wp_getr (pc := 1) dX7_nextSunday_1 rfl f_X7_11 (sk_0 hs) (sl_0 hs) rfl (sr_0_0 D hs) ?_
          refine wp_bipush (pc := 4) dX7_nextSunday_4 (by decide) ?_
          refine wq_iald (pc := 6) 28 dX7_nextSunday_6 (sk_1 hs) (sl_1 hs) rfl (by decide) ?_
          refine wp_eqst (st' := [vI (S 28)]) (by rw [← hS] <;> rfl) ?_
          refine wp_iconst (pc := 7) dX7_nextSunday_7 ?_
          refine wp_iadd (pc := 8) dX7_nextSunday_8 ?_
          refine wp_iret (pc := 9) dX7_nextSunday_9 rfl rfl ?_
          refine wp_eqst (st' := [vI ((S 28) + 1), vI (i : Int), vR (D 3)]) rfl ?_
          refine wp_callV (pc := 48) (st := []) (nf' := 153) [vI (i : Int), vI ((S 28) + 1)] [some (vR (D 3)), some (vI (i : Int)), some (vI ((S 28) + 1))] dX3_presentIn_48 rfl c_X3_80 rfl (tk_0 h3) (by decide) rfl (tl_0 h3) rfl (Nat.le_of_ble_eq_true rfl) rfl (Nat.le_of_ble_eq_true rfl) (by omega) (Nat.le_refl _) (Nat.le_refl _) ?_
          refine sp_isAway i rfl h3 hT hw (by omega) (by omega) (by omega) (fun h_5 => ?_) (fun h_5 => ?_)
          · refine wp_eqst (st' := [vI 1]) rfl ?_
            refine wp_if_ne (pc := 51) 63 dX3_presentIn_51 (by decide) (by decide) (fun _ => ?_) (fun hh => absurd hh (by decide))
            refine wq_iinc (pc := 63) [some (vR 45), some (vR s), some (vI c), some (vI e), some (vI ((setOf (fun p => decide ((S p = c ∨ S p = e) ∧ ¬ away T p (S 28 + 1))) i : Nat) : Int)), some (vI ((i : Int) + 1)), some (vI (S i))] dX3_presentIn_63 rfl rfl (by decide) rfl ?_
            refine wp_goto (pc := 66) 6 dX3_presentIn_66 (by decide) ?_
            refine wp_none 6 [some (vR 45), some (vR s), some (vI c), some (vI e), some (vI ((setOf (fun p => decide ((S p = c ∨ S p = e) ∧ ¬ away T p (S 28 + 1))) i : Nat) : Int)), some (vI ((i : Int) + 1)), none] rfl ?_
            refine wp_eqls (ls' := [some (vR 45), some (vR s), some (vI c), some (vI e), some (vI ((setOf (fun p => decide ((S p = c ∨ S p = e) ∧ ¬ away T p (S 28 + 1))) (i + 1) : Nat) : Int)), some (vI (((i + 1) : Nat) : Int)), none]) (by rw [setOf_n (f := (fun p => decide ((S p = c ∨ S p = e) ∧ ¬ away T p (S 28 + 1)))) (n := i) (by refine decide_eq_false (fun z => ?_); first | exact z.2 (by assumption) | (have z1 := z.1; omega))]; rfl) ih
          · refine wp_eqst (st' := [vI 0]) rfl ?_
            refine wp_if_ne (pc := 51) 63 dX3_presentIn_51 (by decide) (by decide) (fun hh => absurd hh (by decide)) (fun _ => ?_)
            refine wp_iload (pc := 54) dX3_presentIn_54 rfl ?_
            refine wp_iconst (pc := 56) dX3_presentIn_56 ?_
            refine wp_iload (pc := 57) dX3_presentIn_57 rfl ?_
            refine wn_shl1 (pc := 59) i dX3_presentIn_59 rfl (by omega) ?_
            refine wn_or (pc := 60) (setOf (fun p => decide ((S p = c ∨ S p = e) ∧ ¬ away T p (S 28 + 1))) i) (2 ^ i) dX3_presentIn_60 rfl rfl ?_
            refine wq_istore (pc := 61) [some (vR 45), some (vR s), some (vI c), some (vI e), some (vI (((setOf (fun p => decide ((S p = c ∨ S p = e) ∧ ¬ away T p (S 28 + 1))) i) ||| (2 ^ i) : Nat) : Int)), some (vI (i : Int)), some (vI (S i))] dX3_presentIn_61 rfl (by decide) rfl ?_
            refine wq_iinc (pc := 63) [some (vR 45), some (vR s), some (vI c), some (vI e), some (vI (((setOf (fun p => decide ((S p = c ∨ S p = e) ∧ ¬ away T p (S 28 + 1))) i) ||| (2 ^ i) : Nat) : Int)), some (vI ((i : Int) + 1)), some (vI (S i))] dX3_presentIn_63 rfl rfl (by decide) rfl ?_
            refine wp_goto (pc := 66) 6 dX3_presentIn_66 (by decide) ?_
            refine wp_none 6 [some (vR 45), some (vR s), some (vI c), some (vI e), some (vI (((setOf (fun p => decide ((S p = c ∨ S p = e) ∧ ¬ away T p (S 28 + 1))) i) ||| (2 ^ i) : Nat) : Int)), some (vI ((i : Int) + 1)), none] rfl ?_
            refine wp_eqls (ls' := [some (vR 45), some (vR s), some (vI c), some (vI e), some (vI ((setOf (fun p => decide ((S p = c ∨ S p = e) ∧ ¬ away T p (S 28 + 1))) (i + 1) : Nat) : Int)), some (vI (((i + 1) : Nat) : Int)), none]) (by rw [setOf_y (f := (fun p => decide ((S p = c ∨ S p = e) ∧ ¬ away T p (S 28 + 1)))) (n := i) (by refine decide_eq_true ⟨?_, ?_⟩; omega; assumption)]; rfl) ih

theorem sp_presentIn {l : Launch} {G : mG} {d : Nat} {I : mI} {L : Nat → Nat → Int} {D : Nat → Nat} {Q : mQ} {s : Nat} {T : mT} {S : mS} {B : Int} {c e : Int}  (h3 : isT (D 3)) (hs : isS s) (hT : TT I (D 3) = T) (hS : SS I s = S) (hw : tw T) (hv : sw S B) (hB : B ≤ 100000) (hc : inR c) (he : inR e) (hd : 1 ≤ d) (hQ : Q (some (vI ((present T S c e : Int)))) I (XX L D)) : WP l G m_X3_presentIn d 153 I (XX L D) 0 [some (vR 45), some (vR s), some (vI c), some (vI e), none, none, none] [] Q := by
  refine wp_iconst (pc := 0) dX3_presentIn_0 ?_
  refine wq_istore (pc := 1) [some (vR 45), some (vR s), some (vI c), some (vI e), some (vI 0), none, none] dX3_presentIn_1 rfl (by decide) rfl ?_
  refine wp_iconst (pc := 3) dX3_presentIn_3 ?_
  refine wq_istore (pc := 4) [some (vR 45), some (vR s), some (vI c), some (vI e), some (vI 0), some (vI 0), none] dX3_presentIn_4 rfl (by decide) rfl ?_
  exact lp_presentIn h3 hs hT hS hw hv hB hc he hd hQ 0 (Nat.zero_le _)

theorem lp_readIn {l : Launch} {G : mG} {d : Nat} {I : mI} {L : Nat → Nat → Int} {D : Nat → Nat} {Q : mQ} {s : Nat} {T : mT} {S : mS} {B : Int} {c : Int} {e : Nat} (h3 : isT (D 3)) (hs : isS s) (hT : TT I (D 3) = T) (hS : SS I s = S) (hw : tw T) (hv : sw S B) (hc : inR c) (he : e < 256) (hd : 2 ≤ d) (hQ : Q (some (vI ((readIn T S c e : Int)))) I (XX L D)) : ∀ i : Nat, i ≤ nQ T → WP l G m_X3_readIn d 153 I (XX L D) 6 [some (vR 45), some (vR s), some (vI c), some (vI (e : Int)), some (vI ((setOf (fun q => e.testBit q && decide (S (13 + q) = c ∨ S (18 + q) = c)) i : Nat) : Int)), some (vI (i : Int))] [] Q := by
  have b0 := tw_q hw
  have eN : nQ T = (T 0 13).toNat := rfl
  refine loop_dn (fun i => WP l G m_X3_readIn d 153 I (XX L D) 6 [some (vR 45), some (vR s), some (vI c), some (vI (e : Int)), some (vI ((setOf (fun q => e.testBit q && decide (S (13 + q) = c ∨ S (18 + q) = c)) i : Nat) : Int)), some (vI (i : Int))] [] Q) (nQ T) ?_ (fun i hi ih => ?_)
  · refine wp_iload (pc := 6) dX3_readIn_6 rfl ?_
    refine wp_aload_n (pc := 8) 0 dX3_readIn_8 rfl rfl ?_
    refine wp_getr (pc := 9) dX3_readIn_9 rfl f_X3_15 kd_45 la_45 rfl (r_45_1 D) ?_
    refine wp_geti (pc := 12) dX3_readIn_12 rfl f_X3_19 (tk_0 h3) (tl_0 h3) (Or.inl rfl) ?_
    refine wp_eqst (st' := [vI (T 0 13), vI (((nQ T) : Nat) : Int)]) (by rw [← hT] <;> rfl) ?_
    refine wp_icmp_ge (pc := 15) 53 dX3_readIn_15 (by decide) (by omega) (by omega) (fun h_1 => ?_) (fun h_1 => ?_)
    · refine wp_iload (pc := 53) dX3_readIn_53 rfl ?_
      refine wp_iret (pc := 55) dX3_readIn_55 rfl rfl ?_
      exact hQ
    · exfalso; omega
  · have b9 := bit_lt e i
    refine wp_iload (pc := 6) dX3_readIn_6 rfl ?_
    refine wp_aload_n (pc := 8) 0 dX3_readIn_8 rfl rfl ?_
    refine wp_getr (pc := 9) dX3_readIn_9 rfl f_X3_15 kd_45 la_45 rfl (r_45_1 D) ?_
    refine wp_geti (pc := 12) dX3_readIn_12 rfl f_X3_19 (tk_0 h3) (tl_0 h3) (Or.inl rfl) ?_
    refine wp_eqst (st' := [vI (T 0 13), vI (i : Int)]) (by rw [← hT] <;> rfl) ?_
    refine wp_icmp_ge (pc := 15) 53 dX3_readIn_15 (by decide) (by omega) (by omega) (fun h_1 => ?_) (fun h_1 => ?_)
    · exfalso; omega
    · refine wp_iload_n (pc := 18) 3 dX3_readIn_18 rfl rfl ?_
      refine wp_iload (pc := 19) dX3_readIn_19 rfl ?_
      refine wn_shr (pc := 21) e i dX3_readIn_21 rfl rfl (by omega) (by omega) ?_
      refine wp_iconst (pc := 22) dX3_readIn_22 ?_
      refine wn_mask (pc := 23) (e / 2 ^ i) 1 dX3_readIn_23 rfl rfl (by decide) ?_
      refine wp_iconst (pc := 24) dX3_readIn_24 ?_
      refine wp_icmp_ne (pc := 25) 47 dX3_readIn_25 (by decide) (by omega) (by decide) (fun h_2 => ?_) (fun h_2 => ?_)
      · refine wq_iinc (pc := 47) [some (vR 45), some (vR s), some (vI c), some (vI (e : Int)), some (vI ((setOf (fun q => e.testBit q && decide (S (13 + q) = c ∨ S (18 + q) = c)) i : Nat) : Int)), some (vI ((i : Int) + 1))] dX3_readIn_47 rfl rfl (by decide) rfl ?_
        refine wp_goto (pc := 50) 6 dX3_readIn_50 (by decide) ?_
        refine wp_eqls (ls' := [some (vR 45), some (vR s), some (vI c), some (vI (e : Int)), some (vI ((setOf (fun q => e.testBit q && decide (S (13 + q) = c ∨ S (18 + q) = c)) (i + 1) : Nat) : Int)), some (vI (((i + 1) : Nat) : Int))]) (by rw [setOf_n (f := (fun q => e.testBit q && decide (S (13 + q) = c ∨ S (18 + q) = c))) (n := i) (by first | (rw [decide_eq_false (by assumption), Bool.and_false]) | (rw [show e.testBit i = false from by rw [← Bool.not_eq_true, ← bit_iff]; assumption]; rfl))]; rfl) ih
      · refine wp_aload_n (pc := 28) 1 dX3_readIn_28 rfl rfl ?_
        refine wp_iload (pc := 29) dX3_readIn_29 rfl ?_
        refine wp_iload_n (pc := 31) 2 dX3_readIn_31 rfl rfl ?_
        refine wp_callV (pc := 32) (st := []) (nf' := 153) [vI (i : Int), vI c] [some (vR s), some (vI (i : Int)), some (vI c)] dX3_readIn_32 rfl c_X3_105 rfl (sk_0 hs) (by decide) rfl (sl_0 hs) rfl (Nat.le_of_ble_eq_true rfl) rfl (Nat.le_of_ble_eq_true rfl) (by omega) (Nat.le_refl _) (Nat.le_refl _) ?_
        refine sp_isReadIn i rfl hs hS hv (by omega) (by omega) (by omega) (fun h_3 => ?_) (fun h_3 => ?_)
        · refine wp_eqst (st' := [vI 1]) rfl ?_
          refine wp_if_eq (pc := 35) 47 dX3_readIn_35 (by decide) (by decide) (fun hh => absurd hh (by decide)) (fun _ => ?_)
          refine wp_iload (pc := 38) dX3_readIn_38 rfl ?_
          refine wp_iconst (pc := 40) dX3_readIn_40 ?_
          refine wp_iload (pc := 41) dX3_readIn_41 rfl ?_
          refine wn_shl1 (pc := 43) i dX3_readIn_43 rfl (by omega) ?_
          refine wn_or (pc := 44) (setOf (fun q => e.testBit q && decide (S (13 + q) = c ∨ S (18 + q) = c)) i) (2 ^ i) dX3_readIn_44 rfl rfl ?_
          refine wq_istore (pc := 45) [some (vR 45), some (vR s), some (vI c), some (vI (e : Int)), some (vI (((setOf (fun q => e.testBit q && decide (S (13 + q) = c ∨ S (18 + q) = c)) i) ||| (2 ^ i) : Nat) : Int)), some (vI (i : Int))] dX3_readIn_45 rfl (by decide) rfl ?_
          refine wq_iinc (pc := 47) [some (vR 45), some (vR s), some (vI c), some (vI (e : Int)), some (vI (((setOf (fun q => e.testBit q && decide (S (13 + q) = c ∨ S (18 + q) = c)) i) ||| (2 ^ i) : Nat) : Int)), some (vI ((i : Int) + 1))] dX3_readIn_47 rfl rfl (by decide) rfl ?_
          refine wp_goto (pc := 50) 6 dX3_readIn_50 (by decide) ?_
          refine wp_eqls (ls' := [some (vR 45), some (vR s), some (vI c), some (vI (e : Int)), some (vI ((setOf (fun q => e.testBit q && decide (S (13 + q) = c ∨ S (18 + q) = c)) (i + 1) : Nat) : Int)), some (vI (((i + 1) : Nat) : Int))]) (by rw [setOf_y (f := (fun q => e.testBit q && decide (S (13 + q) = c ∨ S (18 + q) = c))) (n := i) (by rw [(bit_iff e i).mp (by assumption), decide_eq_true (by assumption)]; rfl)]; rfl) ih
        · refine wp_eqst (st' := [vI 0]) rfl ?_
          refine wp_if_eq (pc := 35) 47 dX3_readIn_35 (by decide) (by decide) (fun _ => ?_) (fun hh => absurd hh (by decide))
          refine wq_iinc (pc := 47) [some (vR 45), some (vR s), some (vI c), some (vI (e : Int)), some (vI ((setOf (fun q => e.testBit q && decide (S (13 + q) = c ∨ S (18 + q) = c)) i : Nat) : Int)), some (vI ((i : Int) + 1))] dX3_readIn_47 rfl rfl (by decide) rfl ?_
          refine wp_goto (pc := 50) 6 dX3_readIn_50 (by decide) ?_
          refine wp_eqls (ls' := [some (vR 45), some (vR s), some (vI c), some (vI (e : Int)), some (vI ((setOf (fun q => e.testBit q && decide (S (13 + q) = c ∨ S (18 + q) = c)) (i + 1) : Nat) : Int)), some (vI (((i + 1) : Nat) : Int))]) (by rw [setOf_n (f := (fun q => e.testBit q && decide (S (13 + q) = c ∨ S (18 + q) = c))) (n := i) (by first | (rw [decide_eq_false (by assumption), Bool.and_false]) | (rw [show e.testBit i = false from by rw [← Bool.not_eq_true, ← bit_iff]; assumption]; rfl))]; rfl) ih

theorem sp_readIn {l : Launch} {G : mG} {d : Nat} {I : mI} {L : Nat → Nat → Int} {D : Nat → Nat} {Q : mQ} {s : Nat} {T : mT} {S : mS} {B : Int} {c : Int} (e : Nat) {e_ : Int} (he_ : e_ = (e : Int)) (h3 : isT (D 3)) (hs : isS s) (hT : TT I (D 3) = T) (hS : SS I s = S) (hw : tw T) (hv : sw S B) (hc : inR c) (he : e < 256) (hd : 2 ≤ d) (hQ : Q (some (vI ((readIn T S c e : Int)))) I (XX L D)) : WP l G m_X3_readIn d 153 I (XX L D) 0 [some (vR 45), some (vR s), some (vI c), some (vI e_), none, none] [] Q := by
  subst he_
  refine wp_iconst (pc := 0) dX3_readIn_0 ?_
  refine wq_istore (pc := 1) [some (vR 45), some (vR s), some (vI c), some (vI (e : Int)), some (vI 0), none] dX3_readIn_1 rfl (by decide) rfl ?_
  refine wp_iconst (pc := 3) dX3_readIn_3 ?_
  refine wq_istore (pc := 4) [some (vR 45), some (vR s), some (vI c), some (vI (e : Int)), some (vI 0), some (vI 0)] dX3_readIn_4 rfl (by decide) rfl ?_
  exact lp_readIn h3 hs hT hS hw hv hc he hd hQ 0 (Nat.zero_le _)

theorem lp_risersOf {l : Launch} {G : mG} {d : Nat} {I : mI} {L : Nat → Nat → Int} {D : Nat → Nat} {Q : mQ} {s : Nat} {T : mT} {S : mS} {B : Int} {q : Nat} {bd : Int} (h3 : isT (D 3)) (hs : isS s) (hT : TT I (D 3) = T) (hS : SS I s = S) (hw : tw T) (hv : sw S B) (hq : q < 5) (hb : (bd = 1 ∧ ¬ barQ T S q = 0) ∨ (bd = 0 ∧ barQ T S q = 0)) (hd : 3 ≤ d) (hQ : Q (some (vI ((risers T S q : Int)))) I (XX L D)) : ∀ i : Nat, i ≤ nP T → WP l G m_X3_risersOf d 153 I (XX L D) 49 [some (vR 45), some (vR s), some (vI (q : Int)), some (vI bd), some (vI ((pm T q : Nat) : Int)), some (vI ((setOf (risF T S q) i : Nat) : Int)), some (vI (i : Int)), none, none] [] Q := by
  have b0 := tw_p hw
  have eN : nP T = (T 0 12).toNat := rfl
  have bp := pm_lt hw q
  refine loop_dn (fun i => WP l G m_X3_risersOf d 153 I (XX L D) 49 [some (vR 45), some (vR s), some (vI (q : Int)), some (vI bd), some (vI ((pm T q : Nat) : Int)), some (vI ((setOf (risF T S q) i : Nat) : Int)), some (vI (i : Int)), none, none] [] Q) (nP T) ?_ (fun i hi ih => ?_)
  · refine wp_iload (pc := 49) dX3_risersOf_49 rfl ?_
    refine wp_aload_n (pc := 51) 0 dX3_risersOf_51 rfl rfl ?_
    refine wp_getr (pc := 52) dX3_risersOf_52 rfl f_X3_15 kd_45 la_45 rfl (r_45_1 D) ?_
    refine wp_geti (pc := 55) dX3_risersOf_55 rfl f_X3_64 (tk_0 h3) (tl_0 h3) (Or.inl rfl) ?_
    refine wp_eqst (st' := [vI (T 0 12), vI (((nP T) : Nat) : Int)]) (by rw [← hT] <;> rfl) ?_
    refine wp_icmp_ge (pc := 58) 139 dX3_risersOf_58 (by decide) (by omega) (by omega) (fun h_1 => ?_) (fun h_1 => ?_)
    · refine wp_iload (pc := 139) dX3_risersOf_139 rfl ?_
      refine wp_iload (pc := 141) dX3_risersOf_141 rfl ?_
      refine wp_iconst (pc := 143) dX3_risersOf_143 ?_
      refine wp_inot (pc := 144) dX3_risersOf_144 ?_
      refine wn_andn (pc := 145) (setOf (risF T S q) (nP T)) (pm T q) dX3_risersOf_145 rfl (by omega) ?_
      refine wp_iret (pc := 146) dX3_risersOf_146 rfl rfl ?_
      exact hQ
    · exfalso; omega
  · have b5 := tw_spites hw i
    have b6 := tw_knows hw i
    have b7 : (T 5 i).toNat &&& pm T q < 256 := Nat.lt_of_le_of_lt Nat.and_le_right bp
    have b8 : (T 14 i).toNat &&& pm T q < 256 := Nat.lt_of_le_of_lt Nat.and_le_right bp
    refine wp_iload (pc := 49) dX3_risersOf_49 rfl ?_
    refine wp_aload_n (pc := 51) 0 dX3_risersOf_51 rfl rfl ?_
    refine wp_getr (pc := 52) dX3_risersOf_52 rfl f_X3_15 kd_45 la_45 rfl (r_45_1 D) ?_
    refine wp_geti (pc := 55) dX3_risersOf_55 rfl f_X3_64 (tk_0 h3) (tl_0 h3) (Or.inl rfl) ?_
    refine wp_eqst (st' := [vI (T 0 12), vI (i : Int)]) (by rw [← hT] <;> rfl) ?_
    refine wp_icmp_ge (pc := 58) 139 dX3_risersOf_58 (by decide) (by omega) (by omega) (fun h_1 => ?_) (fun h_1 => ?_)
    · exfalso; omega
    · refine wp_aload_n (pc := 61) 0 dX3_risersOf_61 rfl rfl ?_
      refine wp_getr (pc := 62) dX3_risersOf_62 rfl f_X3_15 kd_45 la_45 rfl (r_45_1 D) ?_
      refine wp_getr (pc := 65) dX3_risersOf_65 rfl f_X3_67 (tk_0 h3) (tl_0 h3) rfl (tr_0_4 D h3) ?_
      refine wp_iload (pc := 68) dX3_risersOf_68 rfl ?_
      refine wq_iald (pc := 70) i dX3_risersOf_70 (tk_5 h3) (tl_5 h3) rfl (by omega) ?_
      refine wp_eqst (st' := [vI (T 5 i)]) (by rw [← hT] <;> rfl) ?_
      refine wp_iload (pc := 71) dX3_risersOf_71 rfl ?_
      refine wn_and (pc := 73) (Int.toNat (T 5 i)) (pm T q) dX3_risersOf_73 (by omega) rfl ?_
      refine wp_if_eq (pc := 74) 81 dX3_risersOf_74 (by decide) (by omega) (fun h_2 => ?_) (fun h_2 => ?_)
      · refine wp_iconst (pc := 81) dX3_risersOf_81 ?_
        refine wq_istore (pc := 82) [some (vR 45), some (vR s), some (vI (q : Int)), some (vI bd), some (vI ((pm T q : Nat) : Int)), some (vI ((setOf (risF T S q) i : Nat) : Int)), some (vI (i : Int)), some (vI 0), none] dX3_risersOf_82 rfl (by decide) rfl ?_
        refine wp_aload_n (pc := 84) 0 dX3_risersOf_84 rfl rfl ?_
        refine wp_getr (pc := 85) dX3_risersOf_85 rfl f_X3_15 kd_45 la_45 rfl (r_45_1 D) ?_
        refine wp_getr (pc := 88) dX3_risersOf_88 rfl f_X3_44 (tk_0 h3) (tl_0 h3) rfl (tr_0_9 D h3) ?_
        refine wp_getr (pc := 91) dX3_risersOf_91 rfl f_X3_70 (tk_10 h3) (tl_10 h3) rfl (tr_10_3 D h3) ?_
        refine wp_iload (pc := 94) dX3_risersOf_94 rfl ?_
        refine wq_iald (pc := 96) i dX3_risersOf_96 (tk_14 h3) (tl_14 h3) rfl (by omega) ?_
        refine wp_eqst (st' := [vI (T 14 i)]) (by rw [← hT] <;> rfl) ?_
        refine wp_iload (pc := 97) dX3_risersOf_97 rfl ?_
        refine wn_and (pc := 99) (Int.toNat (T 14 i)) (pm T q) dX3_risersOf_99 (by omega) rfl ?_
        refine wp_if_eq (pc := 100) 107 dX3_risersOf_100 (by decide) (by omega) (fun h_3 => ?_) (fun h_3 => ?_)
        · refine wp_iconst (pc := 107) dX3_risersOf_107 ?_
          refine wq_istore (pc := 108) [some (vR 45), some (vR s), some (vI (q : Int)), some (vI bd), some (vI ((pm T q : Nat) : Int)), some (vI ((setOf (risF T S q) i : Nat) : Int)), some (vI (i : Int)), some (vI 0), some (vI 0)] dX3_risersOf_108 rfl (by decide) rfl ?_
          refine wp_iload (pc := 110) dX3_risersOf_110 rfl ?_
          refine wp_if_ne (pc := 112) 124 dX3_risersOf_112 (by decide) (by decide) (fun hh => absurd hh (by decide)) (fun _ => ?_)
          refine wp_iload_n (pc := 115) 3 dX3_risersOf_115 rfl rfl ?_
          refine wp_if_eq (pc := 116) 133 dX3_risersOf_116 (by decide) (by omega) (fun h_4 => ?_) (fun h_4 => ?_)
          · refine wq_iinc (pc := 133) [some (vR 45), some (vR s), some (vI (q : Int)), some (vI bd), some (vI ((pm T q : Nat) : Int)), some (vI ((setOf (risF T S q) i : Nat) : Int)), some (vI ((i : Int) + 1)), some (vI 0), some (vI 0)] dX3_risersOf_133 rfl rfl (by decide) rfl ?_
            refine wp_goto (pc := 136) 49 dX3_risersOf_136 (by decide) ?_
            refine wp_none 7 [some (vR 45), some (vR s), some (vI (q : Int)), some (vI bd), some (vI ((pm T q : Nat) : Int)), some (vI ((setOf (risF T S q) i : Nat) : Int)), some (vI ((i : Int) + 1)), none, some (vI 0)] rfl ?_
            refine wp_none 8 [some (vR 45), some (vR s), some (vI (q : Int)), some (vI bd), some (vI ((pm T q : Nat) : Int)), some (vI ((setOf (risF T S q) i : Nat) : Int)), some (vI ((i : Int) + 1)), none, none] rfl ?_
            refine wp_eqls (ls' := [some (vR 45), some (vR s), some (vI (q : Int)), some (vI bd), some (vI ((pm T q : Nat) : Int)), some (vI ((setOf (risF T S q) (i + 1) : Nat) : Int)), some (vI (((i + 1) : Nat) : Int)), none, none]) (by rw [setOf_n (f := risF T S q) (n := i) (risF_d (T := T) (S := S) (q := q) (p := i) h_2 h_3)]; rfl) ih
          · refine wp_iload (pc := 119) dX3_risersOf_119 rfl ?_
            refine wp_if_eq (pc := 121) 133 dX3_risersOf_121 (by decide) (by decide) (fun _ => ?_) (fun hh => absurd hh (by decide))
            refine wq_iinc (pc := 133) [some (vR 45), some (vR s), some (vI (q : Int)), some (vI bd), some (vI ((pm T q : Nat) : Int)), some (vI ((setOf (risF T S q) i : Nat) : Int)), some (vI ((i : Int) + 1)), some (vI 0), some (vI 0)] dX3_risersOf_133 rfl rfl (by decide) rfl ?_
            refine wp_goto (pc := 136) 49 dX3_risersOf_136 (by decide) ?_
            refine wp_none 7 [some (vR 45), some (vR s), some (vI (q : Int)), some (vI bd), some (vI ((pm T q : Nat) : Int)), some (vI ((setOf (risF T S q) i : Nat) : Int)), some (vI ((i : Int) + 1)), none, some (vI 0)] rfl ?_
            refine wp_none 8 [some (vR 45), some (vR s), some (vI (q : Int)), some (vI bd), some (vI ((pm T q : Nat) : Int)), some (vI ((setOf (risF T S q) i : Nat) : Int)), some (vI ((i : Int) + 1)), none, none] rfl ?_
            refine wp_eqls (ls' := [some (vR 45), some (vR s), some (vI (q : Int)), some (vI bd), some (vI ((pm T q : Nat) : Int)), some (vI ((setOf (risF T S q) (i + 1) : Nat) : Int)), some (vI (((i + 1) : Nat) : Int)), none, none]) (by rw [setOf_n (f := risF T S q) (n := i) (risF_d (T := T) (S := S) (q := q) (p := i) h_2 h_3)]; rfl) ih
        · refine wp_iconst (pc := 103) dX3_risersOf_103 ?_
          refine wp_goto (pc := 104) 108 dX3_risersOf_104 (by decide) ?_
          refine wq_istore (pc := 108) [some (vR 45), some (vR s), some (vI (q : Int)), some (vI bd), some (vI ((pm T q : Nat) : Int)), some (vI ((setOf (risF T S q) i : Nat) : Int)), some (vI (i : Int)), some (vI 0), some (vI 1)] dX3_risersOf_108 rfl (by decide) rfl ?_
          refine wp_iload (pc := 110) dX3_risersOf_110 rfl ?_
          refine wp_if_ne (pc := 112) 124 dX3_risersOf_112 (by decide) (by decide) (fun hh => absurd hh (by decide)) (fun _ => ?_)
          refine wp_iload_n (pc := 115) 3 dX3_risersOf_115 rfl rfl ?_
          refine wp_if_eq (pc := 116) 133 dX3_risersOf_116 (by decide) (by omega) (fun h_5 => ?_) (fun h_5 => ?_)
          · refine wq_iinc (pc := 133) [some (vR 45), some (vR s), some (vI (q : Int)), some (vI bd), some (vI ((pm T q : Nat) : Int)), some (vI ((setOf (risF T S q) i : Nat) : Int)), some (vI ((i : Int) + 1)), some (vI 0), some (vI 1)] dX3_risersOf_133 rfl rfl (by decide) rfl ?_
            refine wp_goto (pc := 136) 49 dX3_risersOf_136 (by decide) ?_
            refine wp_none 7 [some (vR 45), some (vR s), some (vI (q : Int)), some (vI bd), some (vI ((pm T q : Nat) : Int)), some (vI ((setOf (risF T S q) i : Nat) : Int)), some (vI ((i : Int) + 1)), none, some (vI 1)] rfl ?_
            refine wp_none 8 [some (vR 45), some (vR s), some (vI (q : Int)), some (vI bd), some (vI ((pm T q : Nat) : Int)), some (vI ((setOf (risF T S q) i : Nat) : Int)), some (vI ((i : Int) + 1)), none, none] rfl ?_
            refine wp_eqls (ls' := [some (vR 45), some (vR s), some (vI (q : Int)), some (vI bd), some (vI ((pm T q : Nat) : Int)), some (vI ((setOf (risF T S q) (i + 1) : Nat) : Int)), some (vI (((i + 1) : Nat) : Int)), none, none]) (by rw [setOf_n (f := risF T S q) (n := i) (risF_c (T := T) (S := S) (q := q) (p := i) h_2 (by omega))]; rfl) ih
          · refine wp_iload (pc := 119) dX3_risersOf_119 rfl ?_
            refine wp_if_eq (pc := 121) 133 dX3_risersOf_121 (by decide) (by decide) (fun hh => absurd hh (by decide)) (fun _ => ?_)
            refine wp_iload (pc := 124) dX3_risersOf_124 rfl ?_
            refine wp_iconst (pc := 126) dX3_risersOf_126 ?_
            refine wp_iload (pc := 127) dX3_risersOf_127 rfl ?_
            refine wn_shl1 (pc := 129) i dX3_risersOf_129 rfl (by omega) ?_
            refine wn_or (pc := 130) (setOf (risF T S q) i) (2 ^ i) dX3_risersOf_130 rfl rfl ?_
            refine wq_istore (pc := 131) [some (vR 45), some (vR s), some (vI (q : Int)), some (vI bd), some (vI ((pm T q : Nat) : Int)), some (vI (((setOf (risF T S q) i) ||| (2 ^ i) : Nat) : Int)), some (vI (i : Int)), some (vI 0), some (vI 1)] dX3_risersOf_131 rfl (by decide) rfl ?_
            refine wq_iinc (pc := 133) [some (vR 45), some (vR s), some (vI (q : Int)), some (vI bd), some (vI ((pm T q : Nat) : Int)), some (vI (((setOf (risF T S q) i) ||| (2 ^ i) : Nat) : Int)), some (vI ((i : Int) + 1)), some (vI 0), some (vI 1)] dX3_risersOf_133 rfl rfl (by decide) rfl ?_
            refine wp_goto (pc := 136) 49 dX3_risersOf_136 (by decide) ?_
            refine wp_none 7 [some (vR 45), some (vR s), some (vI (q : Int)), some (vI bd), some (vI ((pm T q : Nat) : Int)), some (vI (((setOf (risF T S q) i) ||| (2 ^ i) : Nat) : Int)), some (vI ((i : Int) + 1)), none, some (vI 1)] rfl ?_
            refine wp_none 8 [some (vR 45), some (vR s), some (vI (q : Int)), some (vI bd), some (vI ((pm T q : Nat) : Int)), some (vI (((setOf (risF T S q) i) ||| (2 ^ i) : Nat) : Int)), some (vI ((i : Int) + 1)), none, none] rfl ?_
            refine wp_eqls (ls' := [some (vR 45), some (vR s), some (vI (q : Int)), some (vI bd), some (vI ((pm T q : Nat) : Int)), some (vI ((setOf (risF T S q) (i + 1) : Nat) : Int)), some (vI (((i + 1) : Nat) : Int)), none, none]) (by rw [setOf_y (f := risF T S q) (n := i) (risF_b (T := T) (S := S) (q := q) (p := i) (by omega) h_3)]; rfl) ih
      · refine wp_iconst (pc := 77) dX3_risersOf_77 ?_
        refine wp_goto (pc := 78) 82 dX3_risersOf_78 (by decide) ?_
        refine wq_istore (pc := 82) [some (vR 45), some (vR s), some (vI (q : Int)), some (vI bd), some (vI ((pm T q : Nat) : Int)), some (vI ((setOf (risF T S q) i : Nat) : Int)), some (vI (i : Int)), some (vI 1), none] dX3_risersOf_82 rfl (by decide) rfl ?_
        refine wp_aload_n (pc := 84) 0 dX3_risersOf_84 rfl rfl ?_
        refine wp_getr (pc := 85) dX3_risersOf_85 rfl f_X3_15 kd_45 la_45 rfl (r_45_1 D) ?_
        refine wp_getr (pc := 88) dX3_risersOf_88 rfl f_X3_44 (tk_0 h3) (tl_0 h3) rfl (tr_0_9 D h3) ?_
        refine wp_getr (pc := 91) dX3_risersOf_91 rfl f_X3_70 (tk_10 h3) (tl_10 h3) rfl (tr_10_3 D h3) ?_
        refine wp_iload (pc := 94) dX3_risersOf_94 rfl ?_
        refine wq_iald (pc := 96) i dX3_risersOf_96 (tk_14 h3) (tl_14 h3) rfl (by omega) ?_
        refine wp_eqst (st' := [vI (T 14 i)]) (by rw [← hT] <;> rfl) ?_
        refine wp_iload (pc := 97) dX3_risersOf_97 rfl ?_
        refine wn_and (pc := 99) (Int.toNat (T 14 i)) (pm T q) dX3_risersOf_99 (by omega) rfl ?_
        refine wp_if_eq (pc := 100) 107 dX3_risersOf_100 (by decide) (by omega) (fun h_6 => ?_) (fun h_6 => ?_)
        · refine wp_iconst (pc := 107) dX3_risersOf_107 ?_
          refine wq_istore (pc := 108) [some (vR 45), some (vR s), some (vI (q : Int)), some (vI bd), some (vI ((pm T q : Nat) : Int)), some (vI ((setOf (risF T S q) i : Nat) : Int)), some (vI (i : Int)), some (vI 1), some (vI 0)] dX3_risersOf_108 rfl (by decide) rfl ?_
          refine wp_iload (pc := 110) dX3_risersOf_110 rfl ?_
          refine wp_if_ne (pc := 112) 124 dX3_risersOf_112 (by decide) (by decide) (fun _ => ?_) (fun hh => absurd hh (by decide))
          refine wp_iload (pc := 124) dX3_risersOf_124 rfl ?_
          refine wp_iconst (pc := 126) dX3_risersOf_126 ?_
          refine wp_iload (pc := 127) dX3_risersOf_127 rfl ?_
          refine wn_shl1 (pc := 129) i dX3_risersOf_129 rfl (by omega) ?_
          refine wn_or (pc := 130) (setOf (risF T S q) i) (2 ^ i) dX3_risersOf_130 rfl rfl ?_
          refine wq_istore (pc := 131) [some (vR 45), some (vR s), some (vI (q : Int)), some (vI bd), some (vI ((pm T q : Nat) : Int)), some (vI (((setOf (risF T S q) i) ||| (2 ^ i) : Nat) : Int)), some (vI (i : Int)), some (vI 1), some (vI 0)] dX3_risersOf_131 rfl (by decide) rfl ?_
          refine wq_iinc (pc := 133) [some (vR 45), some (vR s), some (vI (q : Int)), some (vI bd), some (vI ((pm T q : Nat) : Int)), some (vI (((setOf (risF T S q) i) ||| (2 ^ i) : Nat) : Int)), some (vI ((i : Int) + 1)), some (vI 1), some (vI 0)] dX3_risersOf_133 rfl rfl (by decide) rfl ?_
          refine wp_goto (pc := 136) 49 dX3_risersOf_136 (by decide) ?_
          refine wp_none 7 [some (vR 45), some (vR s), some (vI (q : Int)), some (vI bd), some (vI ((pm T q : Nat) : Int)), some (vI (((setOf (risF T S q) i) ||| (2 ^ i) : Nat) : Int)), some (vI ((i : Int) + 1)), none, some (vI 0)] rfl ?_
          refine wp_none 8 [some (vR 45), some (vR s), some (vI (q : Int)), some (vI bd), some (vI ((pm T q : Nat) : Int)), some (vI (((setOf (risF T S q) i) ||| (2 ^ i) : Nat) : Int)), some (vI ((i : Int) + 1)), none, none] rfl ?_
          refine wp_eqls (ls' := [some (vR 45), some (vR s), some (vI (q : Int)), some (vI bd), some (vI ((pm T q : Nat) : Int)), some (vI ((setOf (risF T S q) (i + 1) : Nat) : Int)), some (vI (((i + 1) : Nat) : Int)), none, none]) (by rw [setOf_y (f := risF T S q) (n := i) (risF_a (T := T) (S := S) (q := q) (p := i) h_2)]; rfl) ih
        · refine wp_iconst (pc := 103) dX3_risersOf_103 ?_
          refine wp_goto (pc := 104) 108 dX3_risersOf_104 (by decide) ?_
          refine wq_istore (pc := 108) [some (vR 45), some (vR s), some (vI (q : Int)), some (vI bd), some (vI ((pm T q : Nat) : Int)), some (vI ((setOf (risF T S q) i : Nat) : Int)), some (vI (i : Int)), some (vI 1), some (vI 1)] dX3_risersOf_108 rfl (by decide) rfl ?_
          refine wp_iload (pc := 110) dX3_risersOf_110 rfl ?_
          refine wp_if_ne (pc := 112) 124 dX3_risersOf_112 (by decide) (by decide) (fun _ => ?_) (fun hh => absurd hh (by decide))
          refine wp_iload (pc := 124) dX3_risersOf_124 rfl ?_
          refine wp_iconst (pc := 126) dX3_risersOf_126 ?_
          refine wp_iload (pc := 127) dX3_risersOf_127 rfl ?_
          refine wn_shl1 (pc := 129) i dX3_risersOf_129 rfl (by omega) ?_
          refine wn_or (pc := 130) (setOf (risF T S q) i) (2 ^ i) dX3_risersOf_130 rfl rfl ?_
          refine wq_istore (pc := 131) [some (vR 45), some (vR s), some (vI (q : Int)), some (vI bd), some (vI ((pm T q : Nat) : Int)), some (vI (((setOf (risF T S q) i) ||| (2 ^ i) : Nat) : Int)), some (vI (i : Int)), some (vI 1), some (vI 1)] dX3_risersOf_131 rfl (by decide) rfl ?_
          refine wq_iinc (pc := 133) [some (vR 45), some (vR s), some (vI (q : Int)), some (vI bd), some (vI ((pm T q : Nat) : Int)), some (vI (((setOf (risF T S q) i) ||| (2 ^ i) : Nat) : Int)), some (vI ((i : Int) + 1)), some (vI 1), some (vI 1)] dX3_risersOf_133 rfl rfl (by decide) rfl ?_
          refine wp_goto (pc := 136) 49 dX3_risersOf_136 (by decide) ?_
          refine wp_none 7 [some (vR 45), some (vR s), some (vI (q : Int)), some (vI bd), some (vI ((pm T q : Nat) : Int)), some (vI (((setOf (risF T S q) i) ||| (2 ^ i) : Nat) : Int)), some (vI ((i : Int) + 1)), none, some (vI 1)] rfl ?_
          refine wp_none 8 [some (vR 45), some (vR s), some (vI (q : Int)), some (vI bd), some (vI ((pm T q : Nat) : Int)), some (vI (((setOf (risF T S q) i) ||| (2 ^ i) : Nat) : Int)), some (vI ((i : Int) + 1)), none, none] rfl ?_
          refine wp_eqls (ls' := [some (vR 45), some (vR s), some (vI (q : Int)), some (vI bd), some (vI ((pm T q : Nat) : Int)), some (vI ((setOf (risF T S q) (i + 1) : Nat) : Int)), some (vI (((i + 1) : Nat) : Int)), none, none]) (by rw [setOf_y (f := risF T S q) (n := i) (risF_a (T := T) (S := S) (q := q) (p := i) h_2)]; rfl) ih

theorem sp_risersOf {l : Launch} {G : mG} {d : Nat} {I : mI} {L : Nat → Nat → Int} {D : Nat → Nat} {Q : mQ} {s : Nat} {T : mT} {S : mS} {B : Int} (q : Nat) {q_ : Int} (hq_ : q_ = (q : Int)) (h3 : isT (D 3)) (hs : isS s) (hT : TT I (D 3) = T) (hS : SS I s = S) (hw : tw T) (hv : sw S B) (hq : q < 5) (hd : 3 ≤ d) (hQ : Q (some (vI ((risers T S q : Int)))) I (XX L D)) : WP l G m_X3_risersOf d 153 I (XX L D) 0 [some (vR 45), some (vR s), some (vI q_), none, none, none, none, none, none] [] Q := by
  subst hq_
  have b1 := tw_one hw q
  have b2 := tw_other hw q
  have b3 := barF_in T S (Int.toNat (T 6 q)) (Int.toNat (T 7 q)) q
  refine wp_aload_n (pc := 0) 0 dX3_risersOf_0 rfl rfl ?_
  refine wp_aload_n (pc := 1) 1 dX3_risersOf_1 rfl rfl ?_
  refine wp_aload_n (pc := 2) 0 dX3_risersOf_2 rfl rfl ?_
  refine wp_getr (pc := 3) dX3_risersOf_3 rfl f_X3_15 kd_45 la_45 rfl (r_45_1 D) ?_
  refine wp_getr (pc := 6) dX3_risersOf_6 rfl f_X3_31 (tk_0 h3) (tl_0 h3) rfl (tr_0_5 D h3) ?_
  refine wp_iload_n (pc := 9) 2 dX3_risersOf_9 rfl rfl ?_
  refine wq_iald (pc := 10) q dX3_risersOf_10 (tk_6 h3) (tl_6 h3) rfl (by omega) ?_
  refine wp_eqst (st' := [vI (T 6 q), vR s, vR 45]) (by rw [← hT] <;> rfl) ?_
  refine wp_aload_n (pc := 11) 0 dX3_risersOf_11 rfl rfl ?_
  refine wp_getr (pc := 12) dX3_risersOf_12 rfl f_X3_15 kd_45 la_45 rfl (r_45_1 D) ?_
  refine wp_getr (pc := 15) dX3_risersOf_15 rfl f_X3_34 (tk_0 h3) (tl_0 h3) rfl (tr_0_6 D h3) ?_
  refine wp_iload_n (pc := 18) 2 dX3_risersOf_18 rfl rfl ?_
  refine wq_iald (pc := 19) q dX3_risersOf_19 (tk_7 h3) (tl_7 h3) rfl (by omega) ?_
  refine wp_eqst (st' := [vI (T 7 q), vI (T 6 q), vR s, vR 45]) (by rw [← hT] <;> rfl) ?_
  refine wp_iload_n (pc := 20) 2 dX3_risersOf_20 rfl rfl ?_
  refine wp_callV (pc := 21) (st := []) (nf' := 153) [vR s, vI (T 6 q), vI (T 7 q), vI (q : Int)] [some (vR 45), some (vR s), some (vI (T 6 q)), some (vI (T 7 q)), some (vI (q : Int)), none] dX3_risersOf_21 rfl c_X3_40 rfl kd_45 (by decide) rfl la_45 rfl (Nat.le_of_ble_eq_true rfl) rfl (Nat.le_of_ble_eq_true rfl) (by omega) (Nat.le_refl _) (Nat.le_refl _) ?_
  refine sp_barBetween (Int.toNat (T 6 q)) (by omega) (Int.toNat (T 7 q)) (by omega) h3 hs hT hS hw hv (by omega) (by omega) (by omega) (by omega) ?_
  refine wp_eqst (st' := [vI (barF T S (Int.toNat (T 6 q)) (Int.toNat (T 7 q)) (q : Int))]) rfl ?_
  refine wp_if_eq (pc := 24) 31 dX3_risersOf_24 (by decide) (by omega) (fun h_1 => ?_) (fun h_1 => ?_)
  · refine wp_iconst (pc := 31) dX3_risersOf_31 ?_
    refine wq_istore_n (pc := 32) 3 [some (vR 45), some (vR s), some (vI (q : Int)), some (vI 0), none, none, none, none, none] dX3_risersOf_32 rfl rfl (by decide) rfl ?_
    refine wp_aload_n (pc := 33) 0 dX3_risersOf_33 rfl rfl ?_
    refine wp_getr (pc := 34) dX3_risersOf_34 rfl f_X3_15 kd_45 la_45 rfl (r_45_1 D) ?_
    refine wp_iload_n (pc := 37) 2 dX3_risersOf_37 rfl rfl ?_
    refine wp_callV (pc := 38) (st := []) (nf' := 153) [vI (q : Int)] [some (vR (D 3)), some (vI (q : Int))] dX3_risersOf_38 rfl c_X3_37 rfl (tk_0 h3) (by decide) rfl (tl_0 h3) rfl (Nat.le_of_ble_eq_true rfl) rfl (Nat.le_of_ble_eq_true rfl) (by omega) (Nat.le_refl _) (Nat.le_refl _) ?_
    refine sp_pairMask q rfl h3 hT hw (by omega) (by omega) ?_
    refine wp_eqst (st' := [vI ((pm T q : Nat) : Int)]) rfl ?_
    refine wq_istore (pc := 41) [some (vR 45), some (vR s), some (vI (q : Int)), some (vI 0), some (vI ((pm T q : Nat) : Int)), none, none, none, none] dX3_risersOf_41 rfl (by decide) rfl ?_
    refine wp_iconst (pc := 43) dX3_risersOf_43 ?_
    refine wq_istore (pc := 44) [some (vR 45), some (vR s), some (vI (q : Int)), some (vI 0), some (vI ((pm T q : Nat) : Int)), some (vI 0), none, none, none] dX3_risersOf_44 rfl (by decide) rfl ?_
    refine wp_iconst (pc := 46) dX3_risersOf_46 ?_
    refine wq_istore (pc := 47) [some (vR 45), some (vR s), some (vI (q : Int)), some (vI 0), some (vI ((pm T q : Nat) : Int)), some (vI 0), some (vI 0), none, none] dX3_risersOf_47 rfl (by decide) rfl ?_
    exact lp_risersOf h3 hs hT hS hw hv hq (Or.inr ⟨rfl, h_1⟩) (by omega) hQ 0 (Nat.zero_le _)
  · refine wp_iconst (pc := 27) dX3_risersOf_27 ?_
    refine wp_goto (pc := 28) 32 dX3_risersOf_28 (by decide) ?_
    refine wq_istore_n (pc := 32) 3 [some (vR 45), some (vR s), some (vI (q : Int)), some (vI 1), none, none, none, none, none] dX3_risersOf_32 rfl rfl (by decide) rfl ?_
    refine wp_aload_n (pc := 33) 0 dX3_risersOf_33 rfl rfl ?_
    refine wp_getr (pc := 34) dX3_risersOf_34 rfl f_X3_15 kd_45 la_45 rfl (r_45_1 D) ?_
    refine wp_iload_n (pc := 37) 2 dX3_risersOf_37 rfl rfl ?_
    refine wp_callV (pc := 38) (st := []) (nf' := 153) [vI (q : Int)] [some (vR (D 3)), some (vI (q : Int))] dX3_risersOf_38 rfl c_X3_37 rfl (tk_0 h3) (by decide) rfl (tl_0 h3) rfl (Nat.le_of_ble_eq_true rfl) rfl (Nat.le_of_ble_eq_true rfl) (by omega) (Nat.le_refl _) (Nat.le_refl _) ?_
    refine sp_pairMask q rfl h3 hT hw (by omega) (by omega) ?_
    refine wp_eqst (st' := [vI ((pm T q : Nat) : Int)]) rfl ?_
    refine wq_istore (pc := 41) [some (vR 45), some (vR s), some (vI (q : Int)), some (vI 1), some (vI ((pm T q : Nat) : Int)), none, none, none, none] dX3_risersOf_41 rfl (by decide) rfl ?_
    refine wp_iconst (pc := 43) dX3_risersOf_43 ?_
    refine wq_istore (pc := 44) [some (vR 45), some (vR s), some (vI (q : Int)), some (vI 1), some (vI ((pm T q : Nat) : Int)), some (vI 0), none, none, none] dX3_risersOf_44 rfl (by decide) rfl ?_
    refine wp_iconst (pc := 46) dX3_risersOf_46 ?_
    refine wq_istore (pc := 47) [some (vR 45), some (vR s), some (vI (q : Int)), some (vI 1), some (vI ((pm T q : Nat) : Int)), some (vI 0), some (vI 0), none, none] dX3_risersOf_47 rfl (by decide) rfl ?_
    exact lp_risersOf h3 hs hT hS hw hv hq (Or.inl ⟨rfl, h_1⟩) (by omega) hQ 0 (Nat.zero_le _)

theorem sp_barOf {l : Launch} {G : mG} {d : Nat} {I : mI} {L : Nat → Nat → Int} {D : Nat → Nat} {Q : mQ} {s : Nat} {T : mT} {S : mS} {B : Int} (q : Nat) {q_ : Int} (hq_ : q_ = (q : Int)) (h3 : isT (D 3)) (hs : isS s) (hT : TT I (D 3) = T) (hS : SS I s = S) (hw : tw T) (hv : sw S B) (hq : q < 5) (hd : 3 ≤ d) (hQ : Q (some (vI (barQ T S q))) I (XX L D)) : WP l G m_X3_barOf d 153 I (XX L D) 0 [some (vR 45), some (vR s), some (vI q_)] [] Q := by
  subst hq_
  have b1 := tw_one hw q
  have b2 := tw_other hw q
  refine wp_aload_n (pc := 0) 0 dX3_barOf_0 rfl rfl ?_
  refine wp_aload_n (pc := 1) 1 dX3_barOf_1 rfl rfl ?_
  refine wp_aload_n (pc := 2) 0 dX3_barOf_2 rfl rfl ?_
  refine wp_getr (pc := 3) dX3_barOf_3 rfl f_X3_15 kd_45 la_45 rfl (r_45_1 D) ?_
  refine wp_getr (pc := 6) dX3_barOf_6 rfl f_X3_31 (tk_0 h3) (tl_0 h3) rfl (tr_0_5 D h3) ?_
  refine wp_iload_n (pc := 9) 2 dX3_barOf_9 rfl rfl ?_
  refine wq_iald (pc := 10) q dX3_barOf_10 (tk_6 h3) (tl_6 h3) rfl (by omega) ?_
  refine wp_eqst (st' := [vI (T 6 q), vR s, vR 45]) (by rw [← hT] <;> rfl) ?_
  refine wp_aload_n (pc := 11) 0 dX3_barOf_11 rfl rfl ?_
  refine wp_getr (pc := 12) dX3_barOf_12 rfl f_X3_15 kd_45 la_45 rfl (r_45_1 D) ?_
  refine wp_getr (pc := 15) dX3_barOf_15 rfl f_X3_34 (tk_0 h3) (tl_0 h3) rfl (tr_0_6 D h3) ?_
  refine wp_iload_n (pc := 18) 2 dX3_barOf_18 rfl rfl ?_
  refine wq_iald (pc := 19) q dX3_barOf_19 (tk_7 h3) (tl_7 h3) rfl (by omega) ?_
  refine wp_eqst (st' := [vI (T 7 q), vI (T 6 q), vR s, vR 45]) (by rw [← hT] <;> rfl) ?_
  refine wp_iload_n (pc := 20) 2 dX3_barOf_20 rfl rfl ?_
  refine wp_callV (pc := 21) (st := []) (nf' := 153) [vR s, vI (T 6 q), vI (T 7 q), vI (q : Int)] [some (vR 45), some (vR s), some (vI (T 6 q)), some (vI (T 7 q)), some (vI (q : Int)), none] dX3_barOf_21 rfl c_X3_40 rfl kd_45 (by decide) rfl la_45 rfl (Nat.le_of_ble_eq_true rfl) rfl (Nat.le_of_ble_eq_true rfl) (by omega) (Nat.le_refl _) (Nat.le_refl _) ?_
  refine sp_barBetween (Int.toNat (T 6 q)) (by omega) (Int.toNat (T 7 q)) (by omega) h3 hs hT hS hw hv (by omega) (by omega) (by omega) (by omega) ?_
  refine wp_eqst (st' := [vI (barF T S (Int.toNat (T 6 q)) (Int.toNat (T 7 q)) (q : Int))]) rfl ?_
  refine wp_iret (pc := 24) dX3_barOf_24 rfl rfl ?_
  exact hQ

theorem sp_takesCall {l : Launch} {G : mG} {d : Nat} {I : mI} {L : Nat → Nat → Int} {D : Nat → Nat} {Q : mQ} {T : mT} {f : Nat → Int} (a : Nat) {a_ : Int} (ha_ : a_ = (a : Int)) (b : Nat) {b_ : Int} (hb_ : b_ = (b : Int)) (h3 : isT (D 3)) (hT : TT I (D 3) = T) (hw : tw T) (ha : a < 4) (hb : b < 4) (hf : ∀ j, j < 4 → 0 ≤ f j ∧ f j ≤ 5) (hd : 0 ≤ d) (h1 : (f a < T 0 16 ∧ f b < T 0 16) → Q (some (vI 1)) (upc I 46 (inc2 f a b)) (XX L D)) (h0 : ¬ (f a < T 0 16 ∧ f b < T 0 16) → Q (some (vI 0)) (upc I 46 f) (XX L D)) : WP l G m_X3_takesCall d 153 (upc I 46 f) (XX L D) 0 [some (vR 45), some (vI a_), some (vI b_)] [] Q := by
  subst ha_
  subst hb_
  have b1 := tw_calls hw
  have b2 := hf a ha
  have b3 := hf b hb
  refine wp_aload_n (pc := 0) 0 dX3_takesCall_0 rfl rfl ?_
  refine wp_getr (pc := 1) dX3_takesCall_1 rfl f_X3_9 kd_45 la_45 rfl (r_45_0 D) ?_
  refine wp_iload_n (pc := 4) 1 dX3_takesCall_4 rfl rfl ?_
  refine wq_iald (pc := 5) a dX3_takesCall_5 kd_46 la_46 rfl (by omega) ?_
  refine wp_eqst (st' := [vI (f a)]) (by rw [upc_s]) ?_
  refine wp_aload_n (pc := 6) 0 dX3_takesCall_6 rfl rfl ?_
  refine wp_getr (pc := 7) dX3_takesCall_7 rfl f_X3_15 kd_45 la_45 rfl (r_45_1 D) ?_
  refine wp_geti (pc := 10) dX3_takesCall_10 rfl f_X3_102 (tk_0 h3) (tl_0 h3) (Or.inl rfl) ?_
  refine wp_eqst (st' := [vI (T 0 16), vI (f a)]) (by rw [upc_c (by omega), ← hT] <;> rfl) ?_
  refine wp_icmp_ge (pc := 13) 32 dX3_takesCall_13 (by decide) (by omega) (by omega) (fun h_1 => ?_) (fun h_1 => ?_)
  · refine wp_iconst (pc := 32) dX3_takesCall_32 ?_
    refine wp_zret (pc := 33) dX3_takesCall_33 rfl rfl (by decide) ?_
    exact h0 (by omega)
  · refine wp_aload_n (pc := 16) 0 dX3_takesCall_16 rfl rfl ?_
    refine wp_getr (pc := 17) dX3_takesCall_17 rfl f_X3_9 kd_45 la_45 rfl (r_45_0 D) ?_
    refine wp_iload_n (pc := 20) 2 dX3_takesCall_20 rfl rfl ?_
    refine wq_iald (pc := 21) b dX3_takesCall_21 kd_46 la_46 rfl (by omega) ?_
    refine wp_eqst (st' := [vI (f b)]) (by rw [upc_s]) ?_
    refine wp_aload_n (pc := 22) 0 dX3_takesCall_22 rfl rfl ?_
    refine wp_getr (pc := 23) dX3_takesCall_23 rfl f_X3_15 kd_45 la_45 rfl (r_45_1 D) ?_
    refine wp_geti (pc := 26) dX3_takesCall_26 rfl f_X3_102 (tk_0 h3) (tl_0 h3) (Or.inl rfl) ?_
    refine wp_eqst (st' := [vI (T 0 16), vI (f b)]) (by rw [upc_c (by omega), ← hT] <;> rfl) ?_
    refine wp_icmp_lt (pc := 29) 34 dX3_takesCall_29 (by decide) (by omega) (by omega) (fun h_2 => ?_) (fun h_2 => ?_)
    · refine wp_aload_n (pc := 34) 0 dX3_takesCall_34 rfl rfl ?_
      refine wp_getr (pc := 35) dX3_takesCall_35 rfl f_X3_9 kd_45 la_45 rfl (r_45_0 D) ?_
      refine wp_iload_n (pc := 38) 1 dX3_takesCall_38 rfl rfl ?_
      refine wp_dup2 (pc := 39) dX3_takesCall_39 rfl rfl ?_
      refine wq_iald (pc := 40) a dX3_takesCall_40 kd_46 la_46 rfl (by omega) ?_
      refine wp_eqst (st' := [vI (f a), vI (a : Int), vR 46]) (by rw [upc_s]) ?_
      refine wp_iconst (pc := 41) dX3_takesCall_41 ?_
      refine wp_iadd (pc := 42) dX3_takesCall_42 ?_
      refine wq_iast (pc := 43) a dX3_takesCall_43 kd_46 la_46 rfl (by omega) ?_
      refine wp_iload_n (pc := 44) 2 dX3_takesCall_44 rfl rfl ?_
      refine wp_iload_n (pc := 45) 1 dX3_takesCall_45 rfl rfl ?_
      refine wp_icmp_eq (pc := 46) 59 dX3_takesCall_46 (by decide) (by omega) (by omega) (fun h_3 => ?_) (fun h_3 => ?_)
      · refine wp_iconst (pc := 59) dX3_takesCall_59 ?_
        refine wp_zret (pc := 60) dX3_takesCall_60 rfl rfl (by decide) ?_
        have e := h1 (by constructor <;> omega)
        rw [inc2, if_pos (by omega)] at e
        rw [up_upc]
        exact e
      · refine wp_aload_n (pc := 49) 0 dX3_takesCall_49 rfl rfl ?_
        refine wp_getr (pc := 50) dX3_takesCall_50 rfl f_X3_9 kd_45 la_45 rfl (r_45_0 D) ?_
        refine wp_iload_n (pc := 53) 2 dX3_takesCall_53 rfl rfl ?_
        refine wp_dup2 (pc := 54) dX3_takesCall_54 rfl rfl ?_
        refine wq_iald (pc := 55) b dX3_takesCall_55 kd_46 la_46 rfl (by omega) ?_
        refine wp_iconst (pc := 56) dX3_takesCall_56 ?_
        refine wp_iadd (pc := 57) dX3_takesCall_57 ?_
        refine wq_iast (pc := 58) b dX3_takesCall_58 kd_46 la_46 rfl (by omega) ?_
        refine wp_iconst (pc := 59) dX3_takesCall_59 ?_
        refine wp_zret (pc := 60) dX3_takesCall_60 rfl rfl (by decide) ?_
        have e := h1 (by constructor <;> omega)
        rw [inc2, if_neg (by omega)] at e
        rw [up_upc, up_upc, upc_s, if_neg (by omega)]
        exact e
    · refine wp_iconst (pc := 32) dX3_takesCall_32 ?_
      refine wp_zret (pc := 33) dX3_takesCall_33 rfl rfl (by decide) ?_
      exact h0 (by omega)
