/-! WHAT WAS TOLD SO FAR holds together -/
def FML (T : mT) : Prop := ∃ out un, OF T out un ∧ gdl out ∧ dl out = 1 ∧ 0 < out.length ∧ out.length ≤ 300 ∧ un ≤ 30
theorem FML.o {T T' : mT} (h : FML T) (h17 : ∀ j, T' 17 j = T 17 j) (h18 : ∀ j, T' 18 j = T 18 j) : FML T' := by
  obtain ⟨out, un, ⟨a1, a2, a3⟩, h2⟩ := h
  exact ⟨out, un, ⟨(h17 2).trans a1, (h17 3).trans a2, fun k hk => (h18 k).trans (a3 k hk)⟩, h2⟩
def cleanT (T : mT) : Prop := ∀ j, nP T ≤ j → j < 8 → T 11 j = -1 ∧ T 12 j = -1 ∧ T 13 j = 0 ∧ T 4 j = 0 ∧ T 5 j = 0
def prOk (T : mT) : Prop := ∀ q, q < nQ T → T 6 q < T 0 12 ∧ T 7 q < T 0 12 ∧ T 8 q < T 0 11 ∧ T 9 q < T 0 11
def hmOk (T : mT) : Prop := ∀ p, p < nP T → T 3 p < T 0 11
def lenOk (T : mT) (mo : Nat) : Prop := (¬ mo.testBit 11 = true → T 17 2 = 0 ∧ T 17 3 = 0) ∧ (mo.testBit 11 = true → FML T)
def GT (T : mT) (mo : Nat) : Prop := tw T ∧ lenOk T mo ∧ cleanT T ∧ parOk T ∧ prOk T ∧ hmOk T ∧ (T 0 14).toNat < 2 ^ nP T
theorem lenOk.o {T T' : mT} {mo mo' : Nat} (h : lenOk T mo) (h17 : ∀ j, T' 17 j = T 17 j) (h18 : ∀ j, T' 18 j = T 18 j) (hm : mo'.testBit 11 = mo.testBit 11) : lenOk T' mo' := by
  refine ⟨fun z => ?_, fun z => ?_⟩
  · rw [hm] at z
    rw [h17, h17]
    exact h.1 z
  · rw [hm] at z
    exact (h.2 z).o h17 h18
theorem bit_or {mo k j : Nat} (h : k ≠ j) : (mo ||| 2 ^ k).testBit j = mo.testBit j := by
  rw [Nat.testBit_or, Nat.testBit_two_pow, decide_eq_false h, Bool.or_false]
theorem clr_GT {T : mT} (hw : tw T) : GT (clrT T) 0 := by
  refine ⟨clrT_tw hw, ⟨fun _ => ⟨rfl, rfl⟩, fun z => ?_⟩, fun j h1 h2 => ?_, fun p hp => absurd hp (Nat.not_lt_zero p), fun q hq => absurd hq (Nat.not_lt_zero q), fun p hp => absurd hp (Nat.not_lt_zero p), (by decide : (0 : Int).toNat < 2 ^ (0 : Int).toNat)⟩
  · rw [Nat.zero_testBit] at z; exact absurd z (by decide)
  · refine ⟨?_, ?_, ?_, ?_, ?_⟩
    all_goals exact if_pos h2
section PRES
variable {b : Nat → Int} {c c' : Nat} {T N T' N' : mT} {mo : Nat}
theorem church_GT (h : churchF b c T N = .inr (c', T', N')) (hG : GT T mo) : GT T' mo := by
  unfold churchF at h
  split at h
  · cases h
  split at h
  · cases h
  next h4 _ =>
  cases h
  obtain ⟨g1, g2, g3, g4, g5, g6, g7⟩ := hG
  have b1 := tw_c g1
  refine ⟨tw_set g1 (by unfold twB; omega), g2.o (fun j => setT_k (by decide)) (fun j => setT_k (by decide)) rfl, g3, g4, fun q hq => ?_, fun p hp => ?_, g7⟩
  · have := g5 q hq
    show T 6 q < T 0 12 ∧ T 7 q < T 0 12 ∧ T 8 q < T 0 11 + 1 ∧ T 9 q < T 0 11 + 1
    omega
  · have := g6 p hp
    show T 3 p < T 0 11 + 1
    omega
theorem setN_n {T : mT} {k j : Nat} {v : Int} (h : k ≠ 0) : nP (setT T k j v) = nP T ∧ nC (setT T k j v) = nC T ∧ nQ (setT T k j v) = nQ T := by
  have e : ∀ i, setT T k j v 0 i = T 0 i := fun i => setT_k (fun z => h z.symm)
  refine ⟨?_, ?_, ?_⟩
  · show (setT T k j v 0 12).toNat = _; rw [e]
  · show (setT T k j v 0 11).toNat = _; rw [e]
  · show (setT T k j v 0 13).toNat = _; rw [e]
/-- a person's line: all of the new person's own, and nothing else, may have changed -/
def prRow (T T' : mT) (p : Nat) : Prop := (∀ k j, (k ≠ 0 ∨ j ≠ 14) → (k = 3 ∨ k = 4 ∨ k = 11 ∨ k = 12 → j ≠ p) → T' k j = T k j) ∧ T' 3 p < T 0 11 ∧ (T' 11 p < p ∧ T' 12 p < p) ∧ tw T' ∧ (T' 0 14).toNat < 2 ^ (p + 1)
theorem par_row {T0 : mT} (h : parF b c T N = .inr (c', T', N')) (hr : prRow T0 T (nP T0)) (hn : T 0 12 = T0 0 12) : prRow T0 T' (nP T0) := by
  have en : nP T = nP T0 := by show (T 0 12).toNat = (T0 0 12).toNat; rw [hn]
  obtain ⟨r1, r2, r3, r4, r5⟩ := hr
  have b1 := tw_p r4
  have e0 : nP T = (T 0 12).toNat := rfl
  unfold parF at h
  split at h
  · cases h; exact ⟨r1, r2, r3, r4, r5⟩
  split at h
  · cases h
  next hf1 =>
  have p1 := prF_in (b := b) (c := te b c) (N := N 1) (n := nP T) (rep := 0)
  split at h
  · cases h
    have w1 : tw (setT T 11 (nP T) (prF b (te b c) (N 1) (nP T) 0)) := tw_set r4 (by unfold twB; omega)
    rw [en] at w1 ⊢
    refine ⟨fun k j a1 a2 => ?_, r2, ⟨?_, r3.2⟩, w1, r5⟩
    · rw [show setT T 11 (nP T0) _ k j = T k j from if_neg (fun z => a2 (by omega) z.2)]; exact r1 k j a1 a2
    · rw [setT_s]; rw [en] at p1; exact p1.2
  split at h
  · cases h
  next hf2 =>
  have p2 := prF_in (b := b) (c := te b (te b (te b c))) (N := N 1) (n := nP T) (rep := 2 ^ (prF b (te b c) (N 1) (nP T) 0).toNat)
  cases h
  have w1 : tw (setT T 11 (nP T) (prF b (te b c) (N 1) (nP T) 0)) := tw_set r4 (by unfold twB; omega)
  have w2 := tw_set (k := 12) (j := nP T) (v := prF b (te b (te b (te b c))) (N 1) (nP T) (2 ^ (prF b (te b c) (N 1) (nP T) 0).toNat)) w1 (by unfold twB; omega)
  rw [en] at p1 p2 w2 ⊢
  refine ⟨fun k j a1 a2 => ?_, r2, ⟨?_, ?_⟩, w2, r5⟩
  · rw [show setT (setT T 11 (nP T0) _) 12 (nP T0) _ k j = setT T 11 (nP T0) _ k j from if_neg (fun z => a2 (by omega) z.2), show setT T 11 (nP T0) _ k j = T k j from if_neg (fun z => a2 (by omega) z.2)]; exact r1 k j a1 a2
  · rw [setT_k (by decide), setT_s]; exact p1.2
  · rw [setT_s]; exact p2.2
theorem vw_row {T0 : mT} (hr : prRow T0 T (nP T0)) (hn : T 0 12 = T0 0 12) (h8 : T0 0 12 < 8) (hv : (T 0 14).toNat < 2 ^ (nP T0)) : prRow T0 (vwF b c T).2 (nP T0) := by
  have en : nP T = nP T0 := by show (T 0 12).toNat = (T0 0 12).toNat; rw [hn]
  obtain ⟨r1, r2, r3, r4, r5⟩ := hr
  have b1 := tw_p r4
  have e0 : nP T0 = (T0 0 12).toNat := rfl
  unfold vwF
  split
  · have hlt : (T 0 14).toNat ||| 2 ^ nP T < 2 ^ (nP T0 + 1) := by
      rw [en]; exact or_lt (Nat.lt_trans hv (Nat.pow_lt_pow_right (by decide) (by omega))) (Nat.pow_lt_pow_right (by decide) (by omega))
    have h256 : 2 ^ (nP T0 + 1) ≤ 2 ^ 8 := Nat.pow_le_pow_right (by decide) (by omega)
    show prRow T0 (setT T 0 14 (((T 0 14).toNat ||| 2 ^ nP T : Nat) : Int)) (nP T0)
    refine ⟨fun k j a1 a2 => ?_, r2, r3, tw_set r4 (by unfold twB; omega), ?_⟩
    · rw [show setT T 0 14 _ k j = T k j from if_neg (fun z => by rcases a1 with q | q; exact q z.1; exact q z.2)]; exact r1 k j a1 a2
    · show (setT T 0 14 _ 0 14).toNat < _; rw [setT_s, Int.toNat_natCast]; exact hlt
  · exact ⟨r1, r2, r3, r4, r5⟩
theorem sl_row {T0 : mT} (h : slF b c T N = .inr (c', T', N')) (hr : prRow T0 T (nP T0)) (hn : T 0 12 = T0 0 12) : prRow T0 T' (nP T0) := by
  have en : nP T = nP T0 := by show (T 0 12).toNat = (T0 0 12).toNat; rw [hn]
  obtain ⟨r1, r2, r3, r4, r5⟩ := hr
  unfold slF at h
  split at h
  · cases h; exact ⟨r1, r2, r3, r4, r5⟩
  split at h
  · cases h
  next hf =>
  have q := nbF_ok (b := b) (c := te b c) (lo := 1) (hi := 12) (by decide) (by omega)
  cases h
  rw [en]
  refine ⟨fun k j a1 a2 => ?_, r2, r3, tw_set r4 (by unfold twB; omega), r5⟩
  rw [show setT T 4 (nP T0) _ k j = T k j from if_neg (fun z => a2 (by omega) z.2)]; exact r1 k j a1 a2
theorem person_GT (h : personF b c T N = .inr (c', T', N')) (hG : GT T mo) : GT T' mo := by
  obtain ⟨g1, g2, g3, g4, g5, g6, g7⟩ := hG
  have b1 := tw_p g1
  have bc := tw_c g1
  have e0 : nP T = (T 0 12).toNat := rfl
  have ec : nC T = (T 0 11).toNat := rfl
  unfold personF at h
  split at h
  · cases h
  next h8 =>
  split at h
  · cases h
  split at h
  · cases h
  split at h
  · cases h
  next hf =>
  have p1 := prF_in (b := b) (c := te b (te b (te b c))) (N := N 0) (n := nC T) (rep := 0)
  obtain ⟨c1, T1, N1, h1, h2⟩ := bnd_inr h
  obtain ⟨c2, T2, N2, h3, h4⟩ := bnd_inr h2
  have n1 := parF_n h1
  have n2 := slF_n h3
  have hcl := g3 (nP T) (Nat.le_refl _) (by omega)
  have hv2 : (T 0 14).toNat < 2 ^ (nP T + 1) := Nat.lt_trans g7 (Nat.pow_lt_pow_right (by decide) (by omega))
  have r0 : prRow T (setT T 3 (nP T) (prF b (te b (te b (te b c))) (N 0) (nC T) 0)) (nP T) := by
    refine ⟨fun k j a1 a2 => if_neg (fun z => a2 (by omega) z.2), by rw [setT_s]; omega, ⟨?_, ?_⟩, tw_set g1 (by unfold twB; omega), hv2⟩
    · rw [setT_k (by decide), hcl.1]; omega
    · rw [setT_k (by decide), hcl.2.1]; omega
  have r1 := par_row h1 r0 (setT_k (by decide))
  have e12 : T1 0 12 = T 0 12 := n1.2.1.trans (setT_k (by decide))
  have e14 : T1 0 14 = T 0 14 := n1.2.2.2.trans (setT_k (by decide))
  have r2 := vw_row (b := b) (c := c1) r1 e12 (by omega) (by rw [e14]; exact g7)
  have r3 := sl_row h3 r2 (vwF_n.trans e12)
  have e2 : T2 0 12 = T 0 12 := n2.2.trans (vwF_n.trans e12)
  cases h4
  obtain ⟨q1, q2, q3, q4, q5⟩ := r3
  have eP : nP (setT T2 0 12 (T2 0 12 + 1)) = nP T + 1 := by show (setT T2 0 12 (T2 0 12 + 1) 0 12).toNat = _; rw [setT_s, e2]; omega
  have e11 : setT T2 0 12 (T2 0 12 + 1) 0 11 = T 0 11 := (setT_j (by decide)).trans (q1 0 11 (by omega) (fun z => by omega))
  have row : ∀ k j, k ≠ 0 → setT T2 0 12 (T2 0 12 + 1) k j = T2 k j := fun k j hk => setT_k hk
  refine ⟨tw_set q4 (by unfold twB; omega), g2.o (fun j => (row 17 j (by decide)).trans (q1 17 j (by omega) (fun z => by omega))) (fun j => (row 18 j (by decide)).trans (q1 18 j (by omega) (fun z => by omega))) rfl, fun j h1 h2 => ?_, fun p hp => ?_, fun q hq => ?_, fun p hp => ?_, ?_⟩
  · rw [eP] at h1
    have := g3 j (by omega) h2
    rw [row 11 j (by decide), row 12 j (by decide), row 13 j (by decide), row 4 j (by decide), row 5 j (by decide), q1 11 j (by omega) (fun _ => by omega), q1 12 j (by omega) (fun _ => by omega), q1 13 j (by omega) (fun z => by omega), q1 4 j (by omega) (fun _ => by omega), q1 5 j (by omega) (fun z => by omega)]
    exact this
  · rw [eP] at hp
    rw [row 11 p (by decide), row 12 p (by decide)]
    by_cases e : p = nP T
    · rw [e]; exact q3
    · rw [q1 11 p (by omega) (fun _ => e), q1 12 p (by omega) (fun _ => e)]; exact g4 p (by omega)
  · have eQ : nQ (setT T2 0 12 (T2 0 12 + 1)) = nQ T := by show (setT T2 0 12 (T2 0 12 + 1) 0 13).toNat = _; rw [setT_j (by decide), q1 0 13 (by omega) (fun z => by omega)]
    rw [eQ] at hq
    have := g5 q hq
    rw [row 6 q (by decide), row 7 q (by decide), row 8 q (by decide), row 9 q (by decide), setT_s, e11, q1 6 q (by omega) (fun z => by omega), q1 7 q (by omega) (fun z => by omega), q1 8 q (by omega) (fun z => by omega), q1 9 q (by omega) (fun z => by omega)]
    omega
  · rw [eP] at hp
    rw [row 3 p (by decide), e11]
    by_cases e : p = nP T
    · rw [e]; exact q2
    · rw [q1 3 p (by omega) (fun _ => e)]; exact g6 p (by omega)
  · rw [eP, setT_j (by decide)]; exact q5
theorem link_GT {k most : Nat} (hk : k = 13 ∨ k = 5) (h : linkF b c T N k most = .inr (c', T', N')) (hG : GT T mo) : GT T' mo := by
  obtain ⟨g1, g2, g3, g4, g5, g6, g7⟩ := hG
  have b1 := tw_p g1
  have e0 : nP T = (T 0 12).toNat := rfl
  unfold linkF at h
  split at h
  · cases h
  split at h
  · cases h
  next hf1 =>
  split at h
  · cases h
  next hf2 =>
  have p1 := prF_in (b := b) (c := te b c) (N := N 1) (n := nP T) (rep := 0)
  cases h
  generalize prF b (te b c) (N 1) (nP T) 0 = a at *
  have p2 := prF_in (b := b) (c := te b (te b c)) (N := N 1) (n := nP T) (rep := (T k a.toNat).toNat ||| 2 ^ a.toNat)
  generalize prF b (te b (te b c)) (N 1) (nP T) ((T k a.toNat).toNat ||| 2 ^ a.toNat) = e at *
  have hb : 0 ≤ T k a.toNat ∧ T k a.toNat ≤ 255 := by rcases hk with rfl | rfl; exact tw_told g1 _; exact tw_spites g1 _
  have hlt : (T k a.toNat).toNat ||| 2 ^ e.toNat < 2 ^ 8 := or_lt (by omega) (two_lt (by omega))
  have k0 : k ≠ 0 := by omega
  refine ⟨tw_set g1 (by unfold twB; omega), g2.o (fun j => setT_k (by omega)) (fun j => setT_k (by omega)) rfl, fun j h1 h2 => ?_, fun p hp => ?_, fun q hq => ?_, fun p hp => ?_, ?_⟩
  · rw [(setN_n k0).1] at h1
    have := g3 j h1 h2
    rw [setT_j (by omega), setT_j (by omega), setT_j (by omega), setT_j (by omega), setT_j (by omega)]
    exact this
  · rw [(setN_n k0).1] at hp
    rw [setT_k (by omega), setT_k (by omega)]; exact g4 p hp
  · rw [(setN_n k0).2.2] at hq
    rw [setT_k (by omega), setT_k (by omega), setT_k (by omega), setT_k (by omega), setT_k (by omega), setT_k (by omega)]; exact g5 q hq
  · rw [(setN_n k0).1] at hp
    rw [setT_k (by omega), setT_k (by omega)]; exact g6 p hp
  · rw [(setN_n k0).1, setT_k (by omega)]; exact g7
theorem addP_at {a e x y : Int} (k j : Nat) (h0 : k ≠ 0 ∨ j ≠ 13) (h : k = 6 ∨ k = 7 ∨ k = 8 ∨ k = 9 → j ≠ nQ T) : addP T a e x y k j = T k j := by
  unfold addP
  rw [show setT _ 0 13 _ k j = _ from if_neg (fun z => by rcases h0 with q | q; exact q z.1; exact q z.2)]
  rw [show setT _ 9 _ _ k j = _ from if_neg (fun z => h (by omega) z.2), show setT _ 8 _ _ k j = _ from if_neg (fun z => h (by omega) z.2), show setT _ 7 _ _ k j = _ from if_neg (fun z => h (by omega) z.2), show setT _ 6 _ _ k j = _ from if_neg (fun z => h (by omega) z.2)]
theorem addP_q {a e x y : Int} : addP T a e x y 6 (nQ T) = a ∧ addP T a e x y 7 (nQ T) = e ∧ addP T a e x y 8 (nQ T) = x ∧ addP T a e x y 9 (nQ T) = y ∧ addP T a e x y 0 13 = T 0 13 + 1 := by
  unfold addP
  refine ⟨?_, ?_, ?_, ?_, setT_s⟩
  · rw [setT_k (by decide), setT_k (by decide), setT_k (by decide), setT_k (by decide), setT_s]
  · rw [setT_k (by decide), setT_k (by decide), setT_k (by decide), setT_s]
  · rw [setT_k (by decide), setT_k (by decide), setT_s]
  · rw [setT_k (by decide), setT_s]
theorem addP_tw {a e x y : Int} (g1 : tw T) (h5 : T 0 13 < 5) (ha : 0 ≤ a ∧ a < T 0 12) (he : 0 ≤ e ∧ e < T 0 12) (hx : 0 ≤ x ∧ x ≤ 3) (hy : 0 ≤ y ∧ y ≤ 3) : tw (addP T a e x y) := by
  have b1 := tw_p g1
  have bq := tw_q g1
  have w1 := tw_set (k := 6) (j := nQ T) (v := a) g1 (by unfold twB; omega)
  have w2 := tw_set (k := 7) (j := nQ T) (v := e) w1 (by unfold twB; omega)
  have w3 := tw_set (k := 8) (j := nQ T) (v := x) w2 (by unfold twB; omega)
  have w4 := tw_set (k := 9) (j := nQ T) (v := y) w3 (by unfold twB; omega)
  exact tw_set (k := 0) (j := 13) (v := T 0 13 + 1) w4 (by unfold twB; omega)
theorem addP_GT {a e x y : Int} (hG : GT T mo) (h5 : T 0 13 < 5) (ha : 0 ≤ a ∧ a < T 0 12) (he : 0 ≤ e ∧ e < T 0 12) (hx : 0 ≤ x ∧ x < T 0 11) (hy : 0 ≤ y ∧ y < T 0 11) : GT (addP T a e x y) mo := by
  obtain ⟨g1, g2, g3, g4, g5, g6, g7⟩ := hG
  have b1 := tw_p g1
  have bc := tw_c g1
  have bq := tw_q g1
  have eq : nQ T = (T 0 13).toNat := rfl
  have q5 := addP_q (T := T) (a := a) (e := e) (x := x) (y := y)
  have i12 : addP T a e x y 0 12 = T 0 12 := addP_at 0 12 (by omega) (fun z => by omega)
  have i11 : addP T a e x y 0 11 = T 0 11 := addP_at 0 11 (by omega) (fun z => by omega)
  have eP : nP (addP T a e x y) = nP T := by show (addP T a e x y 0 12).toNat = _; rw [i12]
  have eQ : nQ (addP T a e x y) = nQ T + 1 := by show (addP T a e x y 0 13).toNat = _; rw [q5.2.2.2.2]; omega
  refine ⟨addP_tw g1 h5 ha he (by omega) (by omega), g2.o (fun j => addP_at 17 j (by omega) (fun z => by omega)) (fun j => addP_at 18 j (by omega) (fun z => by omega)) rfl, fun j h1 h2 => ?_, fun p hp => ?_, fun q hq => ?_, fun p hp => ?_, ?_⟩
  · rw [eP] at h1
    have := g3 j h1 h2
    rw [addP_at 11 j (by omega) (fun z => by omega), addP_at 12 j (by omega) (fun z => by omega), addP_at 13 j (by omega) (fun z => by omega), addP_at 4 j (by omega) (fun z => by omega), addP_at 5 j (by omega) (fun z => by omega)]
    exact this
  · rw [eP] at hp
    rw [addP_at 11 p (by omega) (fun z => by omega), addP_at 12 p (by omega) (fun z => by omega)]; exact g4 p hp
  · rw [eQ] at hq
    rw [i12, i11]
    by_cases z : q = nQ T
    · rw [z, q5.1, q5.2.1, q5.2.2.1, q5.2.2.2.1]; exact ⟨ha.2, he.2, hx.2, hy.2⟩
    · rw [addP_at 6 q (by omega) (fun _ => z), addP_at 7 q (by omega) (fun _ => z), addP_at 8 q (by omega) (fun _ => z), addP_at 9 q (by omega) (fun _ => z)]; exact g5 q (by omega)
  · rw [eP] at hp
    rw [i11, addP_at 3 p (by omega) (fun z => by omega)]; exact g6 p hp
  · rw [eP, addP_at 0 14 (by omega) (fun z => by omega)]; exact g7
theorem pair_GT (h : pairF b c T N = .inr (c', T', N')) (hG : GT T mo) : GT T' mo := by
  have g1 := hG.1
  have b1 := tw_p g1
  have bc := tw_c g1
  have e0 : nP T = (T 0 12).toNat := rfl
  have ec : nC T = (T 0 11).toNat := rfl
  have g6 := hG.2.2.2.2.2.1
  unfold pairF at h
  split at h
  · cases h
  split at h
  · cases h
  next hf1 =>
  split at h
  · cases h
  next hf2 =>
  have p1 := prF_in (b := b) (c := te b c) (N := N 1) (n := nP T) (rep := 0)
  generalize prF b (te b c) (N 1) (nP T) 0 = a at *
  have p2 := prF_in (b := b) (c := te b (te b c)) (N := N 1) (n := nP T) (rep := pwN T a.toNat (nQ T) ||| 2 ^ a.toNat)
  generalize prF b (te b (te b c)) (N 1) (nP T) (pwN T a.toNat (nQ T) ||| 2 ^ a.toNat) = e at *
  have ha := tw_home g1 a.toNat
  have he := tw_home g1 e.toNat
  have ga := g6 a.toNat (by omega)
  have ge := g6 e.toNat (by omega)
  unfold plcF at h
  split at h
  · cases h; exact addP_GT hG (by omega) (by omega) (by omega) (by omega) (by omega)
  split at h
  · cases h
  split at h
  · cases h
  have p3 := prF_in (b := b) (c := te b (te b (te b (te b c)))) (N := N 0) (n := nC T) (rep := 0)
  have p4 := prF_in (b := b) (c := te b (te b (te b (te b (te b c))))) (N := N 0) (n := nC T) (rep := 0)
  cases h; exact addP_GT hG (by omega) (by omega) (by omega) (by omega) (by omega)
theorem sett_GT {wh : Nat} {lo hi : Int} (hw : (wh = 12 ∧ lo = 0 ∧ hi = 8) ∨ (wh = 13 ∧ lo = 1 ∧ hi = 5) ∨ (wh = 14 ∧ lo = 0 ∧ hi = 999)) (h : settF b c T N mo wh lo hi = .inr (c', T', N')) (hG : GT T mo) : GT T' (mo ||| 2 ^ wh) := by
  obtain ⟨g1, g2, g3, g4, g5, g6, g7⟩ := hG
  unfold settF at h
  split at h
  · cases h
  split at h
  · cases h
  next hf =>
  have q := nbF_ok (b := b) (c := te b c) (lo := lo) (hi := hi) (by omega) (by omega)
  cases h
  have hm : (mo ||| 2 ^ wh).testBit 11 = mo.testBit 11 := bit_or (by omega)
  rcases hw with ⟨rfl, rfl, rfl⟩ | ⟨rfl, rfl, rfl⟩ | ⟨rfl, rfl, rfl⟩
  · exact ⟨tw_set g1 (by unfold twB; simp; omega), g2.o (fun j => setT_k (by decide)) (fun j => setT_k (by decide)) hm, g3, g4, g5, g6, g7⟩
  · exact ⟨tw_set g1 (by unfold twB; simp; omega), g2.o (fun j => setT_k (by decide)) (fun j => setT_k (by decide)) hm, g3, g4, g5, g6, g7⟩
  · exact ⟨tw_set g1 (by unfold twB; simp; omega), g2.o (fun j => setT_k (by decide)) (fun j => setT_k (by decide)) hm, g3, g4, g5, g6, g7⟩
theorem hears_GT (hnb : ¬ mo.testBit 11 = true) (h : hearsOk b c T c' T') (hG : GT T mo) : GT T' (mo ||| 2 ^ 11) := by
  obtain ⟨g1, g2, g3, g4, g5, g6, g7⟩ := hG
  obtain ⟨out, un, -, hO, hF, h1, h2, h3, h4, -, h5⟩ := h
  have f : ∀ k j, k ≠ 17 → k ≠ 18 → T' k j = T k j := hF
  have e12 := f 0 12 (by decide) (by decide)
  have e11 := f 0 11 (by decide) (by decide)
  have e13 := f 0 13 (by decide) (by decide)
  have eP : nP T' = nP T := by show (T' 0 12).toNat = _; rw [e12]
  have eQ : nQ T' = nQ T := by show (T' 0 13).toNat = _; rw [e13]
  obtain ⟨a1, a2, a3, a4, a5, a6, a7, a8, a9, a10, a11, a12, a13, a14, a15, a16, a17, a18, a19, a20, a21, a22⟩ := g1
  have F : ∀ {k : Nat} (j : Nat), k ≠ 17 → k ≠ 18 → T' k j = T k j := fun j x y => f _ j x y
  refine ⟨⟨by rw [e11]; exact a1, by rw [e12]; exact a2, by rw [e13]; exact a3, by rw [f 0 14 (by decide) (by decide)]; exact a4, by rw [f 0 15 (by decide) (by decide)]; exact a5, by rw [f 0 16 (by decide) (by decide)]; exact a6, by rw [f 0 17 (by decide) (by decide)]; exact a7, fun j => by rw [F j (by decide) (by decide)]; exact a8 j, fun j => by rw [F j (by decide) (by decide)]; exact a9 j, fun j => by rw [F j (by decide) (by decide)]; exact a10 j, fun j => by rw [F j (by decide) (by decide)]; exact a11 j, fun j => by rw [F j (by decide) (by decide)]; exact a12 j, fun j => by rw [F j (by decide) (by decide)]; exact a13 j, fun j => by rw [F j (by decide) (by decide)]; exact a14 j, fun j => by rw [F j (by decide) (by decide)]; exact a15 j, fun j => by rw [F j (by decide) (by decide)]; exact a16 j, fun j => by rw [F j (by decide) (by decide)]; exact a17 j, fun j => by rw [F j (by decide) (by decide)]; exact a18 j, fun j => by rw [F j (by decide) (by decide)]; exact a19 j, fun j => by rw [F j (by decide) (by decide)]; exact a20 j, by rw [hO.1]; omega, by rw [hO.2.1]; omega⟩, ⟨fun z => absurd (by rw [Nat.testBit_or, Nat.testBit_two_pow_self, Bool.or_true]) z, fun _ => ⟨out, un, hO, h1, h2, h5, h3, h4⟩⟩, fun j x y => ?_, fun p hp => ?_, fun q hq => ?_, fun p hp => ?_, ?_⟩
  · rw [eP] at x
    rw [F j (by decide) (by decide), F j (by decide) (by decide), F j (by decide) (by decide), F j (by decide) (by decide), F j (by decide) (by decide)]; exact g3 j x y
  · rw [eP] at hp
    rw [F p (by decide) (by decide), F p (by decide) (by decide)]; exact g4 p hp
  · rw [eQ] at hq
    rw [F q (by decide) (by decide), F q (by decide) (by decide), F q (by decide) (by decide), F q (by decide) (by decide), e12, e11]; exact g5 q hq
  · rw [eP] at hp
    rw [F p (by decide) (by decide), e11]; exact g6 p hp
  · rw [eP, f 0 14 (by decide) (by decide)]; exact g7
end PRES
theorem lnR_GT {b : Nat → Int} {c c' : Nat} {T N T' N' : mT} {mo mo' : Nat} (h : lnR b c T N mo (.inr (c', T', N')) mo') (hG : GT T mo) : GT T' mo' := by
  unfold lnR at h
  split at h
  · rw [h.2]; exact church_GT h.1.symm hG
  split at h
  · rw [h.2]; exact person_GT h.1.symm hG
  split at h
  · rw [h.2]; exact link_GT (Or.inl rfl) h.1.symm hG
  split at h
  · rw [h.2]; exact link_GT (Or.inr rfl) h.1.symm hG
  split at h
  · rw [h.2]; exact pair_GT h.1.symm hG
  split at h
  · split at h
    · cases h.1
    · next hb =>
      rw [h.1]
      rcases h.2 with ⟨c1, T1, hh, h2⟩ | ⟨c1, hh, h2⟩
      · cases h2; exact hears_GT hb hh hG
      · cases h2
  split at h
  · rw [h.2]; exact sett_GT (Or.inl ⟨rfl, rfl, rfl⟩) h.1.symm hG
  split at h
  · rw [h.2]; exact sett_GT (Or.inr (Or.inl ⟨rfl, rfl, rfl⟩)) h.1.symm hG
  split at h
  · rw [h.2]; exact sett_GT (Or.inr (Or.inr ⟨rfl, rfl, rfl⟩)) h.1.symm hG
  · cases h.1
/-! the lines of a text, one by one -/
abbrev mL : Type := Nat × mT × mT × Nat
def lnQ (b : Nat → Int) (s s' : mL) : Prop := lnS b s.1 s.2.1 s.2.2.1 s.2.2.2 s'.1 s'.2.1 s'.2.2.1 s'.2.2.2
def TR (b : Nat → Int) (s0 : mL) (m : Nat) (q : Nat → mL) : Prop := q 0 = s0 ∧ ∀ i, i < m → ¬ ts b (q i).1 = 0 ∧ lnQ b (q i) (q (i + 1))
theorem TR.GT {b : Nat → Int} {s0 : mL} {m : Nat} {q : Nat → mL} (h : TR b s0 m q) (h0 : GT s0.2.1 s0.2.2.2) : ∀ i, i ≤ m → GT (q i).2.1 (q i).2.2.2
  | 0, _ => by rw [h.1]; exact h0
  | i + 1, hi => by
    have ih := TR.GT h h0 i (by omega)
    obtain ⟨c1, hl, -, -⟩ := (h.2 i (by omega)).2
    exact lnR_GT hl ih
theorem TR.more {b : Nat → Int} {s0 s : mL} {m : Nat} {q : Nat → mL} (h : TR b s0 m q) (h1 : ¬ ts b (q m).1 = 0) (h2 : lnQ b (q m) s) : TR b s0 (m + 1) (fun i => if i ≤ m then q i else s) := by
  refine ⟨h.1, fun i hi => ?_⟩
  by_cases e : i = m
  · subst e
    show ¬ ts b (if i ≤ i then q i else s).1 = 0 ∧ lnQ b (if i ≤ i then q i else s) (if i + 1 ≤ i then q (i + 1) else s)
    rw [if_pos (Nat.le_refl i), if_neg (by omega)]
    exact ⟨h1, h2⟩
  · show ¬ ts b (if i ≤ m then q i else s).1 = 0 ∧ lnQ b (if i ≤ m then q i else s) (if i + 1 ≤ m then q (i + 1) else s)
    rw [if_pos (by omega), if_pos (by omega)]
    exact h.2 i (by omega)
