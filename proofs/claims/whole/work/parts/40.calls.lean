/-! CALLS: how many a church had is how many are read there -/
def takB (T : mT) (S : mS) (q : Nat) : Bool := decide (S (8 + q) = 0 ∧ ¬ pairAway T q (S 28 + 1) ∧ ((calledN T S q).1 (S (13 + q)).toNat < T 0 16 ∧ (calledN T S q).1 (S (18 + q)).toNat < T 0 16))
theorem cntF_congr {f g : Nat → Bool} : ∀ {n : Nat}, (∀ i, i < n → f i = g i) → cntF f n = cntF g n
  | 0, _ => rfl
  | n + 1, h => by
    rw [cntF, cntF, cntF_congr (fun i hi => h i (by omega)), h n (by omega)]
theorem called_set (T : mT) (S : mS) : ∀ n, (calledN T S n).2 = setOf (takB T S) n
  | 0 => rfl
  | n + 1 => by
    have ih := called_set T S n
    by_cases h : S (8 + n) = 0 ∧ ¬ pairAway T n (S 28 + 1) ∧ ((calledN T S n).1 (S (13 + n)).toNat < T 0 16 ∧ (calledN T S n).1 (S (18 + n)).toNat < T 0 16)
    · rw [calledN_y h.1 h.2.1 h.2.2.1 h.2.2.2, setOf_y (decide_eq_true h), ← ih]
    · rw [calledN_n h, setOf_n (decide_eq_false h), ← ih]
theorem called_cnt {T : mT} {S : mS} {B : Int} (hv : sw S B) (c : Nat) : ∀ n, n ≤ 5 → (calledN T S n).1 c = (cntF (fun q => takB T S q && decide (S (13 + q) = (c : Int) ∨ S (18 + q) = (c : Int))) n : Int)
  | 0, _ => rfl
  | n + 1, hn => by
    have ih := called_cnt (T := T) hv c n (by omega)
    have h1 := sw_c1 hv (j := n) (by omega)
    have h2 := sw_c2 hv (j := n) (by omega)
    by_cases h : S (8 + n) = 0 ∧ ¬ pairAway T n (S 28 + 1) ∧ ((calledN T S n).1 (S (13 + n)).toNat < T 0 16 ∧ (calledN T S n).1 (S (18 + n)).toNat < T 0 16)
    · have ht : takB T S n = true := decide_eq_true h
      rw [calledN_y h.1 h.2.1 h.2.2.1 h.2.2.2]
      show inc2 (calledN T S n).1 (S (13 + n)).toNat (S (18 + n)).toNat c = _
      by_cases hc : S (13 + n) = (c : Int) ∨ S (18 + n) = (c : Int)
      · rw [cntF_y (by rw [ht, decide_eq_true hc]; rfl)]
        unfold inc2
        by_cases e : (S (18 + n)).toNat = (S (13 + n)).toNat
        · rw [if_pos e]
          show (if c = (S (13 + n)).toNat then (calledN T S n).1 (S (13 + n)).toNat + 1 else (calledN T S n).1 c) = _
          have e2 : c = (S (13 + n)).toNat := by omega
          rw [if_pos e2, ← e2, ih]
          rfl
        · rw [if_neg e]
          show (if c = (S (18 + n)).toNat then (calledN T S n).1 (S (18 + n)).toNat + 1 else if c = (S (13 + n)).toNat then (calledN T S n).1 (S (13 + n)).toNat + 1 else (calledN T S n).1 c) = _
          by_cases e2 : c = (S (18 + n)).toNat
          · rw [if_pos e2, ← e2, ih]
            rfl
          · have e3 : c = (S (13 + n)).toNat := by omega
            rw [if_neg e2, if_pos e3, ← e3, ih]
            rfl
      · rw [cntF_n (by rw [decide_eq_false hc, Bool.and_false])]
        unfold inc2
        by_cases e : (S (18 + n)).toNat = (S (13 + n)).toNat
        · rw [if_pos e]
          show (if c = (S (13 + n)).toNat then (calledN T S n).1 (S (13 + n)).toNat + 1 else (calledN T S n).1 c) = _
          rw [if_neg (by omega)]
          exact ih
        · rw [if_neg e]
          show (if c = (S (18 + n)).toNat then (calledN T S n).1 (S (18 + n)).toNat + 1 else if c = (S (13 + n)).toNat then (calledN T S n).1 (S (13 + n)).toNat + 1 else (calledN T S n).1 c) = _
          rw [if_neg (by omega), if_neg (by omega)]
          exact ih
    · have ht : takB T S n = false := decide_eq_false h
      rw [calledN_n h, cntF_n (by rw [ht]; rfl)]
      exact ih
theorem pc8_set (f : Nat → Bool) {n : Nat} (h : n ≤ 8) : pc8 (setOf f n) = cntF f n := by
  have e : 8 = n + (8 - n) := by omega
  show cnt (setOf f n) 8 = _
  rw [e, cnt_lt (setOf_lt _ _)]
  exact cnt_set _ _ _ (Nat.le_refl _)
/-- the calls of a church, as the reference keeps them -/
theorem calls_read {T : mT} {S : mS} {B : Int} (hw : tw T) (hv : sw S B) (c : Nat) : (calledN T S (nQ T)).1 c = ((pc8 (readIn T S (c : Int) (called T S)) : Nat) : Int) := by
  have h5 := nQ_le hw
  rw [called_cnt hv c (nQ T) h5]
  unfold readIn
  rw [pc8_set _ (by omega)]
  congr 1
  refine cntF_congr (fun i hi => ?_)
  have e : (called T S).testBit i = takB T S i := by
    show ((calledN T S (nQ T)).2).testBit i = _
    rw [called_set, setOf_tb, decide_eq_true hi, Bool.true_and]
  rw [e]
