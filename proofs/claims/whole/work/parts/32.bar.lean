/-! BARS and RISERS, both ways of counting -/
theorem and_pow_ne {m a : Nat} : m &&& 2 ^ a ≠ 0 ↔ m.testBit a = true := by
  constructor
  · intro h
    cases hm : m.testBit a
    · refine absurd (Nat.eq_of_testBit_eq (fun i => ?_)) h
      rw [Nat.testBit_and, Nat.testBit_two_pow, Nat.zero_testBit]
      by_cases e : a = i
      · subst e; rw [hm]; rfl
      · rw [decide_eq_false e, Bool.and_false]
    · rfl
  · intro h e
    have e2 := congrArg (fun x => Nat.testBit x a) e
    simp only [Nat.testBit_and, Nat.testBit_two_pow, h, Nat.zero_testBit] at e2
    simp at e2
theorem and_two {m a b : Nat} : m &&& two a b ≠ 0 ↔ (m.testBit a = true ∨ m.testBit b = true) := by
  show m &&& (2 ^ a ||| 2 ^ b) ≠ 0 ↔ _
  rw [Nat.and_or_distrib_left, ← and_pow_ne, ← and_pow_ne]
  constructor
  · intro h
    by_cases h1 : m &&& 2 ^ a = 0
    · by_cases h2 : m &&& 2 ^ b = 0
      · exact absurd (by rw [h1, h2]; rfl) h
      · exact Or.inr h2
    · exact Or.inl h1
  · intro h e
    have e2 := Nat.or_eq_zero_iff.mp e
    exact h.elim (fun x => x e2.1) (fun x => x e2.2)
theorem pm_bit (T : mT) (q p : Nat) : (pm T q).testBit p = (decide (pa T q = p) || decide (pb T q = p)) := by
  unfold pm
  rw [Nat.testBit_or, Nat.testBit_two_pow, Nat.testBit_two_pow]
theorem wed_bit {T : mT} (hw : tw T) (S : mS) (ex : Int) (p : Nat) : ∀ n, (wedM T S ex n).testBit p = true ↔ 0 ≤ wwF T S (p : Int) ex n
  | 0 => by
    show (0 : Nat).testBit p = true ↔ (0 : Int) ≤ -1
    simp
  | n + 1 => by
    have ih := wed_bit hw S ex p n
    have h1 := tw_one hw n
    have h2 := tw_other hw n
    have e1 : pa T n = (T 6 n).toNat := rfl
    have e2 : pb T n = (T 7 n).toNat := rfl
    rw [wedM, wwF]
    by_cases hc : (n : Int) ≠ ex ∧ S (8 + n) = 1
    · rw [if_pos hc, Nat.testBit_or, pm_bit, Bool.or_eq_true, Bool.or_eq_true, decide_eq_true_eq, decide_eq_true_eq]
      by_cases hp : T 6 n = p ∨ T 7 n = p
      · rw [if_pos ⟨hc, hp⟩]
        constructor
        · intro _; split <;> omega
        · intro _; right; omega
      · rw [if_neg (fun x => hp x.2), ← ih]
        constructor
        · intro h
          rcases h with h | h
          · exact h
          · exact absurd (by omega) hp
        · intro h; exact Or.inl h
    · rw [if_neg hc, if_neg (fun x => hc x.1)]
      exact ih
theorem vow_bit (T : mT) (p : Nat) : ¬ vowB T p = 0 ↔ (T 0 14).toNat.testBit p = true := by
  rw [← bit_iff]
  have := vowB_in T p
  unfold vowB at *
  omega
/-- BAR, as the reference finds it -/
theorem bar_ref {T : mT} (hw : tw T) (S : mS) (a b : Nat) (ex : Int) : barF T S a b ex = if kinW T a b (T 0 15) then 1 else if ¬ vowB T a = 0 ∨ ¬ vowB T b = 0 then 2 else if 0 ≤ wwF T S (a : Int) ex (nQ T) ∨ 0 ≤ wwF T S (b : Int) ex (nQ T) then 3 else 0 := by
  unfold barF
  by_cases h1 : kinW T a b (T 0 15)
  · rw [if_pos h1, if_pos h1]
  rw [if_neg h1, if_neg h1]
  by_cases h2 : ¬ vowB T a = 0 ∨ ¬ vowB T b = 0
  · rw [if_pos h2, if_pos (and_two.mpr (by rw [← vow_bit, ← vow_bit]; exact h2))]
  rw [if_neg h2, if_neg (fun x => h2 (by rw [vow_bit, vow_bit]; exact and_two.mp x))]
  by_cases h3 : 0 ≤ wwF T S (a : Int) ex (nQ T) ∨ 0 ≤ wwF T S (b : Int) ex (nQ T)
  · rw [if_pos h3, if_pos (and_two.mpr (by rw [wed_bit hw, wed_bit hw]; exact h3))]
  · rw [if_neg h3, if_neg (fun x => h3 (by rw [← wed_bit hw, ← wed_bit hw]; exact and_two.mp x))]
/-- p would rise against q -/
def wrP (T : mT) (S : mS) (q p : Nat) : Prop := ¬ (T 6 q = p ∨ T 7 q = p) ∧ risF T S q p = true
theorem ris_iff {T : mT} {S : mS} {q p : Nat} : risF T S q p = true ↔ (¬ (((T 5 p).toNat &&& pm T q : Nat) : Int) = 0 ∨ (¬ barQ T S q = 0 ∧ ¬ (((T 14 p).toNat &&& pm T q : Nat) : Int) = 0)) := by
  unfold risF
  rw [Bool.or_eq_true, Bool.and_eq_true, decide_eq_true_eq, decide_eq_true_eq, decide_eq_true_eq]
  have e : ∀ m : Nat, m ≠ 0 ↔ ¬ ((m : Nat) : Int) = 0 := fun m => by omega
  rw [e, e]
theorem risers_bit {T : mT} (hw : tw T) (S : mS) (q p : Nat) (hp : p < nP T) : (risers T S q).testBit p = true ↔ wrP T S q p := by
  have h1 := tw_one hw q
  have h2 := tw_other hw q
  have e1 : pa T q = (T 6 q).toNat := rfl
  have e2 : pb T q = (T 7 q).toNat := rfl
  unfold risers wrP
  rw [dif_tb, setOf_tb, pm_bit, Bool.and_eq_true, Bool.and_eq_true, decide_eq_true_eq, Bool.not_eq_true', Bool.or_eq_false_iff, decide_eq_false_iff_not, decide_eq_false_iff_not]
  constructor
  · intro h; exact ⟨by omega, h.1.2⟩
  · intro h; exact ⟨⟨hp, h.2⟩, by omega, by omega⟩
