/-! SEASON: the best of sets: most members, then the smaller number -/
abbrev ltB (b s : Nat) : Prop := pc8 b < pc8 s ∨ (pc8 b = pc8 s ∧ s < b)
def bet (b s : Nat) : Nat := if ltB b s then s else b
def bestN (P : Nat → Bool) (f : Nat → Nat) : Nat → Nat
  | 0 => 0
  | n + 1 => if P n = true then bet (bestN P f n) (f n) else bestN P f n
theorem ltB_anti {a b : Nat} (h1 : ¬ ltB a b) (h2 : ¬ ltB b a) : a = b := by
  have e1 : ¬ pc8 a < pc8 b := fun x => h1 (Or.inl x)
  have e2 : ¬ pc8 b < pc8 a := fun x => h2 (Or.inl x)
  have e : pc8 a = pc8 b := by omega
  have e3 : ¬ b < a := fun x => h1 (Or.inr ⟨e, x⟩)
  have e4 : ¬ a < b := fun x => h2 (Or.inr ⟨e.symm, x⟩)
  omega
theorem leB_trans {a b c : Nat} (h1 : ¬ ltB b a) (h2 : ¬ ltB c b) : ¬ ltB c a := by
  intro h
  have e1 : ¬ pc8 b < pc8 a := fun x => h1 (Or.inl x)
  have e2 : ¬ pc8 c < pc8 b := fun x => h2 (Or.inl x)
  rcases h with h | ⟨h, g⟩
  · omega
  · have e : pc8 a = pc8 b := by omega
    have e3 : ¬ a < b := fun x => h1 (Or.inr ⟨e.symm, x⟩)
    have e4 : ¬ b < c := fun x => h2 (Or.inr ⟨by omega, x⟩)
    omega
theorem ltB_irr (a : Nat) : ¬ ltB a a := fun h => by rcases h with h | ⟨-, h⟩ <;> omega
theorem bet_1 (b s : Nat) : ¬ ltB (bet b s) b := by
  unfold bet
  split
  · next h => intro g; rcases h with h | ⟨h, h2⟩ <;> rcases g with g | ⟨g, g2⟩ <;> omega
  · exact ltB_irr b
theorem bet_2 (b s : Nat) : ¬ ltB (bet b s) s := by
  unfold bet
  split
  · exact ltB_irr s
  · next h => exact h
theorem best_0 (P : Nat → Bool) (f : Nat → Nat) : ∀ N, ¬ ltB (bestN P f N) 0
  | 0 => ltB_irr 0
  | n + 1 => by
    rw [bestN]
    split
    · exact leB_trans (best_0 P f n) (bet_1 _ _)
    · exact best_0 P f n
theorem best_ub (P : Nat → Bool) (f : Nat → Nat) : ∀ N n, n < N → P n = true → ¬ ltB (bestN P f N) (f n)
  | 0, n, h, _ => absurd h (Nat.not_lt_zero n)
  | N + 1, n, h, hp => by
    rw [bestN]
    by_cases e : n = N
    · subst e
      rw [if_pos hp]
      exact bet_2 _ _
    · have ih := best_ub P f N n (by omega) hp
      split
      · exact leB_trans ih (bet_1 _ _)
      · exact ih
theorem best_in (P : Nat → Bool) (f : Nat → Nat) : ∀ N, bestN P f N = 0 ∨ ∃ n, n < N ∧ P n = true ∧ bestN P f N = f n
  | 0 => Or.inl rfl
  | N + 1 => by
    have ih := best_in P f N
    have up_ : (bestN P f N = 0 ∨ ∃ n, n < N + 1 ∧ P n = true ∧ bestN P f N = f n) := by
      rcases ih with h | ⟨n, h1, h2, h3⟩
      · exact Or.inl h
      · exact Or.inr ⟨n, by omega, h2, h3⟩
    rw [bestN]
    split
    · next hp =>
      unfold bet
      split
      · exact Or.inr ⟨N, by omega, hp, rfl⟩
      · exact up_
    · exact up_
/-- two families that outdo each other have one best -/
theorem best_eq {P P' : Nat → Bool} {f f' : Nat → Nat} {N N' : Nat} (h1 : ∀ n, n < N → P n = true → ∃ m, m < N' ∧ P' m = true ∧ ¬ ltB (f' m) (f n)) (h2 : ∀ m, m < N' → P' m = true → ∃ n, n < N ∧ P n = true ∧ ¬ ltB (f n) (f' m)) : bestN P f N = bestN P' f' N' := by
  refine ltB_anti ?_ ?_
  · rcases best_in P' f' N' with h | ⟨m, g1, g2, g3⟩
    · rw [h]; exact best_0 P f N
    · rw [g3]
      obtain ⟨n, k1, k2, k3⟩ := h2 m g1 g2
      exact leB_trans k3 (best_ub P f N n k1 k2)
  · rcases best_in P f N with h | ⟨n, g1, g2, g3⟩
    · rw [h]; exact best_0 P' f' N'
    · rw [g3]
      obtain ⟨m, k1, k2, k3⟩ := h1 n g1 g2
      exact leB_trans k3 (best_ub P' f' N' m k1 k2)
/-- a set inside another is no better -/
theorem sub_le {a b : Nat} (ha : a < 256) (hb : b < 256) (h : ∀ i, a.testBit i = true → b.testBit i = true) : ¬ ltB b a := by
  have h1 : pc8 a ≤ pc8 b := cnt_mono h 8
  intro g
  rcases g with g | ⟨g, g2⟩
  · omega
  · have hle : a ≤ b := by
      have e : a &&& b = a := by
        refine Nat.eq_of_testBit_eq (fun i => ?_)
        rw [Nat.testBit_and]
        cases z : a.testBit i
        · rfl
        · rw [h i z]; rfl
      rw [← e]
      exact Nat.and_le_right
    have hne : ∀ n, cnt a n = cnt b n → ∀ i, i < n → a.testBit i = b.testBit i := by
      intro n
      induction n with
      | zero => intro _ i hi; omega
      | succ n ih =>
        intro hc i hi
        rw [cnt_tb, cnt_tb, cntF, cntF, ← cnt_tb, ← cnt_tb] at hc
        have hm := cnt_mono h n
        have hn := h n
        have e : a.testBit n = b.testBit n := by
          cases z : a.testBit n <;> cases z2 : b.testBit n <;> simp [z, z2] at hc hn ⊢ <;> omega
        have hc2 : cnt a n = cnt b n := by rw [e] at hc; omega
        by_cases e2 : i = n
        · rw [e2]; exact e
        · exact ih hc2 i (by omega)
    have : a = b := by
      refine Nat.eq_of_testBit_eq (fun i => ?_)
      by_cases e : i < 8
      · exact hne 8 g.symm i e
      · rw [Nat.testBit_lt_two_pow (Nat.lt_of_lt_of_le ha (Nat.pow_le_pow_right (n := 2) (i := 8) (by decide) (by omega))), Nat.testBit_lt_two_pow (Nat.lt_of_lt_of_le hb (Nat.pow_le_pow_right (n := 2) (i := 8) (by decide) (by omega)))]
    omega
