/-! a SPOUSE: the first pair and the last one are the same -/
abbrev wdP (T : mT) (S : mS) (p : Int) (k : Nat) : Prop := S (8 + k) = 1 ∧ (T 6 k = p ∨ T 7 k = p)
abbrev spV (T : mT) (p : Int) (k : Nat) : Int := if T 6 k = p then T 7 k else T 6 k
theorem sp_no (T : mT) (S : mS) (p : Int) : ∀ k i, (∀ j, i ≤ j → j < i + k → ¬ wdP T S p j) → spF T S p k i = -1
  | 0, _, _ => rfl
  | k + 1, i, h => by
    have h0 := h i (Nat.le_refl i) (by omega)
    rw [spF, if_neg (fun x => h0 ⟨x.1, Or.inl x.2⟩), if_neg (fun x => h0 ⟨x.1, Or.inr x.2⟩)]
    exact sp_no T S p k (i + 1) (fun j h1 h2 => h j (by omega) (by omega))
theorem sp_yes (T : mT) (S : mS) (p : Int) : ∀ k i j, i ≤ j → j < i + k → wdP T S p j → (∀ r, i ≤ r → r < i + k → wdP T S p r → r = j) → spF T S p k i = spV T p j
  | 0, i, j, h1, h2, _, _ => by omega
  | k + 1, i, j, h1, h2, h3, h4 => by
    rw [spF]
    by_cases e : i = j
    · subst e
      by_cases g : T 6 i = p
      · rw [if_pos ⟨h3.1, g⟩]; exact (if_pos g).symm
      · rw [if_neg (fun x => g x.2), if_pos ⟨h3.1, by omega⟩]; exact (if_neg g).symm
    · have h0 : ¬ wdP T S p i := fun x => e (h4 i (Nat.le_refl i) (by omega) x)
      rw [if_neg (fun x => h0 ⟨x.1, Or.inl x.2⟩), if_neg (fun x => h0 ⟨x.1, Or.inr x.2⟩)]
      exact sp_yes T S p k (i + 1) j (by omega) (by omega) h3 (fun r g1 g2 g3 => h4 r (by omega) (by omega) g3)
theorem ww_no (T : mT) (S : mS) (p : Int) : ∀ n, (∀ j, j < n → ¬ wdP T S p j) → wwF T S p (-1) n = -1
  | 0, _ => rfl
  | n + 1, h => by
    rw [wwF, if_neg (fun x => h n (by omega) ⟨x.1.2, x.2⟩)]
    exact ww_no T S p n (fun j hj => h j (by omega))
theorem ww_yes (T : mT) (S : mS) (p : Int) : ∀ n j, j < n → wdP T S p j → (∀ r, r < n → wdP T S p r → r = j) → wwF T S p (-1) n = spV T p j
  | 0, j, h, _, _ => absurd h (Nat.not_lt_zero j)
  | n + 1, j, h, h3, h4 => by
    rw [wwF]
    by_cases e : n = j
    · subst e
      rw [if_pos ⟨⟨by omega, h3.1⟩, h3.2⟩]
    · rw [if_neg (fun x => e (h4 n (by omega) ⟨x.1.2, x.2⟩))]
      exact ww_yes T S p n j (by omega) h3 (fun r g1 g2 => h4 r (by omega) g2)
theorem spouse_eq {T : mT} {S : mS} (h : wdj T S) (p : Int) : wwF T S p (-1) (nQ T) = spF T S p (nQ T) 0 := by
  by_cases e : ∃ j, j < nQ T ∧ wdP T S p j
  · obtain ⟨j, h1, h2⟩ := e
    have hu : ∀ r, r < nQ T → wdP T S p r → r = j := fun r g1 g2 => by
      refine Decidable.byContradiction (fun z => ?_)
      have g := h r j g1 h1 z g2.1 h2.1
      rcases g2.2 with x | x <;> rcases h2.2 with y | y <;> omega
    rw [ww_yes T S p (nQ T) j h1 h2 hu, sp_yes T S p (nQ T) 0 j (Nat.zero_le j) (by omega) h2 (fun r _ g1 g2 => hu r (by omega) g2)]
  · rw [ww_no T S p (nQ T) (fun j hj x => e ⟨j, hj, x⟩), sp_no T S p (nQ T) 0 (fun j _ hj x => e ⟨j, by omega, x⟩)]
