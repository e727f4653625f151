/-! WED pairs are disjoint -/
def wdj (T : mT) (S : mS) : Prop := ∀ q r, q < nQ T → r < nQ T → q ≠ r → S (8 + q) = 1 → S (8 + r) = 1 → (T 6 q ≠ T 6 r ∧ T 6 q ≠ T 7 r) ∧ T 7 q ≠ T 6 r ∧ T 7 q ≠ T 7 r
theorem ww_iff {T : mT} (hw : tw T) (S : mS) (p ex : Int) : ∀ n, 0 ≤ wwF T S p ex n ↔ ∃ k, k < n ∧ (k : Int) ≠ ex ∧ S (8 + k) = 1 ∧ (T 6 k = p ∨ T 7 k = p)
  | 0 => ⟨fun h => absurd h (by show ¬ (0 : Int) ≤ -1; decide), fun ⟨k, h, _⟩ => absurd h (Nat.not_lt_zero k)⟩
  | n + 1 => by
    have ih := ww_iff hw S p ex n
    have h1 := tw_one hw n
    have h2 := tw_other hw n
    rw [wwF]
    by_cases c : ((n : Int) ≠ ex ∧ S (8 + n) = 1) ∧ (T 6 n = p ∨ T 7 n = p)
    · rw [if_pos c]
      exact ⟨fun _ => ⟨n, by omega, c.1.1, c.1.2, c.2⟩, fun _ => by split <;> omega⟩
    · rw [if_neg c, ih]
      constructor
      · rintro ⟨k, g1, g2, g3, g4⟩; exact ⟨k, by omega, g2, g3, g4⟩
      · rintro ⟨k, g1, g2, g3, g4⟩
        by_cases e : k = n
        · subst e; exact absurd ⟨⟨g2, g3⟩, g4⟩ c
        · exact ⟨k, by omega, g2, g3, g4⟩
theorem wdj_same {T : mT} {S S' : mS} (h : wdj T S) (he : ∀ q, q < nQ T → S' (8 + q) = 1 → S (8 + q) = 1) : wdj T S' := fun q r hq hr hn h1 h2 => h q r hq hr hn (he q hq h1) (he r hr h2)
theorem wdj_wed {T : mT} (hw : tw T) {S : mS} {a : Nat} (h : wdj T S) (hb : wedB T S a &&& pm T a = 0) : wdj T (setF S (8 + a) 1) := by
  have hno : ∀ k, k < nQ T → k ≠ a → S (8 + k) = 1 → (T 6 k ≠ T 6 a ∧ T 6 k ≠ T 7 a) ∧ T 7 k ≠ T 6 a ∧ T 7 k ≠ T 7 a := by
    intro k hk hn h1
    have g := wed_ref hw S a
    have g0 : ¬ (wedB T S a &&& pm T a ≠ 0) := fun x => x hb
    rw [g] at g0
    have i1 := ww_iff hw S (T 6 a) a (nQ T)
    have i2 := ww_iff hw S (T 7 a) a (nQ T)
    refine ⟨⟨fun x => g0 (Or.inl (i1.mpr ⟨k, hk, by omega, h1, Or.inl x⟩)), fun x => g0 (Or.inr (i2.mpr ⟨k, hk, by omega, h1, Or.inl x⟩))⟩, fun x => g0 (Or.inl (i1.mpr ⟨k, hk, by omega, h1, Or.inr x⟩)), fun x => g0 (Or.inr (i2.mpr ⟨k, hk, by omega, h1, Or.inr x⟩))⟩
  intro q r hq hr hn h1 h2
  by_cases eq : q = a
  · subst eq
    rw [setF_n (by omega)] at h2
    obtain ⟨⟨g1, g2⟩, g3, g4⟩ := hno r hr (fun x => hn x.symm) h2
    exact ⟨⟨fun x => g1 x.symm, fun x => g3 x.symm⟩, fun x => g2 x.symm, fun x => g4 x.symm⟩
  · rw [setF_n (by omega)] at h1
    by_cases er : r = a
    · subst er
      exact hno q hq hn h1
    · rw [setF_n (by omega)] at h2
      exact h q r hq hr hn h1 h2
theorem wdj_step {T : mT} (hw : tw T) {S : mS} {q cl : Nat} (hq : q < 5) (h : wdj T S) : wdj T (wedStep T S q cl).1 := by
  have h5 := nQ_le hw
  unfold wedStep
  split
  · refine wdj_same h (fun k hk h1 => ?_)
    have h1 : setF (setF S 29 _) (8 + q) 2 (8 + k) = 1 := h1
    by_cases e : k = q
    · rw [e, setF_s] at h1; exact absurd h1 (by decide)
    · rw [setF_n (by omega), setF_n (by omega)] at h1; exact h1
  · have hs : wdj T (setF (setF S 29 (risen T S q cl).2) (23 + q) (S (23 + q) + 1)) := wdj_same h (fun k hk h1 => by rw [setF_n (by omega), setF_n (by omega)] at h1; exact h1)
    split
    · exact hs
    · next c => exact wdj_wed hw hs (by
        by_cases z : wedB T (setF (setF S 29 (risen T S q cl).2) (23 + q) (S (23 + q) + 1)) q &&& pm T q = 0
        · exact z
        · exact absurd (Or.inr z) c)
theorem wdj_sun {T : mT} (hw : tw T) {S : mS} (h : wdj T S) : wdj T (sunF T S).1 := by
  have hn : ∀ n, n ≤ 5 → wdj T (sunN T S n).1 := by
    intro n
    induction n with
    | zero => intro _; exact h
    | succ n ih =>
      intro hn
      rw [show sunN T S (n + 1) = sunStep T (called T S) n (sunN T S n) from rfl]
      unfold sunStep
      split
      · exact wdj_step hw (by omega) (ih (by omega))
      · exact ih (by omega)
  have h5 := nQ_le hw
  exact wdj_same (hn (nQ T) h5) (fun q hq h1 => by rw [sunF_n (by omega)] at h1; exact h1)
theorem wdj_lic {T : mT} (hw : tw T) {S : mS} {a : Nat} (h : wdj T S) (hb : barQ T S a = 0) : wdj T (setF S (8 + a) 1) := by
  refine wdj_wed hw h ?_
  have e : barQ T S a = barF T S (pa T a) (pb T a) a := rfl
  rw [e] at hb
  unfold barF at hb
  repeat' split at hb
  all_goals first | (exact absurd hb (by decide)) | skip
  next c => by_cases z : wedB T S a &&& two (pa T a) (pb T a) = 0
            · exact z
            · exact absurd z c
/-- statuses beyond the pairs stay 0 -/
theorem stZ_step {T : mT} {S : mS} {q cl : Nat} (hq : q < nQ T) (h : stZ T S) : stZ T (wedStep T S q cl).1 := by
  intro k h1 h2
  unfold wedStep
  repeat' split
  · show setF (setF S 29 _) (8 + q) 2 (8 + k) = 0
    rw [setF_n (by omega), setF_n (by omega)]; exact h k h1 h2
  · show setF (setF S 29 _) (23 + q) _ (8 + k) = 0
    rw [setF_n (by omega), setF_n (by omega)]; exact h k h1 h2
  · show setF (setF (setF S 29 _) (23 + q) _) (8 + q) 1 (8 + k) = 0
    rw [setF_n (by omega), setF_n (by omega), setF_n (by omega)]; exact h k h1 h2
theorem stZ_sun {T : mT} {S : mS} (h : stZ T S) : stZ T (sunF T S).1 := by
  have hn : ∀ n, n ≤ nQ T → stZ T (sunN T S n).1 := by
    intro n
    induction n with
    | zero => intro _; exact h
    | succ n ih =>
      intro hn
      rw [show sunN T S (n + 1) = sunStep T (called T S) n (sunN T S n) from rfl]
      unfold sunStep
      split
      · exact stZ_step (by omega) (ih (by omega))
      · exact ih (by omega)
  intro k h1 h2
  rw [sunF_n (by omega)]
  exact hn _ (Nat.le_refl _) k h1 h2
