/-! THE REFERENCE's Sunday: frames and rows -/
def Rr (I J : mI) : Prop := ∀ b, b ≠ 140 → b ≠ 120 → b ≠ 119 → J b = I b
theorem Rr.refl {I : mI} : Rr I I := fun _ _ _ _ => rfl
theorem Rr.trans {I J K : mI} (h : Rr I J) (h2 : Rr J K) : Rr I K := fun b g1 g2 g3 => (h2 b g1 g2 g3).trans (h b g1 g2 g3)
theorem Rr.ra {I J K : mI} (h : Rr I J) (h2 : Ra J K) : Rr I K := fun b g1 g2 g3 => (h2 b g2 g3).trans (h b g1 g2 g3)
theorem Rr.up {I J : mI} {k : Nat} {v : Int} (h : Rr I J) : Rr I (up J 140 k v) := fun b g1 g2 g3 => by
  rw [← h b g1 g2 g3]
  exact funext fun j => up_c g1
theorem Rr.rt {I J : mI} {T : mT} (h : Rr I J) (hR : RT I T) : RT J T := hR.fr (fun b g1 g2 => h b (by omega) (by omega) (by omega)) (fun j _ _ => by rw [h 111 (by decide) (by decide) (by decide)])
theorem Rr.fx {I J : mI} {T : mT} (h : Rr I J) (hX : FX I T) : FX J T := by
  unfold FX
  rw [h 111 (by decide) (by decide) (by decide), h 116 (by decide) (by decide) (by decide), h 117 (by decide) (by decide) (by decide)]
  exact hX
theorem pS_up {J : mI} {S : mS} {k k2 : Nat} {v : Int} (h : J 140 = pS S) (hk : ∀ j, (if 13 ≤ j ∧ j < 18 then j + 10 else if 18 ≤ j ∧ j < 28 then j - 5 else j) = k2 ↔ j = k) : (up J 140 k v) 140 = pS (setF S k2 v) := by
  funext j
  have e := hk j
  unfold pS setF
  by_cases h1 : j = k
  · have e2 := e.mpr h1
    rw [h1, up_s]
    rw [h1] at e2
    split at e2
    · next g => rw [if_pos g, if_pos e2]
    · next g =>
      rw [if_neg g]
      split at e2
      · next g2 => rw [if_pos g2, if_pos e2]
      · next g2 => rw [if_neg g2, if_pos e2]
  · have e2 : ¬ _ := fun x => h1 (e.mp x)
    rw [up_j h1, h]
    unfold pS
    split
    · next g => rw [if_pos g] at e2; rw [if_neg e2]
    · next g =>
      rw [if_neg g] at e2
      split
      · next g2 => rw [if_pos g2] at e2; rw [if_neg e2]
      · next g2 => rw [if_neg g2] at e2; rw [if_neg e2]
theorem pS_up29 {J : mI} {S : mS} {v : Int} (h : J 140 = pS S) : (up J 140 29 v) 140 = pS (setF S 29 v) := pS_up h (fun j => by constructor <;> intro x <;> (try split at x) <;> (try split at x) <;> (try split) <;> (try split) <;> omega)
theorem pS_up28 {J : mI} {S : mS} {v : Int} (h : J 140 = pS S) : (up J 140 28 v) 140 = pS (setF S 28 v) := pS_up h (fun j => by constructor <;> intro x <;> (try split at x) <;> (try split at x) <;> (try split) <;> (try split) <;> omega)
theorem pS_up8 {J : mI} {S : mS} {q : Nat} {v : Int} (hq : q < 5) (h : J 140 = pS S) : (up J 140 (8 + q) v) 140 = pS (setF S (8 + q) v) := pS_up h (fun j => by constructor <;> intro x <;> (try split at x) <;> (try split at x) <;> (try split) <;> (try split) <;> omega)
theorem pS_up13 {J : mI} {S : mS} {q : Nat} {v : Int} (hq : q < 5) (h : J 140 = pS S) : (up J 140 (13 + q) v) 140 = pS (setF S (23 + q) v) := pS_up h (fun j => by constructor <;> intro x <;> (try split at x) <;> (try split at x) <;> (try split) <;> (try split) <;> omega)
theorem lis_bit {T : mT} {S : mS} {q i : Nat} (hi : i < nP T) : (lisF T S q).testBit i = true ↔ (risers T S q).testBit i = true ∧ (S i = S (13 + q) ∨ S i = S (18 + q)) ∧ ¬ away T i (S 28 + 1) := by
  show (risers T S q &&& present T S (S (13 + q)) (S (18 + q))).testBit i = true ↔ _
  unfold present
  rw [Nat.testBit_and, setOf_tb, Bool.and_eq_true, Bool.and_eq_true, decide_eq_true_eq, decide_eq_true_eq]
  constructor
  · intro h; exact ⟨h.1, h.2.2⟩
  · intro h; exact ⟨h.1, hi, h.2⟩
