/-! rows that agree where it counts give the same answers -/
def agS (T : mT) (S S' : mS) : Prop := (∀ p, p < nP T → S p = S' p) ∧ (∀ q, q < nQ T → S (8 + q) = S' (8 + q) ∧ S (13 + q) = S' (13 + q) ∧ S (18 + q) = S' (18 + q) ∧ S (23 + q) = S' (23 + q)) ∧ S 28 = S' 28 ∧ S 29 = S' 29
theorem ag_nrm {T : mT} (hw : tw T) (S : mS) : agS T S (nrm T S) := by
  have bp := tw_p hw
  have bq := tw_q hw
  have eP : nP T = (T 0 12).toNat := rfl
  have eQ : nQ T = (T 0 13).toNat := rfl
  refine ⟨fun p hp => ?_, fun q hq => ⟨?_, ?_, ?_, ?_⟩, ?_, ?_⟩
  · unfold nrm; rw [if_pos (by omega), if_pos hp]
  · unfold nrm; rw [if_neg (by omega), if_pos (by omega), if_pos (by omega)]
  · unfold nrm; rw [if_neg (by omega), if_neg (by omega), if_pos (by omega), if_pos (by omega)]
  · unfold nrm; rw [if_neg (by omega), if_neg (by omega), if_neg (by omega), if_pos (by omega), if_pos (by omega)]
  · unfold nrm; rw [if_neg (by omega), if_neg (by omega), if_neg (by omega), if_neg (by omega), if_pos (by omega), if_pos (by omega)]
  · rfl
  · rfl
section AG
variable {T : mT} {S S' : mS}
theorem wedM_ag (h : agS T S S') (ex : Int) : ∀ n, n ≤ nQ T → wedM T S ex n = wedM T S' ex n
  | 0, _ => rfl
  | n + 1, hn => by rw [wedM, wedM, wedM_ag h ex n (by omega), (h.2.1 n (by omega)).1]
theorem barF_ag (h : agS T S S') (a b : Nat) (ex : Int) : barF T S a b ex = barF T S' a b ex := by
  unfold barF
  rw [show wedB T S ex = wedB T S' ex from wedM_ag h ex (nQ T) (Nat.le_refl _)]
theorem risers_ag (h : agS T S S') (q : Nat) : risers T S q = risers T S' q := by
  unfold risers
  rw [setOf_congr (f := risF T S q) (g := risF T S' q) (n := nP T) (fun p _ => by unfold risF; rw [show barQ T S q = barQ T S' q from barF_ag h _ _ _])]
theorem sitters_ag (h : agS T S S') (c : Int) : sitters T S c = sitters T S' c := setOf_congr (fun p hp => by rw [h.1 p hp])
theorem present_ag (h : agS T S S') (c o : Int) : present T S c o = present T S' c o := setOf_congr (fun p hp => by rw [h.1 p hp, h.2.2.1])
theorem readIn_ag (h : agS T S S') (c : Int) (called : Nat) : readIn T S c called = readIn T S' c called := setOf_congr (fun q hq => by rw [(h.2.1 q hq).2.1, (h.2.1 q hq).2.2.1])
end AG
