/-! rows that agree where it counts give the same answers -/
def agS (T : mT) (S S' : mS) : Prop := (∀ p, p < nP T → S p = S' p) ∧ (∀ q, q < nQ T → S (8 + q) = S' (8 + q) ∧ S (13 + q) = S' (13 + q) ∧ S (18 + q) = S' (18 + q) ∧ S (23 + q) = S' (23 + q)) ∧ S 28 = S' 28 ∧ S 29 = S' 29
theorem ag_nrm {T : mT} (hw : tw T) (S : mS) : agS T S (nrm T S) := by
  have bp := tw_p hw
  have bq := tw_q hw
  have eP : nP T = (T 0 12).toNat := rfl
  have eQ : nQ T = (T 0 13).toNat := rfl
  refine ⟨fun p hp => ?_, fun q hq => ⟨?_, ?_, ?_, ?_⟩, ?_, ?_⟩
  · unfold nrm; rw [if_pos (by omega), if_pos hp]
  · unfold nrm; rw [if_neg (by omega), if_pos (by omega), if_pos (by omega)]
  · unfold nrm; rw [if_neg (by omega), if_neg (by omega), if_pos (by omega), if_pos (by omega)]
  · unfold nrm; rw [if_neg (by omega), if_neg (by omega), if_neg (by omega), if_pos (by omega), if_pos (by omega)]
  · unfold nrm; rw [if_neg (by omega), if_neg (by omega), if_neg (by omega), if_neg (by omega), if_pos (by omega), if_pos (by omega)]
  · rfl
  · rfl
section AG
variable {T : mT} {S S' : mS}
theorem wedM_ag (h : agS T S S') (ex : Int) : ∀ n, n ≤ nQ T → wedM T S ex n = wedM T S' ex n
  | 0, _ => rfl
  | n + 1, hn => by rw [wedM, wedM, wedM_ag h ex n (by omega), (h.2.1 n (by omega)).1]
theorem barF_ag (h : agS T S S') (a b : Nat) (ex : Int) : barF T S a b ex = barF T S' a b ex := by
  unfold barF
  rw [show wedB T S ex = wedB T S' ex from wedM_ag h ex (nQ T) (Nat.le_refl _)]
theorem risers_ag (h : agS T S S') (q : Nat) : risers T S q = risers T S' q := by
  unfold risers
  rw [setOf_congr (f := risF T S q) (g := risF T S' q) (n := nP T) (fun p _ => by unfold risF; rw [show barQ T S q = barQ T S' q from barF_ag h _ _ _])]
theorem sitters_ag (h : agS T S S') (c : Int) : sitters T S c = sitters T S' c := setOf_congr (fun p hp => by rw [h.1 p hp])
theorem present_ag (h : agS T S S') (c o : Int) : present T S c o = present T S' c o := setOf_congr (fun p hp => by rw [h.1 p hp, h.2.2.1])
theorem readIn_ag (h : agS T S S') (c : Int) (called : Nat) : readIn T S c called = readIn T S' c called := setOf_congr (fun q hq => by rw [(h.2.1 q hq).2.1, (h.2.1 q hq).2.2.1])
theorem calledN_ag (h : agS T S S') : ∀ n, n ≤ nQ T → calledN T S n = calledN T S' n
  | 0, _ => rfl
  | n + 1, hn => by
    have ih := calledN_ag h n (by omega)
    have e := h.2.1 n (by omega)
    show callStep T S n (calledN T S n) = callStep T S' n (calledN T S' n)
    rw [ih]
    unfold callStep
    rw [e.1, e.2.1, e.2.2.1, h.2.2.1]
theorem called_ag (h : agS T S S') : called T S = called T S' := by
  unfold called
  rw [calledN_ag h (nQ T) (Nat.le_refl _)]
theorem ear_ag (h : agS T S S') {p : Nat} (hp : p < nP T) (cl : Nat) : ear T S p cl = ear T S' p cl := by
  unfold ear
  rw [h.1 p hp, h.2.2.1, readIn_ag h, present_ag h]
theorem hearers_ag (h : agS T S S') {q : Nat} (hq : q < nQ T) : hearers T S q = hearers T S' q := by
  have e := h.2.1 q hq
  exact setOf_congr (fun p hp => by rw [risers_ag h, present_ag h, e.2.1, e.2.2.1, called_ag h, ear_ag h hp])
theorem openQ_ag (h : agS T S S') (a : Int) : openQ T S a ↔ openQ T S' a := by
  have eQ : nQ T = (T 0 13).toNat := rfl
  constructor
  · rintro ⟨h1, h2⟩
    exact ⟨h1, by rw [← (h.2.1 a.toNat (by omega)).1]; exact h2⟩
  · rintro ⟨h1, h2⟩
    exact ⟨h1, by rw [(h.2.1 a.toNat (by omega)).1]; exact h2⟩
theorem hushA_ag (h : agS T S S') (a w : Int) : hushA T S a w = hushA T S' a w := by
  have eQ : nQ T = (T 0 13).toNat := rfl
  unfold hushA
  by_cases z : openQ T S a ∧ 0 ≤ w ∧ w ≤ 1
  · have z2 : openQ T S' a ∧ 0 ≤ w ∧ w ≤ 1 := ⟨(openQ_ag h a).mp z.1, z.2⟩
    rw [if_pos z2, if_pos z, hearers_ag h (by have := z.1.1; omega)]
  · rw [if_neg z, if_neg (fun y => z ⟨(openQ_ag h a).mpr y.1, y.2⟩)]
theorem hearingA_ag (h : agS T S S') (a : Int) : hearingA T S a = hearingA T S' a := by
  have eP : nP T = (T 0 12).toNat := rfl
  unfold hearingA
  split
  · rw [called_ag h, ear_ag h (by omega)]
  · rfl
theorem churchA_ag (h : agS T S S') (c w : Int) : churchA T S c w = churchA T S' c w := by
  unfold churchA
  rw [sitters_ag h, called_ag h, readIn_ag h]
theorem lawA_ag (h : agS T S S') (a : Int) : lawA T S a = lawA T S' a := by
  have e : ∀ x, owN T S x = owN T S' x := fun x => cntF_congr (fun q hq => by unfold owF; rw [(h.2.1 q hq).1])
  unfold lawA
  rw [e, e]
theorem freeA_ag (h : agS T S S') : freeA T S = freeA T S' := by
  have e : ∀ n, freeN T S n = freeN T S' n := by
    intro n
    induction n with
    | zero => rfl
    | succ n ih => rw [freeN, freeN, ih, cntF_congr (f := fb T S n) (g := fb T S' n) (fun q _ => by unfold fb; rw [barF_ag h])]
  exact e _
theorem spF_ag (h : agS T S S') (p : Int) : ∀ k i, i + k ≤ nQ T → spF T S p k i = spF T S' p k i
  | 0, _, _ => rfl
  | k + 1, i, hi => by rw [spF, spF, (h.2.1 i (by omega)).1, spF_ag h p k (i + 1) (by omega)]
theorem personA_ag (h : agS T S S') (a w : Int) : personA T S a w = personA T S' a w := by
  have eP : nP T = (T 0 12).toNat := rfl
  unfold personA
  by_cases z : 0 ≤ a ∧ a < T 0 12
  · rw [if_pos z, if_pos z, h.1 a.toNat (by omega), h.2.2.1, spF_ag h a (nQ T) 0 (by omega)]
  · rw [if_neg z, if_neg z]
theorem pairA_ag (h : agS T S S') (a w : Int) : pairA T S a w = pairA T S' a w := by
  have eQ : nQ T = (T 0 13).toNat := rfl
  unfold pairA
  by_cases z : 0 ≤ a ∧ a < T 0 13
  · have e := h.2.1 a.toNat (by omega)
    rw [if_pos z, if_pos z, e.1, e.2.1, e.2.2.1, e.2.2.2, show barQ T S a.toNat = barQ T S' a.toNat from barF_ag h _ _ _, risers_ag h, called_ag h]
  · rw [if_neg z, if_neg z]
theorem odds_ag (h : agS T S S') (q : Nat) (c e : Int) : odds T S q c e = odds T S' q c e := by
  have k : ∀ ls cl n, n ≤ nP T → oddsN T S ls cl n = oddsN T S' ls cl n := by
    intro ls cl n
    induction n with
    | zero => exact fun _ => rfl
    | succ n ih => exact fun hn => by rw [oddsN, oddsN, ih (by omega), ear_ag h (by omega)]
  unfold odds
  rw [risers_ag h, present_ag h, called_ag h, k _ _ _ (Nat.le_refl _)]
theorem quietA_ag (h : agS T S S') (a c e w : Int) : quietA T S a c e w = quietA T S' a c e w := by
  have eQ : nQ T = (T 0 13).toNat := rfl
  unfold quietA
  by_cases z : 0 ≤ a ∧ a < T 0 13
  · rw [odds_ag h, (h.2.1 a.toNat (by omega)).1]
  · rw [if_neg (fun y => z y.1.1), if_neg (fun y => z y.1.1)]
theorem quietestA_ag (h : agS T S S') (a w : Int) : quietestA T S a w = quietestA T S' a w := by
  have eQ : nQ T = (T 0 13).toNat := rfl
  have k1 : ∀ q w lo k hi s, qIn T S q w lo k hi s = qIn T S' q w lo k hi s := by
    intro q w lo k
    induction k with
    | zero => exact fun _ _ => rfl
    | succ k ih => intro hi s; rw [qIn, qIn, ih]; unfold qStep; rw [odds_ag h]
  have k2 : ∀ q w k lo s, qOut T S q w k lo s = qOut T S' q w k lo s := by
    intro q w k
    induction k with
    | zero => exact fun _ _ => rfl
    | succ k ih => intro lo s; rw [qOut, qOut, ih, k1]
  unfold quietestA
  by_cases z : 0 ≤ a ∧ a < T 0 13
  · rw [k2, (h.2.1 a.toNat (by omega)).1]
  · rw [if_neg (fun y => z y.1.1), if_neg (fun y => z y.1.1)]
theorem setF_ag (h : agS T S S') (k : Nat) (v : Int) : agS T (setF S k v) (setF S' k v) := by
  have e : ∀ j, S j = S' j → setF S k v j = setF S' k v j := fun j hj => by unfold setF; rw [hj]
  exact ⟨fun p hp => e p (h.1 p hp), fun q hq => ⟨e _ (h.2.1 q hq).1, e _ (h.2.1 q hq).2.1, e _ (h.2.1 q hq).2.2.1, e _ (h.2.1 q hq).2.2.2⟩, e 28 h.2.2.1, e 29 h.2.2.2⟩
theorem rgo_ag (h : agS T S S') (ls cl : Nat) : ∀ k i z, i + k ≤ nP T → rgo T S ls cl k i z = rgo T S' ls cl k i z
  | 0, _, _, _ => rfl
  | k + 1, i, z, hi => by rw [rgo, rgo, ear_ag h (by omega), rgo_ag h ls cl k (i + 1) (nextZ z) (by omega), rgo_ag h ls cl k (i + 1) z (by omega)]
theorem risen_ag (h : agS T S S') {q : Nat} (hq : q < nQ T) (cl : Nat) : risen T S q cl = risen T S' q cl := by
  have e := h.2.1 q hq
  show rgo T S (risers T S q &&& present T S (S (13 + q)) (S (18 + q))) cl (nP T) 0 (S 29) = _
  rw [risers_ag h, present_ag h, e.2.1, e.2.2.1, h.2.2.2, rgo_ag h _ _ _ _ _ (by omega)]
theorem wedStep_ag (h : agS T S S') {q : Nat} (hq : q < nQ T) (cl : Nat) : agS T (wedStep T S q cl).1 (wedStep T S' q cl).1 ∧ (wedStep T S q cl).2 = (wedStep T S' q cl).2 := by
  have e := h.2.1 q hq
  have h1 := setF_ag (setF_ag h 29 (risen T S' q cl).2) (23 + q) (S' (23 + q) + 1)
  unfold wedStep
  rw [risen_ag h hq, e.2.2.2, show wedB T (setF (setF S 29 (risen T S' q cl).2) (23 + q) (S' (23 + q) + 1)) q = wedB T (setF (setF S' 29 (risen T S' q cl).2) (23 + q) (S' (23 + q) + 1)) q from wedM_ag h1 q (nQ T) (Nat.le_refl _)]
  split
  · exact ⟨setF_ag (setF_ag h _ _) _ _, rfl⟩
  · split
    · exact ⟨h1, rfl⟩
    · exact ⟨setF_ag h1 _ _, rfl⟩
theorem sunF_ag (h : agS T S S') : agS T (sunF T S).1 (sunF T S').1 ∧ (sunF T S).2 = (sunF T S').2 := by
  have k : ∀ n, n ≤ nQ T → agS T (sunN T S n).1 (sunN T S' n).1 ∧ (sunN T S n).2 = (sunN T S' n).2 := by
    intro n
    induction n with
    | zero => exact fun _ => ⟨h, rfl⟩
    | succ n ih =>
      intro hn
      have i := ih (by omega)
      have w := wedStep_ag i.1 (q := n) (by omega) (called T S')
      show agS T (sunStep T (called T S) n (sunN T S n)).1 (sunStep T (called T S') n (sunN T S' n)).1 ∧ (sunStep T (called T S) n (sunN T S n)).2 = (sunStep T (called T S') n (sunN T S' n)).2
      rw [called_ag h]
      unfold sunStep
      split
      · exact ⟨w.1, by rw [w.2, i.2]⟩
      · exact i
  have i := k (nQ T) (Nat.le_refl _)
  unfold sunF
  refine ⟨?_, i.2⟩
  rw [i.1.2.2.1]
  exact setF_ag i.1 _ _
theorem sunK_ag (h : agS T S S') : ∀ n, agS T (sunK T S n) (sunK T S' n)
  | 0 => h
  | n + 1 => (sunF_ag (sunK_ag h n)).1
theorem willA_ag (h : agS T S S') (a n w : Int) : willA T S a n w = willA T S' a n w := by
  have eQ : nQ T = (T 0 13).toNat := rfl
  unfold willA
  by_cases z : 0 ≤ a ∧ a < T 0 13
  · have e := (sunK_ag h n.toNat).2.1 a.toNat (by omega)
    rw [e.1, e.2.2.2]
  · rw [if_neg (fun y => z y.1), if_neg (fun y => z y.1)]
theorem settlesA_ag (h : agS T S S') (a : Int) : settlesA T S a = settlesA T S' a := by
  have eQ : nQ T = (T 0 13).toNat := rfl
  have k : ∀ q, q < nQ T → ∀ n j, setlF T S q n j = setlF T S' q n j := by
    intro q hq n
    induction n with
    | zero => exact fun _ => rfl
    | succ n ih => intro j; rw [setlF, setlF, ih, ((sunK_ag h j).2.1 q hq).1]
  unfold settlesA
  by_cases z : 0 ≤ a ∧ a < T 0 13
  · rw [k a.toNat (by omega)]
  · rw [if_neg z, if_neg z]
theorem meantF_ag (h : agS T S S') (Z : mT) (m : Int) : meantF T S Z m = meantF T S' Z m := by
  refine setOf_congr (fun p hp => ?_)
  have k : ∀ n j, fitG T S Z p m n j ↔ fitG T S' Z p m n j := by
    intro n
    induction n with
    | zero => exact fun _ => Iff.rfl
    | succ n ih =>
      intro j
      have e : isSo T S Z j p ↔ isSo T S' Z j p := by unfold isSo; rw [h.1 p hp]
      rw [fitG, fitG, ih, e]
  exact Bool.eq_iff_iff.mpr ((fitB_iff T S Z m p).trans ((k _ _).trans (fitB_iff T S' Z m p).symm))
theorem thatAre_ag (h : agS T S S') (h1 : stZ T S) (h2 : stZ T S') (c : Int) : thatAre S c = thatAre S' c := by
  refine setOf_congr (fun q hq => ?_)
  have e : S (8 + q) = S' (8 + q) := by
    by_cases z : q < nQ T
    · exact (h.2.1 q z).1
    · rw [h1 q (by omega) hq, h2 q (by omega) hq]
  rw [e]
theorem aboutA_ag (h : agS T S S') (h1 : stZ T S) (h2 : stZ T S') (Z : mT) (x y t w : Int) : aboutA T S Z x y t w = aboutA T S' Z x y t w := by
  unfold aboutA
  rw [thatAre_ag h h1 h2, thatAre_ag h h1 h2, h.2.2.1, h.2.2.2]
end AG
