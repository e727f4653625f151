/-! BEGINNING: a town's first state -/
theorem cpy_c {I : mI} {a0 a sp dp n b k : Nat} (h : b ≠ a) : cpy I a0 a sp dp n b k = I b k := if_neg (fun x => h x.1)
def beginS (T : mT) : mS := fun j => if j = 29 then T 0 17 else if 18 ≤ j ∧ j < 18 + 5 then T 9 (j - 18) else if 13 ≤ j ∧ j < 13 + 5 then T 8 (j - 13) else if 0 ≤ j ∧ j < 0 + 8 then T 3 (j - 0) else 0
theorem begin_eq {I : mI} {t s : Nat} {T : mT} (ht : isT t) (hs : isS s) (hT : TT I t = T) : ∀ b j, j < (kd b).2 → upc I (s + 1) (beginS T) b j = up (cpy (cpy (cpy (upc I (s + 1) (fun j => if j < 30 then 0 else I (s + 1) j)) (t + 3) (s + 1) 0 0 8) (t + 8) (s + 1) 0 13 5) (t + 9) (s + 1) 0 18 5) (s + 1) 29 (T 0 17) b j := by
  intro b j hj
  have e3 : ∀ k j, k < 19 → I (t + k) j = T k j := fun k j hk => by
    rw [← hT]
    exact (if_pos hk).symm
  have n9 : ∀ k, k < 20 → (t + k = s + 1) = False := fun k hk => eq_false (by rcases ht with rfl | rfl <;> rcases hs with rfl | rfl | rfl | rfl | rfl <;> omega)
  by_cases e : b = s + 1
  · subst e
    rw [sk_1 hs] at hj
    have hj : j < 30 := hj
    rw [upc_s]
    unfold beginS
    simp only [up, cpy, upc, true_and, n9 9 (by decide), n9 8 (by decide), n9 3 (by decide), false_and, if_false, if_true, Nat.zero_add, e3 9 _ (by decide), e3 8 _ (by decide), e3 3 _ (by decide), if_pos hj]
  · rw [upc_c e, up_c e, cpy_c e, cpy_c e, cpy_c e, upc_c e]
/-- an array's references as they move -/
theorem rf_0 {D : Nat → Nat} {r : Nat} : upR (Rf D) 0 0 (some r) = Rf (dset D 0 r) := by
  funext a j
  unfold upR Rf dset
  by_cases h : a = 0 ∧ j = 0
  · simp [h]
  · simp [h]
theorem rf_1 {D : Nat → Nat} {r : Nat} : upR (Rf D) 0 1 (some r) = Rf (dset D 1 r) := by
  funext a j
  unfold upR Rf dset
  by_cases h : a = 0 ∧ j = 1
  · simp [h]
  · simp [h]
theorem rf_2 {D : Nat → Nat} {r : Nat} : upR (Rf D) 44 1 (some r) = Rf (dset D 2 r) := by
  funext a j
  unfold upR Rf dset
  by_cases h : a = 44 ∧ j = 1
  · simp [h]
  · simp [h]
theorem rf_3 {D : Nat → Nat} {r : Nat} : upR (Rf D) 45 1 (some r) = Rf (dset D 3 r) := by
  funext a j
  unfold upR Rf dset
  by_cases h : a = 45 ∧ j = 1
  · simp [h]
  · simp [h]
theorem rf_4 {D : Nat → Nat} {r : Nat} : upR (Rf D) 101 0 (some r) = Rf (dset D 4 r) := by
  funext a j
  unfold upR Rf dset
  by_cases h : a = 101 ∧ j = 0
  · simp [h]
  · simp [h]
theorem rf_5 {D : Nat → Nat} {r : Nat} : upR (Rf D) 101 1 (some r) = Rf (dset D 5 r) := by
  funext a j
  unfold upR Rf dset
  by_cases h : a = 101 ∧ j = 1
  · simp [h]
  · simp [h]
/-! the tape -/
/-- the byte of a at the shift k -/
def byteOf (a k : Int) : Int := Int.bmod (w32 a / 2 ^ k.toNat) 256
def putT (g : Nat → Int) (n : Int) (a : Int) : Nat → Int := fun j => if j = n.toNat then byteOf a 24 else if j = n.toNat + 1 then byteOf a 16 else if j = n.toNat + 2 then byteOf a 8 else if j = n.toNat + 3 then byteOf a 0 else g j
def feedT (g : Nat → Int) (n a b c e f : Int) : Nat → Int := putT (putT (putT (putT (putT g n a) (n + 4) b) (n + 4 + 4) c) (n + 4 + 4 + 4) e) (n + 4 + 4 + 4 + 4) f
/-- all but the tape's bytes and length is as it was -/
def Ft (I J : mI) : Prop := (∀ b, b ≠ 41 → b ≠ 42 → J b = I b) ∧ ∀ j, j ≠ 3 → J 41 j = I 41 j
theorem Ft.trans {I J K : mI} (h : Ft I J) (h2 : Ft J K) : Ft I K := ⟨fun b g1 g2 => (h2.1 b g1 g2).trans (h.1 b g1 g2), fun j g => (h2.2 j g).trans (h.2 j g)⟩
theorem bm256 (x : Int) : -128 ≤ Int.bmod x 256 ∧ Int.bmod x 256 ≤ 127 := by
  unfold Int.bmod
  simp only []
  split <;> omega
