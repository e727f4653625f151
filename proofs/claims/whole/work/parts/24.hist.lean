/-! WHAT WAS: the ring of states, the boxes -/
/-- the states, how many acts are done, how many known -/
abbrev mH : Type := (Nat → mS) × Nat × Nat
def HI (I : mI) (H : mH) : Prop := (0 ≤ I 51 1 ∧ I 51 1 ≤ 40) ∧ I 51 2 = (H.2.1 : Int) ∧ I 51 3 = (H.2.2 : Int) ∧ H.2.1 ≤ H.2.2 ∧ H.2.2 ≤ 40 ∧ ∀ i, i ≤ H.2.2 → I (53 + ((I 51 1).toNat + i) % 41) = H.1 i
def hadd (H : mH) (S : mS) : mH := if H.2.1 < 40 then (fun i => if i = H.2.1 + 1 then S else H.1 i, H.2.1 + 1, H.2.1 + 1) else (fun i => if i = 40 then S else H.1 (i + 1), 40, 40)
theorem HI.b {I : mI} {H : mH} (h : HI I H) : (0 ≤ I 51 1 ∧ I 51 1 ≤ 40) ∧ (0 ≤ I 51 2 ∧ I 51 2 ≤ I 51 3 ∧ I 51 3 ≤ 40) := by
  obtain ⟨h1, h2, h3, h4, h5, -⟩ := h
  omega
theorem HI.fr {I J : mI} {H : mH} (h : HI I H) (h1 : J 51 = I 51) (h2 : ∀ i, i < 41 → J (53 + i) = I (53 + i)) : HI J H := by
  obtain ⟨g1, g2, g3, g4, g5, g6⟩ := h
  unfold HI
  rw [h1]
  exact ⟨g1, g2, g3, g4, g5, fun i hi => (h2 _ (Nat.mod_lt _ (by decide))).trans (g6 i hi)⟩
theorem HI.row {I : mI} {H : mH} (h : HI I H) {x : Int} {i : Nat} (hx : x = I 51 1 + i) (hi : i ≤ H.2.2) : I (53 + Int.toNat (Int.tmod x 41)) = H.1 i := by
  obtain ⟨g1, g2, g3, g4, g5, g6⟩ := h
  rw [← g6 i hi]
  congr 2
  rw [Int.tmod_eq_emod_of_nonneg (by omega)]
  omega
theorem hi_y {I J : mI} {H : mH} {S : mS} (h : HI I H) (hn : I 51 2 < 40) (h1 : J 51 1 = I 51 1) (h2 : J 51 2 = I 51 2 + 1) (h3 : J 51 3 = I 51 2 + 1) (hr : J (53 + Int.toNat (Int.tmod (I 51 1 + (I 51 2 + 1)) 41)) = S) (hf : ∀ i, i < 41 → i ≠ Int.toNat (Int.tmod (I 51 1 + (I 51 2 + 1)) 41) → J (53 + i) = I (53 + i)) : HI J (hadd H S) := by
  obtain ⟨g1, g2, g3, g4, g5, g6⟩ := h
  have hlt : H.2.1 < 40 := by omega
  have er : Int.toNat (Int.tmod (I 51 1 + (I 51 2 + 1)) 41) = ((I 51 1).toNat + (H.2.1 + 1)) % 41 := by
    rw [Int.tmod_eq_emod_of_nonneg (by omega)]
    omega
  rw [er] at hr hf
  unfold hadd
  rw [if_pos hlt]
  refine ⟨by rw [h1]; exact g1, by rw [h2]; show I 51 2 + 1 = ((H.2.1 + 1 : Nat) : Int); omega, by rw [h3]; show I 51 2 + 1 = ((H.2.1 + 1 : Nat) : Int); omega, Nat.le_refl _, by show H.2.1 + 1 ≤ 40; omega, fun i hi => ?_⟩
  have hi : i ≤ H.2.1 + 1 := hi
  show J (53 + ((J 51 1).toNat + i) % 41) = if i = H.2.1 + 1 then S else H.1 i
  rw [h1]
  by_cases e : i = H.2.1 + 1
  · rw [if_pos e, e]; exact hr
  · rw [if_neg e, hf _ (Nat.mod_lt _ (by decide)) (by omega)]
    exact g6 i (by omega)
theorem hi_n {I J : mI} {H : mH} {S : mS} (h : HI I H) (hn : ¬ I 51 2 < 40) (h1 : J 51 1 = Int.tmod (I 51 1 + 1) 41) (h2 : J 51 2 = I 51 2) (h3 : J 51 3 = I 51 2) (hr : J (53 + Int.toNat (Int.tmod (Int.tmod (I 51 1 + 1) 41 + I 51 2) 41)) = S) (hf : ∀ i, i < 41 → i ≠ Int.toNat (Int.tmod (Int.tmod (I 51 1 + 1) 41 + I 51 2) 41) → J (53 + i) = I (53 + i)) : HI J (hadd H S) := by
  obtain ⟨g1, g2, g3, g4, g5, g6⟩ := h
  have hlt : H.2.1 = 40 := by omega
  have e0 : Int.tmod (I 51 1 + 1) 41 = (I 51 1 + 1) % 41 := Int.tmod_eq_emod_of_nonneg (by omega)
  rw [e0] at h1 hr hf
  have er : Int.toNat (Int.tmod ((I 51 1 + 1) % 41 + I 51 2) 41) = (((I 51 1).toNat + 1) % 41 + 40) % 41 := by
    rw [Int.tmod_eq_emod_of_nonneg (by omega)]
    omega
  rw [er] at hr hf
  unfold hadd
  rw [if_neg (by omega)]
  refine ⟨by rw [h1]; omega, by rw [h2]; show I 51 2 = ((40 : Nat) : Int); omega, by rw [h3]; show I 51 2 = ((40 : Nat) : Int); omega, Nat.le_refl _, Nat.le_refl _, fun i hi => ?_⟩
  have hi : i ≤ 40 := hi
  show J (53 + ((J 51 1).toNat + i) % 41) = if i = 40 then S else H.1 (i + 1)
  rw [h1]
  have et : ((I 51 1 + 1) % 41).toNat = ((I 51 1).toNat + 1) % 41 := by omega
  rw [et]
  by_cases e : i = 40
  · rw [if_pos e, e]; exact hr
  · rw [if_neg e, hf _ (Nat.mod_lt _ (by decide)) (by omega), ← g6 (i + 1) (by omega)]
    congr 1
    omega
/-- all but what acts change is as it was -/
def Fm (I J : mI) (t : Nat) : Prop := ∀ b, b ≠ 46 → b ≠ t + 19 → b ≠ 48 → b ≠ 51 → ¬ (53 ≤ b ∧ b ≤ 93) → J b = I b
def Fh (I J : mI) : Prop := ∀ b, b ≠ 51 → ¬ (53 ≤ b ∧ b ≤ 93) → J b = I b
theorem row48 {I : mI} {S : mS} (h : SS I 47 = S) : I 48 = S := h
theorem Fh.s {I J : mI} {S : mS} (h : Fh I J) (hS : SS I 47 = S) : SS J 47 = S := by
  rw [← hS]
  exact h 48 (by decide) (by decide)
/-! the boxes: which are kept, what they hold -/
def BI (I : mI) (Bx : Nat → mS) (m : Nat) : Prop := I 0 11 = (m : Int) ∧ m < 8 ∧ ∀ i, i < 3 → m.testBit i = true → I (96 + 2 * i) = Bx i
/-! what was said -/
def tellZ (Z : mT) (so su dg is : Int) : mT := fun k j => if k = 0 ∧ j = 6 then Z 0 6 + 1 else if j = (Z 0 6).toNat ∧ k = 1 then so else if j = (Z 0 6).toNat ∧ k = 2 then su else if j = (Z 0 6).toNat ∧ k = 3 then dg else if j = (Z 0 6).toNat ∧ k = 4 then is else if j = (Z 0 6).toNat ∧ k = 5 then Z 0 7 else if j = (Z 0 6).toNat ∧ k = 6 then -1 else Z k j
def setZ (Z : mT) (k0 j0 : Nat) (v : Int) : mT := fun k j => if k = k0 ∧ j = j0 then v else Z k j
theorem ZZ_up {I : mI} {Z : mT} {k0 j0 : Nat} {v : Int} (h : ZZ I = Z) (hk : k0 < 7) : ZZ (up I (104 + k0) j0 v) = setZ Z k0 j0 v := by
  rw [← h]
  funext k j
  show (if k < 7 then up I (104 + k0) j0 v (104 + k) j else 0) = if k = k0 ∧ j = j0 then v else if k < 7 then I (104 + k) j else 0
  by_cases e : k = k0
  · subst e
    rw [if_pos hk, if_pos hk]
    by_cases e2 : j = j0
    · subst e2; rw [if_pos ⟨rfl, rfl⟩, up_s]
    · rw [if_neg (fun x => e2 x.2), up_j e2]
  · rw [if_neg (c := k = k0 ∧ j = j0) (fun x => e x.1)]
    by_cases e3 : k < 7
    · rw [if_pos e3, if_pos e3, up_c (by omega)]
    · rw [if_neg e3, if_neg e3]
theorem tellZ_eq (Z : mT) (so su dg is : Int) : setZ (setZ (setZ (setZ (setZ (setZ (setZ Z 1 (Z 0 6).toNat so) 2 (Z 0 6).toNat su) 3 (Z 0 6).toNat dg) 4 (Z 0 6).toNat is) 5 (Z 0 6).toNat (Z 0 7)) 6 (Z 0 6).toNat (-1)) 0 6 (Z 0 6 + 1) = tellZ Z so su dg is := by
  funext k j
  unfold setZ tellZ
  by_cases e0 : k = 0 ∧ j = 6
  · rw [if_pos e0, if_pos e0]
  rw [if_neg e0, if_neg e0]
  by_cases ej : j = (Z 0 6).toNat
  · subst ej
    by_cases e1 : k = 1
    · subst e1; simp
    by_cases e2 : k = 2
    · subst e2; simp
    by_cases e3 : k = 3
    · subst e3; simp
    by_cases e4 : k = 4
    · subst e4; simp
    by_cases e5 : k = 5
    · subst e5; simp
    by_cases e6 : k = 6
    · subst e6; simp
    simp [e1, e2, e3, e4, e5, e6]
  · simp [ej]
/-- all but the sayings is as it was -/
def Fz (I J : mI) : Prop := ∀ b, ¬ (104 ≤ b ∧ b ≤ 110) → J b = I b
