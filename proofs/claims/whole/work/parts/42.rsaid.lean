/-! WHAT IS SAID, as the reference keeps it -/
def RZ (I : mI) (Z : mT) : Prop := I 111 77 = Z 0 6 ∧ I 111 78 = Z 0 7 ∧ I 145 = Z 1 ∧ I 146 = Z 2 ∧ I 147 = Z 3 ∧ I 150 = Z 4 ∧ I 148 = Z 5 ∧ I 149 = Z 6
theorem rz_n {I : mI} {Z : mT} (h : RZ I Z) : I 111 77 = Z 0 6 := h.1
theorem rz_t {I : mI} {Z : mT} (h : RZ I Z) : I 111 78 = Z 0 7 := h.2.1
theorem rz_145 {I : mI} {Z : mT} (h : RZ I Z) : I 145 = Z 1 := h.2.2.1
theorem rz_146 {I : mI} {Z : mT} (h : RZ I Z) : I 146 = Z 2 := h.2.2.2.1
theorem rz_147 {I : mI} {Z : mT} (h : RZ I Z) : I 147 = Z 3 := h.2.2.2.2.1
theorem rz_150 {I : mI} {Z : mT} (h : RZ I Z) : I 150 = Z 4 := h.2.2.2.2.2.1
theorem rz_148 {I : mI} {Z : mT} (h : RZ I Z) : I 148 = Z 5 := h.2.2.2.2.2.2.1
theorem rz_149 {I : mI} {Z : mT} (h : RZ I Z) : I 149 = Z 6 := h.2.2.2.2.2.2.2
/-- all but the reference's sayings is as it was -/
def Fy (I J : mI) : Prop := (∀ b, b ≠ 111 → ¬ (145 ≤ b ∧ b ≤ 150) → J b = I b) ∧ ∀ j, j ≠ 77 → j ≠ 78 → J 111 j = I 111 j
theorem rz_tell {I : mI} {Z : mT} {so su dg bo : Int} (h : RZ I Z) : RZ (up (up (up (up (up (up (up I 145 (Z 0 6).toNat so) 146 (Z 0 6).toNat su) 147 (Z 0 6).toNat dg) 150 (Z 0 6).toNat bo) 148 (Z 0 6).toNat (Z 0 7)) 149 (Z 0 6).toNat (-1)) 111 77 (Z 0 6 + 1)) (tellZ Z so su dg bo) := by
  refine ⟨?_, ?_, ?_, ?_, ?_, ?_, ?_, ?_⟩
  · rw [up_s]; rfl
  · rw [up_j (by decide), up_c (by decide), up_c (by decide), up_c (by decide), up_c (by decide), up_c (by decide), up_c (by decide), rz_t h]
    unfold tellZ
    simp
  · funext j
    rw [up_c (by decide), up_c (by decide), up_c (by decide), up_c (by decide), up_c (by decide), up_c (by decide)]
    by_cases e : j = (Z 0 6).toNat
    · subst e; rw [up_s]; simp [tellZ]
    · rw [up_j e, rz_145 h]; simp [tellZ, e]
  · funext j
    rw [up_c (by decide), up_c (by decide), up_c (by decide), up_c (by decide), up_c (by decide)]
    by_cases e : j = (Z 0 6).toNat
    · subst e; rw [up_s]; simp [tellZ]
    · rw [up_j e, up_c (by decide), rz_146 h]; simp [tellZ, e]
  · funext j
    rw [up_c (by decide), up_c (by decide), up_c (by decide), up_c (by decide)]
    by_cases e : j = (Z 0 6).toNat
    · subst e; rw [up_s]; simp [tellZ]
    · rw [up_j e, up_c (by decide), up_c (by decide), rz_147 h]; simp [tellZ, e]
  · funext j
    rw [up_c (by decide), up_c (by decide), up_c (by decide)]
    by_cases e : j = (Z 0 6).toNat
    · subst e; rw [up_s]; simp [tellZ]
    · rw [up_j e, up_c (by decide), up_c (by decide), up_c (by decide), rz_150 h]; simp [tellZ, e]
  · funext j
    rw [up_c (by decide), up_c (by decide)]
    by_cases e : j = (Z 0 6).toNat
    · subst e; rw [up_s]; simp [tellZ]
    · rw [up_j e, up_c (by decide), up_c (by decide), up_c (by decide), up_c (by decide), rz_148 h]; simp [tellZ, e]
  · funext j
    rw [up_c (by decide)]
    by_cases e : j = (Z 0 6).toNat
    · subst e; rw [up_s]; simp [tellZ]
    · rw [up_j e, up_c (by decide), up_c (by decide), up_c (by decide), up_c (by decide), up_c (by decide), rz_149 h]; simp [tellZ, e]
theorem rz_time {I : mI} {Z : mT} {v : Int} (h : RZ I Z) : RZ (up I 111 78 v) (setZ Z 0 7 v) := by
  refine ⟨?_, ?_, ?_, ?_, ?_, ?_, ?_, ?_⟩
  · rw [up_j (by decide), rz_n h]; simp [setZ]
  · rw [up_s]; simp [setZ]
  · funext j; rw [up_c (by decide), rz_145 h]; simp [setZ]
  · funext j; rw [up_c (by decide), rz_146 h]; simp [setZ]
  · funext j; rw [up_c (by decide), rz_147 h]; simp [setZ]
  · funext j; rw [up_c (by decide), rz_150 h]; simp [setZ]
  · funext j; rw [up_c (by decide), rz_148 h]; simp [setZ]
  · funext j; rw [up_c (by decide), rz_149 h]; simp [setZ]
theorem rz_untold {I : mI} {Z : mT} {k : Nat} {v : Int} (h : RZ I Z) : RZ (up I 149 k v) (setZ Z 6 k v) := by
  refine ⟨?_, ?_, ?_, ?_, ?_, ?_, ?_, ?_⟩
  · rw [up_c (by decide), rz_n h]; simp [setZ]
  · rw [up_c (by decide), rz_t h]; simp [setZ]
  · funext j; rw [up_c (by decide), rz_145 h]; simp [setZ]
  · funext j; rw [up_c (by decide), rz_146 h]; simp [setZ]
  · funext j; rw [up_c (by decide), rz_147 h]; simp [setZ]
  · funext j; rw [up_c (by decide), rz_150 h]; simp [setZ]
  · funext j; rw [up_c (by decide), rz_148 h]; simp [setZ]
  · funext j
    by_cases e : j = k
    · subst e; rw [up_s]; simp [setZ]
    · rw [up_j e, rz_149 h]; simp [setZ, e]
