/-! THE FORMULA, told by the reference's steps and arguments -/
def opR (a c : Int) : Prop := (c = -7 ∧ a = 38) ∨ (c = -8 ∧ a = 124) ∨ (a = -c ∧ (c = -37 ∨ c = -42 ∨ c = -43 ∨ c = -45 ∨ c = -47 ∨ c = -60 ∨ c = -61 ∨ c = -62))
def codeR (s a c : Int) : Prop := (0 ≤ c ∧ s = 0 ∧ a = c) ∨ ((-5 ≤ c ∧ c ≤ -2) ∧ s = 1 ∧ a = -2 - c) ∨ (c = -6 ∧ s = 2) ∨ (c < -6 ∧ s = 3 ∧ opR a c)
/-- how many values stand after k codes -/
def dpS (c : Int) (n : Nat) : Nat := if -5 ≤ c ∧ n < 40 then n + 1 else if c = -6 ∧ 0 < n then n else if 1 < n then n - 1 else n
def dp (cd : Nat → Int) : Nat → Nat := iterN (fun k n => dpS (cd k) n) 0
theorem evN_dp (cd env g0 : Nat → Int) : ∀ k, (evN cd env g0 k).2 = dp cd k
  | 0 => rfl
  | k + 1 => by
    have ih := evN_dp cd env g0 k
    rw [evN_s, show dp cd (k + 1) = dpS (cd k) (dp cd k) from rfl, ← ih]
    unfold evStep dpS
    repeat' split
    all_goals rfl
/-- the reference's formula is T's, and no step of it lacks a value -/
def FX (I : mI) (T : mT) : Prop := I 111 18 = T 17 2 ∧ (∀ k, k < (T 17 2).toNat → codeR (I 116 k) (I 117 k) (T 18 k) ∧ ((-5 ≤ T 18 k ∧ dp (T 18) k < 40) ∨ (T 18 k = -6 ∧ 0 < dp (T 18) k) ∨ (T 18 k < -6 ∧ 1 < dp (T 18) k))) ∧ (0 < (T 17 2).toNat → dp (T 18) (T 17 2).toNat = 1)
theorem lfF_ask {env : Nat → Int} {c : Int} (h : -5 ≤ c ∧ c ≤ -2) : lfF env c = env (-2 - c).toNat := by
  have e : c = -5 ∨ c = -4 ∨ c = -3 ∨ c = -2 := by omega
  rcases e with rfl | rfl | rfl | rfl <;> rfl
theorem lfF_num {env : Nat → Int} {c : Int} (h : 0 ≤ c) : lfF env c = c := by
  unfold lfF
  rw [if_neg (by omega), if_neg (by omega), if_neg (by omega), if_neg (by omega)]
theorem evN_env {cd e1 e2 g0 : Nat → Int} (h : ∀ j, j < 4 → e1 j = e2 j) : ∀ k, evN cd e1 g0 k = evN cd e2 g0 k
  | 0 => rfl
  | k + 1 => by
    rw [evN_s, evN_s, evN_env h k]
    have e : lfF e1 (cd k) = lfF e2 (cd k) := by
      unfold lfF
      rw [h 0 (by decide), h 1 (by decide), h 2 (by decide), h 3 (by decide)]
    unfold evStep
    rw [e]
