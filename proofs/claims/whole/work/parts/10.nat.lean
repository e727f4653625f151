/-! rules with places and sets as Nat -/
section NAT
variable {l : Launch} {G : mG} {μ : mM} {d nf : Nat} {I : mI} {X : mX} {pc : Nat} {ls : List (Option mV)} {st : List mV} {Q : mQ}
theorem wq_iald {a n : Nat} {i : Int} (k : Nat) (hd : decode μ.2.1 pc = .ok (.iaload, 1)) (hk : kd a = (20, n)) (ha : a < X.2.2) (hi : i = (k : Int)) (h1 : k < n) (kk : WP l G μ d nf I X (pc + 1) ls (vI (I a k) :: st) Q) : WP l G μ d nf I X pc ls (vI i :: vR a :: st) Q := by
  subst hi
  exact wp_iald hd hk ha (by omega) (by omega) (by rw [Int.toNat_natCast]; exact kk)
theorem wq_bald {a n : Nat} {i : Int} (k : Nat) (hd : decode μ.2.1 pc = .ok (.baload, 1)) (hk : kd a = (21, n)) (ha : a < X.2.2) (hi : i = (k : Int)) (h1 : k < n) (kk : WP l G μ d nf I X (pc + 1) ls (vI (I a k) :: st) Q) : WP l G μ d nf I X pc ls (vI i :: vR a :: st) Q := by
  subst hi
  exact wp_bald hd hk ha (by omega) (by omega) (by rw [Int.toNat_natCast]; exact kk)
theorem wq_zald {a n : Nat} {i : Int} (k : Nat) (hd : decode μ.2.1 pc = .ok (.baload, 1)) (hk : kd a = (22, n)) (ha : a < X.2.2) (hi : i = (k : Int)) (h1 : k < n) (kk : WP l G μ d nf I X (pc + 1) ls (vI (I a k) :: st) Q) : WP l G μ d nf I X pc ls (vI i :: vR a :: st) Q := by
  subst hi
  exact wp_zald hd hk ha (by omega) (by omega) (by rw [Int.toNat_natCast]; exact kk)
theorem wq_lald {a n : Nat} {i : Int} (k : Nat) (hd : decode μ.2.1 pc = .ok (.laload, 1)) (hk : kd a = (23, n)) (ha : a < X.2.2) (hi : i = (k : Int)) (h1 : k < n) (kk : WP l G μ d nf I X (pc + 1) ls (vJ (X.1 a k) :: st) Q) : WP l G μ d nf I X pc ls (vI i :: vR a :: st) Q := by
  subst hi
  exact wp_lald hd hk ha (by omega) (by omega) (by rw [Int.toNat_natCast]; exact kk)
theorem wq_iast {a n : Nat} {i x : Int} (k : Nat) (hd : decode μ.2.1 pc = .ok (.iastore, 1)) (hk : kd a = (20, n)) (ha : a < X.2.2) (hi : i = (k : Int)) (h1 : k < n) (kk : WP l G μ d nf (up I a k x) X (pc + 1) ls st Q) : WP l G μ d nf I X pc ls (vI x :: vI i :: vR a :: st) Q := by
  subst hi
  exact wp_iast hd hk ha (by omega) (by omega) (by rw [Int.toNat_natCast]; exact kk)
theorem wq_bast {a n : Nat} {i x : Int} (k : Nat) (hd : decode μ.2.1 pc = .ok (.bastore, 1)) (hk : kd a = (21, n)) (ha : a < X.2.2) (hi : i = (k : Int)) (h1 : k < n) (hx : -128 ≤ x ∧ x < 128) (kk : WP l G μ d nf (up I a k x) X (pc + 1) ls st Q) : WP l G μ d nf I X pc ls (vI x :: vI i :: vR a :: st) Q := by
  subst hi
  exact wp_bast hd hk ha (by omega) (by omega) hx (by rw [Int.toNat_natCast]; exact kk)
theorem wq_zast {a n : Nat} {i x : Int} (k : Nat) (hd : decode μ.2.1 pc = .ok (.bastore, 1)) (hk : kd a = (22, n)) (ha : a < X.2.2) (hi : i = (k : Int)) (h1 : k < n) (hx : x = 0 ∨ x = 1) (kk : WP l G μ d nf (up I a k x) X (pc + 1) ls st Q) : WP l G μ d nf I X pc ls (vI x :: vI i :: vR a :: st) Q := by
  subst hi
  exact wp_zast hd hk ha (by omega) (by omega) hx (by rw [Int.toNat_natCast]; exact kk)
theorem wq_last {a n : Nat} {i x : Int} (k : Nat) (hd : decode μ.2.1 pc = .ok (.lastore, 1)) (hk : kd a = (23, n)) (ha : a < X.2.2) (hi : i = (k : Int)) (h1 : k < n) (kk : WP l G μ d nf I (upL X.1 a k x, X.2) (pc + 1) ls st Q) : WP l G μ d nf I X pc ls (vJ x :: vI i :: vR a :: st) Q := by
  subst hi
  exact wp_last hd hk ha (by omega) (by omega) (by rw [Int.toNat_natCast]; exact kk)
theorem wn_shl {x y : Int} (a k : Nat) (hd : decode μ.2.1 pc = .ok (.ishl, 1)) (hx : x = (a : Int)) (hy : y = (k : Int)) (h : k < 32) (kk : WP l G μ d nf I X (pc + 1) ls (vI ((a * 2 ^ k : Nat) : Int) :: st) Q) : WP l G μ d nf I X pc ls (vI y :: vI x :: st) Q := by
  subst hx; subst hy
  refine wp_ishl hd (by omega) (by omega) ?_
  rw [Int.toNat_natCast]
  have e : (a : Int) * 2 ^ k = ((a * 2 ^ k : Nat) : Int) := by push_cast; rfl
  rw [e]
  exact kk
theorem wn_shl1 {y : Int} (k : Nat) (hd : decode μ.2.1 pc = .ok (.ishl, 1)) (hy : y = (k : Int)) (h : k < 32) (kk : WP l G μ d nf I X (pc + 1) ls (vI ((2 ^ k : Nat) : Int) :: st) Q) : WP l G μ d nf I X pc ls (vI y :: vI 1 :: st) Q := by
  refine wn_shl 1 k hd rfl hy h ?_
  rw [Nat.one_mul]
  exact kk
theorem wn_shr {x y : Int} (a k : Nat) (hd : decode μ.2.1 pc = .ok (.ishr, 1)) (hx : x = (a : Int)) (hy : y = (k : Int)) (h : k < 32) (ha : a < 2147483648) (kk : WP l G μ d nf I X (pc + 1) ls (vI ((a / 2 ^ k : Nat) : Int) :: st) Q) : WP l G μ d nf I X pc ls (vI y :: vI x :: st) Q := by
  subst hx; subst hy
  refine wp_ishr hd (by omega) (by omega) ?_
  rw [Int.toNat_natCast, w32_of ⟨by omega, by omega⟩]
  have e : (a : Int) / 2 ^ k = ((a / 2 ^ k : Nat) : Int) := by push_cast; rfl
  rw [e]
  exact kk
theorem wn_and {x y : Int} (a b : Nat) (hd : decode μ.2.1 pc = .ok (.iand, 1)) (hx : x = (a : Int)) (hy : y = (b : Int)) (kk : WP l G μ d nf I X (pc + 1) ls (vI ((a &&& b : Nat) : Int) :: st) Q) : WP l G μ d nf I X pc ls (vI y :: vI x :: st) Q := by
  subst hx; subst hy
  refine wp_iand hd (by omega) (by omega) ?_
  rw [Int.toNat_natCast, Int.toNat_natCast]
  exact kk
theorem wn_or {x y : Int} (a b : Nat) (hd : decode μ.2.1 pc = .ok (.ior, 1)) (hx : x = (a : Int)) (hy : y = (b : Int)) (kk : WP l G μ d nf I X (pc + 1) ls (vI ((a ||| b : Nat) : Int) :: st) Q) : WP l G μ d nf I X pc ls (vI y :: vI x :: st) Q := by
  subst hx; subst hy
  refine wp_ior hd (by omega) (by omega) ?_
  rw [Int.toNat_natCast, Int.toNat_natCast]
  exact kk
theorem wn_andn {x y : Int} (a b : Nat) (hd : decode μ.2.1 pc = .ok (.iand, 1)) (hx : x = (a : Int)) (hy : y = -(b : Int) - 1) (kk : WP l G μ d nf I X (pc + 1) ls (vI ((dif a b : Nat) : Int) :: st) Q) : WP l G μ d nf I X pc ls (vI y :: vI x :: st) Q := by
  subst hx; subst hy
  refine wp_iandn hd (by omega) (by omega) ?_
  rw [Int.toNat_natCast, Int.toNat_natCast]
  exact kk
theorem wn_mask {x y : Int} (a n : Nat) (hd : decode μ.2.1 pc = .ok (.iand, 1)) (hx : x = (a : Int)) (hy : y = ((2 ^ n - 1 : Nat) : Int)) (hn : n ≤ 31) (kk : WP l G μ d nf I X (pc + 1) ls (vI ((a % 2 ^ n : Nat) : Int) :: st) Q) : WP l G μ d nf I X pc ls (vI y :: vI x :: st) Q := by
  subst hx
  refine wp_imask n hd hy hn ?_
  rw [show (a : Int) % ((2 ^ n : Nat) : Int) = ((a % 2 ^ n : Nat) : Int) from (Int.natCast_emod a (2 ^ n)).symm]
  exact kk
end NAT
/-- (a >> p & 1) == 1 -/
theorem bit_iff (a p : Nat) : ((a / 2 ^ p % 2 : Nat) : Int) = 1 ↔ a.testBit p = true := by
  rw [Nat.testBit_eq_decide_div_mod_eq, decide_eq_true_iff]
  omega
theorem bit_lt (a p : Nat) : a / 2 ^ p % 2 < 2 := Nat.mod_lt _ (by decide)
/-- the set of those below n with f -/
def setOf (f : Nat → Bool) : Nat → Nat
  | 0 => 0
  | n + 1 => setOf f n ||| (if f n then 2 ^ n else 0)
theorem setOf_tb (f : Nat → Bool) : ∀ (n i : Nat), (setOf f n).testBit i = (decide (i < n) && f i)
  | 0, i => by simp [setOf]
  | n + 1, i => by
    rw [setOf, Nat.testBit_or, setOf_tb f n i]
    by_cases e : i = n
    · subst e
      cases hf : f i <;> simp [Nat.testBit_two_pow_self]
    · have e1 : (if f n = true then 2 ^ n else 0).testBit i = false := by
        split
        · rw [Nat.testBit_two_pow]
          simp [Ne.symm e]
        · simp
      rw [e1, Bool.or_false]
      by_cases h : i < n
      · simp [h, Nat.lt_succ_of_lt h]
      · simp [h, show ¬ i < n + 1 by omega]
theorem setOf_lt (f : Nat → Bool) (n : Nat) : setOf f n < 2 ^ n := by
  apply Nat.lt_pow_two_of_testBit
  intro i hi
  rw [setOf_tb]
  simp [show ¬ i < n by omega]
theorem setOf_congr {f g : Nat → Bool} : ∀ {n : Nat}, (∀ i, i < n → f i = g i) → setOf f n = setOf g n
  | 0, _ => rfl
  | n + 1, h => by rw [setOf, setOf, setOf_congr (fun i hi => h i (by omega)), h n (by omega)]
theorem set_eq {a b : Nat} (h : ∀ i, a.testBit i = b.testBit i) : a = b := Nat.eq_of_testBit_eq h
