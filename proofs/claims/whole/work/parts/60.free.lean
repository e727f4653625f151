/-! FREE: counted both ways -/
def frB (T : mT) (S : mS) (p : Nat) : Bool := decide (vowB T p = 0 ∧ wwF T S p (-1) (nQ T) < 0)
def frG (T : mT) (S : mS) (a b : Nat) : Bool := decide (¬ kinW T a b (T 0 15)) && (frB T S a && frB T S b)
def frR (T : mT) (S : mS) : Nat → Nat
  | 0 => 0
  | n + 1 => frR T S n + cntF (frG T S n) n
theorem frR_le (T : mT) (S : mS) : ∀ n, frR T S n ≤ n * n
  | 0 => Nat.le_refl 0
  | n + 1 => by
    have h := frR_le T S n
    have h2 := cntF_le (frG T S n) n
    rw [frR, Nat.add_mul, Nat.mul_add, Nat.one_mul, Nat.mul_one]
    omega
def dblF (R : Nat → Nat → Bool) (m : Nat) : Nat → Nat
  | 0 => 0
  | n + 1 => dblF R m n + cntF (fun b => decide (n < b) && R n b) m
theorem dbl_s (R : Nat → Nat → Bool) (m : Nat) : ∀ n, dblF R (m + 1) n = dblF R m n + cntF (fun a => decide (a < m) && R a m) n
  | 0 => rfl
  | n + 1 => by
    rw [dblF, dblF, dbl_s R m n]
    show _ + (cntF (fun b => decide (n < b) && R n b) m + (if (decide (n < m) && R n m) = true then 1 else 0)) = _ + (cntF (fun a => decide (a < m) && R a m) n + (if (decide (n < m) && R n m) = true then 1 else 0))
    omega
theorem cntF_0 {f : Nat → Bool} : ∀ n, (∀ i, i < n → f i = false) → cntF f n = 0
  | 0, _ => rfl
  | n + 1, h => by rw [cntF_n (h n (by omega))]; exact cntF_0 n (fun i hi => h i (by omega))
theorem dbl_eq (R : Nat → Nat → Bool) {g : Nat → Nat} (h0 : g 0 = 0) (hs : ∀ n, g (n + 1) = g n + cntF (fun a => R a n) n) : ∀ n, dblF R n n = g n
  | 0 => h0.symm
  | n + 1 => by
    rw [dblF, dbl_s, dbl_eq R h0 hs n, hs, cntF_0 (f := fun b => decide (n < b) && R n b) (n + 1) (fun i hi => by rw [decide_eq_false (by omega)]; rfl), Nat.add_zero]
    congr 1
    exact cntF_congr (fun i hi => by rw [decide_eq_true hi]; rfl)
theorem few_sym (st : Nat → Int) (a b : Nat) : ∀ n, fewN st a b n = fewN st b a n
  | 0 => rfl
  | n + 1 => by
    rw [fewN, fewN, few_sym st a b n, Int.add_comm (st (a * 8 + n))]
    by_cases h1 : st (a * 8 + n) ≠ -1 <;> by_cases h2 : st (b * 8 + n) ≠ -1 <;> simp [h1, h2]
theorem kin_sym {T : mT} (hC : TC T) {a b : Nat} (ha : a < nP T) (hb : b < nP T) (g : Int) : kinW T a b g ↔ kinW T b a g := by
  show (T 16 (a * 8 + b) ≠ -1 ∧ _) ↔ (T 16 (b * 8 + a) ≠ -1 ∧ _)
  rw [hC.1 a b ha hb, hC.1 b a hb ha, few_sym]
theorem bar_free {T : mT} (hw : tw T) (S : mS) (a b : Nat) : barF T S a b (-1) = 0 ↔ frG T S a b = true := by
  rw [bar_ref hw]
  have h1 := vowB_in T a
  have h2 := vowB_in T b
  unfold frG frB
  rw [Bool.and_eq_true, Bool.and_eq_true, decide_eq_true_eq, decide_eq_true_eq, decide_eq_true_eq]
  by_cases k : kinW T a b (T 0 15)
  · rw [if_pos k]; exact ⟨fun x => absurd x (by decide), fun x => absurd k x.1⟩
  rw [if_neg k]
  constructor
  · intro x
    repeat' split at x
    all_goals first | (exact absurd x (by decide)) | exact ⟨k, by omega, by omega⟩
  · intro x
    rw [if_neg (by omega), if_neg (by omega)]
theorem free_eq {T : mT} (hw : tw T) (hC : TC T) (S : mS) : freeA T S = frR T S (nP T) := by
  have h1 : ∀ n, n ≤ nP T → freeN T S n = dblF (fun a b => decide (barF T S a b (-1) = 0)) (nP T) n := by
    intro n
    induction n with
    | zero => intro _; rfl
    | succ n ih =>
      intro hn
      rw [freeN, dblF, ih (by omega)]
      rfl
  show freeN T S (nP T) = _
  rw [h1 _ (Nat.le_refl _)]
  have h2 : ∀ n, n ≤ nP T → dblF (fun a b => decide (barF T S a b (-1) = 0)) n n = frR T S n := by
    intro n hn
    induction n with
    | zero => rfl
    | succ n ih =>
      have e := dbl_eq (fun a b => decide (barF T S a b (-1) = 0)) (g := fun n => dblF (fun a b => decide (barF T S a b (-1) = 0)) n n) rfl (fun n => by
        show dblF _ (n + 1) (n + 1) = dblF _ n n + _
        rw [dblF, dbl_s, cntF_0 (f := fun b => decide (n < b) && decide (barF T S n b (-1) = 0)) (n + 1) (fun i hi => by rw [decide_eq_false (by omega)]; rfl), Nat.add_zero]
        congr 1
        exact cntF_congr (fun i hi => by rw [decide_eq_true hi]; rfl)) (n + 1)
      rw [dblF, dbl_s, ih (by omega), frR, cntF_0 (f := fun b => decide (n < b) && decide (barF T S n b (-1) = 0)) (n + 1) (fun i hi => by rw [decide_eq_false (by omega)]; rfl), Nat.add_zero]
      congr 1
      refine cntF_congr (fun i hi => ?_)
      rw [decide_eq_true hi, Bool.true_and]
      have k := kin_sym hC (show i < nP T by omega) (show n < nP T by omega) (T 0 15)
      have e1 : frG T S i n = frG T S n i := by
        unfold frG
        rw [Bool.and_comm (frB T S i)]
        congr 1
        rw [decide_eq_decide]
        exact not_congr k
      rw [← e1]
      cases hb : frG T S i n
      · exact decide_eq_false (fun x => by rw [bar_free hw, hb] at x; exact absurd x (by decide))
      · exact decide_eq_true ((bar_free hw S i n).mpr hb)
  exact h2 _ (Nat.le_refl _)
