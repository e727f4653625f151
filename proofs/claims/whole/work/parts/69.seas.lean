/-! SEASON: the class's plans and the reference's rows outdo each other -/
def orN (f : Nat → Nat) : Nat → Nat
  | 0 => 0
  | n + 1 => orN f n ||| f n * 2 ^ (2 * n)
theorem orN_lt {f : Nat → Nat} (hf : ∀ q, f q ≤ 3) : ∀ n, orN f n < 2 ^ (2 * n)
  | 0 => (by decide : (0 : Nat) < 2 ^ (2 * 0))
  | n + 1 => by
    have ih := orN_lt hf n
    have e : (2 : Nat) ^ (2 * (n + 1)) = 2 ^ (2 * n) * 4 := by rw [show 2 * (n + 1) = 2 * n + 2 by omega, Nat.pow_add]
    rw [orN]
    refine or_lt ?_ ?_
    · rw [e]; omega
    · rw [e, Nat.mul_comm]
      exact Nat.mul_lt_mul_of_pos_left (by have := hf n; omega) (Nat.pow_pos (by decide))
theorem orN_add {f : Nat → Nat} (hf : ∀ q, f q ≤ 3) (n : Nat) : orN f (n + 1) = orN f n + f n * 2 ^ (2 * n) := by
  rw [orN, Nat.mul_comm, Nat.or_comm, ← Nat.two_pow_add_eq_or_of_lt (orN_lt hf n)]
  omega
theorem orN_dg {f : Nat → Nat} (hf : ∀ q, f q ≤ 3) (q : Nat) : ∀ n, dg (orN f n) q = if q < n then f q else 0
  | 0 => by
    rw [if_neg (Nat.not_lt_zero q)]
    show 0 / 2 ^ (2 * q) % 4 = 0
    rw [Nat.zero_div]
  | n + 1 => by
    have ih := orN_dg hf q n
    have hl := orN_lt hf n
    show orN f (n + 1) / 2 ^ (2 * q) % 4 = _
    rw [orN_add hf]
    have hp : 0 < 2 ^ (2 * q) := Nat.pow_pos (by decide)
    by_cases h : q < n
    · have e : f n * 2 ^ (2 * n) = 2 ^ (2 * q) * (4 * (f n * 2 ^ (2 * n - 2 * q - 2))) := by
        rw [show 2 * n = 2 * q + (2 + (2 * n - 2 * q - 2)) by omega, Nat.pow_add, Nat.pow_add, show 2 * q + (2 + (2 * n - 2 * q - 2)) - 2 * q - 2 = 2 * n - 2 * q - 2 by omega]
        rw [show (2 : Nat) ^ 2 = 4 from rfl]
        generalize 2 ^ (2 * q) = x
        generalize 2 ^ (2 * n - 2 * q - 2) = y
        rw [Nat.mul_left_comm x 4, Nat.mul_left_comm (f n) 4, Nat.mul_left_comm (f n) x, Nat.mul_left_comm x 4]
      rw [e, Nat.add_mul_div_left _ _ hp, Nat.add_mul_mod_self_left, if_pos (by omega), ← if_pos (c := q < n) (t := f q) (e := 0) h]
      exact ih
    · by_cases h2 : q = n
      · subst h2
        rw [Nat.mul_comm, Nat.add_mul_div_left _ _ hp, Nat.div_eq_of_lt hl, if_pos (by omega), Nat.zero_add]
        have := hf q
        omega
      · rw [if_neg (by omega)]
        have hl2 := orN_lt hf (n + 1)
        rw [orN_add hf] at hl2
        have h3 : 2 ^ (2 * (n + 1)) ≤ 2 ^ (2 * q) := Nat.pow_le_pow_right (by decide) (by omega)
        rw [Nat.div_eq_of_lt (Nat.lt_of_lt_of_le hl2 h3)]
theorem dueQ_le {S : mS} {B : Int} (hv : sw S B) {q : Nat} (hq : q < 5) : dueQ S q ≤ 3 := by
  have := sw_read hv hq
  unfold dueQ
  omega
def dueC (S : mS) (o : Nat) : Nat → Nat := fun q => if o.testBit q = true ∧ q < 5 then dueQ S q else 0
theorem dueC_le {S : mS} {B : Int} (hv : sw S B) (o q : Nat) : dueC S o q ≤ 3 := by
  unfold dueC
  split
  · next h => exact dueQ_le hv h.2
  · omega
theorem dueN_or (S : mS) (o : Nat) : ∀ n, n ≤ 5 → dueN S o n = orN (dueC S o) n
  | 0, _ => rfl
  | n + 1, h => by
    rw [dueN, orN, dueN_or S o n (by omega)]
    unfold dueC
    split
    · next z => rw [if_pos ⟨z, by omega⟩]
    · next z => rw [if_neg (fun x => z x.1), Nat.zero_mul, Nat.or_zero]
theorem dueN_lt {S : mS} {B : Int} (hv : sw S B) (o : Nat) {n : Nat} (h : n ≤ 5) : dueN S o n < 1024 := by
  rw [dueN_or S o n h]
  exact Nat.lt_of_lt_of_le (orN_lt (dueC_le hv o) n) (Nat.pow_le_pow_right (n := 2) (j := 10) (by decide) (by omega))
theorem dueN_dg {S : mS} {B : Int} (hv : sw S B) {o q : Nat} (h : q < 5) : dg (dueN S o 5) q = if o.testBit q = true then dueQ S q else 0 := by
  rw [dueN_or S o 5 (by omega), orN_dg (dueC_le hv o), if_pos h]
  unfold dueC
  by_cases z : o.testBit q = true
  · rw [if_pos ⟨z, h⟩, if_pos z]
  · rw [if_neg (fun x => z x.1), if_neg z]
/-- the reference's first row -/
def frN (S : mS) : Nat → Nat
  | 0 => 0
  | n + 1 => frN S n ||| dueQ S n * 2 ^ (2 * n)
theorem frN_or (S : mS) : ∀ n, n ≤ 5 → frN S n = orN (dueC S 31) n
  | 0, _ => rfl
  | n + 1, h => by
    rw [frN, orN, frN_or S n (by omega)]
    unfold dueC
    have e : Nat.testBit 31 n = true := (by decide : ∀ m, m < 5 → Nat.testBit 31 m = true) n (by omega)
    rw [if_pos ⟨e, by omega⟩]
theorem frN_lt {S : mS} {B : Int} (hv : sw S B) {n : Nat} (h : n ≤ 5) : frN S n < 1024 := by
  rw [frN_or S n h]
  exact Nat.lt_of_lt_of_le (orN_lt (dueC_le hv 31) n) (Nat.pow_le_pow_right (n := 2) (j := 10) (by decide) (by omega))
theorem frN_dg {S : mS} {B : Int} (hv : sw S B) {q n : Nat} (hn : n ≤ 5) (h : q < n) : dg (frN S n) q = dueQ S q := by
  rw [frN_or S n hn, orN_dg (dueC_le hv 31), if_pos h]
  unfold dueC
  exact if_pos ⟨(by decide : ∀ m, m < 5 → Nat.testBit 31 m = true) q (by omega), by omega⟩
/-- calls by the pairs of s, as the reference counts them -/
def crN (S : mS) (s : Nat) : Nat → Nat → Int
  | 0 => fun _ => 0
  | n + 1 => if s.testBit n = true then inc2 (crN S s n) (S (13 + n)).toNat (S (18 + n)).toNat else crN S s n
theorem inc2_at (f : Nat → Int) (a b j : Nat) : inc2 f a b j = f j + (if j = a ∨ j = b then 1 else 0) := by
  unfold inc2
  by_cases h : b = a
  · rw [if_pos h]
    subst h
    show (if j = b then f b + 1 else f j) = _
    by_cases e : j = b
    · subst e; simp
    · simp [e]
  · rw [if_neg h]
    show (if j = b then f b + 1 else if j = a then f a + 1 else f j) = _
    by_cases e : j = b
    · subst e; simp
    · by_cases e2 : j = a
      · subst e2; simp [e]
      · simp [e, e2]
theorem crN_in (S : mS) (s : Nat) : ∀ n j, 0 ≤ crN S s n j ∧ crN S s n j ≤ n
  | 0, j => (by decide : (0 : Int) ≤ 0 ∧ (0 : Int) ≤ 0)
  | n + 1, j => by
    have ih := crN_in S s n j
    rw [crN]
    split
    · rw [inc2_at]; split <;> omega
    · omega
theorem crN_mono (S : mS) (s : Nat) (j : Nat) : ∀ n m, n ≤ m → crN S s n j ≤ crN S s m j
  | n, 0, h => by rw [Nat.le_zero.mp h]; exact Int.le_refl _
  | n, m + 1, h => by
    by_cases e : n = m + 1
    · rw [e]; exact Int.le_refl _
    · have ih := crN_mono S s j n m (by omega)
      rw [crN]
      split
      · rw [inc2_at]; split <;> omega
      · exact ih
theorem crN_cnt {S : mS} {B : Int} (hv : sw S B) (s : Nat) {c : Nat} : ∀ n, n ≤ 5 → crN S s n c = ((cntF (inC S s c) n : Nat) : Int)
  | 0, _ => rfl
  | n + 1, h => by
    have ih := crN_cnt hv s (c := c) n (by omega)
    have h1 := sw_c1 hv (j := n) (by omega)
    have h2 := sw_c2 hv (j := n) (by omega)
    rw [crN, cntF]
    have ei : inC S s c n = (s.testBit n && decide (S (13 + n) = c ∨ S (18 + n) = c)) := rfl
    rw [ei]
    cases z : s.testBit n
    · rw [if_neg (by decide), Bool.false_and]
      exact ih
    · rw [if_pos rfl, inc2_at, ih, Bool.true_and]
      by_cases e : c = (S (13 + n)).toNat ∨ c = (S (18 + n)).toNat
      · rw [if_pos e, decide_eq_true (show S (13 + n) = (c : Int) ∨ S (18 + n) = (c : Int) by omega), if_pos rfl]
        push_cast
        rfl
      · rw [if_neg e, decide_eq_false (show ¬ (S (13 + n) = (c : Int) ∨ S (18 + n) = (c : Int)) by omega), if_neg (by decide)]
        push_cast
        rfl
def okR (T : mT) (S : mS) (sun : Int) (r s : Nat) : Prop := (∀ q, q < nQ T → s.testBit q = true → S (8 + q) = 0 ∧ dg r q ≠ 0 ∧ ¬ pairAway T q sun) ∧ ∀ c : Nat, c < 4 → crN S s (nQ T) c ≤ T 0 16
def fromR (T : mT) (S : mS) (sun : Int) (r n e : Nat) : Prop := ∃ s, s < n ∧ okR T S sun r s ∧ e = r - onN s 5
def stepR (T : mT) (S : mS) (sun : Int) (A : Nat → Prop) (n e : Nat) : Prop := ∃ r, r < n ∧ A r ∧ fromR T S sun r (2 ^ nQ T) e
def rset (T : mT) (S : mS) : Nat → Nat → Prop
  | 0 => fun e => e = frN S (nQ T)
  | k + 1 => stepR T S (S 28 + 1 + k) (rset T S k) 1024
def rdF (S : mS) (r : Nat) : Nat → Bool := fun q => decide (S (8 + q) = 0 ∧ dg r q = 0)
abbrev rdBy (T : mT) (S : mS) (r : Nat) : Nat := setOf (rdF S r) (nQ T)
noncomputable def bestS (T : mT) (S : mS) : Nat := bestN (fun r => @decide (rset T S 12 r) (Classical.propDecidable _)) (rdBy T S) 1024
/-- the pairs' churches are churches -/
def chOk (T : mT) (S : mS) : Prop := ∀ q, q < nQ T → S (13 + q) < T 0 11 ∧ S (18 + q) < T 0 11
theorem cnt_0 {f : Nat → Bool} : ∀ {n : Nat}, (∀ q, q < n → f q = false) → cntF f n = 0
  | 0, _ => rfl
  | n + 1, h => by rw [cntF_n (h n (by omega)), cnt_0 (fun q hq => h q (by omega))]
theorem fit_R {T : mT} {S : mS} {B : Int} (hw : tw T) (hv : sw S B) (hc : chOk T S) (s : Nat) : fitS T S s ↔ ∀ c : Nat, c < 4 → crN S s (nQ T) c ≤ T 0 16 := by
  constructor
  · intro h c hc4
    rw [crN_cnt hv s (nQ T) (nQ_le hw)]
    by_cases z : c < nC T
    · exact h c z
    · have e : cntF (inC S s c) (nQ T) = 0 := cnt_0 (fun q hq => by
        have h1 := hc q hq
        have h2 := tw_c hw
        have h3 : nC T = (T 0 11).toNat := rfl
        unfold inC
        rw [decide_eq_false (by omega), Bool.and_false])
      rw [e]
      have := tw_calls hw
      omega
  · intro h c hcc
    have h2 := tw_c hw
    have h3 : nC T = (T 0 11).toNat := rfl
    have := h c (by omega)
    rw [crN_cnt hv s (nQ T) (nQ_le hw)] at this
    exact this
theorem opn_tb {T : mT} {S : mS} {q : Nat} : (opn T S).testBit q = true ↔ (q < nQ T ∧ S (8 + q) = 0) := by
  rw [setOf_tb, Bool.and_eq_true, decide_eq_true_iff]
  unfold opnF
  rw [decide_eq_true_iff]
theorem pres_tb {T : mT} {S : mS} {k q : Nat} : (pres T S k).testBit q = true ↔ ((opn T S).testBit q = true ∧ ¬ pairAway T q (S 28 + 1 + k)) := by
  rw [prsN_tb, Bool.and_eq_true, Bool.not_eq_true', decide_eq_false_iff_not]
  constructor
  · rintro ⟨h1, h2⟩
    exact ⟨h1, fun z => h2 ⟨(opn_tb.mp h1).1, z⟩⟩
  · rintro ⟨h1, h2⟩
    exact ⟨h1, fun z => h2 z.2⟩
theorem sub_lt {s o n : Nat} (ho : o < 2 ^ n) (h : ∀ q, s.testBit q = true → o.testBit q = true) : s < 2 ^ n := by
  apply Nat.lt_pow_two_of_testBit
  intro i hi
  cases z : s.testBit i
  · rfl
  · have := h i z
    rw [Nat.testBit_lt_two_pow (Nat.lt_of_lt_of_le ho (Nat.pow_le_pow_right (by decide) hi))] at this
    exact absurd this (by decide)
/-- a fitting set grows until it is full -/
theorem grow {fz rd : Nat} : ∀ (m s : Nat), 32 - s ≤ m → s < 32 → (∀ q, s.testBit q = true → rd.testBit q = true) → fz.testBit s = true → ∃ s', s' < 32 ∧ (∀ q, s.testBit q = true → s'.testBit q = true) ∧ okS fz rd s'
  | 0, s, hm, hs, _, _ => absurd hs (by omega)
  | m + 1, s, hm, hs, hr, hf => by
    by_cases h : ∀ q, q < 5 → ¬ ((dif rd s &&& 2 ^ q) ≠ 0 ∧ fz.testBit (s ||| 2 ^ q) = true)
    · exact ⟨s, hs, fun _ x => x, dif_0.mpr hr, hf, h⟩
    · obtain ⟨q, hq⟩ := Classical.not_forall.mp h
      have hq5 : q < 5 := Classical.byContradiction (fun z => hq (fun y => absurd y z))
      have h2 := Classical.not_not.mp (fun z => hq (fun _ => z))
      have hb := bit_ne.mp h2.1
      rw [dif_tb, Bool.and_eq_true, Bool.not_eq_true'] at hb
      have hlt : s ||| 2 ^ q < 32 := or_lt (n := 5) hs ((show 2 ^ q < 2 ^ 5 from Nat.pow_lt_pow_right (by decide) hq5))
      have hgt : s < s ||| 2 ^ q := by
        have h1 : s ≤ s ||| 2 ^ q := Nat.left_le_or
        have h2 : s ≠ s ||| 2 ^ q := fun e => by
          have : s.testBit q = true := by rw [e, Nat.testBit_or, Nat.testBit_two_pow_self, Bool.or_true]
          rw [this] at hb
          exact absurd hb.2 (by decide)
        omega
      obtain ⟨s', k1, k2, k3⟩ := grow m (s ||| 2 ^ q) (by omega) hlt (fun i hi => by
        rw [Nat.testBit_or, Bool.or_eq_true, Nat.testBit_two_pow, decide_eq_true_iff] at hi
        rcases hi with hi | hi
        · exact hr i hi
        · rw [← hi]; exact hb.1) h2.2
      exact ⟨s', k1, fun i hi => k2 i (by rw [Nat.testBit_or, hi]; rfl), k3⟩
section SEAS
variable {T : mT} {S : mS} {B : Int} {fz : Nat}
theorem onN_0 : onN 0 5 = 0 := by decide
theorem seas_A (hw : tw T) (hv : sw S B) (hc : chOk T S) (hfz : ∀ s, s < 32 → (fz.testBit s = true ↔ fitS T S s)) : ∀ k d, cset fz (pres T S) (dueN S (opn T S) 5) k d → ∃ r, r < 1024 ∧ rset T S k r ∧ ∀ q, q < nQ T → S (8 + q) = 0 → dg r q = dg d q
  | 0, d, h => by
    refine ⟨frN S (nQ T), frN_lt hv (nQ_le hw), rfl, fun q hq ho => ?_⟩
    have h5 := nQ_le hw
    rw [show d = dueN S (opn T S) 5 from h, frN_dg hv h5 hq, dueN_dg hv (by omega), if_pos (opn_tb.mpr ⟨hq, ho⟩)]
  | k + 1, e, h => by
    obtain ⟨d, hd, hA, s, hs, hok, he⟩ := h
    obtain ⟨r, hr, hR, hg⟩ := seas_A hw hv hc hfz k d hA
    have hsub := okS_sub hok
    have hdg := okS_dg hok
    have h5 := nQ_le hw
    have hop : ∀ q, s.testBit q = true → (q < nQ T ∧ S (8 + q) = 0) ∧ ¬ pairAway T q (S 28 + 1 + k) := fun q hq => by
      have h1 := hsub q hq
      rw [Nat.testBit_and, Bool.and_eq_true] at h1
      have h2 := pres_tb.mp h1.1
      exact ⟨opn_tb.mp h2.1, h2.2⟩
    have hrd : ∀ q, q < 5 → s.testBit q = true → dg r q ≠ 0 := fun q hq hsq => by
      rw [hg q (hop q hsq).1.1 (hop q hsq).1.2]
      exact hdg q hq hsq
    have e1 := dig_sub hd hs hdg
    have e2 := dig_sub hr hs hrd
    refine ⟨r - onN s 5, by omega, ⟨r, hr, hR, s, sub_lt (setOf_lt (opnF S) (nQ T)) (fun q hq => opn_tb.mpr (hop q hq).1), ⟨fun q hq hsq => ⟨(hop q hsq).1.2, hrd q (by omega) hsq, (hop q hsq).2⟩, (fit_R hw hv hc s).mp ((hfz s hs).mp hok.2.1)⟩, rfl⟩, fun q hq ho => ?_⟩
    rw [he, e1.2 q (by omega), e2.2 q (by omega), hg q hq ho]
theorem seas_B (hw : tw T) (hv : sw S B) (hc : chOk T S) (hfz : ∀ s, s < 32 → (fz.testBit s = true ↔ fitS T S s)) : ∀ k r, rset T S k r → r < 1024 ∧ ∃ d, d < 1024 ∧ cset fz (pres T S) (dueN S (opn T S) 5) k d ∧ ∀ q, q < nQ T → S (8 + q) = 0 → dg d q ≤ dg r q
  | 0, r, h => by
    have h5 := nQ_le hw
    refine ⟨by rw [show r = frN S (nQ T) from h]; exact frN_lt hv h5, dueN S (opn T S) 5, dueN_lt hv _ (Nat.le_refl 5), rfl, fun q hq ho => ?_⟩
    rw [show r = frN S (nQ T) from h, frN_dg hv h5 hq, dueN_dg hv (by omega), if_pos (opn_tb.mpr ⟨hq, ho⟩)]
    exact Nat.le_refl _
  | k + 1, e, h => by
    obtain ⟨r, hr, hR, s, hs2, hok, he⟩ := h
    obtain ⟨-, d, hd, hA, hg⟩ := seas_B hw hv hc hfz k r hR
    have h5 := nQ_le hw
    have hs : s < 32 := Nat.lt_of_lt_of_le hs2 (Nat.pow_le_pow_right (n := 2) (j := 5) (by decide) h5)
    have hsq : ∀ q, s.testBit q = true → q < nQ T := fun q hq => Classical.byContradiction (fun z => by
      rw [Nat.testBit_lt_two_pow (Nat.lt_of_lt_of_le hs2 (Nat.pow_le_pow_right (by decide) (Nat.not_lt.mp z)))] at hq
      exact absurd hq (by decide))
    have hrd : ∀ q, q < 5 → s.testBit q = true → dg r q ≠ 0 := fun q hq hb => (hok.1 q (hsq q hb) hb).2.1
    have e2 := dig_sub hr hs hrd
    have hs0 : s &&& unf d < 32 := Nat.lt_of_le_of_lt Nat.and_le_left hs
    have hin : ∀ q, (s &&& unf d).testBit q = true → (pres T S k &&& unf d).testBit q = true := fun q hq => by
      rw [Nat.testBit_and, Bool.and_eq_true] at hq ⊢
      have h1 := hok.1 q (hsq q hq.1) hq.1
      exact ⟨pres_tb.mpr ⟨opn_tb.mpr ⟨hsq q hq.1, h1.1⟩, h1.2.2⟩, hq.2⟩
    have hfit : fz.testBit (s &&& unf d) = true := by
      refine (hfz _ hs0).mpr (fun c hcc => ?_)
      have h1 := (fit_R hw hv hc s).mpr hok.2 c hcc
      have h2 : cntF (inC S (s &&& unf d) c) (nQ T) ≤ cntF (inC S s c) (nQ T) := by
        have hm : ∀ n, cntF (inC S (s &&& unf d) c) n ≤ cntF (inC S s c) n := by
          intro n
          induction n with
          | zero => exact Nat.le_refl _
          | succ n ih =>
            rw [cntF, cntF]
            have : inC S (s &&& unf d) c n = true → inC S s c n = true := by
              unfold inC
              rw [Nat.testBit_and, Bool.and_eq_true, Bool.and_eq_true, Bool.and_eq_true]
              exact fun x => ⟨x.1.1, x.2⟩
            cases z : inC S (s &&& unf d) c n
            · simp only [Bool.false_eq_true, if_false]; split <;> omega
            · rw [this z, if_pos rfl]; omega
        exact hm _
      omega
    obtain ⟨s', k1, k2, k3⟩ := grow (rd := pres T S k &&& unf d) 32 (s &&& unf d) (by omega) hs0 hin hfit
    have e1 := dig_sub hd k1 (okS_dg k3)
    refine ⟨by omega, d - onN s' 5, by omega, ⟨d, hd, hA, s', k1, k3, rfl⟩, fun q hq ho => ?_⟩
    rw [he, e1.2 q (by omega), e2.2 q (by omega)]
    have hgq := hg q hq ho
    cases z : s.testBit q
    · show dg d q - (if s'.testBit q = true then 1 else 0) ≤ dg r q - 0
      split <;> omega
    · show dg d q - (if s'.testBit q = true then 1 else 0) ≤ dg r q - 1
      by_cases z2 : dg d q = 0
      · omega
      · have : s'.testBit q = true := k2 q (by rw [Nat.testBit_and, z, unf_tb (by omega), decide_eq_true z2]; rfl)
        rw [this, if_pos rfl]
        omega
theorem rset_keep (hw : tw T) : ∀ (m k r : Nat), r < 1024 → rset T S k r → rset T S (k + m) r
  | 0, k, r, _, h => h
  | m + 1, k, r, hr, h => by
    have ih := rset_keep hw m k r hr h
    refine ⟨r, hr, ih, 0, Nat.pow_pos (by decide), ⟨fun q _ hq => absurd hq (by rw [Nat.zero_testBit]; decide), fun c _ => ?_⟩, by rw [onN_0]; rfl⟩
    have e : ∀ n, crN S 0 n c = 0 := by
      intro n
      induction n with
      | zero => rfl
      | succ n ih => rw [crN, if_neg (by rw [Nat.zero_testBit]; decide)]; exact ih
    rw [e]
    have := tw_calls hw
    omega
theorem rdBy_tb {r q : Nat} : (rdBy T S r).testBit q = true ↔ (q < nQ T ∧ S (8 + q) = 0 ∧ dg r q = 0) := by
  rw [setOf_tb, Bool.and_eq_true, decide_eq_true_iff]
  unfold rdF
  rw [decide_eq_true_iff]
theorem fC_tb (hw : tw T) {d q : Nat} : (dif (opn T S) (unf d)).testBit q = true ↔ (q < nQ T ∧ S (8 + q) = 0 ∧ dg d q = 0) := by
  rw [dif_tb, Bool.and_eq_true, opn_tb, Bool.not_eq_true']
  have h5 := nQ_le hw
  constructor
  · rintro ⟨⟨h1, h2⟩, h3⟩
    rw [unf_tb (by omega), decide_eq_false_iff_not] at h3
    exact ⟨h1, h2, Classical.not_not.mp h3⟩
  · rintro ⟨h1, h2, h3⟩
    exact ⟨⟨h1, h2⟩, by rw [unf_tb (by omega), decide_eq_false_iff_not]; exact fun z => z h3⟩
theorem rdBy_lt (hw : tw T) (r : Nat) : rdBy T S r < 256 := Nat.lt_of_lt_of_le (setOf_lt _ _) (Nat.pow_le_pow_right (n := 2) (j := 8) (by decide) (by have := nQ_le hw; omega))
theorem fC_lt (hw : tw T) (d : Nat) : dif (opn T S) (unf d) < 256 := Nat.lt_of_lt_of_le (dif_lt (n := 5) (opn_lt hw S)) (by decide)
/-- both best sets are one -/
theorem seas_eq (hw : tw T) (hv : sw S B) (hc : chOk T S) (hfz : ∀ s, s < 32 → (fz.testBit s = true ↔ fitS T S s)) {A : Nat → Bool} {k : Nat} (hk : k ≤ 12) (hA : ∀ d, d < 1024 → (A d = true ↔ cset fz (pres T S) (dueN S (opn T S) 5) k d)) (hs : k = 12 ∨ A 0 = true) : bestC T S A = bestS T S := by
  refine best_eq (fun d hd hAd => ?_) (fun r hr hRr => ?_)
  · obtain ⟨r, h1, h2, h3⟩ := seas_A hw hv hc hfz k d ((hA d hd).mp hAd)
    have h4 := rset_keep hw (12 - k) k r h1 h2
    rw [show k + (12 - k) = 12 by omega] at h4
    refine ⟨r, h1, @decide_eq_true _ (Classical.propDecidable _) h4, sub_le (fC_lt hw d) (rdBy_lt hw r) (fun i hi => ?_)⟩
    have h5 := (fC_tb hw).mp hi
    exact rdBy_tb.mpr ⟨h5.1, h5.2.1, by rw [h3 i h5.1 h5.2.1]; exact h5.2.2⟩
  · have hR := @of_decide_eq_true _ (Classical.propDecidable _) hRr
    rcases hs with hs | hs
    · subst hs
      obtain ⟨-, d, h1, h2, h3⟩ := seas_B hw hv hc hfz 12 r hR
      refine ⟨d, h1, (hA d h1).mpr h2, sub_le (rdBy_lt hw r) (fC_lt hw d) (fun i hi => ?_)⟩
      have h5 := rdBy_tb.mp hi
      have h6 := h3 i h5.1 h5.2.1
      exact (fC_tb hw).mpr ⟨h5.1, h5.2.1, by omega⟩
    · refine ⟨0, by decide, hs, sub_le (rdBy_lt hw r) (fC_lt hw 0) (fun i hi => ?_)⟩
      have h5 := rdBy_tb.mp hi
      exact (fC_tb hw).mpr ⟨h5.1, h5.2.1, by show 0 / 2 ^ (2 * i) % 4 = 0; rw [Nat.zero_div]⟩
end SEAS
