/-! SEASON: plans; what is still due of a pair is two bits -/
abbrev dg (d q : Nat) : Nat := d / 2 ^ (2 * q) % 2 ^ 2
def onN (s : Nat) : Nat → Nat
  | 0 => 0
  | n + 1 => onN s n ||| s / 2 ^ n % 2 ^ 1 * 2 ^ (2 * n)
def unfF (d : Nat) : Nat → Bool := fun q => decide (dg d q ≠ 0)
abbrev unf (d : Nat) : Nat := setOf (unfF d) 5
theorem unf_lt (d : Nat) : unf d < 32 := setOf_lt _ 5
theorem unf_tb {d q : Nat} (h : q < 5) : (unf d).testBit q = decide (dg d q ≠ 0) := by
  rw [setOf_tb, decide_eq_true h]
  rfl
theorem onN_lt : ∀ s, s < 32 → ∀ n, n ≤ 5 → onN s n < 1024 := by decide +kernel
def subOk (d s : Nat) : Bool := !((List.range 5).all fun q => !s.testBit q || decide (dg d q ≠ 0)) || (decide (onN s 5 ≤ d) && (List.range 5).all fun q => decide (dg (d - onN s 5) q = dg d q - (if s.testBit q then 1 else 0)))
theorem subOk_all : ((List.range 1024).all fun d => (List.range 32).all fun s => subOk d s) = true := by decide +kernel
/-- a set of pairs of which something is due, read once -/
theorem dig_sub {d s : Nat} (hd : d < 1024) (hs : s < 32) (h : ∀ q, q < 5 → s.testBit q = true → dg d q ≠ 0) : onN s 5 ≤ d ∧ ∀ q, q < 5 → dg (d - onN s 5) q = dg d q - (if s.testBit q then 1 else 0) := by
  have h1 := List.all_eq_true.mp (List.all_eq_true.mp subOk_all d (List.mem_range.mpr hd)) s (List.mem_range.mpr hs)
  have h2 : ((List.range 5).all fun q => !s.testBit q || decide (dg d q ≠ 0)) = true := List.all_eq_true.mpr (fun q hq => by
    have := h q (List.mem_range.mp hq)
    cases z : s.testBit q
    · rfl
    · rw [decide_eq_true (this z)]; rfl)
  unfold subOk at h1
  rw [h2] at h1
  have h3 := (Bool.and_eq_true_iff.mp (show (decide (onN s 5 ≤ d) && _) = true from h1))
  exact ⟨of_decide_eq_true h3.1, fun q hq => of_decide_eq_true (List.all_eq_true.mp h3.2 q (List.mem_range.mpr hq))⟩
/-- a set that may be read: inside what is readable, fitting, and no further one fits -/
def okS (fz rd s : Nat) : Prop := dif s rd = 0 ∧ fz.testBit s = true ∧ ∀ q, q < 5 → ¬ ((dif rd s &&& 2 ^ q) ≠ 0 ∧ fz.testBit (s ||| 2 ^ q) = true)
def fromA (fz rd d : Nat) (n : Nat) (e : Nat) : Prop := ∃ s, s < n ∧ okS fz rd s ∧ e = d - onN s 5
def stepA (fz rp : Nat) (A : Nat → Prop) (n : Nat) (e : Nat) : Prop := ∃ d, d < n ∧ A d ∧ fromA fz (rp &&& unf d) d 32 e
def cset (fz : Nat) (pr : Nat → Nat) (d0 : Nat) : Nat → Nat → Prop
  | 0 => fun e => e = d0
  | k + 1 => stepA fz (pr k) (cset fz pr d0 k) 1024
theorem dif_0 {a b : Nat} : dif a b = 0 ↔ ∀ q, a.testBit q = true → b.testBit q = true := by
  constructor
  · intro h q hq
    have e : (dif a b).testBit q = false := by rw [h]; exact Nat.zero_testBit q
    rw [dif_tb, hq] at e
    cases z : b.testBit q
    · rw [z] at e; exact absurd e (by decide)
    · rfl
  · intro h
    refine Nat.eq_of_testBit_eq (fun q => ?_)
    rw [dif_tb, Nat.zero_testBit]
    cases z : a.testBit q
    · rfl
    · rw [h q z]; rfl
theorem bit_ne {a q : Nat} : a &&& 2 ^ q ≠ 0 ↔ a.testBit q = true := by
  constructor
  · intro h
    cases z : a.testBit q
    · refine absurd (Nat.eq_of_testBit_eq (fun i => ?_)) h
      rw [Nat.testBit_and, Nat.testBit_two_pow, Nat.zero_testBit]
      by_cases e : q = i
      · subst e; rw [z]; rfl
      · rw [decide_eq_false e, Bool.and_false]
    · rfl
  · intro h e
    have : (a &&& 2 ^ q).testBit q = false := by rw [e]; exact Nat.zero_testBit q
    rw [Nat.testBit_and, h, Nat.testBit_two_pow_self] at this
    exact absurd this (by decide)
theorem okS_sub {fz rd s : Nat} (h : okS fz rd s) : ∀ q, s.testBit q = true → rd.testBit q = true := dif_0.mp h.1
theorem okS_dg {fz rp d s : Nat} (h : okS fz (rp &&& unf d) s) : ∀ q, q < 5 → s.testBit q = true → dg d q ≠ 0 := fun q hq hs => by
  have h1 := okS_sub h q hs
  rw [Nat.testBit_and, Bool.and_eq_true, unf_tb hq] at h1
  exact of_decide_eq_true h1.2
theorem cset_lt {fz : Nat} {pr : Nat → Nat} {d0 : Nat} (h0 : d0 < 1024) : ∀ k e, cset fz pr d0 k e → e < 1024
  | 0, e, h => by rw [show e = d0 from h]; exact h0
  | k + 1, e, h => by
    obtain ⟨d, hd, -, s, hs, -, he⟩ := h
    omega
/-! the sets that fit -/
def inC (S : mS) (s : Nat) (c : Int) : Nat → Bool := fun q => s.testBit q && decide (S (13 + q) = c ∨ S (18 + q) = c)
def fitS (T : mT) (S : mS) (s : Nat) : Prop := ∀ c : Nat, c < nC T → ((cntF (inC S s c) (nQ T) : Nat) : Int) ≤ T 0 16
def opnF (S : mS) : Nat → Bool := fun q => decide (S (8 + q) = 0)
abbrev opn (T : mT) (S : mS) : Nat := setOf (opnF S) (nQ T)
/-- those of o of whom, of the first n, none is away -/
def prsN (T : mT) (o : Nat) (sun : Int) : Nat → Nat
  | 0 => o
  | n + 1 => if pairAway T n sun then dif (prsN T o sun n) (2 ^ n) else prsN T o sun n
theorem prsN_tb (T : mT) (o : Nat) (sun : Int) (q : Nat) : ∀ n, (prsN T o sun n).testBit q = (o.testBit q && !decide (q < n ∧ pairAway T q sun))
  | 0 => by
    rw [decide_eq_false (fun h => Nat.not_lt_zero q h.1)]
    show o.testBit q = _
    simp
  | n + 1 => by
    have ih := prsN_tb T o sun q n
    rw [prsN]
    by_cases e : q = n
    · subst e
      split
      · next h =>
        rw [dif_tb, Nat.testBit_two_pow_self, decide_eq_true (p := q < q + 1 ∧ pairAway T q sun) ⟨Nat.lt_succ_self q, h⟩, Bool.not_true, Bool.and_false, Bool.and_false]
      · next h =>
        rw [ih, decide_eq_false (fun x => absurd x.1 (Nat.lt_irrefl q)), decide_eq_false (fun x => h x.2)]
    · have e2 : decide (q < n + 1 ∧ pairAway T q sun) = decide (q < n ∧ pairAway T q sun) := by
        congr 1
        refine propext ⟨fun x => ⟨by have := x.1; omega, x.2⟩, fun x => ⟨by have := x.1; omega, x.2⟩⟩
      rw [e2]
      split
      · rw [dif_tb, ih, Nat.testBit_two_pow, decide_eq_false (Ne.symm e)]
        simp
      · exact ih
theorem prsN_lt {T : mT} {o : Nat} {sun : Int} (h : o < 32) : ∀ n, prsN T o sun n < 32
  | 0 => h
  | n + 1 => by
    rw [prsN]
    split
    · exact dif_lt (n := 5) (prsN_lt h n)
    · exact prsN_lt h n
theorem opn_lt {T : mT} (hw : tw T) (S : mS) : opn T S < 32 := by
  have h := setOf_lt (opnF S) (nQ T)
  have h2 := tw_q hw
  have h3 : 2 ^ nQ T ≤ 2 ^ 5 := Nat.pow_le_pow_right (by decide) (by show (T 0 13).toNat ≤ 5; omega)
  exact Nat.lt_of_lt_of_le h h3
abbrev pres (T : mT) (S : mS) (k : Nat) : Nat := prsN T (opn T S) (S 28 + 1 + k) (nQ T)
/-- what is due of the pair q -/
def dueQ (S : mS) (q : Nat) : Nat := (3 - S (23 + q)).toNat
def dueN (S : mS) (o : Nat) : Nat → Nat
  | 0 => 0
  | n + 1 => if o.testBit n = true then dueN S o n ||| dueQ S n * 2 ^ (2 * n) else dueN S o n
abbrev bestC (T : mT) (S : mS) (A : Nat → Bool) : Nat := bestN A (fun d => dif (opn T S) (unf d)) 1024
/-! a row of 32 ints holds 1024 marks -/
def PB (f : Nat → Int) : Prop := ∀ k, k < 32 → 0 ≤ f k ∧ f k < 4294967296
def mk (f : Nat → Int) (d : Nat) : Bool := (f (d / 32)).toNat.testBit (d % 32)
def RM (f : Nat → Int) (A : Nat → Prop) : Prop := PB f ∧ ∀ d, d < 1024 → (mk f d = true ↔ A d)
theorem RM.congr {f : Nat → Int} {A B : Nat → Prop} (h : RM f A) (e : ∀ d, d < 1024 → (A d ↔ B d)) : RM f B := ⟨h.1, fun d hd => (h.2 d hd).trans (e d hd)⟩
theorem rm_0 {f : Nat → Int} (h : ∀ k, k < 32 → f k = 0) : RM f (fun _ => False) := by
  refine ⟨fun k hk => by rw [h k hk]; decide, fun d hd => ?_⟩
  unfold mk
  rw [h (d / 32) (by omega)]
  simp
theorem rm_mark {f : Nat → Int} {A : Nat → Prop} {e : Nat} (h : RM f A) (he : e < 1024) : RM (fun j => if j = e / 32 then (((f (e / 32)).toNat ||| 2 ^ (e % 32) : Nat) : Int) else f j) (fun d => A d ∨ d = e) := by
  have h2 : 2 ^ (e % 32) < 2 ^ 32 := Nat.pow_lt_pow_right (by decide) (by omega)
  have hb := h.1 (e / 32) (by omega)
  have hlt : (f (e / 32)).toNat ||| 2 ^ (e % 32) < 2 ^ 32 := or_lt (by omega) h2
  refine ⟨fun k hk => ?_, fun d hd => ?_⟩
  · show 0 ≤ (if k = e / 32 then _ else f k) ∧ (if k = e / 32 then _ else f k) < _
    split
    · omega
    · exact h.1 k hk
  · show _ ↔ (A d ∨ d = e)
    rw [← h.2 d hd]
    unfold mk
    dsimp only
    by_cases e1 : d / 32 = e / 32
    · rw [if_pos e1, Int.toNat_natCast, Nat.testBit_or, Nat.testBit_two_pow, e1, Bool.or_eq_true, decide_eq_true_iff]
      constructor
      · rintro (x | x)
        · exact Or.inl x
        · exact Or.inr (by omega)
      · rintro (x | x)
        · exact Or.inl x
        · exact Or.inr (by rw [x])
    · rw [if_neg e1]
      exact ⟨Or.inl, fun x => x.elim id (fun y => absurd (by rw [y]) e1)⟩
/-- bit s of an int that is a natural below 2^32 -/
theorem w32_bit {z s : Nat} (hz : z < 4294967296) (hs : s < 32) : (w32 (z : Int) / 2 ^ s) % ((2 ^ 1 : Nat) : Int) = if z.testBit s = true then 1 else 0 := by
  have e0 : (if z.testBit s = true then (1 : Int) else 0) = ((z / 2 ^ s % 2 : Nat) : Int) := by
    rw [Nat.testBit_eq_decide_div_mod_eq]
    have := Nat.mod_lt (z / 2 ^ s) (show 2 > 0 by decide)
    by_cases h : z / 2 ^ s % 2 = 1
    · rw [decide_eq_true h, if_pos rfl, h]; rfl
    · rw [decide_eq_false h, if_neg (by decide), show z / 2 ^ s % 2 = 0 by omega]; rfl
  rw [e0]
  have hw : w32 (z : Int) = if z < 2147483648 then (z : Int) else (z : Int) - 4294967296 := by
    split
    · exact w32_of ⟨by omega, by omega⟩
    · show (Int32.ofInt (z : Int)).toInt = _
      rw [Int32.toInt_ofInt]
      show Int.bmod _ _ = _
      unfold Int.bmod
      simp only [Int32.size]
      split <;> omega
  rw [hw]
  have hp : (2 : Int) ^ s = ((2 ^ s : Nat) : Int) := by push_cast; rfl
  rw [hp]
  split
  · push_cast; rfl
  · have e2 : (4294967296 : Int) = ((2 ^ s : Nat) : Int) * ((2 ^ (32 - s) : Nat) : Int) := by
      rw [← Int.natCast_mul, ← Nat.pow_add, show s + (32 - s) = 32 by omega]; rfl
    have hpos : ((2 ^ s : Nat) : Int) ≠ 0 := by have := Nat.pow_pos (n := s) (show 0 < 2 by decide); omega
    rw [e2, Int.sub_eq_add_neg, ← Int.mul_neg, Int.add_mul_ediv_left _ _ hpos]
    have e3 : ((2 ^ (32 - s) : Nat) : Int) = 2 * ((2 ^ (31 - s) : Nat) : Int) := by
      rw [show 32 - s = (31 - s) + 1 by omega, Nat.pow_succ]; push_cast; omega
    rw [e3]
    have e4 : ((z / 2 ^ s : Nat) : Int) = (z : Int) / ((2 ^ s : Nat) : Int) := by push_cast; rfl
    rw [← e4]
    show _ % (2 : Int) = _
    omega
theorem mk_bit {f : Nat → Int} {d : Nat} (h : PB f) (hd : d < 1024) : (w32 (f (d / 32)) / 2 ^ (d % 32)) % ((2 ^ 1 : Nat) : Int) = if mk f d = true then 1 else 0 := by
  have hb := h (d / 32) (by omega)
  have := w32_bit (z := (f (d / 32)).toNat) (s := d % 32) (by omega) (by omega)
  rw [show (((f (d / 32)).toNat : Nat) : Int) = f (d / 32) by omega] at this
  exact this
theorem w32_z {z : Int} (h0 : 0 ≤ z) (h : z < 4294967296) : w32 z = 0 ↔ z = 0 := by
  show (Int32.ofInt z).toInt = 0 ↔ z = 0
  rw [Int32.toInt_ofInt]
  show Int.bmod z Int32.size = 0 ↔ _
  unfold Int.bmod
  simp only [Int32.size]
  split <;> omega
theorem wp_w32 {l : Launch} {G : mG} {μ : mM} {d nf : Nat} {I : mI} {X : mX} {pc : Nat} {ls : List (Option mV)} {st : List mV} {Q : mQ} {z : Int} (k : WP l G μ d nf I X pc ls (vI (w32 z) :: st) Q) : WP l G μ d nf I X pc ls (vI z :: st) Q := by
  have e : cv G (vI (w32 z)) = cv G (vI z) := by
    show Value.int (Int32.ofInt (w32 z)) = Value.int (Int32.ofInt z)
    rw [oi_w32]
  intro p e1 R s m args below meth c H locs cells slots n0 cl hF hR hH hL
  have w := k p e1 R s m args below meth c H locs cells slots n0 cl hF hR hH hL
  rw [List.map_cons, e] at w
  exact w
