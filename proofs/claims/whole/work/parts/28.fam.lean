/-! THE FAMILY CLOSED: who knows whom, steps up, degrees -/
theorem nrm_a {I : mI} {a b k : Nat} {f g : Nat → Int} {v : Int} (h : a ≠ b) : up (upc (upc I a f) b g) a k v = upc (upc I a (setF f k v)) b g := by
  funext c j
  unfold up upc setF
  by_cases h1 : c = a
  · subst h1
    by_cases h2 : j = k <;> simp [h, h2]
  · simp [h1]
theorem nrm_b {I : mI} {b k : Nat} {g : Nat → Int} {v : Int} : up (upc I b g) b k v = upc I b (setF g k v) := by
  rw [up_upc]
  rfl
/-- the steps of p through its parent q, by way of the ancestor a -/
def bstep (p q a : Nat) (st : Nat → Int) : Nat → Int := if st (q * 8 + a) ≠ -1 ∧ (st (p * 8 + a) = -1 ∨ st (q * 8 + a) + 1 < st (p * 8 + a)) then setF st (p * 8 + a) (st (q * 8 + a) + 1) else st
def bindS (p q : Nat) (st : Nat → Int) : Nat → Nat → Int := iterN (bstep p q) st
def bindK (p q : Nat) (kn : Nat → Int) : Nat → Int := setF (setF kn p ((((kn p).toNat ||| 2 ^ q : Nat)) : Int)) q ((((setF kn p ((((kn p).toNat ||| 2 ^ q : Nat)) : Int) q).toNat ||| 2 ^ p : Nat)) : Int)
abbrev mK : Type := (Nat → Int) × (Nat → Int)
def bindF (p : Nat) (q : Int) (x : mK) : mK := if 0 ≤ q ∧ q < p then (bindK p q.toNat x.1, bindS p q.toNat x.2 8) else x
def closeP (T : mT) (p : Nat) (x : mK) : mK := bindF p (T 12 p) (bindF p (T 11 p) (x.1, setF x.2 (p * 8 + p) 0))
def closeN (T : mT) : Nat → mK := iterN (closeP T) (fun j => if j < 8 then T 13 j else T 14 j, fun j => if j < 64 then -1 else T 15 j)
def stB (st : Nat → Int) : Prop := ∀ j, (-1 ≤ st j ∧ st j ≤ 7) ∧ (j < 64 → st j ≤ ((j / 8 : Nat) : Int))
def knB (kn : Nat → Int) : Prop := ∀ j, 0 ≤ kn j ∧ kn j ≤ 255
theorem knB_or {kn : Nat → Int} (h : knB kn) {p q : Nat} (hq : q < 8) (v : Int) (hv : 0 ≤ v ∧ v ≤ 255) : knB (setF kn p (((v.toNat ||| 2 ^ q : Nat)) : Int)) := by
  intro j
  unfold setF
  split
  · have g : v.toNat ||| 2 ^ q < 256 := or_lt (n := 8) (by omega) (two_lt hq)
    omega
  · exact h j
theorem bindK_ok {kn : Nat → Int} (h : knB kn) {p q : Nat} (hp : p < 8) (hq : q < 8) : knB (bindK p q kn) := knB_or (knB_or h hq _ (h p)) hp _ (knB_or h hq _ (h p) q)
theorem stB_0 {st : Nat → Int} (h : stB st) {p : Nat} : stB (setF st (p * 8 + p) 0) := by
  intro j
  have := h j
  unfold setF
  split
  · omega
  · exact h j
theorem bstep_ok {st : Nat → Int} (h : stB st) {p q a : Nat} (hp : p < 8) (hq : q < p) (ha : a < 8) : stB (bstep p q a st) := by
  unfold bstep
  split
  · intro j
    have g := h (q * 8 + a)
    have g2 := g.2 (by omega)
    have g3 := h j
    unfold setF
    split
    · omega
    · exact g3
  · exact h
theorem bindS_ok {st : Nat → Int} (h : stB st) {p q : Nat} (hp : p < 8) (hq : q < p) : ∀ n, n ≤ 8 → stB (bindS p q st n)
  | 0, _ => h
  | n + 1, hn => bstep_ok (bindS_ok h hp hq n (by omega)) hp hq (by omega)
theorem bindF_ok {x : mK} (h1 : knB x.1) (h2 : stB x.2) {p : Nat} {q : Int} (hp : p < 8) : knB (bindF p q x).1 ∧ stB (bindF p q x).2 := by
  unfold bindF
  split
  · exact ⟨bindK_ok h1 hp (by omega), bindS_ok h2 hp (by omega) 8 (Nat.le_refl 8)⟩
  · exact ⟨h1, h2⟩
theorem closeP_ok {T : mT} {x : mK} (h1 : knB x.1) (h2 : stB x.2) {p : Nat} (hp : p < 8) : knB (closeP T p x).1 ∧ stB (closeP T p x).2 := by
  have g := bindF_ok (x := (x.1, setF x.2 (p * 8 + p) 0)) (q := T 11 p) h1 (stB_0 h2) hp
  exact bindF_ok g.1 g.2 hp
theorem closeN_ok {T : mT} (hw : tw T) : ∀ n, n ≤ 8 → knB (closeN T n).1 ∧ stB (closeN T n).2
  | 0, _ => by
    refine ⟨fun j => ?_, fun j => ?_⟩
    · show 0 ≤ (if j < 8 then T 13 j else T 14 j) ∧ (if j < 8 then T 13 j else T 14 j) ≤ 255
      split
      · exact tw_told hw j
      · exact tw_knows hw j
    · show (-1 ≤ (if j < 64 then -1 else T 15 j) ∧ (if j < 64 then -1 else T 15 j) ≤ 7) ∧ (j < 64 → (if j < 64 then -1 else T 15 j) ≤ _)
      have g := tw_steps hw j
      split <;> omega
  | n + 1, hn => closeP_ok (closeN_ok hw n (by omega)).1 (closeN_ok hw n (by omega)).2 (by omega)
/-- the fewest steps between a and b, by way of the first n -/
def fewN (st : Nat → Int) (a b : Nat) : Nat → Int
  | 0 => -1
  | n + 1 => if (st (a * 8 + n) ≠ -1 ∧ st (b * 8 + n) ≠ -1) ∧ (fewN st a b n = -1 ∨ st (a * 8 + n) + st (b * 8 + n) < fewN st a b n) then st (a * 8 + n) + st (b * 8 + n) else fewN st a b n
theorem fewN_in {st : Nat → Int} (h : stB st) (a b : Nat) : ∀ n, -1 ≤ fewN st a b n ∧ fewN st a b n ≤ 14
  | 0 => (by decide : (-1 : Int) ≤ -1 ∧ (-1 : Int) ≤ 14)
  | n + 1 => by
    have ih := fewN_in h a b n
    have g1 := (h (a * 8 + n)).1
    have g2 := (h (b * 8 + n)).1
    rw [fewN]
    split
    · omega
    · exact ih
/-- the degrees up to the k-th -/
def degT (st g : Nat → Int) (k : Nat) : Nat → Int := fun j => if j < k then fewN st (j / 8) (j % 8) 8 else g j
theorem degT_s (st g : Nat → Int) (a b : Nat) (hb : b < 8) : setF (degT st g (a * 8 + b)) (a * 8 + b) (fewN st a b 8) = degT st g (a * 8 + (b + 1)) := by
  funext j
  unfold setF degT
  by_cases e : j = a * 8 + b
  · subst e
    rw [if_pos rfl, if_pos (by omega), show (a * 8 + b) / 8 = a by omega, show (a * 8 + b) % 8 = b by omega]
  · rw [if_neg e]
    by_cases e2 : j < a * 8 + b
    · rw [if_pos e2, if_pos (by omega)]
    · rw [if_neg e2, if_neg (by omega)]
/-- a town, its family closed -/
def closeT (T : mT) : mT := fun k j => if k = 14 then (closeN T (nP T)).1 j else if k = 15 then (closeN T (nP T)).2 j else if k = 16 then degT (closeN T (nP T)).2 (T 16) 64 j else T k j
