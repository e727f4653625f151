/-! WHOM ONE KNOWS, once the family is closed -/
/-- the parent q of p, told ahead of him, is b -/
abbrev isPar (T : mT) (r b : Nat) : Prop := ((T 11 r = b ∧ 0 ≤ T 11 r) ∧ T 11 r < r) ∨ ((T 12 r = b ∧ 0 ≤ T 12 r) ∧ T 12 r < r)
theorem or2_bit (m q b : Nat) : (m ||| 2 ^ q).testBit b = true ↔ (m.testBit b = true ∨ q = b) := by
  rw [Nat.testBit_or, Nat.testBit_two_pow, Bool.or_eq_true, decide_eq_true_eq]
theorem bindK_bit {kn : Nat → Int} {p q j b : Nat} (hn : q ≠ p) : (bindK p q kn j).toNat.testBit b = true ↔ ((kn j).toNat.testBit b = true ∨ (j = p ∧ b = q) ∨ (j = q ∧ b = p)) := by
  unfold bindK
  by_cases e : j = q
  · subst e
    rw [setF_s, Int.toNat_natCast, or2_bit, setF_n hn]
    constructor
    · rintro (h | h)
      · exact Or.inl h
      · exact Or.inr (Or.inr ⟨rfl, h.symm⟩)
    · rintro (h | ⟨h, -⟩ | ⟨-, h⟩)
      · exact Or.inl h
      · exact absurd h hn
      · exact Or.inr h.symm
  · rw [setF_n e]
    by_cases e2 : j = p
    · subst e2
      rw [setF_s, Int.toNat_natCast, or2_bit]
      constructor
      · rintro (h | h)
        · exact Or.inl h
        · exact Or.inr (Or.inl ⟨rfl, h.symm⟩)
      · rintro (h | ⟨-, h⟩ | ⟨h, -⟩)
        · exact Or.inl h
        · exact Or.inr h.symm
        · exact absurd h e
    · rw [setF_n e2]
      constructor
      · exact Or.inl
      · rintro (h | ⟨h, -⟩ | ⟨h, -⟩)
        · exact h
        · exact absurd h e2
        · exact absurd h e
theorem bindF_bit {x : mK} {p j b : Nat} {q : Int} : ((bindF p q x).1 j).toNat.testBit b = true ↔ ((x.1 j).toNat.testBit b = true ∨ ((q = b ∧ 0 ≤ q) ∧ q < p) ∧ j = p ∨ ((q = j ∧ 0 ≤ q) ∧ q < p) ∧ b = p) := by
  unfold bindF
  by_cases h : 0 ≤ q ∧ q < p
  · rw [if_pos h, bindK_bit (by omega)]
    constructor
    · rintro (g | ⟨g1, g2⟩ | ⟨g1, g2⟩)
      · exact Or.inl g
      · exact Or.inr (Or.inl ⟨⟨⟨by omega, h.1⟩, h.2⟩, g1⟩)
      · exact Or.inr (Or.inr ⟨⟨⟨by omega, h.1⟩, h.2⟩, g2⟩)
    · rintro (g | ⟨g1, g2⟩ | ⟨g1, g2⟩)
      · exact Or.inl g
      · exact Or.inr (Or.inl ⟨g2, by omega⟩)
      · exact Or.inr (Or.inr ⟨by omega, g2⟩)
  · rw [if_neg h]
    constructor
    · exact Or.inl
    · rintro (g | ⟨g1, g2⟩ | ⟨g1, g2⟩)
      · exact g
      · exact absurd ⟨g1.1.2, g1.2⟩ h
      · exact absurd ⟨g1.1.2, g1.2⟩ h
theorem closeP_bit {T : mT} {x : mK} {p j b : Nat} : ((closeP T p x).1 j).toNat.testBit b = true ↔ ((x.1 j).toNat.testBit b = true ∨ (isPar T p b ∧ j = p) ∨ (isPar T p j ∧ b = p)) := by
  unfold closeP
  rw [bindF_bit, bindF_bit]
  constructor
  · rintro ((g | ⟨g, h⟩ | ⟨g, h⟩) | ⟨g, h⟩ | ⟨g, h⟩)
    · exact Or.inl g
    · exact Or.inr (Or.inl ⟨Or.inl g, h⟩)
    · exact Or.inr (Or.inr ⟨Or.inl g, h⟩)
    · exact Or.inr (Or.inl ⟨Or.inr g, h⟩)
    · exact Or.inr (Or.inr ⟨Or.inr g, h⟩)
  · rintro (g | ⟨g | g, h⟩ | ⟨g | g, h⟩)
    · exact Or.inl (Or.inl g)
    · exact Or.inl (Or.inr (Or.inl ⟨g, h⟩))
    · exact Or.inr (Or.inl ⟨g, h⟩)
    · exact Or.inl (Or.inr (Or.inr ⟨g, h⟩))
    · exact Or.inr (Or.inr ⟨g, h⟩)
theorem closeN_bit {T : mT} {j b : Nat} (hj : j < 8) : ∀ n, ((closeN T n).1 j).toNat.testBit b = true ↔ ((T 13 j).toNat.testBit b = true ∨ ∃ r, r < n ∧ ((isPar T r b ∧ j = r) ∨ (isPar T r j ∧ b = r)))
  | 0 => by
    rw [show (closeN T 0).1 j = T 13 j from if_pos hj]
    exact ⟨Or.inl, fun h => h.elim id (fun ⟨r, h, _⟩ => absurd h (Nat.not_lt_zero r))⟩
  | n + 1 => by
    rw [show closeN T (n + 1) = closeP T n (closeN T n) from rfl, closeP_bit, closeN_bit hj n]
    constructor
    · rintro ((g | ⟨r, h, g⟩) | g | g)
      · exact Or.inl g
      · exact Or.inr ⟨r, by omega, g⟩
      · exact Or.inr ⟨n, by omega, Or.inl g⟩
      · exact Or.inr ⟨n, by omega, Or.inr g⟩
    · rintro (g | ⟨r, h, g⟩)
      · exact Or.inl (Or.inl g)
      · by_cases e : r = n
        · subst e; exact Or.inr g
        · exact Or.inl (Or.inr ⟨r, by omega, g⟩)
theorem knT_bit (T : mT) (p b : Nat) : ∀ n, (knT T p n).testBit b = true ↔ ((T 13 p).toNat.testBit b = true ∨ (b < n ∧ ((T 11 p = b ∨ T 12 p = b) ∨ (T 11 b = p ∨ T 12 b = p))))
  | 0 => ⟨Or.inl, fun h => h.elim id (fun h => absurd h.1 (Nat.not_lt_zero b))⟩
  | n + 1 => by
    have ih := knT_bit T p b n
    rw [knT]
    by_cases c : (T 11 p = n ∨ T 12 p = n) ∨ (T 11 n = p ∨ T 12 n = p)
    · rw [if_pos c, or2_bit, ih]
      constructor
      · rintro ((g | ⟨g, h⟩) | g)
        · exact Or.inl g
        · exact Or.inr ⟨by omega, h⟩
        · subst g; exact Or.inr ⟨by omega, c⟩
      · rintro (g | ⟨g, h⟩)
        · exact Or.inl (Or.inl g)
        · by_cases e : b = n
          · exact Or.inr e.symm
          · exact Or.inl (Or.inr ⟨by omega, h⟩)
    · rw [if_neg c, ih]
      constructor
      · rintro (g | ⟨g, h⟩)
        · exact Or.inl g
        · exact Or.inr ⟨by omega, h⟩
      · rintro (g | ⟨g, h⟩)
        · exact Or.inl g
        · by_cases e : b = n
          · subst e; exact absurd h c
          · exact Or.inr ⟨by omega, h⟩
/-- parents are told ahead -/
def parOk (T : mT) : Prop := ∀ p, p < nP T → T 11 p < p ∧ T 12 p < p
theorem close_knows {T : mT} (hw : tw T) (hp : parOk T) {p : Nat} (h : p < nP T) : (closeT T 14 p).toNat = knT (closeT T) p (nP (closeT T)) := by
  have h8 := nP_le hw
  refine Nat.eq_of_testBit_eq (fun b => ?_)
  have e1 : closeT T 14 p = (closeN T (nP T)).1 p := rfl
  have e2 : ∀ n, knT (closeT T) p n = knT T p n := by
    intro n
    induction n with
    | zero => rfl
    | succ n ih => rw [knT, knT, ih]; rfl
  rw [e1, e2, Bool.eq_iff_iff, closeN_bit (by omega), knT_bit]
  show _ ∨ _ ↔ _ ∨ (b < nP T ∧ _)
  have hpp := hp p h
  constructor
  · rintro (g | ⟨r, hr, ⟨g, e⟩ | ⟨g, e⟩⟩)
    · exact Or.inl g
    · subst e
      refine Or.inr ⟨?_, Or.inl ?_⟩
      · rcases g with g | g <;> omega
      · rcases g with g | g
        · exact Or.inl g.1.1
        · exact Or.inr g.1.1
    · subst e
      refine Or.inr ⟨hr, Or.inr ?_⟩
      rcases g with g | g
      · exact Or.inl g.1.1
      · exact Or.inr g.1.1
  · rintro (g | ⟨hb, (g | g) | (g | g)⟩)
    · exact Or.inl g
    · exact Or.inr ⟨p, h, Or.inl ⟨Or.inl ⟨⟨g, by omega⟩, hpp.1⟩, rfl⟩⟩
    · exact Or.inr ⟨p, h, Or.inl ⟨Or.inr ⟨⟨g, by omega⟩, hpp.2⟩, rfl⟩⟩
    · exact Or.inr ⟨b, hb, Or.inr ⟨Or.inl ⟨⟨g, by omega⟩, (hp b hb).1⟩, rfl⟩⟩
    · exact Or.inr ⟨b, hb, Or.inr ⟨Or.inr ⟨⟨g, by omega⟩, (hp b hb).2⟩, rfl⟩⟩
theorem close_tc {T : mT} (hw : tw T) (hp : parOk T) (hq : ∀ q, q < nQ T → pa T q < nP T ∧ pb T q < nP T) : TC (closeT T) :=
  ⟨fun a b ha hb => close_deg hw ha hb, fun p h => close_knows hw hp h, (closeN_ok hw (nP T) (nP_le hw)).2, hq⟩
