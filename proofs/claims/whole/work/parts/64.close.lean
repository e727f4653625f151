/-! THE FAMILY CLOSED, row by row -/
def comb (cur ab : Int) : Int := if ab ≠ -1 ∧ (cur = -1 ∨ ab + 1 < cur) then ab + 1 else cur
theorem comb_no (cur : Int) : comb cur (-1) = cur := if_neg (fun x => x.1 rfl)
def abv (st : Nat → Int) (q : Int) (p a : Nat) : Int := if 0 ≤ q ∧ q < p then st (q.toNat * 8 + a) else -1
theorem bindS_row {st : Nat → Int} {p q : Nat} (hq : q < p) : ∀ n, n ≤ 8 → ∀ r a, a < 8 → bindS p q st n (r * 8 + a) = if r = p ∧ a < n then comb (st (p * 8 + a)) (st (q * 8 + a)) else st (r * 8 + a)
  | 0, _, r, a, _ => by rw [if_neg (by omega)]; rfl
  | n + 1, hn, r, a, ha => by
    have ih := bindS_row (st := st) hq n (by omega)
    rw [show bindS p q st (n + 1) = bstep p q n (bindS p q st n) from rfl]
    have e1 : bindS p q st n (q * 8 + n) = st (q * 8 + n) := by rw [ih q n (by omega), if_neg (by omega)]
    have e2 : bindS p q st n (p * 8 + n) = st (p * 8 + n) := by rw [ih p n (by omega), if_neg (by omega)]
    unfold bstep
    rw [e1, e2]
    by_cases h : r = p ∧ a = n
    · obtain ⟨rfl, rfl⟩ := h
      rw [if_pos (c := r = r ∧ a < a + 1) ⟨rfl, by omega⟩]
      unfold comb
      by_cases c : st (q * 8 + a) ≠ -1 ∧ (st (r * 8 + a) = -1 ∨ st (q * 8 + a) + 1 < st (r * 8 + a))
      · rw [if_pos c, if_pos c, setF_s]
      · rw [if_neg c, if_neg c, e2]
    · have e3 : ∀ v, setF (bindS p q st n) (p * 8 + n) v (r * 8 + a) = bindS p q st n (r * 8 + a) := fun v => setF_n (by omega)
      have e4 : (if st (q * 8 + n) ≠ -1 ∧ (st (p * 8 + n) = -1 ∨ st (q * 8 + n) + 1 < st (p * 8 + n)) then setF (bindS p q st n) (p * 8 + n) (st (q * 8 + n) + 1) else bindS p q st n) (r * 8 + a) = bindS p q st n (r * 8 + a) := by
        split
        · exact e3 _
        · rfl
      rw [e4, ih r a ha]
      by_cases h2 : r = p ∧ a < n
      · rw [if_pos h2, if_pos (by omega)]
      · rw [if_neg h2, if_neg (by omega)]
theorem bindF_row {x : mK} {p : Nat} {q : Int} {r a : Nat} (ha : a < 8) : (bindF p q x).2 (r * 8 + a) = if r = p then comb (x.2 (p * 8 + a)) (abv x.2 q p a) else x.2 (r * 8 + a) := by
  unfold bindF abv
  by_cases h : 0 ≤ q ∧ q < p
  · rw [if_pos h, if_pos h]
    show bindS p q.toNat x.2 8 (r * 8 + a) = _
    rw [bindS_row (by omega) 8 (Nat.le_refl 8) r a ha]
    by_cases h2 : r = p
    · rw [if_pos h2, if_pos ⟨h2, ha⟩]
    · rw [if_neg h2, if_neg (fun z => h2 z.1)]
  · rw [if_neg h, if_neg h, comb_no]
    split
    · next e => rw [e]
    · rfl
theorem closeP_row {T : mT} {x : mK} {p r a : Nat} (ha : a < 8) (hp : p < 8) : (closeP T p x).2 (r * 8 + a) = if r = p then comb (comb (if a = p then 0 else x.2 (p * 8 + a)) (abv x.2 (T 11 p) p a)) (abv x.2 (T 12 p) p a) else x.2 (r * 8 + a) := by
  unfold closeP
  have hs : ∀ r2 b, b < 8 → r2 ≠ p → setF x.2 (p * 8 + p) 0 (r2 * 8 + b) = x.2 (r2 * 8 + b) := fun r2 b hb hn => setF_n (by omega)
  have h1 : ∀ q : Int, abv (setF x.2 (p * 8 + p) 0) q p a = abv x.2 q p a := by
    intro q
    unfold abv
    by_cases h : 0 ≤ q ∧ q < p
    · rw [if_pos h, if_pos h, hs _ _ ha (by omega)]
    · rw [if_neg h, if_neg h]
  have h0 : setF x.2 (p * 8 + p) 0 (p * 8 + a) = if a = p then 0 else x.2 (p * 8 + a) := by
    by_cases e : a = p
    · rw [if_pos e, e, setF_s]
    · rw [if_neg e, setF_n (by omega)]
  rw [bindF_row ha]
  by_cases e : r = p
  · rw [if_pos e, if_pos e, bindF_row ha, if_pos rfl]
    show comb (comb (setF x.2 (p * 8 + p) 0 (p * 8 + a)) (abv (setF x.2 (p * 8 + p) 0) (T 11 p) p a)) _ = _
    rw [h0, h1]
    congr 1
    unfold abv
    by_cases h : 0 ≤ T 12 p ∧ T 12 p < p
    · rw [if_pos h, if_pos h, bindF_row ha, if_neg (by omega)]
      exact hs _ _ ha (by omega)
    · rw [if_neg h, if_neg h]
  · rw [if_neg e, if_neg e, bindF_row ha, if_neg e]
    exact hs _ _ ha e
theorem closeN_new {T : mT} : ∀ n, n ≤ 8 → ∀ r a, n ≤ r → r < 8 → a < 8 → (closeN T n).2 (r * 8 + a) = -1
  | 0, _, r, a, _, hr, ha => if_pos (by omega)
  | n + 1, hn, r, a, h, hr, ha => by
    rw [show closeN T (n + 1) = closeP T n (closeN T n) from rfl, closeP_row ha (by omega), if_neg (by omega)]
    exact closeN_new n (by omega) r a (by omega) hr ha
theorem closeN_keep {T : mT} {n r a : Nat} (ha : a < 8) (hr : r < n) : ∀ m, n ≤ m → m ≤ 8 → (closeN T m).2 (r * 8 + a) = (closeN T n).2 (r * 8 + a) := by
  intro m hm
  induction m with
  | zero => intro _; have : n = 0 := by omega
            subst this; rfl
  | succ m ih =>
    intro h8
    by_cases e : n = m + 1
    · rw [e]
    · rw [show closeN T (m + 1) = closeP T m (closeN T m) from rfl, closeP_row ha (by omega), if_neg (by omega)]
      exact ih (by omega) (by omega)
/-- the steps of a closed town -/
abbrev upT (T : mT) : Nat → Int := (closeN T (nP T)).2
theorem up_row {T : mT} (hw : tw T) {p a : Nat} (hp : p < nP T) (ha : a < 8) : upT T (p * 8 + a) = comb (comb (if a = p then 0 else -1) (abv (upT T) (T 11 p) p a)) (abv (upT T) (T 12 p) p a) := by
  have h8 := nP_le hw
  have hk : ∀ q : Int, abv (closeN T p).2 q p a = abv (upT T) q p a := by
    intro q
    unfold abv
    by_cases h : 0 ≤ q ∧ q < p
    · rw [if_pos h, if_pos h]
      exact (closeN_keep ha (by omega) (nP T) (by omega) h8).symm
    · rw [if_neg h, if_neg h]
  show (closeN T (nP T)).2 (p * 8 + a) = _
  rw [closeN_keep (n := p + 1) ha (by omega) (nP T) hp h8, show closeN T (p + 1) = closeP T p (closeN T p) from rfl, closeP_row ha (by omega), if_pos rfl, hk, hk, closeN_new p (by omega) p a (Nat.le_refl p) (by omega) ha]
/-- none is above one who was told later -/
theorem up_hi {T : mT} (hw : tw T) : ∀ p, p < nP T → ∀ a, a < 8 → p < a → upT T (p * 8 + a) = -1 := by
  intro p
  induction p using Nat.strongRecOn with
  | _ p ih =>
    intro hp a ha h
    have hb : ∀ q : Int, abv (upT T) q p a = -1 := by
      intro q
      unfold abv
      split
      · exact ih q.toNat (by omega) (by omega) a ha (by omega)
      · rfl
    rw [up_row hw hp ha, hb, hb, comb_no, comb_no, if_neg (by omega)]
theorem close_tc8 {T : mT} (hw : tw T) : TC8 (closeT T) := by
  intro p c hp hc h8
  have hp : p < nP T := hp
  have hc : nP T ≤ c := hc
  exact up_hi hw p hp c h8 (by omega)
theorem few_less {st : Nat → Int} {a b n : Nat} : ∀ k, (∀ j, n ≤ j → j < n + k → st (a * 8 + j) = -1) → fewN st a b (n + k) = fewN st a b n
  | 0, _ => rfl
  | k + 1, h => by
    show fewN st a b ((n + k) + 1) = _
    rw [fewN, if_neg (fun x => x.1.1 (h (n + k) (by omega) (by omega)))]
    exact few_less k (fun j h1 h2 => h j h1 (by omega))
theorem close_deg {T : mT} (hw : tw T) {a b : Nat} (ha : a < nP T) (hb : b < nP T) : closeT T 16 (a * 8 + b) = fewN (closeT T 15) a b (nP T) := by
  have h8 := nP_le hw
  show degT (upT T) (T 16) 64 (a * 8 + b) = fewN (upT T) a b (nP T)
  unfold degT
  rw [if_pos (by omega), show (a * 8 + b) / 8 = a by omega, show (a * 8 + b) % 8 = b by omega]
  have e := few_less (st := upT T) (a := a) (b := b) (n := nP T) (8 - nP T) (fun j h1 h2 => up_hi hw a ha j (by omega) (by omega))
  rw [show nP T + (8 - nP T) = 8 from by omega] at e
  exact e
