/-! TOKENS: what stands at a place of the bytes b (-1 behind their end) -/
abbrev isBl (x : Int) : Prop := x = 32 ∨ x = 10
abbrev isLt (x : Int) : Prop := 97 ≤ x ∧ x ≤ 122
abbrev isDg (x : Int) : Prop := 48 ≤ x ∧ x ≤ 57
def bOf (g : Nat → Int) (n : Nat) : Nat → Int := fun j => if j < n then g j % 256 else -1
theorem bOf_in (g : Nat → Int) (n j : Nat) : -1 ≤ bOf g n j ∧ bOf g n j ≤ 255 := by unfold bOf; split <;> omega
theorem bOf_lt {g : Nat → Int} {n j : Nat} (h : j < n) : bOf g n j = g j % 256 := if_pos h
theorem bOf_ge {g : Nat → Int} {n j : Nat} (h : ¬ j < n) : bOf g n j = -1 := if_neg h
theorem bOf_nn {g : Nat → Int} {n j : Nat} (h : 0 ≤ bOf g n j) : j < n := Classical.byContradiction (fun z => by rw [bOf_ge z] at h; omega)
def Run (p : Int → Prop) (b : Nat → Int) (c e : Nat) : Prop := c ≤ e ∧ (∀ j, c ≤ j → j < e → p (b j)) ∧ ¬ p (b e)
theorem Run.uniq {p : Int → Prop} {b : Nat → Int} {c e f : Nat} (h : Run p b c e) (g : Run p b c f) : e = f := by
  rcases Nat.lt_trichotomy e f with z | z | z
  · exact absurd (g.2.1 e h.1 z) h.2.2
  · exact z
  · exact absurd (h.2.1 f g.1 z) g.2.2
noncomputable def runE (p : Int → Prop) (b : Nat → Int) (c : Nat) : Nat := @dite Nat (∃ e, Run p b c e) (Classical.propDecidable _) (fun h => Classical.choose h) (fun _ => c)
theorem run_ex {p : Int → Prop} {g : Nat → Int} {n : Nat} (hp : ¬ p (-1)) : ∀ (m c : Nat), n - c ≤ m → ∃ e, Run p (bOf g n) c e ∧ (e ≤ n ∨ e = c)
  | 0, c, h => ⟨c, ⟨Nat.le_refl c, fun j h1 h2 => absurd h2 (by omega), by rw [bOf_ge (by omega)]; exact hp⟩, Or.inr rfl⟩
  | m + 1, c, h => by
    by_cases z : p (bOf g n c)
    · have hc : c < n := Classical.byContradiction (fun y => hp (by rw [bOf_ge y] at z; exact z))
      obtain ⟨e, h1, h2⟩ := run_ex (p := p) (g := g) (n := n) hp m (c + 1) (by omega)
      refine ⟨e, ⟨by have := h1.1; omega, fun j g1 g2 => ?_, h1.2.2⟩, Or.inl (by have := h1.1; omega)⟩
      by_cases y : j = c
      · rw [y]; exact z
      · exact h1.2.1 j (by omega) g2
    · exact ⟨c, ⟨Nat.le_refl c, fun j h1 h2 => absurd h2 (by omega), z⟩, Or.inr rfl⟩
theorem run_ok {p : Int → Prop} {g : Nat → Int} {n : Nat} (hp : ¬ p (-1)) (c : Nat) : Run p (bOf g n) c (runE p (bOf g n) c) ∧ (runE p (bOf g n) c ≤ n ∨ runE p (bOf g n) c = c) := by
  obtain ⟨e, h1, h2⟩ := run_ex (p := p) (g := g) (n := n) hp (n - c) c (Nat.le_refl _)
  have h3 : Run p (bOf g n) c (runE p (bOf g n) c) := by
    unfold runE
    rw [@dif_pos _ (Classical.propDecidable _) ⟨e, h1⟩]
    exact Classical.choose_spec (⟨e, h1⟩ : ∃ e, Run p (bOf g n) c e)
  refine ⟨h3, ?_⟩
  rw [h3.uniq h1]
  exact h2
noncomputable def tp (b : Nat → Int) (c : Nat) : Nat := runE isBl b c
noncomputable def lEnd (b : Nat → Int) (q : Nat) : Nat := runE isLt b q
noncomputable def dEnd (b : Nat → Int) (q : Nat) : Nat := runE isDg b q
/-- where the token that is met from c on ends -/
noncomputable def te (b : Nat → Int) (c : Nat) : Nat := if b (tp b c) < 0 then tp b c else if isLt (b (tp b c)) then lEnd b (tp b c) else if isDg (b (tp b c)) then dEnd b (tp b c) else tp b c + 1
/-- its sort: 0 the end, 1 a word, 2 a number, 3 no token, else the sign -/
noncomputable def ts (b : Nat → Int) (c : Nat) : Int := if b (tp b c) < 0 then 0 else if isLt (b (tp b c)) then (if te b c - tp b c > 8 then 3 else 1) else if isDg (b (tp b c)) then (if te b c - tp b c > 4 ∨ isLt (b (te b c)) then 3 else 2) else @ite _ (isSg (b (tp b c))) (Classical.propDecidable _) (b (tp b c)) 3
def enc8 (b : Nat → Int) (q : Nat) : Nat → Int
  | 0 => 0
  | k + 1 => enc8 b q k * 256 + b (q + k)
def enc5 (b : Nat → Int) (q : Nat) : Nat → Int
  | 0 => 0
  | k + 1 => enc5 b q k * 32 + (b (q + k) - 96)
def encN (b : Nat → Int) (q : Nat) : Nat → Int
  | 0 => 0
  | k + 1 => encN b q k * 10 + b (q + k) - 48
noncomputable def w8 (b : Nat → Int) (c : Nat) : Int := enc8 b (tp b c) (te b c - tp b c)
noncomputable def w5 (b : Nat → Int) (c : Nat) : Int := enc5 b (tp b c) (te b c - tp b c)
noncomputable def tn (b : Nat → Int) (c : Nat) : Int := encN b (tp b c) (te b c - tp b c)
/-- the words that stand for themselves -/
def W5 (k : Nat) : Int := ([109758568, 542723566, 302, 486, 1476, 23031, 19965331, 12009203, 654626995, 525618, 52, 8554067, 139708581, 3191187, 149559, 498, 14836, 660017209, 594980, 642830500, 16110] : List Int).getD k 0
def W8 (k : Nat) : Int := ([109300298179432, 123581014175598, 26990, 28518, 6385252, 7761783, 495555538035, 461414299507, 126926642767219, 1885432178, 24948, 448377483891, 110386690024805, 426836257907, 1685217655, 28530, 7237492, 126948200440185, 1919246692, 126879263909220, 7305070] : List Int).getD k 0
def wiL (z : Int) : Nat → Int
  | 0 => -1
  | n + 1 => if W5 n = z then (n : Int) else wiL z n
noncomputable def wi (b : Nat → Int) (c : Nat) : Int := if ts b c = 1 then wiL (w5 b c) 21 else -1
/-- the class's kinds: 0 the end, 1 no token, 2 a name, 3 a word, 4 a number, 5 a sign -/
noncomputable def kC (b : Nat → Int) (c : Nat) : Int := if ts b c = 0 then 0 else if ts b c = 3 then 1 else if ts b c = 2 then 4 else if ts b c = 1 then (if wi b c = -1 then 2 else 3) else 5
noncomputable def vC (b : Nat → Int) (c : Nat) : Int := if ts b c = 2 then tn b c else if ts b c = 1 then (if wi b c = -1 then 0 else wi b c) else ts b c
section TOK
variable {g : Nat → Int} {n : Nat} {c : Nat}
theorem tp_ok (hc : c ≤ n) : Run isBl (bOf g n) c (tp (bOf g n) c) ∧ tp (bOf g n) c ≤ n := by
  have h := run_ok (p := isBl) (g := g) (n := n) (by decide) c
  refine ⟨h.1, ?_⟩
  show runE isBl (bOf g n) c ≤ n
  rcases h.2 with z | z <;> omega
theorem lEnd_ok (q : Nat) (hq : q ≤ n) : Run isLt (bOf g n) q (lEnd (bOf g n) q) ∧ lEnd (bOf g n) q ≤ n := by
  have h := run_ok (p := isLt) (g := g) (n := n) (by decide) q
  refine ⟨h.1, ?_⟩
  show runE isLt (bOf g n) q ≤ n
  rcases h.2 with z | z <;> omega
theorem dEnd_ok (q : Nat) (hq : q ≤ n) : Run isDg (bOf g n) q (dEnd (bOf g n) q) ∧ dEnd (bOf g n) q ≤ n := by
  have h := run_ok (p := isDg) (g := g) (n := n) (by decide) q
  refine ⟨h.1, ?_⟩
  show runE isDg (bOf g n) q ≤ n
  rcases h.2 with z | z <;> omega
theorem te_in (hc : c ≤ n) : c ≤ tp (bOf g n) c ∧ tp (bOf g n) c ≤ te (bOf g n) c ∧ te (bOf g n) c ≤ n ∧ (¬ ts (bOf g n) c = 0 → tp (bOf g n) c < te (bOf g n) c) := by
  have h1 := tp_ok (g := g) hc
  have hl := lEnd_ok (g := g) (tp (bOf g n) c) h1.2
  have hg := dEnd_ok (g := g) (tp (bOf g n) c) h1.2
  refine ⟨h1.1.1, ?_⟩
  unfold te ts
  by_cases z1 : bOf g n (tp (bOf g n) c) < 0
  · rw [if_pos z1, if_pos z1]
    exact ⟨Nat.le_refl _, h1.2, fun x => absurd rfl x⟩
  · have hlt := bOf_nn (Int.not_lt.mp z1)
    rw [if_neg z1, if_neg z1]
    by_cases z2 : isLt (bOf g n (tp (bOf g n) c))
    · rw [if_pos z2]
      have : tp (bOf g n) c ≠ lEnd (bOf g n) (tp (bOf g n) c) := fun e => hl.1.2.2 (by rw [← e]; exact z2)
      have := hl.1.1
      exact ⟨by omega, hl.2, fun _ => by omega⟩
    · rw [if_neg z2]
      by_cases z3 : isDg (bOf g n (tp (bOf g n) c))
      · rw [if_pos z3]
        have : tp (bOf g n) c ≠ dEnd (bOf g n) (tp (bOf g n) c) := fun e => hg.1.2.2 (by rw [← e]; exact z3)
        have := hg.1.1
        exact ⟨by omega, hg.2, fun _ => by omega⟩
      · rw [if_neg z3]
        exact ⟨by omega, by omega, fun _ => by omega⟩
theorem ts_in : (0 ≤ ts (bOf g n) c ∧ ts (bOf g n) c ≤ 3) ∨ isSg (ts (bOf g n) c) := by
  unfold ts
  split
  · exact Or.inl (by decide)
  · split
    · split <;> exact Or.inl (by decide)
    · split
      · split <;> exact Or.inl (by decide)
      · by_cases z : isSg (bOf g n (tp (bOf g n) c))
        · rw [@if_pos _ (Classical.propDecidable _) z]; exact Or.inr z
        · rw [@if_neg _ (Classical.propDecidable _) z]; exact Or.inl (by decide)
theorem ts_rng (b : Nat → Int) (c : Nat) : 0 ≤ ts b c ∧ ts b c ≤ 62 := by
  unfold ts
  split
  · decide
  · split
    · split <;> decide
    · split
      · split <;> decide
      · by_cases z : isSg (b (tp b c))
        · rw [@if_pos _ (Classical.propDecidable _) z]
          unfold isSg at z
          omega
        · rw [@if_neg _ (Classical.propDecidable _) z]; decide
theorem wiL_in (z : Int) : ∀ n, -1 ≤ wiL z n ∧ wiL z n < n
  | 0 => (by decide : (-1 : Int) ≤ -1 ∧ (-1 : Int) < 0)
  | n + 1 => by
    have ih := wiL_in z n
    rw [wiL]
    split <;> omega
theorem wi_in (b : Nat → Int) (c : Nat) : -1 ≤ wi b c ∧ wi b c ≤ 20 := by
  unfold wi
  split
  · have := wiL_in (w5 b c) 21; omega
  · decide
theorem wi_ts {b : Nat → Int} {c : Nat} (h : wi b c ≠ -1) : ts b c = 1 := by
  unfold wi at h
  split at h
  · next z => exact z
  · exact absurd rfl h
theorem kC_in (b : Nat → Int) (c : Nat) : 0 ≤ kC b c ∧ kC b c ≤ 5 := by
  unfold kC
  repeat' split
  all_goals decide
/-- the class's kinds against the sorts -/
theorem kC_ts (b : Nat → Int) (c : Nat) : (kC b c = 0 ↔ ts b c = 0) ∧ (kC b c = 1 ↔ ts b c = 3) ∧ (kC b c = 4 ↔ ts b c = 2) ∧ (kC b c = 2 ↔ (ts b c = 1 ∧ wi b c = -1)) ∧ (kC b c = 3 ↔ ¬ wi b c = -1) ∧ (kC b c = 5 ↔ (ts b c ≠ 0 ∧ ts b c ≠ 1 ∧ ts b c ≠ 2 ∧ ts b c ≠ 3)) := by
  have h := @wi_ts b c
  unfold kC
  by_cases z0 : ts b c = 0
  · rw [if_pos z0, z0]
    have : wi b c = -1 := Classical.byContradiction (fun x => by have := h x; omega)
    omega
  by_cases z3 : ts b c = 3
  · rw [if_neg z0, if_pos z3, z3]
    have : wi b c = -1 := Classical.byContradiction (fun x => by have := h x; omega)
    omega
  by_cases z2 : ts b c = 2
  · rw [if_neg z0, if_neg z3, if_pos z2, z2]
    have : wi b c = -1 := Classical.byContradiction (fun x => by have := h x; omega)
    omega
  by_cases z1 : ts b c = 1
  · rw [if_neg z0, if_neg z3, if_neg z2, if_pos z1, z1]
    split <;> omega
  · rw [if_neg z0, if_neg z3, if_neg z2, if_neg z1]
    have : wi b c = -1 := Classical.byContradiction (fun x => by have := h x; omega)
    omega
end TOK
theorem ipow (m : Nat) (hm : 0 < m) {i j : Nat} (h : i ≤ j) : (m : Int) ^ i ≤ (m : Int) ^ j := by
  have h1 : ((m ^ i : Nat) : Int) ≤ ((m ^ j : Nat) : Int) := Int.ofNat_le.mpr (Nat.pow_le_pow_right hm h)
  rw [Int.natCast_pow, Int.natCast_pow] at h1
  exact h1
/-! words: five bits a letter, eight bits a letter -/
def cv8 (z : Int) : Nat → Int
  | 0 => 0
  | n + 1 => if z = 0 then 0 else cv8 (z / 32) n * 256 + (z % 32 + 96)
def cv5 (z : Int) : Nat → Int
  | 0 => 0
  | n + 1 => if z = 0 then 0 else cv5 (z / 256) n * 32 + (z % 256 - 96)
theorem enc5_in {b : Nat → Int} {q : Nat} : ∀ k, (∀ j, j < k → isLt (b (q + j))) → 0 ≤ enc5 b q k ∧ enc5 b q k < 32 ^ k ∧ (0 < k → 0 < enc5 b q k)
  | 0, _ => by show (0 : Int) ≤ 0 ∧ (0 : Int) < 32 ^ 0 ∧ _; exact ⟨by decide, by decide, fun h => absurd h (Nat.lt_irrefl 0)⟩
  | k + 1, h => by
    have ih := enc5_in k (fun j hj => h j (by omega))
    have hl : 97 ≤ b (q + k) ∧ b (q + k) ≤ 122 := h k (by omega)
    rw [enc5, Int.pow_succ]
    refine ⟨by omega, by omega, fun _ => by omega⟩
theorem enc8_in {b : Nat → Int} {q : Nat} : ∀ k, (∀ j, j < k → isLt (b (q + j))) → 0 ≤ enc8 b q k ∧ enc8 b q k < 256 ^ k ∧ (0 < k → 0 < enc8 b q k)
  | 0, _ => by show (0 : Int) ≤ 0 ∧ (0 : Int) < 256 ^ 0 ∧ _; exact ⟨by decide, by decide, fun h => absurd h (Nat.lt_irrefl 0)⟩
  | k + 1, h => by
    have ih := enc8_in k (fun j hj => h j (by omega))
    have hl : 97 ≤ b (q + k) ∧ b (q + k) ≤ 122 := h k (by omega)
    rw [enc8, Int.pow_succ]
    refine ⟨by omega, by omega, fun _ => by omega⟩
theorem enc_58 {b : Nat → Int} {q : Nat} : ∀ k m, k ≤ m → (∀ j, j < k → isLt (b (q + j))) → cv8 (enc5 b q k) m = enc8 b q k
  | 0, 0, _, _ => rfl
  | 0, m + 1, _, _ => rfl
  | k + 1, 0, h, _ => absurd h (by omega)
  | k + 1, m + 1, h, hl => by
    have ih := enc_58 k m (by omega) (fun j hj => hl j (by omega))
    have hb : 97 ≤ b (q + k) ∧ b (q + k) ≤ 122 := hl k (by omega)
    have hz := enc5_in k (fun j hj => hl j (by omega))
    rw [cv8, enc5, if_neg (by omega), enc8, ← ih]
    rw [show (enc5 b q k * 32 + (b (q + k) - 96)) / 32 = enc5 b q k by omega, show (enc5 b q k * 32 + (b (q + k) - 96)) % 32 = b (q + k) - 96 by omega]
    omega
theorem enc_85 {b : Nat → Int} {q : Nat} : ∀ k m, k ≤ m → (∀ j, j < k → isLt (b (q + j))) → cv5 (enc8 b q k) m = enc5 b q k
  | 0, 0, _, _ => rfl
  | 0, m + 1, _, _ => rfl
  | k + 1, 0, h, _ => absurd h (by omega)
  | k + 1, m + 1, h, hl => by
    have ih := enc_85 k m (by omega) (fun j hj => hl j (by omega))
    have hb : 97 ≤ b (q + k) ∧ b (q + k) ≤ 122 := hl k (by omega)
    have hz := enc8_in k (fun j hj => hl j (by omega))
    rw [cv5, enc8, if_neg (by omega), enc5, ← ih]
    rw [show (enc8 b q k * 256 + b (q + k)) / 256 = enc8 b q k by omega, show (enc8 b q k * 256 + b (q + k)) % 256 = b (q + k) by omega]
section WRD
variable {g : Nat → Int} {n : Nat} {c : Nat}
/-- a word's letters -/
theorem wd_let (hc : c ≤ n) (h : ts (bOf g n) c = 1) : te (bOf g n) c - tp (bOf g n) c ≤ 8 ∧ tp (bOf g n) c < te (bOf g n) c ∧ ∀ j, j < te (bOf g n) c - tp (bOf g n) c → isLt (bOf g n (tp (bOf g n) c + j)) := by
  have h1 := te_in (g := g) hc
  have hp := tp_ok (g := g) hc
  unfold ts at h
  by_cases z1 : bOf g n (tp (bOf g n) c) < 0
  · rw [if_pos z1] at h; exact absurd h (by decide)
  rw [if_neg z1] at h
  by_cases z2 : isLt (bOf g n (tp (bOf g n) c))
  · rw [if_pos z2] at h
    have e : te (bOf g n) c = lEnd (bOf g n) (tp (bOf g n) c) := by unfold te; rw [if_neg z1, if_pos z2]
    have hl := (lEnd_ok (g := g) (tp (bOf g n) c) hp.2).1
    have hne : tp (bOf g n) c ≠ lEnd (bOf g n) (tp (bOf g n) c) := fun e => hl.2.2 (by rw [← e]; exact z2)
    refine ⟨Classical.byContradiction (fun z => ?_), by have := hl.1; omega, fun j hj => ?_⟩
    · rw [if_pos (by omega)] at h; exact absurd h (by decide)
    · exact hl.2.1 _ (by omega) (by omega)
  · rw [if_neg z2] at h
    by_cases z3 : isDg (bOf g n (tp (bOf g n) c))
    · rw [if_pos z3] at h
      split at h <;> exact absurd h (by decide)
    · rw [if_neg z3] at h
      by_cases z : isSg (bOf g n (tp (bOf g n) c))
      · rw [@if_pos _ (Classical.propDecidable _) z] at h; unfold isSg at z; omega
      · rw [@if_neg _ (Classical.propDecidable _) z] at h; exact absurd h (by decide)
theorem w5_in (hc : c ≤ n) (h : ts (bOf g n) c = 1) : 0 < w5 (bOf g n) c ∧ w5 (bOf g n) c < 1099511627776 ∧ 0 < w8 (bOf g n) c ∧ w8 (bOf g n) c < 9223372036854775808 := by
  have h1 := wd_let hc h
  have h5 := enc5_in _ h1.2.2
  have h8 := enc8_in _ h1.2.2
  have e5 : (32 : Int) ^ (te (bOf g n) c - tp (bOf g n) c) ≤ 32 ^ 8 := ipow 32 (by decide) h1.1
  refine ⟨h5.2.2 (by omega), ?_, h8.2.2 (by omega), ?_⟩
  · show enc5 _ _ _ < _
    have : (32 : Int) ^ 8 = 1099511627776 := by decide
    omega
  · show enc8 _ _ _ < _
    have hk : te (bOf g n) c - tp (bOf g n) c - 1 + 1 = te (bOf g n) c - tp (bOf g n) c := by omega
    rw [← hk, enc8]
    have hl : ∀ j, j < te (bOf g n) c - tp (bOf g n) c - 1 → isLt (bOf g n (tp (bOf g n) c + j)) := fun j hj => h1.2.2 j (by omega)
    have h9 := enc8_in (b := bOf g n) (q := tp (bOf g n) c) _ hl
    have e9 : (256 : Int) ^ (te (bOf g n) c - tp (bOf g n) c - 1) ≤ 256 ^ 7 := ipow 256 (by decide) (by omega)
    have e7 : (256 : Int) ^ 7 = 72057594037927936 := by decide
    have hb : 97 ≤ bOf g n (tp (bOf g n) c + (te (bOf g n) c - tp (bOf g n) c - 1)) ∧ bOf g n (tp (bOf g n) c + (te (bOf g n) c - tp (bOf g n) c - 1)) ≤ 122 := h1.2.2 _ (by omega)
    -- the first letter is below 128
    have h10 : enc8 (bOf g n) (tp (bOf g n) c) (te (bOf g n) c - tp (bOf g n) c - 1) < 34621422135410688 := by
      have key : ∀ m, m ≤ 7 → (∀ j, j < m → isLt (bOf g n (tp (bOf g n) c + j))) → enc8 (bOf g n) (tp (bOf g n) c) m < 123 * 256 ^ (m - 1) := by
        intro m
        induction m with
        | zero => intro _ _; show (0 : Int) < 123 * 256 ^ 0; decide
        | succ m ih =>
          intro hm hj
          have hbm : 97 ≤ bOf g n (tp (bOf g n) c + m) ∧ bOf g n (tp (bOf g n) c + m) ≤ 122 := hj m (by omega)
          rw [enc8]
          by_cases e : m = 0
          · subst e; show (0 : Int) * 256 + _ < 123 * 256 ^ 0; omega
          · have ih2 := ih (by omega) (fun j h => hj j (by omega))
            rw [show m + 1 - 1 = (m - 1) + 1 by omega, Int.pow_succ]
            omega
      have := key _ (by omega) hl
      by_cases e : te (bOf g n) c - tp (bOf g n) c - 1 = 0
      · rw [e]; show (0 : Int) < _; decide
      · have e2 : (256 : Int) ^ (te (bOf g n) c - tp (bOf g n) c - 1 - 1) ≤ 256 ^ 6 := ipow 256 (by decide) (by omega)
        have e3 : (256 : Int) ^ 6 = 281474976710656 := by decide
        omega
    omega
theorem W_tab : ∀ k, k < 21 → cv8 (W5 k) 8 = W8 k ∧ cv5 (W8 k) 8 = W5 k ∧ wiL (W5 k) 21 = (k : Int) := by decide +kernel
theorem W_in : ∀ k, k < 21 → 0 < W5 k ∧ W5 k < 1099511627776 ∧ 0 < W8 k ∧ W8 k < 9223372036854775807 := by decide +kernel
theorem wiL_eq {z : Int} : ∀ m (k : Nat), wiL z m = (k : Int) → W5 k = z
  | 0, k, h => by have h : (-1 : Int) = (k : Int) := h; omega
  | m + 1, k, h => by
    rw [wiL] at h
    split at h
    · next y => rw [show k = m by omega]; exact y
    · exact wiL_eq m k h
theorem w8_iff (hc : c ≤ n) (h : ts (bOf g n) c = 1) {k : Nat} (hk : k < 21) : w8 (bOf g n) c = W8 k ↔ wi (bOf g n) c = (k : Int) := by
  have h1 := wd_let hc h
  have e58 : cv8 (w5 (bOf g n) c) 8 = w8 (bOf g n) c := enc_58 _ 8 h1.1 h1.2.2
  have e85 : cv5 (w8 (bOf g n) c) 8 = w5 (bOf g n) c := enc_85 _ 8 h1.1 h1.2.2
  have ht := W_tab k hk
  unfold wi
  rw [if_pos h]
  constructor
  · intro e
    rw [← e85, e, ht.2.1]
    exact ht.2.2
  · intro e
    rw [← e58, ← wiL_eq 21 k e]
    exact ht.1
/-- two words are one in both codes -/
theorem w_one {g' : Nat → Int} {n' c' : Nat} (hc : c ≤ n) (h : ts (bOf g n) c = 1) (hc' : c' ≤ n') (h' : ts (bOf g' n') c' = 1) : w8 (bOf g n) c = w8 (bOf g' n') c' ↔ w5 (bOf g n) c = w5 (bOf g' n') c' := by
  have h1 := wd_let hc h
  have h2 := wd_let hc' h'
  constructor
  · intro e
    rw [← show cv5 (w8 (bOf g n) c) 8 = w5 (bOf g n) c from enc_85 _ 8 h1.1 h1.2.2, e]
    exact enc_85 _ 8 h2.1 h2.2.2
  · intro e
    rw [← show cv8 (w5 (bOf g n) c) 8 = w8 (bOf g n) c from enc_58 _ 8 h1.1 h1.2.2, e]
    exact enc_58 _ 8 h2.1 h2.2.2
/-- a name in both codes -/
def nmR (x y : Int) : Prop := cv8 x 8 = y ∧ cv5 y 8 = x
theorem nmR_w (hc : c ≤ n) (h : ts (bOf g n) c = 1) : nmR (w5 (bOf g n) c) (w8 (bOf g n) c) := ⟨enc_58 _ 8 (wd_let hc h).1 (wd_let hc h).2.2, enc_85 _ 8 (wd_let hc h).1 (wd_let hc h).2.2⟩
theorem nmR_eq {x y x' y' : Int} (h : nmR x y) (h' : nmR x' y') : x = x' ↔ y = y' := ⟨fun e => by rw [← h.1, e, h'.1], fun e => by rw [← h.2, e, h'.2]⟩
theorem num_let (hc : c ≤ n) (h : ts (bOf g n) c = 2) : te (bOf g n) c - tp (bOf g n) c ≤ 4 ∧ ∀ j, j < te (bOf g n) c - tp (bOf g n) c → isDg (bOf g n (tp (bOf g n) c + j)) := by
  have hp := tp_ok (g := g) hc
  unfold ts at h
  by_cases z1 : bOf g n (tp (bOf g n) c) < 0
  · rw [if_pos z1] at h; exact absurd h (by decide)
  rw [if_neg z1] at h
  by_cases z2 : isLt (bOf g n (tp (bOf g n) c))
  · rw [if_pos z2] at h
    split at h <;> exact absurd h (by decide)
  rw [if_neg z2] at h
  by_cases z3 : isDg (bOf g n (tp (bOf g n) c))
  · rw [if_pos z3] at h
    have e : te (bOf g n) c = dEnd (bOf g n) (tp (bOf g n) c) := by unfold te; rw [if_neg z1, if_neg z2, if_pos z3]
    have hl := (dEnd_ok (g := g) (tp (bOf g n) c) hp.2).1
    refine ⟨Classical.byContradiction (fun z => ?_), fun j hj => ?_⟩
    · rw [if_pos (Or.inl (by omega))] at h; exact absurd h (by decide)
    · exact hl.2.1 _ (by omega) (by omega)
  · rw [if_neg z3] at h
    by_cases z : isSg (bOf g n (tp (bOf g n) c))
    · rw [@if_pos _ (Classical.propDecidable _) z] at h; unfold isSg at z; omega
    · rw [@if_neg _ (Classical.propDecidable _) z] at h; exact absurd h (by decide)
theorem encN_in {b : Nat → Int} {q : Nat} : ∀ k, (∀ j, j < k → isDg (b (q + j))) → 0 ≤ encN b q k ∧ encN b q k < 10 ^ k
  | 0, _ => by show (0 : Int) ≤ 0 ∧ (0 : Int) < 10 ^ 0; decide
  | k + 1, h => by
    have ih := encN_in k (fun j hj => h j (by omega))
    have hl : 48 ≤ b (q + k) ∧ b (q + k) ≤ 57 := h k (by omega)
    rw [encN, Int.pow_succ]
    omega
theorem tn_in (hc : c ≤ n) (h : ts (bOf g n) c = 2) : 0 ≤ tn (bOf g n) c ∧ tn (bOf g n) c ≤ 9999 := by
  have h1 := num_let hc h
  have h2 := encN_in _ h1.2
  have e : (10 : Int) ^ (te (bOf g n) c - tp (bOf g n) c) ≤ 10 ^ 4 := ipow 10 (by decide) h1.1
  have e4 : (10 : Int) ^ 4 = 10000 := by decide
  show 0 ≤ encN _ _ _ ∧ encN _ _ _ ≤ 9999
  omega
end WRD
