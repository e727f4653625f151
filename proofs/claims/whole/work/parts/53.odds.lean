/-! QUIET: the odds as the reference counts them -/
def upN (T : mT) (S : mS) (ls cl : Nat) : Nat → Int
  | 0 => 1
  | n + 1 => if ls.testBit n then upN T S ls cl n * (10 - ear T S n cl) else upN T S ls cl n
def allN (ls : Nat) : Nat → Int
  | 0 => 1
  | n + 1 => if ls.testBit n then allN ls n * 10 else allN ls n
theorem od_e (T : mT) (S : mS) (ls cl : Nat) : ∀ n, n ≤ 8 → ∃ e, e ≤ n ∧ allN ls n = (10 : Int) ^ e ∧ oddsN T S ls cl n = (10 : Int) ^ (8 - e) * upN T S ls cl n ∧ 0 ≤ upN T S ls cl n ∧ upN T S ls cl n ≤ allN ls n
  | 0, _ => ⟨0, Nat.le_refl _, rfl, rfl, (by decide : (0 : Int) ≤ 1), (by decide : (1 : Int) ≤ 1)⟩
  | n + 1, hn => by
    obtain ⟨e, h1, h2, h3, h4, h5⟩ := od_e T S ls cl n (by omega)
    have he := ear_in T S n cl
    by_cases hb : ls.testBit n = true
    · have ea : allN ls (n + 1) = allN ls n * 10 := if_pos hb
      have eu : upN T S ls cl (n + 1) = upN T S ls cl n * (10 - ear T S n cl) := if_pos hb
      have eo : oddsN T S ls cl (n + 1) = (oddsN T S ls cl n).tdiv 10 * (10 - ear T S n cl) := if_pos hb
      refine ⟨e + 1, by omega, by rw [ea, h2, Int.pow_succ], ?_, ?_, ?_⟩
      · have e8 : 8 - e = (8 - (e + 1)) + 1 := by omega
        rw [eo, eu, h3, e8, Int.pow_succ, show (10 : Int) ^ (8 - (e + 1)) * 10 * upN T S ls cl n = 10 * ((10 : Int) ^ (8 - (e + 1)) * upN T S ls cl n) from by rw [Int.mul_comm ((10 : Int) ^ (8 - (e + 1))) 10, Int.mul_assoc], Int.mul_tdiv_cancel_left _ (by decide), Int.mul_assoc]
      · rw [eu]; exact Int.mul_nonneg h4 (by omega)
      · rw [eu, ea]; exact Int.mul_le_mul h5 (by omega) (by omega) (by omega)
    · have ea : allN ls (n + 1) = allN ls n := if_neg hb
      have eu : upN T S ls cl (n + 1) = upN T S ls cl n := if_neg hb
      have eo : oddsN T S ls cl (n + 1) = oddsN T S ls cl n := if_neg hb
      rw [ea, eu, eo]
      exact ⟨e, by omega, h2, h3, h4, h5⟩
theorem od_n (T : mT) (S : mS) (ls cl : Nat) {n : Nat} (hn : n ≤ 8) : ∃ r u a : Nat, 0 < r ∧ 0 < a ∧ upN T S ls cl n = (u : Int) ∧ allN ls n = (a : Int) ∧ r * a = 100000000 ∧ oddsN T S ls cl n = ((r * u : Nat) : Int) ∧ u ≤ a := by
  obtain ⟨e, h1, h2, h3, h4, h5⟩ := od_e T S ls cl n hn
  have hu : ((upN T S ls cl n).toNat : Int) = upN T S ls cl n := Int.toNat_of_nonneg h4
  have ha : ((10 ^ e : Nat) : Int) = allN ls n := by rw [h2, Int.natCast_pow]; rfl
  refine ⟨10 ^ (8 - e), (upN T S ls cl n).toNat, 10 ^ e, Nat.pow_pos (by decide), Nat.pow_pos (by decide), hu.symm, ha.symm, ?_, ?_, ?_⟩
  · rw [← Nat.pow_add, show 8 - e + e = 8 from by omega]
  · rw [h3, Int.natCast_mul, hu, Int.natCast_pow]; rfl
  · omega
theorem al_in (ls : Nat) : ∀ n, n ≤ 8 → 1 ≤ allN ls n ∧ allN ls n ≤ 100000000 := by
  intro n hn
  obtain ⟨r, u, a, h1, h2, -, h4, h5, -, -⟩ := od_n (fun _ _ => 0) (fun _ => 0) ls 0 hn
  rw [h4]
  have h6 : a ≤ r * a := Nat.le_mul_of_pos_left a h1
  omega
theorem up_in (T : mT) (S : mS) (ls cl : Nat) : ∀ n, n ≤ 8 → 0 ≤ upN T S ls cl n ∧ upN T S ls cl n ≤ 100000000 := by
  intro n hn
  obtain ⟨r, u, a, h1, h2, h3, h4, h5, -, h7⟩ := od_n T S ls cl hn
  rw [h3]
  have h6 : a ≤ r * a := Nat.le_mul_of_pos_left a h1
  omega
theorem gcF_gcd : ∀ (n m h w : Nat), 2 * n + 1 ≤ m → w < 2 ^ n → gcF m (h : Int) (w : Int) = ((Nat.gcd h w : Nat) : Int)
  | 0, m, h, w, hm, hw => by
    obtain ⟨k, rfl⟩ : ∃ k, m = k + 1 := ⟨m - 1, by omega⟩
    have e : w = 0 := by simpa using hw
    subst e
    rw [gcF, if_pos (show ((0 : Nat) : Int) = 0 from rfl), Nat.gcd_zero_right]
  | n + 1, m, h, w, hm, hw => by
    obtain ⟨k, rfl⟩ : ∃ k, m = k + 1 + 1 := ⟨m - 2, by omega⟩
    rw [gcF]
    by_cases e : (w : Int) = 0
    · have e2 : w = 0 := by omega
      rw [if_pos e, e2, Nat.gcd_zero_right]
    · have hwp : 0 < w := by omega
      rw [if_neg e, Int.tmod_eq_emod_of_nonneg (by omega), ← Int.natCast_emod, gcF]
      have hr : h % w < w := Nat.mod_lt _ hwp
      have eg : Nat.gcd h w = Nat.gcd w (h % w) := by rw [Nat.gcd_comm, Nat.gcd_rec, Nat.gcd_comm]
      by_cases e2 : ((h % w : Nat) : Int) = 0
      · have e3 : h % w = 0 := by omega
        rw [if_pos e2, eg, e3, Nat.gcd_zero_right]
      · have hrp : 0 < h % w := by omega
        rw [if_neg e2, Int.tmod_eq_emod_of_nonneg (by omega), ← Int.natCast_emod]
        have hs : w % (h % w) < 2 ^ n := by
          have g1 := Nat.mod_lt w hrp
          have g2 := Nat.div_add_mod w (h % w)
          have g3 : 1 ≤ w / (h % w) := (Nat.one_le_div_iff hrp).mpr (by omega)
          have g4 : h % w ≤ (h % w) * (w / (h % w)) := Nat.le_mul_of_pos_right _ g3
          have g5 : 2 ^ (n + 1) = 2 ^ n * 2 := Nat.pow_succ _ _
          omega
        rw [gcF_gcd n k (h % w) (w % (h % w)) (by omega) hs, eg]
        congr 1
        rw [Nat.gcd_comm w, Nat.gcd_rec (h % w) w, Nat.gcd_comm]
abbrev lsQ (T : mT) (S : mS) (q : Nat) (c e : Int) : Nat := risers T S q &&& present T S c e
abbrev upV (T : mT) (S : mS) (q : Nat) (c e : Int) : Int := upN T S (lsQ T S q c e) (called T S) (nP T)
abbrev alV (T : mT) (S : mS) (q : Nat) (c e : Int) : Int := allN (lsQ T S q c e) (nP T)
abbrev gcV (T : mT) (S : mS) (q : Nat) (c e : Int) : Nat := Nat.gcd (alV T S q c e).toNat (upV T S q c e).toNat
theorem gcV_pos {T : mT} (hw : tw T) (S : mS) (q : Nat) (c e : Int) : 1 ≤ gcV T S q c e ∧ gcV T S q c e ≤ 100000000 := by
  have h := al_in (lsQ T S q c e) (nP T) (nP_le hw)
  have h2 : (alV T S q c e).toNat ≤ 100000000 := by show (allN (lsQ T S q c e) (nP T)).toNat ≤ _; omega
  have h3 : 0 < (alV T S q c e).toNat := by show 0 < (allN (lsQ T S q c e) (nP T)).toNat; omega
  exact ⟨Nat.gcd_pos_of_pos_left _ h3, Nat.le_trans (Nat.gcd_le_left _ h3) h2⟩
theorem quiet_eq {T : mT} (hw : tw T) (S : mS) (a c e w : Int) (h : ((0 ≤ a ∧ a < T 0 13) ∧ S (8 + a.toNat) = 0) ∧ (0 ≤ c ∧ c < T 0 11) ∧ (0 ≤ e ∧ e < T 0 11) ∧ 0 ≤ w ∧ w ≤ 1) : quietA T S a c e w = if w = 0 then Int.tdiv (upV T S a.toNat c e) (gcV T S a.toNat c e : Nat) else Int.tdiv (alV T S a.toNat c e) (gcV T S a.toNat c e : Nat) := by
  obtain ⟨r, u, A, h1, h2, h3, h4, h5, h6, h7⟩ := od_n T S (lsQ T S a.toNat c e) (called T S) (nP_le hw)
  have eo : odds T S a.toNat c e = ((r * u : Nat) : Int) := h6
  have eu : upV T S a.toNat c e = (u : Int) := h3
  have ea : alV T S a.toNat c e = (A : Int) := h4
  have eg : gcV T S a.toNat c e = Nat.gcd A u := by show Nat.gcd (alV T S a.toNat c e).toNat (upV T S a.toNat c e).toNat = _; rw [eu, ea]; rfl
  have hg : 0 < Nat.gcd A u := Nat.gcd_pos_of_pos_left _ h2
  have hu : r * u ≤ 100000000 := by rw [← h5]; exact Nat.mul_le_mul_left r h7
  have eG : gcF 100 100000000 (odds T S a.toNat c e) = ((r * Nat.gcd A u : Nat) : Int) := by
    rw [eo, show (100000000 : Int) = ((100000000 : Nat) : Int) from rfl, gcF_gcd 27 100 100000000 (r * u) (by decide) (by omega), ← h5, Nat.gcd_mul_left]
  unfold quietA
  rw [if_pos h, eG, eu, ea, eg, eo]
  have hp : 0 < r * Nat.gcd A u := Nat.mul_pos h1 hg
  rw [if_neg (by omega)]
  by_cases e0 : w = 0
  · rw [if_pos e0, if_pos e0, Int.tdiv_eq_ediv_of_nonneg (by omega), Int.tdiv_eq_ediv_of_nonneg (by omega), ← Int.natCast_ediv, ← Int.natCast_ediv, Nat.mul_div_mul_left _ _ h1]
  · rw [if_neg e0, if_neg e0, Int.tdiv_eq_ediv_of_nonneg (by omega), Int.tdiv_eq_ediv_of_nonneg (by omega), show (100000000 : Int) = ((r * A : Nat) : Int) from by rw [h5]; rfl, ← Int.natCast_ediv, ← Int.natCast_ediv, Nat.mul_div_mul_left _ _ h1]
/-- the reference's state of the search (best, up, all), beside the class's (odds, answer) -/
def qRel (w : Int) (b u A : Int) (t : Int × Int) : Prop := (0 ≤ u ∧ u ≤ 100000000) ∧ (1 ≤ A ∧ A ≤ 100000000) ∧ ((b = -1 ∧ t = (-1, -1)) ∨ ∃ x y : Nat, x < 4 ∧ y < 4 ∧ b = 4 * (x : Int) + y ∧ t.2 = (if w = 0 then (x : Int) else (y : Int)) ∧ t.1 * A = 100000000 * u)
theorem qRel_no {T : mT} (hw : tw T) {S : mS} {q : Nat} {w b u A : Int} {t : Int × Int} {lo hi : Nat} (h : qRel w b u A t) (hb : ¬ b < 0) (hc : upV T S q lo hi * A ≤ u * alV T S q lo hi) : qStep T S q w lo hi t = t := by
  obtain ⟨r, v, B, h1, h2, h3, h4, h5, h6, h7⟩ := od_n T S (lsQ T S q lo hi) (called T S) (nP_le hw)
  have eo : odds T S q lo hi = ((r * v : Nat) : Int) := h6
  have eu : upV T S q lo hi = (v : Int) := h3
  have ea : alV T S q lo hi = (B : Int) := h4
  rw [eu, ea] at hc
  obtain ⟨g1, g2, g⟩ := h
  rcases g with ⟨g, -⟩ | ⟨x, y, -, -, -, -, g⟩
  · omega
  refine if_neg (fun z => ?_)
  rw [eo] at z
  have z1 : t.1 * A < ((r * v : Nat) : Int) * A := Int.mul_lt_mul_of_pos_right z (by omega)
  rw [g] at z1
  have z2 : (100000000 * u) * (B : Int) < ((r * v : Nat) : Int) * A * (B : Int) := Int.mul_lt_mul_of_pos_right z1 (by omega)
  have e5 : ((r : Int) * (B : Int)) = 100000000 := by rw [← Int.natCast_mul, h5]; rfl
  have e6 : ((r * v : Nat) : Int) * A * (B : Int) = ((r : Int) * B) * ((v : Int) * A) := by rw [Int.natCast_mul]; ac_rfl
  rw [e6, e5, Int.mul_assoc] at z2
  omega
theorem qRel_yes {T : mT} (hw : tw T) {S : mS} {q : Nat} {w b u A : Int} {t : Int × Int} {lo hi : Nat} (hl : lo < 4) (hh : hi < 4) (h : qRel w b u A t) (hc : b < 0 ∨ u * alV T S q lo hi < upV T S q lo hi * A) : qRel w (4 * (lo : Int) + hi) (upV T S q lo hi) (alV T S q lo hi) (qStep T S q w lo hi t) := by
  have k1 := up_in T S (lsQ T S q lo hi) (called T S) (nP T) (nP_le hw)
  have k2 := al_in (lsQ T S q lo hi) (nP T) (nP_le hw)
  obtain ⟨r, v, B, h1, h2, h3, h4, h5, h6, h7⟩ := od_n T S (lsQ T S q lo hi) (called T S) (nP_le hw)
  have eo : odds T S q lo hi = ((r * v : Nat) : Int) := h6
  have eu : upV T S q lo hi = (v : Int) := h3
  have ea : alV T S q lo hi = (B : Int) := h4
  have e5 : ((r : Int) * (B : Int)) = 100000000 := by rw [← Int.natCast_mul, h5]; rfl
  have hlt : t.1 < odds T S q lo hi := by
    obtain ⟨g1, g2, g⟩ := h
    rcases g with ⟨-, g⟩ | ⟨x, y, -, -, gb, -, g⟩
    · rw [g, eo]; show (-1 : Int) < _; omega
    rw [eo]
    refine Int.lt_of_not_ge (fun z => ?_)
    rw [eu, ea] at hc
    have hc2 : u * (B : Int) < v * A := by omega
    have z1 : ((r * v : Nat) : Int) * A ≤ t.1 * A := Int.mul_le_mul_of_nonneg_right z (by omega)
    rw [g] at z1
    have z2 : ((r * v : Nat) : Int) * A * (B : Int) ≤ (100000000 * u) * (B : Int) := Int.mul_le_mul_of_nonneg_right z1 (by omega)
    have e6 : ((r * v : Nat) : Int) * A * (B : Int) = ((r : Int) * B) * ((v : Int) * A) := by rw [Int.natCast_mul]; ac_rfl
    rw [e6, e5, Int.mul_assoc] at z2
    omega
  have es : qStep T S q w lo hi t = (odds T S q lo hi, if w = 0 then (lo : Int) else (hi : Int)) := if_pos hlt
  rw [es]
  refine ⟨k1, k2, Or.inr ⟨lo, hi, hl, hh, rfl, rfl, ?_⟩⟩
  show odds T S q lo hi * alV T S q lo hi = 100000000 * upV T S q lo hi
  rw [eo, ea, eu, Int.natCast_mul, ← e5]
  ac_rfl
