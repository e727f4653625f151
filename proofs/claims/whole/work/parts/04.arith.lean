/-! numbers: an abstract int is an Int, its machine value Int32.ofInt of it -/
abbrev inR (x : Int) : Prop := -2147483648 ≤ x ∧ x ≤ 2147483647
abbrev inL (x : Int) : Prop := -9223372036854775808 ≤ x ∧ x ≤ 9223372036854775807
abbrev w32 (x : Int) : Int := (Int32.ofInt x).toInt
theorem oi_toInt {x : Int} (h : inR x) : (Int32.ofInt x).toInt = x := Int32.toInt_ofInt_of_le (by have := h.1; omega) (by have := h.2; omega)
theorem ol_toInt {x : Int} (h : inL x) : (Int64.ofInt x).toInt = x := Int64.toInt_ofInt_of_le (by have := h.1; omega) (by have := h.2; omega)
theorem w32_in (x : Int) : inR (w32 x) := by
  have h1 := Int32.le_toInt (Int32.ofInt x)
  have h2 := Int32.toInt_lt (Int32.ofInt x)
  constructor
  · show -2147483648 ≤ (Int32.ofInt x).toInt
    omega
  · show (Int32.ofInt x).toInt ≤ 2147483647
    omega
theorem w32_of {x : Int} (h : inR x) : w32 x = x := oi_toInt h
theorem oi_w32 (x : Int) : Int32.ofInt (w32 x) = Int32.ofInt x := Int32.ofInt_toInt _
theorem oi_lt {x y : Int} (hx : inR x) (hy : inR y) : Int32.ofInt x < Int32.ofInt y ↔ x < y := by rw [Int32.lt_iff_toInt_lt, oi_toInt hx, oi_toInt hy]
theorem oi_le {x y : Int} (hx : inR x) (hy : inR y) : Int32.ofInt x ≤ Int32.ofInt y ↔ x ≤ y := by rw [Int32.le_iff_toInt_le, oi_toInt hx, oi_toInt hy]
theorem oi_eq {x y : Int} (hx : inR x) (hy : inR y) : Int32.ofInt x = Int32.ofInt y ↔ x = y := by rw [← Int32.toInt_inj, oi_toInt hx, oi_toInt hy]
theorem ol_lt {x y : Int} (hx : inL x) (hy : inL y) : Int64.ofInt x < Int64.ofInt y ↔ x < y := by rw [Int64.lt_iff_toInt_lt, ol_toInt hx, ol_toInt hy]
theorem ol_eq {x y : Int} (hx : inL x) (hy : inL y) : Int64.ofInt x = Int64.ofInt y ↔ x = y := by rw [← Int64.toInt_inj, ol_toInt hx, ol_toInt hy]
theorem oi_0 : Int32.ofInt 0 = 0 := rfl
theorem oi_nat (n : Nat) : Int32.ofInt (n : Int) = nI n := Int32.ofInt_eq_ofNat
theorem ol_nat (n : Nat) : Int64.ofInt (n : Int) = lN n := Int64.ofInt_eq_ofNat
theorem oi_clamp {x : Int} (h0 : 0 ≤ x) (h : x ≤ 2147483647) : (Int32.ofInt x).toNatClampNeg = x.toNat := by
  show (Int32.ofInt x).toInt.toNat = x.toNat
  rw [oi_toInt ⟨by omega, h⟩]
theorem oi_in {x : Int} {n : Nat} (h0 : 0 ≤ x) (h : x < n) (hn : n ≤ 2147483647) : ¬ (Int32.ofInt x < 0 ∨ n ≤ (Int32.ofInt x).toNatClampNeg) := by
  rw [oi_clamp h0 (by omega), ← oi_0, oi_lt ⟨by omega, by omega⟩ ⟨by omega, by omega⟩]
  omega
theorem oi_div {x y : Int} (hx : inR x) (hy : inR y) : Int32.ofInt x / Int32.ofInt y = Int32.ofInt (x.tdiv y) := by
  apply Int32.toInt_inj.mp
  rw [Int32.toInt_div, oi_toInt hx, oi_toInt hy, Int32.toInt_ofInt]
/-- the remainder as the machine's row spells it -/
theorem oi_rem {x y : Int} (hx : inR x) (hy : inR y) : Int32.ofInt x - Int32.ofInt x / Int32.ofInt y * Int32.ofInt y = Int32.ofInt (x.tmod y) := by
  have h1 : Int32.ofInt x / Int32.ofInt y = Int32.ofInt (x.tdiv y) := by
    apply Int32.toInt_inj.mp
    rw [Int32.toInt_div, oi_toInt hx, oi_toInt hy, Int32.toInt_ofInt]
  rw [h1, ← Int32.ofInt_mul, ← Int32.ofInt_sub]
  congr 1
  have := Int.mul_tdiv_add_tmod x y
  rw [Int.mul_comm]
  omega
theorem oi_sh31 : ∀ n, n < 32 → nI n &&& 31 = nI n := by decide +kernel
theorem oi_smod : ∀ n, n < 32 → ((nI n).toBitVec.smod 32).toNat = n := by decide +kernel
theorem oi_shl {x s : Int} (h0 : 0 ≤ s) (h : s < 32) : Int32.ofInt x <<< (Int32.ofInt s &&& 31) = Int32.ofInt (x * 2 ^ s.toNat) := by
  obtain ⟨n, rfl⟩ := Int.eq_ofNat_of_zero_le h0
  have hn : n < 32 := by omega
  rw [oi_nat, oi_sh31 n hn]
  apply Int32.toBitVec.inj
  apply BitVec.eq_of_toNat_eq
  rw [pk_shl _ _ n (oi_smod n hn)]
  rw [Int.toNat_natCast, Int32.ofInt_mul, Int32.toBitVec_mul, BitVec.toNat_mul]
  have : (Int32.ofInt (2 ^ n)).toBitVec.toNat = 2 ^ n := by
    rw [show ((2:Int) ^ n) = ((2 ^ n : Nat) : Int) by push_cast; rfl, oi_nat]
    have h2 : (2 ^ n : Nat) < 2 ^ 32 := Nat.pow_lt_pow_right (by decide) hn
    exact pk_tn h2
  rw [this]
theorem oi_shr {x s : Int} (h0 : 0 ≤ s) (h : s < 32) : Int32.ofInt x >>> (Int32.ofInt s &&& 31) = Int32.ofInt (w32 x / 2 ^ s.toNat) := by
  obtain ⟨n, rfl⟩ := Int.eq_ofNat_of_zero_le h0
  have hn : n < 32 := by omega
  rw [oi_nat, oi_sh31 n hn]
  apply Int32.toInt_inj.mp
  rw [pk_shr _ _ n (oi_smod n hn), Int.toNat_natCast]
  have h1 := w32_in x
  rw [Int.shiftRight_eq_div_pow]
  have e : ((2 ^ n : Nat) : Int) = (2 : Int) ^ n := by push_cast; rfl
  rw [show w32 x = (Int32.ofInt x).toInt from rfl] at h1
  rw [← e]
  refine (oi_toInt (x := (Int32.ofInt x).toInt / ((2 ^ n : Nat) : Int)) ?_).symm
  have hp : (0 : Int) < ((2 ^ n : Nat) : Int) := by have := Nat.pow_pos (n := n) (show 0 < 2 by decide); omega
  have hp1 : (1 : Int) ≤ ((2 ^ n : Nat) : Int) := by omega
  constructor
  · apply Int.le_ediv_of_mul_le hp
    have h3 : (-2147483648 : Int) * ((2 ^ n : Nat) : Int) ≤ -2147483648 * 1 := Int.mul_le_mul_of_nonpos_left (by decide) hp1
    show (-2147483648 : Int) * ((2 ^ n : Nat) : Int) ≤ _
    omega
  · apply Int.lt_add_one_iff.mp
    apply Int.ediv_lt_of_lt_mul hp
    have h3 : (2147483648 : Int) * 1 ≤ 2147483648 * ((2 ^ n : Nat) : Int) := Int.mul_le_mul_of_nonneg_left hp1 (by decide)
    have h4 : (2147483647 + 1 : Int) = 2147483648 := by decide
    rw [h4]
    omega
theorem oi_and {x y : Int} (hx : 0 ≤ x) (hy : 0 ≤ y) : Int32.ofInt x &&& Int32.ofInt y = Int32.ofInt ((x.toNat &&& y.toNat : Nat) : Int) := by
  obtain ⟨a, rfl⟩ := Int.eq_ofNat_of_zero_le hx
  obtain ⟨b, rfl⟩ := Int.eq_ofNat_of_zero_le hy
  rw [oi_nat, oi_nat, oi_nat, Int.toNat_natCast, Int.toNat_natCast]
  apply Int32.toBitVec.inj
  rw [Int32.toBitVec_and]
  show BitVec.ofNat 32 a &&& BitVec.ofNat 32 b = BitVec.ofNat 32 (a &&& b)
  apply BitVec.eq_of_getLsbD_eq
  intro i hi
  simp [BitVec.getLsbD_ofNat, hi]
theorem oi_or {x y : Int} (hx : 0 ≤ x) (hy : 0 ≤ y) : Int32.ofInt x ||| Int32.ofInt y = Int32.ofInt ((x.toNat ||| y.toNat : Nat) : Int) := by
  obtain ⟨a, rfl⟩ := Int.eq_ofNat_of_zero_le hx
  obtain ⟨b, rfl⟩ := Int.eq_ofNat_of_zero_le hy
  rw [oi_nat, oi_nat, oi_nat, Int.toNat_natCast, Int.toNat_natCast]
  apply Int32.toBitVec.inj
  rw [Int32.toBitVec_or]
  show BitVec.ofNat 32 a ||| BitVec.ofNat 32 b = BitVec.ofNat 32 (a ||| b)
  apply BitVec.eq_of_getLsbD_eq
  intro i hi
  simp [BitVec.getLsbD_ofNat, hi]
/-- a mask of k low bits: the rest by 2^k -/
theorem oi_mask (x : Int) (k : Nat) (hk : k ≤ 31) : Int32.ofInt x &&& Int32.ofInt ((2 ^ k - 1 : Nat) : Int) = Int32.ofInt (x % (2 ^ k : Nat)) := by
  have h2 : (2 ^ k : Nat) ≤ 2 ^ 31 := Nat.pow_le_pow_right (by decide) hk
  have h1 : 0 < (2 ^ k : Nat) := Nat.pow_pos (by decide)
  rw [oi_nat]
  have hm : (nI (2 ^ k - 1)).toBitVec.toNat = 2 ^ k - 1 := pk_tn (by omega)
  rw [pk_and _ k hm]
  have e : ((Int32.ofInt x).toBitVec.toNat % 2 ^ k : Nat) = (x % (2 ^ k : Nat)).toNat := by
    have h3 : (Int32.ofInt x).toBitVec.toNat = (x % (2 ^ 32 : Nat)).toNat := by
      show (BitVec.ofInt 32 x).toNat = _
      rw [BitVec.toNat_ofInt]
    rw [h3]
    have h5 : 0 ≤ x % ((2 ^ 32 : Nat) : Int) := Int.emod_nonneg _ (by decide)
    have h6 : 0 ≤ x % ((2 ^ k : Nat) : Int) := Int.emod_nonneg _ (by omega)
    have h7 : (((x % ((2 ^ 32 : Nat) : Int)).toNat % 2 ^ k : Nat) : Int) = x % ((2 ^ k : Nat) : Int) := by
      rw [Int.natCast_emod, Int.toNat_of_nonneg h5]
      apply Int.emod_emod_of_dvd
      exact Int.natCast_dvd_natCast.mpr (Nat.pow_dvd_pow 2 (by omega))
    omega
  rw [e, ← oi_nat, Int.toNat_of_nonneg (Int.emod_nonneg _ (by omega))]
/-- a set without another one -/
def dif (a b : Nat) : Nat := a ^^^ (a &&& b)
theorem dif_tb (a b i : Nat) : (dif a b).testBit i = (a.testBit i && !b.testBit i) := by
  unfold dif
  rw [Nat.testBit_xor, Nat.testBit_and]
  cases a.testBit i <;> cases b.testBit i <;> rfl
theorem oi_not (y : Int) : Int32.ofInt y ^^^ Int32.ofInt (-1) = Int32.ofInt (-y - 1) := by
  have h : Int32.ofInt (-y - 1) = ~~~ Int32.ofInt y := by
    rw [Int32.not_eq_neg_sub, ← Int32.ofInt_neg, Int32.ofInt_sub]
    rfl
  rw [h]
  apply Int32.toBitVec.inj
  rw [Int32.toBitVec_xor, Int32.toBitVec_not]
  show _ ^^^ BitVec.ofInt 32 (-1) = _
  rw [show BitVec.ofInt 32 (-1) = BitVec.allOnes 32 by decide]
  rw [BitVec.xor_allOnes]
theorem oi_andn {x y : Int} (hx : 0 ≤ x) (hy : 0 ≤ y) : Int32.ofInt x &&& Int32.ofInt (-y - 1) = Int32.ofInt ((dif x.toNat y.toNat : Nat) : Int) := by
  rw [← oi_not]
  obtain ⟨a, rfl⟩ := Int.eq_ofNat_of_zero_le hx
  obtain ⟨b, rfl⟩ := Int.eq_ofNat_of_zero_le hy
  rw [oi_nat, oi_nat, oi_nat, Int.toNat_natCast, Int.toNat_natCast]
  apply Int32.toBitVec.inj
  rw [Int32.toBitVec_and, Int32.toBitVec_xor]
  show BitVec.ofNat 32 a &&& (BitVec.ofNat 32 b ^^^ BitVec.ofInt 32 (-1)) = BitVec.ofNat 32 (dif a b)
  rw [show BitVec.ofInt 32 (-1) = BitVec.allOnes 32 by decide]
  apply BitVec.eq_of_getLsbD_eq
  intro i hi
  rw [BitVec.getLsbD_and, BitVec.getLsbD_xor, BitVec.getLsbD_ofNat, BitVec.getLsbD_ofNat, BitVec.getLsbD_ofNat, BitVec.getLsbD_allOnes, dif_tb]
  simp [hi]
theorem oi_i2l {x : Int} (hx : inR x) : (Int32.ofInt x).toInt64 = Int64.ofInt x := by
  apply Int64.toInt_inj.mp
  rw [Int32.toInt_toInt64, oi_toInt hx, ol_toInt ⟨by have := hx.1; omega, by have := hx.2; omega⟩]
theorem oi_i2b (x : Int) : (Int32.ofInt x).toInt8.toInt32 = Int32.ofInt (x.bmod 256) := by
  have h1 := Int.le_bmod (x := x) (m := 256) (by decide)
  have h2 := Int.bmod_lt (x := x) (m := 256) (by decide)
  have hr : inR (x.bmod 256) := by constructor <;> omega
  apply Int32.toInt_inj.mp
  rw [Int8.toInt_toInt32, Int32.toInt_toInt8, oi_toInt hr, Int32.toInt_ofInt]
  rw [show Int32.size = 2 ^ 32 from rfl]
  rw [show (2:Nat) ^ 8 = 256 from rfl]
  apply Int.bmod_bmod_of_dvd
  decide
