/-! THE REFERENCE: its town and its rows, told by the class's own -/
def pS (S : mS) : Nat → Int := fun j => if 13 ≤ j ∧ j < 18 then S (j + 10) else if 18 ≤ j ∧ j < 28 then S (j - 5) else S j
theorem pS_s {S : mS} {j : Nat} (h : j < 8) : pS S j = S j := by unfold pS; rw [if_neg (by omega), if_neg (by omega)]
theorem pS_8 {S : mS} {j : Nat} (h : j < 5) : pS S (8 + j) = S (8 + j) := by unfold pS; rw [if_neg (by omega), if_neg (by omega)]
theorem pS_13 {S : mS} {j : Nat} (h : j < 5) : pS S (13 + j) = S (23 + j) := by unfold pS; rw [if_pos (by omega)]; congr 1; omega
theorem pS_18 {S : mS} {j : Nat} (h : j < 5) : pS S (18 + j) = S (13 + j) := by unfold pS; rw [if_neg (by omega), if_pos (by omega)]; congr 1; omega
theorem pS_23 {S : mS} {j : Nat} (h : j < 5) : pS S (23 + j) = S (18 + j) := by unfold pS; rw [if_neg (by omega), if_pos (by omega)]; congr 1; omega
theorem pS_28 {S : mS} : pS S 28 = S 28 := rfl
theorem pS_29 {S : mS} : pS S 29 = S 29 := rfl
def vowB (T : mT) (p : Nat) : Int := (((T 0 14).toNat / 2 ^ p % 2 : Nat) : Int)
theorem vowB_in (T : mT) (p : Nat) : vowB T p = 0 ∨ vowB T p = 1 := by
  have h := Nat.mod_lt ((T 0 14).toNat / 2 ^ p) (show 2 > 0 by decide)
  unfold vowB
  omega
/-- the reference's town, where it reaches, is T -/
def RT (I : mI) (T : mT) : Prop := (I 111 50 = T 0 11 ∧ I 111 51 = T 0 12 ∧ I 111 52 = T 0 13 ∧ I 111 53 = T 0 15 ∧ I 111 54 = T 0 16) ∧ (∀ p, p < nP T → I 129 p = T 3 p ∧ I 131 p = T 4 p ∧ I 133 p = T 5 p ∧ I 137 p = vowB T p ∧ I 130 (2 * p) = T 11 p ∧ I 130 (2 * p + 1) = T 12 p ∧ I 132 p = T 13 p) ∧ (∀ q, q < nQ T → I 134 q = T 6 q ∧ I 135 q = T 7 q) ∧ ∀ p c, p < nP T → c < nP T → I 138 (8 * p + c) = T 15 (p * 8 + c)
theorem rt_c {I : mI} {T : mT} (h : RT I T) : I 111 50 = T 0 11 := h.1.1
theorem rt_p {I : mI} {T : mT} (h : RT I T) : I 111 51 = T 0 12 := h.1.2.1
theorem rt_q {I : mI} {T : mT} (h : RT I T) : I 111 52 = T 0 13 := h.1.2.2.1
theorem rt_d {I : mI} {T : mT} (h : RT I T) : I 111 53 = T 0 15 := h.1.2.2.2.1
theorem rt_k {I : mI} {T : mT} (h : RT I T) : I 111 54 = T 0 16 := h.1.2.2.2.2
theorem rt_home {I : mI} {T : mT} (h : RT I T) {p : Nat} (hp : p < nP T) : I 129 p = T 3 p := (h.2.1 p hp).1
theorem rt_sails {I : mI} {T : mT} (h : RT I T) {p : Nat} (hp : p < nP T) : I 131 p = T 4 p := (h.2.1 p hp).2.1
theorem rt_spites {I : mI} {T : mT} (h : RT I T) {p : Nat} (hp : p < nP T) : I 133 p = T 5 p := (h.2.1 p hp).2.2.1
theorem rt_vow {I : mI} {T : mT} (h : RT I T) {p : Nat} (hp : p < nP T) : I 137 p = vowB T p := (h.2.1 p hp).2.2.2.1
theorem rt_par1 {I : mI} {T : mT} (h : RT I T) {p : Nat} (hp : p < nP T) : I 130 (2 * p) = T 11 p := (h.2.1 p hp).2.2.2.2.1
theorem rt_par2 {I : mI} {T : mT} (h : RT I T) {p : Nat} (hp : p < nP T) : I 130 (2 * p + 1) = T 12 p := (h.2.1 p hp).2.2.2.2.2.1
theorem rt_told {I : mI} {T : mT} (h : RT I T) {p : Nat} (hp : p < nP T) : I 132 p = T 13 p := (h.2.1 p hp).2.2.2.2.2.2
theorem rt_one {I : mI} {T : mT} (h : RT I T) {q : Nat} (hq : q < nQ T) : I 134 q = T 6 q := (h.2.2.1 q hq).1
theorem rt_other {I : mI} {T : mT} (h : RT I T) {q : Nat} (hq : q < nQ T) : I 135 q = T 7 q := (h.2.2.1 q hq).2
theorem rt_up {I : mI} {T : mT} (h : RT I T) {p c : Nat} (hp : p < nP T) (hc : c < nP T) : I 138 (8 * p + c) = T 15 (p * 8 + c) := h.2.2.2 p c hp hc
/-- whom p knows, as the reference counts, by way of the first n -/
def knT (T : mT) (p : Nat) : Nat → Nat
  | 0 => (T 13 p).toNat
  | n + 1 => if (T 11 p = n ∨ T 12 p = n) ∨ (T 11 n = p ∨ T 12 n = p) then knT T p n ||| 2 ^ n else knT T p n
theorem knT_lt {T : mT} (hw : tw T) (p : Nat) : ∀ n, n ≤ 8 → knT T p n < 256
  | 0, _ => by have := tw_told hw p; show (T 13 p).toNat < 256; omega
  | n + 1, hn => by
    have ih := knT_lt hw p n (by omega)
    rw [knT]
    split
    · exact or_lt (n := 8) ih (two_lt (by omega))
    · exact ih
/-- a town that is closed: degrees and knowledge, as the reference finds them; pairs and parents are persons -/
def TC (T : mT) : Prop := (∀ a b, a < nP T → b < nP T → T 16 (a * 8 + b) = fewN (T 15) a b (nP T)) ∧ (∀ p, p < nP T → (T 14 p).toNat = knT T p (nP T)) ∧ stB (T 15) ∧ ∀ q, q < nQ T → pa T q < nP T ∧ pb T q < nP T
/-- the last pair of the first n, but ex, that is WED and has p: with whom -/
def wwF (T : mT) (S : mS) (p ex : Int) : Nat → Int
  | 0 => -1
  | n + 1 => if ((n : Int) ≠ ex ∧ S (8 + n) = 1) ∧ (T 6 n = p ∨ T 7 n = p) then (if T 6 n = p then T 7 n else T 6 n) else wwF T S p ex n
theorem wwF_in {T : mT} (hw : tw T) (S : mS) (p ex : Int) : ∀ n, -1 ≤ wwF T S p ex n ∧ wwF T S p ex n ≤ 7
  | 0 => (by decide : (-1 : Int) ≤ -1 ∧ (-1 : Int) ≤ 7)
  | n + 1 => by
    have ih := wwF_in hw S p ex n
    have h1 := tw_one hw n
    have h2 := tw_other hw n
    rw [wwF]
    split
    · split <;> omega
    · exact ih
