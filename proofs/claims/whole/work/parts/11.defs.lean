/-! WHAT THE DOCUMENT SPEAKS OF, over a town T (T k j: the cell k behind the town's, place j) and a state S (the row of 30) -/
abbrev mT : Type := Nat → Nat → Int
abbrev mS : Type := Nat → Int
def TT (I : mI) (t : Nat) : mT := fun k j => if k < 19 then I (t + k) j else 0
abbrev SS (I : mI) (s : Nat) : mS := fun j => I (s + 1) j
/-- a town's numbers are in bounds, told or stale -/
def tw (T : mT) : Prop := (0 ≤ T 0 11 ∧ T 0 11 ≤ 4) ∧ (0 ≤ T 0 12 ∧ T 0 12 ≤ 8) ∧ (0 ≤ T 0 13 ∧ T 0 13 ≤ 5) ∧ (0 ≤ T 0 14 ∧ T 0 14 ≤ 255) ∧ (0 ≤ T 0 15 ∧ T 0 15 ≤ 8) ∧ (1 ≤ T 0 16 ∧ T 0 16 ≤ 5) ∧ (0 ≤ T 0 17 ∧ T 0 17 ≤ 999) ∧
  (∀ j, 0 ≤ T 3 j ∧ T 3 j ≤ 3) ∧ (∀ j, 0 ≤ T 4 j ∧ T 4 j ≤ 12) ∧ (∀ j, 0 ≤ T 5 j ∧ T 5 j ≤ 255) ∧ (∀ j, 0 ≤ T 6 j ∧ T 6 j ≤ 7) ∧ (∀ j, 0 ≤ T 7 j ∧ T 7 j ≤ 7) ∧ (∀ j, 0 ≤ T 8 j ∧ T 8 j ≤ 3) ∧ (∀ j, 0 ≤ T 9 j ∧ T 9 j ≤ 3) ∧
  (∀ j, -1 ≤ T 11 j ∧ T 11 j ≤ 7) ∧ (∀ j, -1 ≤ T 12 j ∧ T 12 j ≤ 7) ∧ (∀ j, 0 ≤ T 13 j ∧ T 13 j ≤ 255) ∧ (∀ j, 0 ≤ T 14 j ∧ T 14 j ≤ 255) ∧ (∀ j, -1 ≤ T 15 j ∧ T 15 j ≤ 7) ∧ (∀ j, -1 ≤ T 16 j ∧ T 16 j ≤ 14) ∧ (0 ≤ T 17 2 ∧ T 17 2 ≤ 300) ∧ (0 ≤ T 17 3 ∧ T 17 3 ≤ 30)
theorem tw_c {T : mT} (h : tw T) : 0 ≤ T 0 11 ∧ T 0 11 ≤ 4 := h.1
theorem tw_p {T : mT} (h : tw T) : 0 ≤ T 0 12 ∧ T 0 12 ≤ 8 := h.2.1
theorem tw_q {T : mT} (h : tw T) : 0 ≤ T 0 13 ∧ T 0 13 ≤ 5 := h.2.2.1
theorem tw_vows {T : mT} (h : tw T) : 0 ≤ T 0 14 ∧ T 0 14 ≤ 255 := h.2.2.2.1
theorem tw_deg {T : mT} (h : tw T) : 0 ≤ T 0 15 ∧ T 0 15 ≤ 8 := h.2.2.2.2.1
theorem tw_calls {T : mT} (h : tw T) : 1 ≤ T 0 16 ∧ T 0 16 ≤ 5 := h.2.2.2.2.2.1
theorem tw_draw {T : mT} (h : tw T) : 0 ≤ T 0 17 ∧ T 0 17 ≤ 999 := h.2.2.2.2.2.2.1
theorem tw_home {T : mT} (h : tw T) (j : Nat) : 0 ≤ T 3 j ∧ T 3 j ≤ 3 := h.2.2.2.2.2.2.2.1 j
theorem tw_sails {T : mT} (h : tw T) (j : Nat) : 0 ≤ T 4 j ∧ T 4 j ≤ 12 := h.2.2.2.2.2.2.2.2.1 j
theorem tw_spites {T : mT} (h : tw T) (j : Nat) : 0 ≤ T 5 j ∧ T 5 j ≤ 255 := h.2.2.2.2.2.2.2.2.2.1 j
theorem tw_one {T : mT} (h : tw T) (j : Nat) : 0 ≤ T 6 j ∧ T 6 j ≤ 7 := h.2.2.2.2.2.2.2.2.2.2.1 j
theorem tw_other {T : mT} (h : tw T) (j : Nat) : 0 ≤ T 7 j ∧ T 7 j ≤ 7 := h.2.2.2.2.2.2.2.2.2.2.2.1 j
theorem tw_c1 {T : mT} (h : tw T) (j : Nat) : 0 ≤ T 8 j ∧ T 8 j ≤ 3 := h.2.2.2.2.2.2.2.2.2.2.2.2.1 j
theorem tw_c2 {T : mT} (h : tw T) (j : Nat) : 0 ≤ T 9 j ∧ T 9 j ≤ 3 := h.2.2.2.2.2.2.2.2.2.2.2.2.2.1 j
theorem tw_par1 {T : mT} (h : tw T) (j : Nat) : -1 ≤ T 11 j ∧ T 11 j ≤ 7 := h.2.2.2.2.2.2.2.2.2.2.2.2.2.2.1 j
theorem tw_par2 {T : mT} (h : tw T) (j : Nat) : -1 ≤ T 12 j ∧ T 12 j ≤ 7 := h.2.2.2.2.2.2.2.2.2.2.2.2.2.2.2.1 j
theorem tw_told {T : mT} (h : tw T) (j : Nat) : 0 ≤ T 13 j ∧ T 13 j ≤ 255 := h.2.2.2.2.2.2.2.2.2.2.2.2.2.2.2.2.1 j
theorem tw_knows {T : mT} (h : tw T) (j : Nat) : 0 ≤ T 14 j ∧ T 14 j ≤ 255 := h.2.2.2.2.2.2.2.2.2.2.2.2.2.2.2.2.2.1 j
theorem tw_steps {T : mT} (h : tw T) (j : Nat) : -1 ≤ T 15 j ∧ T 15 j ≤ 7 := h.2.2.2.2.2.2.2.2.2.2.2.2.2.2.2.2.2.2.1 j
theorem tw_degs {T : mT} (h : tw T) (j : Nat) : -1 ≤ T 16 j ∧ T 16 j ≤ 14 := h.2.2.2.2.2.2.2.2.2.2.2.2.2.2.2.2.2.2.2.1 j
theorem tw_len {T : mT} (h : tw T) : 0 ≤ T 17 2 ∧ T 17 2 ≤ 300 := h.2.2.2.2.2.2.2.2.2.2.2.2.2.2.2.2.2.2.2.2.1
theorem tw_units {T : mT} (h : tw T) : 0 ≤ T 17 3 ∧ T 17 3 ≤ 30 := h.2.2.2.2.2.2.2.2.2.2.2.2.2.2.2.2.2.2.2.2.2
/-- a state's numbers are in bounds; B bounds the Sundays -/
def sw (S : mS) (B : Int) : Prop := (∀ j, j < 8 → 0 ≤ S j ∧ S j ≤ 3) ∧ (∀ j, j < 5 → 0 ≤ S (8 + j) ∧ S (8 + j) ≤ 2) ∧ (∀ j, j < 5 → 0 ≤ S (13 + j) ∧ S (13 + j) ≤ 3) ∧ (∀ j, j < 5 → 0 ≤ S (18 + j) ∧ S (18 + j) ≤ 3) ∧ (∀ j, j < 5 → 0 ≤ S (23 + j) ∧ S (23 + j) ≤ S 28 + 1) ∧ (0 ≤ S 28 ∧ S 28 ≤ B) ∧ (0 ≤ S 29 ∧ S 29 ≤ 999)
theorem sw_seat {S : mS} {B : Int} (h : sw S B) {j : Nat} (hj : j < 8) : 0 ≤ S j ∧ S j ≤ 3 := h.1 j hj
theorem sw_stat {S : mS} {B : Int} (h : sw S B) {j : Nat} (hj : j < 5) : 0 ≤ S (8 + j) ∧ S (8 + j) ≤ 2 := h.2.1 j hj
theorem sw_c1 {S : mS} {B : Int} (h : sw S B) {j : Nat} (hj : j < 5) : 0 ≤ S (13 + j) ∧ S (13 + j) ≤ 3 := h.2.2.1 j hj
theorem sw_c2 {S : mS} {B : Int} (h : sw S B) {j : Nat} (hj : j < 5) : 0 ≤ S (18 + j) ∧ S (18 + j) ≤ 3 := h.2.2.2.1 j hj
theorem sw_read {S : mS} {B : Int} (h : sw S B) {j : Nat} (hj : j < 5) : 0 ≤ S (23 + j) ∧ S (23 + j) ≤ S 28 + 1 := h.2.2.2.2.1 j hj
theorem sw_sun {S : mS} {B : Int} (h : sw S B) : 0 ≤ S 28 ∧ S 28 ≤ B := h.2.2.2.2.2.1
theorem sw_seed {S : mS} {B : Int} (h : sw S B) : 0 ≤ S 29 ∧ S 29 ≤ 999 := h.2.2.2.2.2.2
abbrev nP (T : mT) : Nat := (T 0 12).toNat
abbrev nC (T : mT) : Nat := (T 0 11).toNat
abbrev nQ (T : mT) : Nat := (T 0 13).toNat
abbrev pa (T : mT) (q : Nat) : Nat := (T 6 q).toNat
abbrev pb (T : mT) (q : Nat) : Nat := (T 7 q).toNat
def pm (T : mT) (q : Nat) : Nat := 2 ^ pa T q ||| 2 ^ pb T q
theorem two_lt {a : Nat} (h : a < 8) : 2 ^ a < 256 := Nat.pow_lt_pow_right (by decide) h
theorem or_lt {a b n : Nat} (ha : a < 2 ^ n) (hb : b < 2 ^ n) : a ||| b < 2 ^ n := Nat.or_lt_two_pow ha hb
theorem pm_lt {T : mT} (h : tw T) (q : Nat) : pm T q < 256 := by
  have h1 := tw_one h q
  have h2 := tw_other h q
  exact or_lt (n := 8) (two_lt (by show (T 6 q).toNat < 8; omega)) (two_lt (by show (T 7 q).toNat < 8; omega))
abbrev away (T : mT) (p : Nat) (sun : Int) : Prop := 0 < T 4 p ∧ T 4 p ≤ sun
abbrev pairAway (T : mT) (q : Nat) (sun : Int) : Prop := away T (pa T q) sun ∨ away T (pb T q) sun
abbrev kinW (T : mT) (a b : Nat) (g : Int) : Prop := T 16 (a * 8 + b) ≠ -1 ∧ T 16 (a * 8 + b) ≤ g
/-- those WED in a pair but ex -/
def wedM (T : mT) (S : mS) (ex : Int) : Nat → Nat
  | 0 => 0
  | n + 1 => if (n : Int) ≠ ex ∧ S (8 + n) = 1 then wedM T S ex n ||| pm T n else wedM T S ex n
abbrev wedB (T : mT) (S : mS) (ex : Int) : Nat := wedM T S ex (nQ T)
theorem wedM_lt {T : mT} (h : tw T) (S : mS) (ex : Int) : ∀ n, wedM T S ex n < 256
  | 0 => (by decide : (0 : Nat) < 256)
  | n + 1 => by
    rw [wedM]
    split
    · exact or_lt (n := 8) (wedM_lt h S ex n) (pm_lt h n)
    · exact wedM_lt h S ex n
abbrev two (a b : Nat) : Nat := 2 ^ a ||| 2 ^ b
theorem two_lt2 {a b : Nat} (ha : a < 8) (hb : b < 8) : two a b < 256 := or_lt (n := 8) (two_lt ha) (two_lt hb)
/-- BAR of two, as if a pair, ex being that pair -/
def barF (T : mT) (S : mS) (a b : Nat) (ex : Int) : Int := if kinW T a b (T 0 15) then 1 else if (T 0 14).toNat &&& two a b ≠ 0 then 2 else if wedB T S ex &&& two a b ≠ 0 then 3 else 0
theorem barF_1 {T : mT} {S : mS} {a b : Nat} {ex : Int} (h : kinW T a b (T 0 15)) : barF T S a b ex = 1 := if_pos h
theorem barF_2 {T : mT} {S : mS} {a b : Nat} {ex : Int} (h : ¬ kinW T a b (T 0 15)) (h2 : ¬ (((T 0 14).toNat &&& (2 ^ a ||| 2 ^ b) : Nat) : Int) = 0) : barF T S a b ex = 2 := by
  unfold barF
  rw [if_neg h, if_pos]
  intro z
  exact h2 (by rw [z]; rfl)
theorem barF_3 {T : mT} {S : mS} {a b : Nat} {ex : Int} (h : ¬ kinW T a b (T 0 15)) (h2 : (((T 0 14).toNat &&& (2 ^ a ||| 2 ^ b) : Nat) : Int) = 0) (h3 : ¬ ((wedB T S ex &&& (2 ^ a ||| 2 ^ b) : Nat) : Int) = 0) : barF T S a b ex = 3 := by
  unfold barF
  rw [if_neg h, if_neg, if_pos]
  · intro z
    exact h3 (by rw [z]; rfl)
  · intro z
    exact z (Int.ofNat.inj h2)
theorem barF_0 {T : mT} {S : mS} {a b : Nat} {ex : Int} (h : ¬ kinW T a b (T 0 15)) (h2 : (((T 0 14).toNat &&& (2 ^ a ||| 2 ^ b) : Nat) : Int) = 0) (h3 : ((wedB T S ex &&& (2 ^ a ||| 2 ^ b) : Nat) : Int) = 0) : barF T S a b ex = 0 := by
  unfold barF
  rw [if_neg h, if_neg, if_neg]
  · intro z
    exact z (Int.ofNat.inj h3)
  · intro z
    exact z (Int.ofNat.inj h2)
theorem barF_in (T : mT) (S : mS) (a b : Nat) (ex : Int) : 0 ≤ barF T S a b ex ∧ barF T S a b ex ≤ 3 := by
  unfold barF
  repeat' split
  all_goals decide
abbrev barQ (T : mT) (S : mS) (q : Nat) : Int := barF T S (pa T q) (pb T q) q
def risF (T : mT) (S : mS) (q p : Nat) : Bool := decide ((T 5 p).toNat &&& pm T q ≠ 0) || (decide (barQ T S q ≠ 0) && decide ((T 14 p).toNat &&& pm T q ≠ 0))
theorem risF_a {T : mT} {S : mS} {q p : Nat} (h : ¬ (((T 5 p).toNat &&& pm T q : Nat) : Int) = 0) : risF T S q p = true := by
  unfold risF
  rw [decide_eq_true (by intro z; exact h (by rw [z]; rfl))]
  rfl
theorem risF_b {T : mT} {S : mS} {q p : Nat} (h : ¬ barQ T S q = 0) (h2 : ¬ (((T 14 p).toNat &&& pm T q : Nat) : Int) = 0) : risF T S q p = true := by
  unfold risF
  rw [decide_eq_true (p := barQ T S q ≠ 0) h, decide_eq_true (p := (T 14 p).toNat &&& pm T q ≠ 0) (by intro z; exact h2 (by rw [z]; rfl))]
  simp
theorem risF_c {T : mT} {S : mS} {q p : Nat} (h : (((T 5 p).toNat &&& pm T q : Nat) : Int) = 0) (h2 : barQ T S q = 0) : risF T S q p = false := by
  unfold risF
  rw [decide_eq_false (by intro z; exact z (Int.ofNat.inj h)), decide_eq_false (by intro z; exact z h2)]
  rfl
theorem risF_d {T : mT} {S : mS} {q p : Nat} (h : (((T 5 p).toNat &&& pm T q : Nat) : Int) = 0) (h2 : (((T 14 p).toNat &&& pm T q : Nat) : Int) = 0) : risF T S q p = false := by
  unfold risF
  rw [decide_eq_false (by intro z; exact z (Int.ofNat.inj h)), decide_eq_false (p := (T 14 p).toNat &&& pm T q ≠ 0) (by intro z; exact z (Int.ofNat.inj h2))]
  simp
def risers (T : mT) (S : mS) (q : Nat) : Nat := dif (setOf (risF T S q) (nP T)) (pm T q)
def sitters (T : mT) (S : mS) (c : Int) : Nat := setOf (fun p => decide (S p = c)) (nP T)
def present (T : mT) (S : mS) (c o : Int) : Nat := setOf (fun p => decide ((S p = c ∨ S p = o) ∧ ¬ away T p (S 28 + 1))) (nP T)
def readIn (T : mT) (S : mS) (c : Int) (called : Nat) : Nat := setOf (fun q => called.testBit q && decide (S (13 + q) = c ∨ S (18 + q) = c)) (nQ T)
theorem dif_lt {a b n : Nat} (h : a < 2 ^ n) : dif a b < 2 ^ n := by
  apply Nat.lt_pow_two_of_testBit
  intro i hi
  rw [dif_tb, Nat.testBit_lt_two_pow (Nat.lt_of_lt_of_le h (Nat.pow_le_pow_right (by decide) hi))]
  rfl
/-- a whole cell anew -/
def upc (I : mI) (a : Nat) (f : Nat → Int) : mI := fun b j => if b = a then f j else I b j
theorem upc_s {I : mI} {a j : Nat} {f : Nat → Int} : upc I a f a j = f j := if_pos rfl
theorem upc_c {I : mI} {a b j : Nat} {f : Nat → Int} (h : b ≠ a) : upc I a f b j = I b j := if_neg h
theorem up_upc {I : mI} {a k : Nat} {f : Nat → Int} {v : Int} : up (upc I a f) a k v = upc I a (fun j => if j = k then v else f j) := by
  funext b j
  unfold up upc
  by_cases h : b = a
  · by_cases h2 : j = k
    · simp [h, h2]
    · simp [h, h2]
  · simp [h]
theorem upc_id {I : mI} {a : Nat} : upc I a (I a) = I := by
  funext b j
  unfold upc
  by_cases h : b = a
  · rw [if_pos h, h]
  · rw [if_neg h]
theorem up_is {I : mI} {a k : Nat} {v : Int} : up I a k v = upc I a (fun j => if j = k then v else I a j) := by
  funext b j
  unfold up upc
  by_cases h : b = a
  · by_cases h2 : j = k
    · simp [h, h2]
    · simp [h, h2]
  · simp [h]
theorem upc_upc {I : mI} {a : Nat} {f g : Nat → Int} : upc (upc I a f) a g = upc I a g := by
  funext b j
  unfold upc
  by_cases h : b = a <;> simp [h]
/-- the town's cells are as they were -/
theorem TT_upc {I : mI} {t a : Nat} {f : Nat → Int} (ht : isT t) (ha : 41 ≤ a ∨ a = 0) : TT (upc I a f) t = TT I t := by
  funext k j
  unfold TT
  split
  · exact upc_c (by rcases ht with rfl | rfl <;> omega)
  · rfl
theorem SS_upc {I : mI} {s a : Nat} {f : Nat → Int} (h : s + 1 ≠ a) : SS (upc I a f) s = SS I s := by
  funext j
  exact upc_c h
theorem tw_upc {I : mI} {t a : Nat} {f : Nat → Int} (ht : isT t) (ha : 41 ≤ a ∨ a = 0) (hw : tw (TT I t)) : tw (TT (upc I a f) t) := by rw [TT_upc ht ha]; exact hw
/-- all but the scratch rows (the calls had, the formula's values) is as it was -/
def Sc (I J : mI) (t : Nat) : Prop := ∀ b, b ≠ 46 → b ≠ t + 19 → J b = I b
theorem Sc.refl {I : mI} {t : Nat} : Sc I I t := fun _ _ _ => rfl
theorem Sc.trans {I J K : mI} {t : Nat} (h : Sc I J t) (h2 : Sc J K t) : Sc I K t := fun b h4 h5 => (h2 b h4 h5).trans (h b h4 h5)
theorem Sc.tt {I J : mI} {t : Nat} {T : mT} (h : Sc I J t) (ht : isT t) (hT : TT I t = T) : TT J t = T := by
  rw [← hT]
  funext k j
  unfold TT
  split
  · rw [h (t + k) (by rcases ht with rfl | rfl <;> omega) (by omega)]
  · rfl
theorem Sc.ss {I J : mI} {t s : Nat} {S : mS} (h : Sc I J t) (ht : isT t) (hs : isS s) (hS : SS I s = S) : SS J s = S := by
  rw [← hS]
  funext j
  show J (s + 1) j = I (s + 1) j
  rw [h (s + 1) (by rcases hs with rfl | rfl | rfl | rfl | rfl <;> decide) (by rcases ht with rfl | rfl <;> rcases hs with rfl | rfl | rfl | rfl | rfl <;> decide)]
theorem Sc.uc {I : mI} {t : Nat} {f : Nat → Int} : Sc I (upc I 46 f) t := fun b h1 _ => funext fun j => upc_c h1
/-- how often churches were called: a call in a and b -/
def inc2 (f : Nat → Int) (a b : Nat) : Nat → Int := if b = a then (fun j => if j = a then f a + 1 else f j) else (fun j => if j = b then f b + 1 else if j = a then f a + 1 else f j)
def callStep (T : mT) (S : mS) (q : Nat) (s : (Nat → Int) × Nat) : (Nat → Int) × Nat :=
  if S (8 + q) = 0 ∧ ¬ pairAway T q (S 28 + 1) ∧ (s.1 (S (13 + q)).toNat < T 0 16 ∧ s.1 (S (18 + q)).toNat < T 0 16) then (inc2 s.1 (S (13 + q)).toNat (S (18 + q)).toNat, s.2 ||| 2 ^ q) else s
def calledN (T : mT) (S : mS) : Nat → (Nat → Int) × Nat := iterN (callStep T S) (fun _ => 0, 0)
def called (T : mT) (S : mS) : Nat := (calledN T S (nQ T)).2
theorem calledN_y {T : mT} {S : mS} {q : Nat} (h1 : S (8 + q) = 0) (h2 : ¬ pairAway T q (S 28 + 1)) (h3 : (calledN T S q).1 (S (13 + q)).toNat < T 0 16) (h4 : (calledN T S q).1 (S (18 + q)).toNat < T 0 16) : calledN T S (q + 1) = (inc2 (calledN T S q).1 (S (13 + q)).toNat (S (18 + q)).toNat, (calledN T S q).2 ||| 2 ^ q) := if_pos ⟨h1, h2, h3, h4⟩
theorem calledN_n {T : mT} {S : mS} {q : Nat} (h : ¬ (S (8 + q) = 0 ∧ ¬ pairAway T q (S 28 + 1) ∧ ((calledN T S q).1 (S (13 + q)).toNat < T 0 16 ∧ (calledN T S q).1 (S (18 + q)).toNat < T 0 16))) : calledN T S (q + 1) = calledN T S q := if_neg h
theorem calledN_lt (T : mT) (S : mS) : ∀ n, (calledN T S n).2 < 2 ^ n
  | 0 => (by decide : (0 : Nat) < 2 ^ 0)
  | n + 1 => by
    have ih := calledN_lt T S n
    have h2 : 2 ^ n < 2 ^ (n + 1) := Nat.pow_lt_pow_right (by decide) (by omega)
    show (callStep T S n (calledN T S n)).2 < _
    unfold callStep
    split
    · exact or_lt (Nat.lt_trans ih h2) h2
    · exact Nat.lt_trans ih h2
theorem calledN_in (T : mT) (S : mS) : ∀ n j, 0 ≤ (calledN T S n).1 j ∧ (calledN T S n).1 j ≤ n
  | 0, j => by
    show (0 : Int) ≤ 0 ∧ (0 : Int) ≤ 0
    decide
  | n + 1, j => by
    have ih := calledN_in T S n
    show 0 ≤ (callStep T S n (calledN T S n)).1 j ∧ (callStep T S n (calledN T S n)).1 j ≤ (n + 1 : Nat)
    unfold callStep
    have h1 := ih j
    have h2 := ih (S (13 + n)).toNat
    have h3 := ih (S (18 + n)).toNat
    split
    · show 0 ≤ inc2 _ _ _ j ∧ inc2 _ _ _ j ≤ _
      unfold inc2
      split <;> (dsimp only; repeat' split) <;> omega
    · omega
/-- the set of which one more is asked -/
theorem setOf_y {f : Nat → Bool} {n : Nat} (h : f n = true) : setOf f (n + 1) = setOf f n ||| 2 ^ n := by rw [setOf, if_pos h]
theorem setOf_n {f : Nat → Bool} {n : Nat} (h : f n = false) : setOf f (n + 1) = setOf f n := by rw [setOf, h]; simp
theorem wp_none {l : Launch} {G : mG} {μ : mM} {d nf : Nat} {I : mI} {X : mX} {pc : Nat} {ls : List (Option mV)} {st : List mV} {Q : mQ} (k : Nat) (ls' : List (Option mV)) (h : ls.set k none = ls') (kk : WP l G μ d nf I X pc ls' st Q) : WP l G μ d nf I X pc ls st Q := by
  subst h
  refine wp_drop (fun i v hv => ?_) kk
  by_cases e : i = k
  · subst e
    rw [List.getElem?_set] at hv
    simp at hv
  · rw [List.getElem?_set_ne (Ne.symm e)] at hv
    exact hv
