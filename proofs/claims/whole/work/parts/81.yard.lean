/-! THE FORMULA READ: a yard of open signs; (mode, cursor, open, codes, units, depth); modes 0 a unit is due, 1 behind one, 2 done, 3 a fault at the cursor -/
abbrev mYd : Type := Nat × Nat × List Int × List Int × Nat × Nat
def tgt (s : Int) : Nat := if s = 124 then 1 else if s = 38 then 2 else if s = 21 then 3 else if s = 60 ∨ s = 62 ∨ s = 61 then 4 else if s = 43 ∨ s = 45 then 5 else 6
def opc (s : Int) : Int := if s = 21 then -6 else if s = 38 then -7 else if s = 124 then -8 else -s
theorem tgt_in (s : Int) : 1 ≤ tgt s ∧ tgt s ≤ 6 := by
  unfold tgt
  repeat' split
  all_goals decide
def cls (least : Nat) : List Int → List Int → Nat → List Int × List Int × Nat
  | [], out, dp => ([], out, dp)
  | s :: st, out, dp => if s ≠ 20 ∧ least ≤ tgt s then cls least st (opc s :: out) (if s = 21 then dp - 1 else dp) else (s :: st, out, dp)
def hasB : List Int → Bool
  | [] => false
  | s :: st => s == 20 || hasB st
def hasR : List Int → Bool
  | [] => false
  | s :: st => if s = 20 then false else if 4 < tgt s then hasR st else tgt s == 4
def mayN : List Int → Bool
  | [] => true
  | s :: _ => s == 20 || decide (tgt s < 4)
/-- the sign that stands at c, 0 for none -/
noncomputable def sg (b : Nat → Int) (c : Nat) : Int := if wi b c = 4 then 38 else if wi b c = 15 then 124 else if ts b c = 60 ∨ ts b c = 62 ∨ ts b c = 61 ∨ ts b c = 43 ∨ ts b c = 45 ∨ ts b c = 42 ∨ ts b c = 47 ∨ ts b c = 37 then ts b c else 0
/-- the code of the unit that stands at c, -1 for none -/
noncomputable def lfc (b : Nat → Int) (c : Nat) : Int := if ts b c = 2 then tn b c else if wi b c = 17 then -2 else if wi b c = 18 then -3 else if wi b c = 19 then -4 else if wi b c = 20 then -5 else -1
noncomputable def stU (b : Nat → Int) (c : Nat) (st out : List Int) (un dp : Nat) : mYd :=
  if wi b c = 16 ∧ mayN st = true then (if 6 < dp then (3, c, st, out, un, dp) else (0, te b c, 21 :: st, out, un, dp + 1))
  else if ts b c = 40 then (if 30 ≤ un ∨ 6 < dp then (3, c, st, out, un, dp) else (0, te b c, 20 :: st, out, un + 1, dp + 1))
  else if lfc b c = -1 ∨ 30 ≤ un then (3, c, st, out, un, dp)
  else (1, te b c, st, lfc b c :: out, un + 1, dp)
noncomputable def stA (b : Nat → Int) (c : Nat) (st out : List Int) (un dp : Nat) : mYd :=
  if ts b c = 41 ∧ hasB st = true then (1, te b c, (cls 0 st out dp).1.tail, (cls 0 st out dp).2.1, un, (cls 0 st out dp).2.2 - 1)
  else if sg b c ≠ 0 ∧ ¬ (tgt (sg b c) = 4 ∧ hasR st = true) then (0, te b c, sg b c :: (cls (tgt (sg b c)) st out dp).1, (cls (tgt (sg b c)) st out dp).2.1, un, (cls (tgt (sg b c)) st out dp).2.2)
  else if hasB st = true then (3, c, st, out, un, dp)
  else (2, c, [], (cls 0 st out dp).2.1, un, 0)
noncomputable def stp (b : Nat → Int) (s : mYd) : mYd := if s.1 = 0 then stU b s.2.1 s.2.2.1 s.2.2.2.1 s.2.2.2.2.1 s.2.2.2.2.2 else if s.1 = 1 then stA b s.2.1 s.2.2.1 s.2.2.2.1 s.2.2.2.2.1 s.2.2.2.2.2 else s
noncomputable def itn (b : Nat → Int) : Nat → mYd → mYd
  | 0, s => s
  | n + 1, s => itn b n (stp b s)
def RS (b : Nat → Int) (s s' : mYd) : Prop := ∃ n, itn b n s = s'
theorem itn_add (b : Nat → Int) : ∀ n m s, itn b (n + m) s = itn b m (itn b n s)
  | 0, m, s => by rw [Nat.zero_add]; rfl
  | n + 1, m, s => by rw [show n + 1 + m = (n + m) + 1 by omega]; exact itn_add b n m (stp b s)
theorem RS.refl {b : Nat → Int} {s : mYd} : RS b s s := ⟨0, rfl⟩
theorem RS.trans {b : Nat → Int} {s t u : mYd} (h : RS b s t) (h2 : RS b t u) : RS b s u := by
  obtain ⟨n, hn⟩ := h
  obtain ⟨m, hm⟩ := h2
  exact ⟨n + m, by rw [itn_add, hn]; exact hm⟩
theorem RS.one {b : Nat → Int} {s t : mYd} (h : stp b s = t) : RS b s t := ⟨1, h⟩
def flu : List Int → List Int → List Int
  | [], o => o
  | s :: P, o => flu P (opc s :: o)
def nts : List Int → Nat
  | [] => 0
  | s :: P => (if s = 21 then 1 else 0) + nts P
theorem flu_app (P R : List Int) : ∀ o, flu (P ++ R) o = flu R (flu P o) := by
  induction P with
  | nil => intro o; rfl
  | cons s P ih => intro o; exact ih (opc s :: o)
theorem nts_app (P R : List Int) : nts (P ++ R) = nts P + nts R := by
  induction P with
  | nil => rw [List.nil_append]; show _ = 0 + _; omega
  | cons s P ih => show (if s = 21 then 1 else 0) + nts (P ++ R) = (if s = 21 then 1 else 0) + nts P + nts R; omega
/-- what closes: all above K, tight enough -/
def aP (l : Nat) (P : List Int) : Prop := ∀ s ∈ P, s ≠ 20 ∧ l ≤ tgt s
/-- K's top holds against l -/
def okK (l : Nat) (K : List Int) : Prop := match K with
  | [] => True
  | s :: _ => s = 20 ∨ tgt s < l
theorem aP_app {l : Nat} {P R : List Int} (h : aP l P) (h2 : aP l R) : aP l (P ++ R) := fun s hs => (List.mem_append.mp hs).elim (h s) (h2 s)
theorem aP_mono {l k : Nat} {P : List Int} (h : aP k P) (hl : l ≤ k) : aP l P := fun s hs => ⟨(h s hs).1, Nat.le_trans hl (h s hs).2⟩
theorem okK_mono {l k : Nat} {K : List Int} (h : okK l K) (hl : l ≤ k) : okK k K := by
  match K, h with
  | [], _ => trivial
  | s :: _, h => exact h.imp id (fun z => Nat.lt_of_lt_of_le z hl)
theorem cls_stop {l : Nat} {K o : List Int} {dp : Nat} (h : okK l K) : cls l K o dp = (K, o, dp) := by
  match K, h with
  | [], _ => rfl
  | s :: K, h =>
    unfold cls
    rw [if_neg]
    rintro ⟨h1, h2⟩
    rcases h with h | h
    · exact h1 h
    · omega
theorem cls_all {l : Nat} {K : List Int} : ∀ (P o : List Int) (dp : Nat), aP l P → okK l K → cls l (P ++ K) o (dp + nts P) = (K, flu P o, dp)
  | [], o, dp, _, hK => cls_stop hK
  | s :: P, o, dp, hP, hK => by
    have h1 := hP s List.mem_cons_self
    show (if s ≠ 20 ∧ l ≤ tgt s then cls l (P ++ K) (opc s :: o) (if s = 21 then dp + nts (s :: P) - 1 else dp + nts (s :: P)) else _) = _
    rw [if_pos h1]
    have e : (if s = 21 then dp + nts (s :: P) - 1 else dp + nts (s :: P)) = dp + nts P := by
      show (if s = 21 then dp + ((if s = 21 then 1 else 0) + nts P) - 1 else dp + ((if s = 21 then 1 else 0) + nts P)) = _
      split <;> omega
    rw [e]
    exact cls_all P (opc s :: o) dp (fun x hx => hP x (List.mem_cons_of_mem _ hx)) hK
theorem hasB_app (P K : List Int) : hasB (P ++ K) = (hasB P || hasB K) := by
  induction P with
  | nil => rfl
  | cons s P ih => show (s == 20 || hasB (P ++ K)) = (s == 20 || hasB P || hasB K); rw [ih, Bool.or_assoc]
theorem hasB_aP {l : Nat} : ∀ (P : List Int), aP l P → hasB P = false
  | [], _ => rfl
  | s :: P, h => by
    show (s == 20 || hasB P) = false
    rw [hasB_aP P (fun x hx => h x (List.mem_cons_of_mem _ hx)), show (s == 20) = false from beq_eq_false_iff_ne.mpr (h s List.mem_cons_self).1]
    rfl
theorem hasR_skip {K : List Int} : ∀ (P : List Int), aP 5 P → hasR (P ++ K) = hasR K
  | [], _ => rfl
  | s :: P, h => by
    have h1 := h s List.mem_cons_self
    show (if s = 20 then false else if 4 < tgt s then hasR (P ++ K) else tgt s == 4) = _
    rw [if_neg h1.1, if_pos (by omega)]
    exact hasR_skip P (fun x hx => h x (List.mem_cons_of_mem _ hx))
theorem hasR_ok {K : List Int} (h : okK 4 K) : hasR K = false := by
  match K, h with
  | [], _ => rfl
  | s :: K, h =>
    show (if s = 20 then false else if 4 < tgt s then hasR K else tgt s == 4) = false
    rcases h with h | h
    · rw [if_pos h]
    · split
      · rfl
      · rw [if_neg (by omega)]
        exact beq_eq_false_iff_ne.mpr (by omega)
theorem mayN_ok {K : List Int} (h : okK 4 K) : mayN K = true := by
  match K, h with
  | [], _ => rfl
  | s :: K, h =>
    show (s == 20 || decide (tgt s < 4)) = true
    rcases h with h | h
    · rw [h]; rfl
    · rw [decide_eq_true h, Bool.or_true]
/-- behind an operand no sign of tightness x or more goes on -/
def EX (b : Nat → Int) (x : Nat) (c : Nat) (S : List Int) : Prop := sg b c = 0 ∨ tgt (sg b c) < x ∨ (tgt (sg b c) = 4 ∧ hasR S = true)
/-! codes in the order of their doing -/
def oat : List Int → Nat → Int
  | [], _ => 0
  | x :: xs, k => if k = xs.length then x else oat xs k
def dl : List Int → Nat
  | [] => 0
  | x :: xs => dpS x (dl xs)
def gdl : List Int → Prop
  | [] => True
  | x :: xs => gdl xs ∧ ((-5 ≤ x ∧ dl xs < 40) ∨ (x = -6 ∧ 0 < dl xs) ∨ (x < -6 ∧ 1 < dl xs))
/-- a part of the formula was read from (c, out, un) to (c', out', un') at the depth dep -/
def OKx (b : Nat → Int) (m l x : Nat) (nt : Bool) (w dep c : Nat) (out : List Int) (un c' : Nat) (out' : List Int) (un' : Nat) : Prop :=
  (c < c' ∧ un < un' ∧ un' ≤ 30 ∧ out'.length + w + 9 * un ≤ out.length + 9 * un' ∧ (gdl out → dl out ≤ un → gdl out' ∧ dl out' = dl out + 1)) ∧
  ∀ K, okK m K → (nt = true → wi b c = 16 → mayN K = false) → ∃ P o0, aP l P ∧ RS b (0, c, K, out, un, dep) (1, c', P ++ K, o0, un', dep + nts P) ∧ flu P o0 = out' ∧ EX b x c' (P ++ K)
def BADx (b : Nat → Int) (m : Nat) (nt : Bool) (dep c : Nat) (out : List Int) (un c' : Nat) : Prop :=
  ∀ K, okK m K → (nt = true → wi b c = 16 → mayN K = false) → ∃ st o u dp, RS b (0, c, K, out, un, dep) (3, c', st, o, u, dp)
theorem sg_in (b : Nat → Int) (c : Nat) : sg b c = 0 ∨ sg b c = 38 ∨ sg b c = 124 ∨ sg b c = 60 ∨ sg b c = 62 ∨ sg b c = 61 ∨ sg b c = 43 ∨ sg b c = 45 ∨ sg b c = 42 ∨ sg b c = 47 ∨ sg b c = 37 := by
  unfold sg
  split
  · exact Or.inr (Or.inl rfl)
  · split
    · exact Or.inr (Or.inr (Or.inl rfl))
    · split
      · next z => rcases z with z | z | z | z | z | z | z | z <;> rw [z] <;> decide
      · exact Or.inl rfl
theorem sg_op {b : Nat → Int} {c : Nat} (h : sg b c ≠ 0) : opc (sg b c) < -6 ∧ tgt (sg b c) ≠ 3 ∧ sg b c ≠ 20 ∧ sg b c ≠ 21 := by
  rcases sg_in b c with z | z | z | z | z | z | z | z | z | z | z
  · exact absurd z h
  all_goals (rw [z]; decide)
section YARD
variable {b : Nat → Int} {m l x w dep c un c' un' : Nat} {nt : Bool} {out out' : List Int}
theorem stp_0 {st o : List Int} {u dp : Nat} : stp b (0, c, st, o, u, dp) = stU b c st o u dp := by unfold stp; rw [if_pos rfl]
theorem stp_1 {st o : List Int} {u dp : Nat} : stp b (1, c, st, o, u, dp) = stA b c st o u dp := by unfold stp; rw [if_neg (show ¬ (1 : Nat) = 0 by decide), if_pos rfl]
/-- behind an operand, a sign s that is no tighter than what is open above K -/
theorem ok_sign {P K o0 : List Int} {s : Int} (hP : aP l P) (hK : okK l K) (hs : sg b c' = s) (hz : s ≠ 0) (ht : tgt s = l) (hr : ¬ (tgt s = 4 ∧ hasR (P ++ K) = true)) : stp b (1, c', P ++ K, o0, un', dep + nts P) = (0, te b c', s :: K, flu P o0, un', dep) := by
  rw [stp_1]
  unfold stA
  have h41 : ¬ (ts b c' = 41 ∧ hasB (P ++ K) = true) := by
    rintro ⟨h1, -⟩
    unfold sg at hs
    split at hs
    · next z => have := @wi_ts b c' (by omega); omega
    · split at hs
      · next z => have := @wi_ts b c' (by omega); omega
      · split at hs
        · omega
        · exact hz hs.symm
  rw [if_neg h41, hs, if_pos ⟨hz, hr⟩, ht, cls_all P o0 dep hP hK]
/-- an operand, a sign, another operand -/
theorem ok_bin {lf m2 l2 x2 x3 w2 : Nat} {nt2 : Bool} {c2 un2 : Nat} {out2 : List Int} {s : Int} (h : OKx b m lf x nt w dep c out un c' out' un') (hf : l ≤ lf) (hm : m ≤ l) (hs : sg b c' = s) (hz : s ≠ 0) (ht : tgt s = l) (hr : ∀ P K, aP lf P → okK m K → ¬ (tgt s = 4 ∧ hasR (P ++ K) = true)) (hlt : c' < te b c')
    (h2 : OKx b m2 l2 x2 nt2 w2 dep (te b c') out' un' c2 out2 un2) (hm2 : l < m2) (hl2 : l ≤ l2) (hn2 : nt2 = true → 4 ≤ tgt s) (hw2 : 1 ≤ w2) (hx : ∀ P2 K, aP l2 P2 → EX b x2 c2 (P2 ++ s :: K) → EX b x3 c2 (P2 ++ s :: K)) : OKx b m l x3 nt w dep c out un c2 (opc s :: out2) un2 := by
  have so := sg_op (b := b) (c := c') (by rw [hs]; exact hz)
  rw [hs] at so
  have h20 := so.2.2.1
  have h21 := so.2.2.2
  obtain ⟨⟨a1, a2, a3, a4, a5⟩, ha⟩ := h
  obtain ⟨⟨b1, b2, b3, b4, b5⟩, hb⟩ := h2
  refine ⟨⟨by omega, by omega, b3, ?_, fun g1 g2 => ?_⟩, fun K hK hn => ?_⟩
  · rw [List.length_cons]; omega
  · have z1 := a5 g1 g2
    have z2 := b5 z1.1 (by omega)
    have e : opc s < -6 := so.1
    refine ⟨⟨z2.1, Or.inr (Or.inr ⟨e, by omega⟩)⟩, ?_⟩
    show dpS (opc s) (dl out2) = _
    unfold dpS
    rw [if_neg (by omega), if_neg (by omega), if_pos (by omega)]
    omega
  · obtain ⟨P, o0, p1, p2, p3, p4⟩ := ha K hK hn
    have st := ok_sign (un' := un') (o0 := o0) (dep := dep) (aP_mono p1 hf) (okK_mono hK hm) hs hz ht (hr P K p1 hK)
    rw [p3] at st
    obtain ⟨P2, o2, q1, q2, q3, q4⟩ := hb (s :: K) (Or.inr (by omega)) (fun z _ => by
      show (s == 20 || decide (tgt s < 4)) = false
      rw [show (s == 20) = false from beq_eq_false_iff_ne.mpr h20, decide_eq_false (by have := hn2 z; omega)]; rfl)
    refine ⟨P2 ++ [s], o2, aP_app (aP_mono q1 hl2) (fun y hy => by rw [List.mem_singleton.mp hy]; exact ⟨h20, by omega⟩), ?_, ?_, ?_⟩
    · have e1 : P2 ++ [s] ++ K = P2 ++ s :: K := by rw [List.append_assoc]; rfl
      have e2 : nts (P2 ++ [s]) = nts P2 := by rw [nts_app]; show nts P2 + ((if s = 21 then 1 else 0) + 0) = _; rw [if_neg h21]; omega
      rw [e1, e2]
      exact (p2.trans (RS.one st)).trans q2
    · rw [flu_app, q3]; rfl
    · rw [List.append_assoc]; exact hx P2 K q1 q4
/-- .. and no other operand -/
theorem bad_bin {lf m2 : Nat} {nt2 : Bool} {c2 : Nat} {s : Int} (h : OKx b m lf x nt w dep c out un c' out' un') (hf : l ≤ lf) (hm : m ≤ l) (hs : sg b c' = s) (hz : s ≠ 0) (ht : tgt s = l) (hr : ∀ P K, aP lf P → okK m K → ¬ (tgt s = 4 ∧ hasR (P ++ K) = true))
    (h2 : BADx b m2 nt2 dep (te b c') out' un' c2) (hm2 : l < m2) (hn2 : nt2 = true → 4 ≤ tgt s) : BADx b m nt dep c out un c2 := by
  have so := sg_op (b := b) (c := c') (by rw [hs]; exact hz)
  rw [hs] at so
  have h20 := so.2.2.1
  intro K hK hn
  obtain ⟨P, o0, p1, p2, p3, p4⟩ := h.2 K hK hn
  have st := ok_sign (un' := un') (o0 := o0) (dep := dep) (aP_mono p1 hf) (okK_mono hK hm) hs hz ht (hr P K p1 hK)
  rw [p3] at st
  obtain ⟨st2, o, u, dp, q⟩ := h2 (s :: K) (Or.inr (by omega)) (fun z _ => by
    show (s == 20 || decide (tgt s < 4)) = false
    rw [show (s == 20) = false from beq_eq_false_iff_ne.mpr h20, decide_eq_false (by have := hn2 z; omega)]; rfl)
  exact ⟨st2, o, u, dp, (p2.trans (RS.one st)).trans q⟩
theorem ok_mono {l2 x2 w2 m2 : Nat} {nt2 : Bool} (h : OKx b m l x nt w dep c out un c' out' un') (hm : m2 ≤ m) (hl : l2 ≤ l) (hw : w2 ≤ w) (hn : nt = true → nt2 = true ∨ ¬ wi b c = 16) (hx : ∀ P K, okK m2 K → aP l P → EX b x c' (P ++ K) → EX b x2 c' (P ++ K)) : OKx b m2 l2 x2 nt2 w2 dep c out un c' out' un' := by
  obtain ⟨⟨a1, a2, a3, a4, a5⟩, ha⟩ := h
  refine ⟨⟨a1, a2, a3, by omega, a5⟩, fun K hK hn2 => ?_⟩
  obtain ⟨P, o0, p1, p2, p3, p4⟩ := ha K (okK_mono hK hm) (fun z y => (hn z).elim (fun q => hn2 q y) (fun q => absurd y q))
  exact ⟨P, o0, aP_mono p1 hl, p2, p3, hx P K hK p1 p4⟩
theorem bad_mono {m2 : Nat} {nt2 : Bool} (h : BADx b m nt dep c out un c') (hm : m2 ≤ m) (hn : nt = true → nt2 = true ∨ ¬ wi b c = 16) : BADx b m2 nt2 dep c out un c' := fun K hK hn2 => h K (okK_mono hK hm) (fun z y => (hn z).elim (fun q => hn2 q y) (fun q => absurd y q))
/-- a not -/
theorem ok_not (hn : wi b c = 16) (hd : dep < 7) (hlt : c < te b c) (h : OKx b 4 3 4 false (1 + (dep + 1)) (dep + 1) (te b c) out un c' out' un') : OKx b 4 3 4 false (1 + dep) dep c out un c' (-6 :: out') un' := by
  obtain ⟨⟨a1, a2, a3, a4, a5⟩, ha⟩ := h
  refine ⟨⟨by omega, a2, a3, by rw [List.length_cons]; omega, fun g1 g2 => ?_⟩, fun K hK _ => ?_⟩
  · have z := a5 g1 g2
    refine ⟨⟨z.1, Or.inr (Or.inl ⟨rfl, by omega⟩)⟩, ?_⟩
    show dpS (-6) (dl out') = _
    unfold dpS
    rw [if_neg (by omega), if_pos ⟨rfl, by omega⟩]
    exact z.2
  · obtain ⟨P, o0, p1, p2, p3, p4⟩ := ha (21 :: K) (Or.inr (by decide)) (fun z => absurd z (by decide))
    have st : stp b (0, c, K, out, un, dep) = (0, te b c, 21 :: K, out, un, dep + 1) := by
      rw [stp_0]; unfold stU; rw [if_pos ⟨hn, mayN_ok hK⟩, if_neg (by omega)]
    refine ⟨P ++ [21], o0, aP_app p1 (fun y hy => by rw [List.mem_singleton.mp hy]; decide), ?_, by rw [flu_app, p3]; rfl, by rw [List.append_assoc]; exact p4⟩
    have e1 : P ++ [21] ++ K = P ++ 21 :: K := by rw [List.append_assoc]; rfl
    have e2 : dep + nts (P ++ [21]) = dep + 1 + nts P := by rw [nts_app]; show dep + (nts P + (1 + 0)) = _; omega
    rw [e1, e2]
    exact (RS.one st).trans p2
theorem bad_not (hn : wi b c = 16) (hd : dep < 7) (h : BADx b 4 false (dep + 1) (te b c) out un c') : BADx b 4 false dep c out un c' := by
  intro K hK _
  obtain ⟨st2, o, u, dp, q⟩ := h (21 :: K) (Or.inr (by decide)) (fun z => absurd z (by decide))
  have st : stp b (0, c, K, out, un, dep) = (0, te b c, 21 :: K, out, un, dep + 1) := by
    rw [stp_0]; unfold stU; rw [if_pos ⟨hn, mayN_ok hK⟩, if_neg (by omega)]
  exact ⟨st2, o, u, dp, (RS.one st).trans q⟩
theorem bad_deep (hn : wi b c = 16) (hd : 7 ≤ dep) : BADx b 4 false dep c out un c := by
  intro K hK _
  refine ⟨K, out, un, dep, RS.one ?_⟩
  rw [stp_0]; unfold stU; rw [if_pos ⟨hn, mayN_ok hK⟩, if_pos (by omega)]
/-- a unit that is none -/
theorem bad_unit (h : (lfc b c = -1 ∧ ts b c ≠ 40) ∨ 30 ≤ un ∨ (ts b c = 40 ∧ 7 ≤ dep)) (h40 : ts b c = 40 → lfc b c = -1) : BADx b 7 true dep c out un c := by
  intro K hK hn
  refine ⟨K, out, un, dep, RS.one ?_⟩
  rw [stp_0]; unfold stU
  rw [if_neg (fun z => by have := hn rfl z.1; rw [z.2] at this; exact absurd this (by decide))]
  split
  · next z => rw [if_pos (by omega)]
  · next z => rw [if_pos (by omega)]
theorem ok_leaf (h : lfc b c ≠ -1) (hu : un < 30) (h40 : ts b c ≠ 40) (hc : -5 ≤ lfc b c) (hlt : c < te b c) : OKx b 7 7 7 true 8 dep c out un (te b c) (lfc b c :: out) (un + 1) := by
  refine ⟨⟨hlt, by omega, by omega, by rw [List.length_cons]; omega, fun g1 g2 => ?_⟩, fun K hK hn => ?_⟩
  · refine ⟨⟨g1, Or.inl ⟨hc, by omega⟩⟩, ?_⟩
    show dpS (lfc b c) (dl out) = _
    unfold dpS
    rw [if_pos ⟨hc, by omega⟩]
  · refine ⟨[], lfc b c :: out, fun s hs => absurd hs List.not_mem_nil, RS.one ?_, rfl, ?_⟩
    · rw [stp_0]; unfold stU
      rw [if_neg (fun z => by have := hn rfl z.1; rw [z.2] at this; exact absurd this (by decide)), if_neg h40, if_neg (by omega)]
      rfl
    · have := tgt_in (sg b (te b c))
      exact Or.inr (Or.inl (by omega))
theorem stp_open {K : List Int} (h40 : ts b c = 40) (hu : un < 30) (hd : dep < 7) : stp b (0, c, K, out, un, dep) = (0, te b c, 20 :: K, out, un + 1, dep + 1) := by
  rw [stp_0]; unfold stU
  rw [if_neg (fun z => by have := @wi_ts b c (by omega); omega), if_pos h40, if_neg (by omega)]
theorem ok_brac (h40 : ts b c = 40) (hu : un < 30) (hd : dep < 7) (h : OKx b 1 1 1 false 1 (dep + 1) (te b c) out (un + 1) c' out' un') (h41 : ts b c' = 41) (hlt : c < te b c) (hlt2 : c' < te b c') : OKx b 7 7 7 true 8 dep c out un (te b c') out' un' := by
  obtain ⟨⟨a1, a2, a3, a4, a5⟩, ha⟩ := h
  refine ⟨⟨by omega, by omega, a3, by omega, fun g1 g2 => a5 g1 (by omega)⟩, fun K hK hn => ?_⟩
  obtain ⟨P, o0, p1, p2, p3, p4⟩ := ha (20 :: K) (Or.inl rfl) (fun z => absurd z (by decide))
  refine ⟨[], out', fun s hs => absurd hs List.not_mem_nil, ?_, rfl, Or.inr (Or.inl (by have := tgt_in (sg b (te b c')); omega))⟩
  refine ((RS.one (stp_open h40 hu hd)).trans p2).trans (RS.one ?_)
  rw [stp_1]; unfold stA
  have hB : hasB (P ++ 20 :: K) = true := by rw [hasB_app]; show (hasB P || (20 == (20 : Int) || hasB K)) = true; rw [show ((20 : Int) == 20) = true from rfl, Bool.true_or, Bool.or_true]
  rw [if_pos ⟨h41, hB⟩, cls_all (l := 0) (K := 20 :: K) P o0 (dep + 1) (aP_mono p1 (by omega)) (Or.inl rfl), p3]
  rfl
theorem bad_brac1 (h40 : ts b c = 40) (hu : un < 30) (hd : dep < 7) (h : BADx b 1 false (dep + 1) (te b c) out (un + 1) c') : BADx b 7 true dep c out un c' := by
  intro K hK hn
  obtain ⟨st2, o, u, dp, q⟩ := h (20 :: K) (Or.inl rfl) (fun z => absurd z (by decide))
  exact ⟨st2, o, u, dp, (RS.one (stp_open h40 hu hd)).trans q⟩
theorem bad_brac2 (h40 : ts b c = 40) (hu : un < 30) (hd : dep < 7) (h : OKx b 1 1 1 false 1 (dep + 1) (te b c) out (un + 1) c' out' un') (h41 : ¬ ts b c' = 41) : BADx b 7 true dep c out un c' := by
  intro K hK hn
  obtain ⟨P, o0, p1, p2, p3, p4⟩ := h.2 (20 :: K) (Or.inl rfl) (fun z => absurd z (by decide))
  refine ⟨P ++ 20 :: K, o0, un', dep + 1 + nts P, ((RS.one (stp_open h40 hu hd)).trans p2).trans (RS.one ?_)⟩
  rw [stp_1]; unfold stA
  have hB : hasB (P ++ 20 :: K) = true := by rw [hasB_app]; show (hasB P || (20 == (20 : Int) || hasB K)) = true; rw [show ((20 : Int) == 20) = true from rfl, Bool.true_or, Bool.or_true]
  rw [if_neg (fun z => h41 z.1), if_neg (fun z => ?_), if_pos hB]
  have := tgt_in (sg b c')
  rcases p4 with q | q | q
  · exact z.1 q
  · omega
  · exact z.2 q
/-- the whole formula -/
theorem ok_done (h : OKx b 1 1 1 false 1 0 c [] 0 c' out' un') : RS b (0, c, [], [], 0, 0) (2, c', [], out', un', 0) := by
  obtain ⟨P, o0, p1, p2, p3, p4⟩ := h.2 [] trivial (fun z => absurd z (by decide))
  refine p2.trans (RS.one ?_)
  have hB : hasB (P ++ []) = false := by rw [List.append_nil]; exact hasB_aP P p1
  rw [stp_1]; unfold stA
  rw [if_neg (fun z => by rw [hB] at z; exact absurd z.2 (by decide)), if_neg (fun z => ?_), if_neg (by rw [hB]; decide), cls_all (l := 0) (K := []) P o0 0 (aP_mono p1 (by omega)) trivial, p3]
  have := tgt_in (sg b c')
  rcases p4 with q | q | q
  · exact z.1 q
  · omega
  · exact z.2 q
end YARD
