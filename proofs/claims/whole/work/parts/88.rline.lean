/-! THE REFERENCE while it reads: what was told so far is T and N -/
def bitI (mo k : Nat) : Int := if mo.testBit k = true then 1 else 0
theorem bitI_in (mo k : Nat) : 0 ≤ bitI mo k ∧ bitI mo k ≤ 1 := by unfold bitI; split <;> decide
theorem bitI_0 {mo k : Nat} : bitI mo k = 0 ↔ ¬ mo.testBit k = true := by
  unfold bitI
  split
  · next h => exact ⟨fun z => absurd z (by decide), fun z => absurd h z⟩
  · next h => exact ⟨fun _ => h, fun _ => rfl⟩
def rnC (I : mI) (T : mT) (mo : Nat) : Prop := I 111 42 = T 0 11 ∧ I 111 43 = T 0 12 ∧ I 111 44 = T 0 13 ∧ I 111 45 = ((kcN (T 13) 8 : Nat) : Int) ∧ I 111 46 = ((kcN (T 5) 8 : Nat) : Int) ∧ I 111 47 = T 0 15 ∧ I 111 48 = T 0 16 ∧ I 111 49 = T 0 17 ∧ I 111 55 = bitI mo 11 ∧ I 111 56 = bitI mo 12 ∧ I 111 57 = bitI mo 13 ∧ I 111 58 = bitI mo 14 ∧ I 111 20 = T 17 3
def rnW (I : mI) (T : mT) (p : Nat) : Prop := I 121 p = T 3 p ∧ I 122 (2 * p) = T 11 p ∧ I 122 (2 * p + 1) = T 12 p ∧ I 123 p = T 4 p ∧ I 124 p = T 13 p ∧ I 125 p = T 5 p ∧ I 136 p = vowB T p
def rnQ (I : mI) (T : mT) (q : Nat) : Prop := I 126 q = T 6 q ∧ I 127 q = T 7 q ∧ I 128 (2 * q) = T 8 q ∧ I 128 (2 * q + 1) = T 9 q
def rnF (I : mI) (T : mT) (mo : Nat) : Prop := mo.testBit 11 = true → I 111 17 = T 17 2 ∧ ∀ k, k < (T 17 2).toNat → codeR (I 114 k) (I 115 k) (T 18 k)
def rnN (M : Nat → Nat → Int) (T N : mT) : Prop := (∀ j, inL (M 113 j)) ∧ (∀ k, k < nC T → nmR (N 0 k) (M 113 k)) ∧ (∀ k, k < nP T → nmR (N 1 k) (M 113 (4 + k)))
def RN (I : mI) (M : Nat → Nat → Int) (T N : mT) (mo : Nat) : Prop := rnC I T mo ∧ (∀ p, p < nP T → rnW I T p) ∧ (∀ q, q < nQ T → rnQ I T q) ∧ rnF I T mo ∧ rnN M T N
def RD (I : mI) (M : Nat → Nat → Int) (b g : Nat → Int) (n c : Nat) (T N : mT) (mo : Nat) : Prop := RBk I b g n ∧ c ≤ n ∧ TKR I M b c ∧ (I 111 2 = 0 ∧ I 111 3 = -1) ∧ RN I M T N mo ∧ tw T ∧ dst (N 0) (nC T) ∧ dst (N 1) (nP T)
def RE (I : mI) (e : Int × Int) : Prop := I 111 2 = e.1 ∧ I 111 3 = e.2 ∧ 0 < e.1 ∧ e.1 ≤ 5
def rnCell (b : Nat) : Prop := b = 111 ∨ (113 ≤ b ∧ b ≤ 115) ∨ b = 118 ∨ (121 ≤ b ∧ b ≤ 128) ∨ b = 136
def rnSlot (j : Nat) : Prop := (2 ≤ j ∧ j ≤ 4) ∨ (6 ≤ j ∧ j ≤ 8) ∨ j = 17 ∨ j = 19 ∨ j = 20 ∨ j = 22 ∨ j = 23 ∨ (42 ≤ j ∧ j ≤ 49) ∨ (55 ≤ j ∧ j ≤ 58)
def Fn (I J : mI) : Prop := (∀ b, ¬ rnCell b → J b = I b) ∧ ∀ j, ¬ rnSlot j → J 111 j = I 111 j
def Ln (L M : Nat → Nat → Int) : Prop := ∀ a, a ≠ 111 → a ≠ 113 → M a = L a
theorem Fn.refl {I : mI} : Fn I I := ⟨fun _ _ => rfl, fun _ _ => rfl⟩
theorem Ln.refl {L : Nat → Nat → Int} : Ln L L := fun _ _ _ => rfl
theorem Fn.trans {I J K : mI} (h : Fn I J) (h2 : Fn J K) : Fn I K := ⟨fun b g => (h2.1 b g).trans (h.1 b g), fun j a => (h2.2 j a).trans (h.2 j a)⟩
theorem Ln.trans {L K M : Nat → Nat → Int} (h : Ln L K) (h2 : Ln K M) : Ln L M := fun a g g2 => (h2 a g g2).trans (h a g g2)
theorem Fb.n {I J : mI} (h : Fb I J) : Fn I J := ⟨fun b g => h.1 b (fun e => g (Or.inl e)), fun j g => h.2 j (fun e => g (by unfold rnSlot; omega)) (fun e => g (by unfold rnSlot; omega)) (fun e => g (by unfold rnSlot; omega)) (fun e => g (by unfold rnSlot; omega))⟩
theorem Lb.n {L M : Nat → Nat → Int} (h : Lb L M) : Ln L M := fun a g _ => h a g
theorem Fn.wr {I J : mI} {a j : Nat} {v : Int} (h : Fn I J) (ha : a = 111 ∧ rnSlot j ∨ a ≠ 111 ∧ rnCell a) : Fn I (up J a j v) := by
  refine ⟨fun b g => (funext fun k => up_c (fun e => g ?_)).trans (h.1 b g), fun k g => Eq.trans ?_ (h.2 k g)⟩
  · rw [e]; rcases ha with z | z
    · exact Or.inl z.1
    · exact z.2
  · unfold up
    refine if_neg (fun z => ?_)
    rcases ha with y | y
    · exact g (z.2 ▸ y.2)
    · exact y.1 z.1.symm
theorem Ln.wr {L M : Nat → Nat → Int} {j : Nat} {v : Int} (h : Ln L M) : Ln L (upL M 113 j v) := fun a g g2 => (funext fun k => if_neg (fun z => g2 z.1)).trans (h a g g2)
/-- all but what a fault and token() write is as it was -/
def Fe (I J : mI) : Prop := (∀ b, b ≠ 111 → J b = I b) ∧ ∀ j, j ≠ 2 → j ≠ 3 → j ≠ 4 → j ≠ 6 → j ≠ 7 → j ≠ 8 → J 111 j = I 111 j
theorem Fe.n {I J : mI} (h : Fe I J) : Fn I J := ⟨fun b g => h.1 b (fun e => g (Or.inl e)), fun j g => by unfold rnSlot at g; exact h.2 j (by omega) (by omega) (by omega) (by omega) (by omega) (by omega)⟩
theorem Fb.te {I J K : mI} (h : Fb I J) (h2 : Fe J K) : Fe I K := ⟨fun b g => (h2.1 b g).trans (h.1 b g), fun j a0 a00 a1 a2 a3 a4 => (h2.2 j a0 a00 a1 a2 a3 a4).trans (h.2 j a1 a2 a3 a4)⟩
theorem Fe.bad {I : mI} {x y : Int} : Fe I (up (up I 111 2 x) 111 3 y) := ⟨fun b g => funext fun k => (up_c g).trans (up_c g), fun j a b _ _ _ _ => (up_j b).trans (up_j a)⟩
theorem Fn.tb {I J : mI} {b g : Nat → Int} {n : Nat} (h : Fn I J) (hB : RBk I b g n) : RBk J b g n := ⟨hB.1, by rw [h.1 112 (by unfold rnCell; omega)]; exact hB.2.1, (h.2 5 (by unfold rnSlot; omega)).trans hB.2.2.1, hB.2.2.2⟩
theorem bad_pos {b : Nat → Int} {c : Nat} {f : Int} (h : 0 < f ∧ f ≤ 5) : 0 < (bad b c f).1 ∧ (bad b c f).1 ≤ 5 := by
  show 0 < (if ts b c = 3 then 1 else f) ∧ (if ts b c = 3 then 1 else f) ≤ 5
  split <;> omega
section RDF
variable {I J : mI} {L M : Nat → Nat → Int} {b g : Nat → Int} {n c : Nat} {T N : mT} {mo : Nat}
theorem RD.f42 (h : RD I L b g n c T N mo) : I 111 42 = T 0 11 := h.2.2.2.2.1.1.1
theorem RD.f43 (h : RD I L b g n c T N mo) : I 111 43 = T 0 12 := h.2.2.2.2.1.1.2.1
theorem RD.f44 (h : RD I L b g n c T N mo) : I 111 44 = T 0 13 := h.2.2.2.2.1.1.2.2.1
theorem RD.f45 (h : RD I L b g n c T N mo) : I 111 45 = ((kcN (T 13) 8 : Nat) : Int) := h.2.2.2.2.1.1.2.2.2.1
theorem RD.f46 (h : RD I L b g n c T N mo) : I 111 46 = ((kcN (T 5) 8 : Nat) : Int) := h.2.2.2.2.1.1.2.2.2.2.1
theorem RD.f47 (h : RD I L b g n c T N mo) : I 111 47 = T 0 15 := h.2.2.2.2.1.1.2.2.2.2.2.1
theorem RD.f48 (h : RD I L b g n c T N mo) : I 111 48 = T 0 16 := h.2.2.2.2.1.1.2.2.2.2.2.2.1
theorem RD.f49 (h : RD I L b g n c T N mo) : I 111 49 = T 0 17 := h.2.2.2.2.1.1.2.2.2.2.2.2.2.1
theorem RD.f55 (h : RD I L b g n c T N mo) : I 111 55 = bitI mo 11 := h.2.2.2.2.1.1.2.2.2.2.2.2.2.2.1
theorem RD.f56 (h : RD I L b g n c T N mo) : I 111 56 = bitI mo 12 := h.2.2.2.2.1.1.2.2.2.2.2.2.2.2.2.1
theorem RD.f57 (h : RD I L b g n c T N mo) : I 111 57 = bitI mo 13 := h.2.2.2.2.1.1.2.2.2.2.2.2.2.2.2.2.1
theorem RD.f58 (h : RD I L b g n c T N mo) : I 111 58 = bitI mo 14 := h.2.2.2.2.1.1.2.2.2.2.2.2.2.2.2.2.2.1
theorem RD.f20 (h : RD I L b g n c T N mo) : I 111 20 = T 17 3 := h.2.2.2.2.1.1.2.2.2.2.2.2.2.2.2.2.2.2
theorem RD.home (h : RD I L b g n c T N mo) {p : Nat} (hp : p < nP T) : I 121 p = T 3 p := (h.2.2.2.2.1.2.1 p hp).1
theorem RD.par1 (h : RD I L b g n c T N mo) {p : Nat} (hp : p < nP T) : I 122 (2 * p) = T 11 p := (h.2.2.2.2.1.2.1 p hp).2.1
theorem RD.par2 (h : RD I L b g n c T N mo) {p : Nat} (hp : p < nP T) : I 122 (2 * p + 1) = T 12 p := (h.2.2.2.2.1.2.1 p hp).2.2.1
theorem RD.sails (h : RD I L b g n c T N mo) {p : Nat} (hp : p < nP T) : I 123 p = T 4 p := (h.2.2.2.2.1.2.1 p hp).2.2.2.1
theorem RD.knows (h : RD I L b g n c T N mo) {p : Nat} (hp : p < nP T) : I 124 p = T 13 p := (h.2.2.2.2.1.2.1 p hp).2.2.2.2.1
theorem RD.spites (h : RD I L b g n c T N mo) {p : Nat} (hp : p < nP T) : I 125 p = T 5 p := (h.2.2.2.2.1.2.1 p hp).2.2.2.2.2.1
theorem RD.vow (h : RD I L b g n c T N mo) {p : Nat} (hp : p < nP T) : I 136 p = vowB T p := (h.2.2.2.2.1.2.1 p hp).2.2.2.2.2.2
theorem RD.one (h : RD I L b g n c T N mo) {q : Nat} (hq : q < nQ T) : I 126 q = T 6 q := (h.2.2.2.2.1.2.2.1 q hq).1
theorem RD.other (h : RD I L b g n c T N mo) {q : Nat} (hq : q < nQ T) : I 127 q = T 7 q := (h.2.2.2.2.1.2.2.1 q hq).2.1
theorem RD.at1 (h : RD I L b g n c T N mo) {q : Nat} (hq : q < nQ T) : I 128 (2 * q) = T 8 q := (h.2.2.2.2.1.2.2.1 q hq).2.2.1
theorem RD.at2 (h : RD I L b g n c T N mo) {q : Nat} (hq : q < nQ T) : I 128 (2 * q + 1) = T 9 q := (h.2.2.2.2.1.2.2.1 q hq).2.2.2
theorem RD.tw (h : RD I L b g n c T N mo) : tw T := h.2.2.2.2.2.1
theorem RD.nn (h : RD I L b g n c T N mo) : rnN L T N := h.2.2.2.2.1.2.2.2.2
theorem RD.nx (h : RD I L b g n c T N mo) : te b c ≤ n := by
  have := (te_in (g := g) h.2.1).2.2.1
  rw [← h.1.1] at this
  exact this
theorem RD.q4 (h : RD I L b g n c T N mo) (hs : ts b c ≠ 3) : I 111 4 = ((te b c : Nat) : Int) := h.2.2.1.2.2.2.1 hs
theorem rnC.o (h : rnC I T mo) (e : ∀ j, j = 20 ∨ (42 ≤ j ∧ j ≤ 49) ∨ (55 ≤ j ∧ j ≤ 58) → J 111 j = I 111 j) : rnC J T mo := by
  unfold rnC at h ⊢
  rw [e 42 (by omega), e 43 (by omega), e 44 (by omega), e 45 (by omega), e 46 (by omega), e 47 (by omega), e 48 (by omega), e 49 (by omega), e 55 (by omega), e 56 (by omega), e 57 (by omega), e 58 (by omega), e 20 (by omega)]
  exact h
/-- another token is met -/
theorem RD.adv {c' : Nat} (h : RD I L b g n c T N mo) (hc : c' ≤ n) (hF : Fb I J) (hL : Lb L M) (hT : TKR J M b c') : RD J M b g n c' T N mo := by
  obtain ⟨h1, -, -, h4, ⟨r1, r2, r3, r4, r5⟩, h6⟩ := h
  have f : ∀ j, j ≠ 4 → j ≠ 6 → j ≠ 7 → j ≠ 8 → J 111 j = I 111 j := hF.2
  have e : ∀ a, a ≠ 111 → J a = I a := hF.1
  refine ⟨hF.tb h1, hc, hT, ⟨(f 2 (by decide) (by decide) (by decide) (by decide)).trans h4.1, (f 3 (by decide) (by decide) (by decide) (by decide)).trans h4.2⟩, ⟨r1.o (fun j hj => f j (by omega) (by omega) (by omega) (by omega)), fun p hp => ?_, fun q hq => ?_, fun z => ?_, ?_⟩, h6⟩
  · have := r2 p hp
    unfold rnW at this ⊢
    rw [e 121 (by decide), e 122 (by decide), e 123 (by decide), e 124 (by decide), e 125 (by decide), e 136 (by decide)]; exact this
  · have := r3 q hq
    unfold rnQ at this ⊢
    rw [e 126 (by decide), e 127 (by decide), e 128 (by decide)]; exact this
  · have := r4 z
    rw [f 17 (by decide) (by decide) (by decide) (by decide), e 114 (by decide), e 115 (by decide)]; exact this
  · unfold rnN at r5 ⊢
    rw [hL 113 (by decide)]; exact r5
/-- a write beyond what is counted -/
def rnFree (T : mT) (a j : Nat) : Prop := ((a = 121 ∨ (123 ≤ a ∧ a ≤ 125) ∨ a = 136) ∧ nP T ≤ j) ∨ (a = 122 ∧ 2 * nP T ≤ j) ∨ ((a = 126 ∨ a = 127) ∧ nQ T ≤ j) ∨ (a = 128 ∧ 2 * nQ T ≤ j)
theorem TKR.o {I J : mI} {M K : Nat → Nat → Int} {b : Nat → Int} {c : Nat} (h : TKR I M b c) (h1 : ∀ j, j = 4 ∨ (6 ≤ j ∧ j ≤ 8) → J 111 j = I 111 j) (h2 : K 111 9 = M 111 9) : TKR J K b c := by
  unfold TKR at h ⊢
  rw [h1 6 (by omega), h1 7 (by omega), h1 8 (by omega), h1 4 (by omega), h2]
  exact h
theorem RD.w {a j : Nat} {v : Int} (h : RD I L b g n c T N mo) (ha : rnFree T a j) : RD (up I a j v) L b g n c T N mo := by
  obtain ⟨h1, h2, h3, h4, ⟨r1, r2, r3, r4, r5⟩, h6⟩ := h
  unfold rnFree at ha
  have e1 : ∀ k, up I a j v 111 k = I 111 k := fun k => up_c (by omega)
  have ec : ∀ x y, (x = a → y = j → False) → up I a j v x y = I x y := fun x y z => if_neg (fun w => z w.1 w.2)
  refine ⟨⟨h1.1, fun k => (ec 112 k (by omega)).trans (h1.2.1 k), (e1 5).trans h1.2.2.1, h1.2.2.2⟩, h2, h3.o (fun k _ => e1 k) rfl, ⟨(e1 2).trans h4.1, (e1 3).trans h4.2⟩, ⟨r1.o (fun k _ => e1 k), fun p hp => ?_, fun q hq => ?_, fun z => ?_, r5⟩, h6⟩
  · have := r2 p hp
    unfold rnW at this ⊢
    rw [ec 121 p (by omega), ec 122 (2 * p) (by omega), ec 122 (2 * p + 1) (by omega), ec 123 p (by omega), ec 124 p (by omega), ec 125 p (by omega), ec 136 p (by omega)]; exact this
  · have := r3 q hq
    unfold rnQ at this ⊢
    rw [ec 126 q (by omega), ec 127 q (by omega), ec 128 (2 * q) (by omega), ec 128 (2 * q + 1) (by omega)]; exact this
  · have := r4 z
    refine ⟨(e1 17).trans this.1, fun k hk => ?_⟩
    rw [ec 114 k (by omega), ec 115 k (by omega)]; exact this.2 k hk
theorem RE.wr {e : Int × Int} {a j : Nat} {v : Int} (h : RE I e) (ha : a ≠ 111 ∨ (j ≠ 2 ∧ j ≠ 3)) : RE (up I a j v) e := by
  have ec : ∀ y, y = 2 ∨ y = 3 → up I a j v 111 y = I 111 y := fun y hy => if_neg (fun w => by rcases ha with z | z; exact z w.1.symm; omega)
  exact ⟨(ec 2 (by omega)).trans h.1, (ec 3 (by omega)).trans h.2.1, h.2.2⟩
theorem RD.bad {f : Int} (hf : 0 < f ∧ f ≤ 5) : RE (up (up I 111 2 (bad b c f).1) 111 3 (bad b c f).2) (bad b c f) := ⟨by rw [up_j (by decide), up_s], up_s _ _ _ _, bad_pos hf⟩
/-- the person who is being told -/
theorem RD.sT {k : Nat} {v : Int} (h : RD I L b g n c T N mo) (hk : k = 3 ∨ k = 4 ∨ k = 11 ∨ k = 12) (hb : twB k (nP T) v) : RD I L b g n c (setT T k (nP T) v) N mo := by
  obtain ⟨h1, h2, h3, h4, ⟨r1, r2, r3, r4, r5⟩, h6, h7, h8⟩ := h
  have nn := setN_n (T := T) (j := nP T) (v := v) (show k ≠ 0 by omega)
  have s : ∀ x y, (x = k → y = nP T → False) → setT T k (nP T) v x y = T x y := fun x y z => if_neg (fun w => z w.1 w.2)
  have e13 : setT T k (nP T) v 13 = T 13 := funext fun y => s 13 y (by omega)
  have e5 : setT T k (nP T) v 5 = T 5 := funext fun y => s 5 y (by omega)
  refine ⟨h1, h2, h3, h4, ⟨?_, fun p hp => ?_, fun q hq => ?_, fun z => ?_, ⟨r5.1, by rw [nn.2.1]; exact r5.2.1, by rw [nn.1]; exact r5.2.2⟩⟩, tw_set h6 hb, by rw [nn.2.1]; exact h7, by rw [nn.1]; exact h8⟩
  · unfold rnC at r1 ⊢
    rw [e13, e5, s 0 11 (by omega), s 0 12 (by omega), s 0 13 (by omega), s 0 15 (by omega), s 0 16 (by omega), s 0 17 (by omega), s 17 3 (by omega)]; exact r1
  · rw [nn.1] at hp
    have := r2 p hp
    unfold rnW vowB at this ⊢
    rw [s 3 p (by omega), s 11 p (by omega), s 12 p (by omega), s 4 p (by omega), e13, e5, s 0 14 (by omega)]; exact this
  · rw [nn.2.2] at hq
    have := r3 q hq
    unfold rnQ at this ⊢
    rw [s 6 q (by omega), s 7 q (by omega), s 8 q (by omega), s 9 q (by omega)]; exact this
  · have := r4 z
    rw [s 17 2 (by omega)]
    refine ⟨this.1, fun y hy => ?_⟩
    rw [s 18 y (by omega)]; exact this.2 y hy
end RDF
