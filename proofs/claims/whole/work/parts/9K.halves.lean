/-! THE INVARIANT: the class's half, the reference's half, what ties them -/
def CC (I : mI) (L : Nat → Nat → Int) (D : Nat → Nat) (T : mT) (S : mS) (Z : mT) (H : mH) (Bx : Nat → mS) (m n : Nat) (g : Nat → Int) (e : Int × Int) : Prop :=
  CI I D T S Z ∧ HI I H ∧ BI I Bx m ∧ I 41 3 = (n : Int) ∧ n ≤ 1600 ∧ I 42 = g ∧ (I 44 3 = e.1 ∧ I 44 4 = e.2) ∧ (hD D ∧ h45 D) ∧ (∀ k, k < 21 → L 43 k = W5 k) ∧ (tw (TT I (D 1)) ∧ ∀ j, inR (TT I (D 1) 18 j)) ∧ ∀ t, isT t → ∀ k j, inL (NN L t k j)
def RR (I : mI) (L : Nat → Nat → Int) (T : mT) (S : mS) (Z : mT) (H : mH) (Bx : Nat → mS) (m n : Nat) (g : Nat → Int) (e : Int × Int) : Prop :=
  RT I T ∧ I 139 = pS S ∧ FX I T ∧ (tw T ∧ sw S 999 ∧ rdOk S ∧ TC T ∧ (∀ j, inR (T 18 j)) ∧ zw Z) ∧ RH I H ∧ RB I Bx m ∧ RZ I Z ∧ I 111 21 = T 17 3 ∧ I 111 1 = (n : Int) ∧ (∀ j, I 112 j = g j % 256) ∧ (I 111 2 = e.1 ∧ I 111 3 = e.2) ∧ True
def zk (T Z : mT) : Prop := ∀ j, j < nZ Z → Z 1 j = 2 → Z 2 j < T 0 12
def PU (T : mT) (S S' : mS) (Z : mT) (H H' : mH) (Bx Bx' : Nat → mS) (m : Nat) : Prop := TC8 T ∧ zk T Z ∧ H.1 H.2.1 = S ∧ H'.1 H'.2.1 = S' ∧ agH T H H' ∧ ∀ i, i < 3 → m.testBit i = true → agR T (Bx i) (Bx' i)
def INV (I : mI) (X : mX) : Prop := ∃ (L : Nat → Nat → Int) (D : Nat → Nat) (T : mT) (S S' : mS) (Z : mT) (H H' : mH) (Bx Bx' : Nat → mS) (m n : Nat) (g : Nat → Int) (e : Int × Int), X = XX L D ∧ CC I L D T S Z H Bx m n g e ∧ RR I L T S' Z H' Bx' m n g e ∧ PU T S S' Z H H' Bx Bx' m
/-- one call of each: the same answer, and the invariant again -/
def both (l : Launch) (G : mG) (d : Nat) (I : mI) (X : mX) (y : mM) (ls : List (Option mV)) (y' : mM) (ls' : List (Option mV)) : Prop :=
  WP l G y d 153 I X 0 ls [] (fun v J Y => ∃ z : Int, v = some (vI z) ∧ Y.2.2 = 153 ∧ WP l G y' d 153 J Y 0 ls' [] (fun v' K Y' => v' = some (vI z) ∧ Y'.2.2 = 153 ∧ INV K Y'))
section HALF
variable {I J : mI} {L M : Nat → Nat → Int} {D D' : Nat → Nat} {T : mT} {S S' S1 : mS} {Z Z1 : mT} {H H' H1 : mH} {Bx Bx' : Nat → mS} {m n : Nat} {g : Nat → Int} {e : Int × Int}
/-- the cells that the class's half doesn't speak of -/
def offC (b : Nat) : Prop := 111 ≤ b ∨ b = 46 ∨ b = 20 ∨ b = 40 ∨ b = 50 ∨ b = 101 ∨ b = 102 ∨ b = 103
theorem TT_fr {t : Nat} (ht : isT t) (h : ∀ b, t ≤ b → b < t + 19 → J b = I b) : TT J t = TT I t := by
  funext k j
  unfold TT
  split
  · rw [h (t + k) (by omega) (by omega)]
  · rfl
theorem ZZ_fr (h : ∀ b, 104 ≤ b → b ≤ 110 → J b = I b) : ZZ J = ZZ I := by
  funext k j
  unfold ZZ
  split
  · rw [h (104 + k) (by omega) (by omega)]
  · rfl
theorem hD_1 (h : hD D) : isT (D 1) := by
  rcases h with h | h
  · exact Or.inr h.2
  · exact Or.inl h.2
theorem hD_0 (h : hD D) : isT (D 0) := by
  rcases h with h | h
  · exact Or.inl h.1
  · exact Or.inr h.1
theorem CI.fr (h : CI I D T S Z) (ht : TT J (D 0) = TT I (D 0)) (hs : J 48 = I 48) (hz : ZZ J = ZZ I) : CI J D T S Z := by
  obtain ⟨h1, h2, h3, h4, h5, h6⟩ := h
  exact ⟨h1, h2, ht.trans h3, (show SS J 47 = SS I 47 from hs).trans h4, hz.trans h5, h6⟩
theorem BI.fr (h : BI I Bx m) (h0 : J 0 11 = I 0 11) (hb : ∀ i, i < 3 → J (96 + 2 * i) = I (96 + 2 * i)) : BI J Bx m :=
  ⟨h0.trans h.1, h.2.1, fun i hi hb2 => (hb i hi).trans (h.2.2 i hi hb2)⟩
theorem CC.fr (h : CC I L D T S Z H Bx m n g e) (hJ : ∀ b, ¬ offC b → J b = I b) : CC J L D T S Z H Bx m n g e := by
  obtain ⟨h1, h2, h3, h4, h5, h6, h7, h8, h9, h10, h11⟩ := h
  have ht : ∀ t, isT t → TT J t = TT I t := fun t ht => TT_fr ht (fun b g1 g2 => hJ b (by unfold offC; rcases ht with rfl | rfl <;> omega))
  have e1 := ht (D 1) (hD_1 h8.1)
  refine ⟨h1.fr (ht _ h1.1) (hJ 48 (by unfold offC; decide)) (ZZ_fr fun b g1 g2 => hJ b (by unfold offC; omega)), h2.fr (hJ 51 (by unfold offC; decide)) (fun i hi => hJ _ (by unfold offC; omega)), h3.fr (by rw [hJ 0 (by unfold offC; decide)]) (fun i hi => hJ _ (by unfold offC; omega)), by rw [hJ 41 (by unfold offC; decide)]; exact h4, h5, by rw [hJ 42 (by unfold offC; decide)]; exact h6, by rw [hJ 44 (by unfold offC; decide)]; exact h7, h8, h9, by rw [e1]; exact h10, h11⟩
theorem CC.act (h : CC I L D T S Z H Bx m n g e) (hF : Fm I J (D 3)) (hS : SS J 47 = S1) (hH : HI J H1) (hv : rwOk T S1) : CC J L D T S1 Z H1 Bx m n g e := by
  obtain ⟨h1, h2, h3, h4, h5, h6, h7, h8, h9, h10, h11⟩ := h
  obtain ⟨c1, c2, c3, c4, c5, c6, c7, c8, c9, c10⟩ := h1
  have d3 : D 3 + 19 = 20 ∨ D 3 + 19 = 40 := by rw [c2]; rcases c1 with z | z <;> rw [z] <;> simp
  have hJ : ∀ b, b ≠ 46 → b ≠ 20 → b ≠ 40 → b ≠ 48 → b ≠ 51 → ¬ (53 ≤ b ∧ b ≤ 93) → J b = I b := fun b g1 g2 g3 g4 g5 g6 => hF b g1 (by omega) g4 g5 g6
  have ht : ∀ t, isT t → TT J t = TT I t := fun t ht => TT_fr ht (fun b g1 g2 => hJ b (by omega) (by omega) (by omega) (by omega) (by omega) (by omega))
  have e1 := ht (D 1) (hD_1 h8.1)
  refine ⟨⟨c1, c2, (ht _ c1).trans c3, hS, (ZZ_fr fun b g1 g2 => hJ b (by omega) (by omega) (by omega) (by omega) (by omega) (by omega)).trans c5, c6, hv.1, c8, hv.2.1, c10⟩, hH, h3.fr (by rw [hJ 0 (by decide) (by decide) (by decide) (by decide) (by decide) (by decide)]) (fun i hi => hJ _ (by omega) (by omega) (by omega) (by omega) (by omega) (by omega)), by rw [hJ 41 (by decide) (by decide) (by decide) (by decide) (by decide) (by decide)]; exact h4, h5, by rw [hJ 42 (by decide) (by decide) (by decide) (by decide) (by decide) (by decide)]; exact h6, by rw [hJ 44 (by decide) (by decide) (by decide) (by decide) (by decide) (by decide)]; exact h7, h8, h9, by rw [e1]; exact h10, h11⟩
theorem CC.say (h : CC I L D T S Z H Bx m n g e) (hF : Fz I J) (hZ : ZZ J = Z1) (hz : zw Z1) : CC J L D T S Z1 H Bx m n g e := by
  obtain ⟨h1, h2, h3, h4, h5, h6, h7, h8, h9, h10, h11⟩ := h
  obtain ⟨c1, c2, c3, c4, c5, c6, c7, c8, c9, c10⟩ := h1
  have hJ : ∀ b, ¬ (104 ≤ b ∧ b ≤ 110) → J b = I b := hF
  have ht : ∀ t, isT t → TT J t = TT I t := fun t ht => TT_fr ht (fun b g1 g2 => hJ b (by omega))
  have e1 := ht (D 1) (hD_1 h8.1)
  refine ⟨⟨c1, c2, (ht _ c1).trans c3, (show SS J 47 = SS I 47 from hJ 48 (by decide)).trans c4, hZ, c6, c7, hz, c9, c10⟩, h2.fr (hJ 51 (by decide)) (fun i hi => hJ _ (by omega)), h3.fr (by rw [hJ 0 (by decide)]) (fun i hi => hJ _ (by omega)), by rw [hJ 41 (by decide)]; exact h4, h5, by rw [hJ 42 (by decide)]; exact h6, by rw [hJ 44 (by decide)]; exact h7, h8, h9, by rw [e1]; exact h10, h11⟩
theorem CC.box (h : CC I L D T S Z H Bx m n g e) {a m1 : Nat} {Bx1 : Nat → mS} (ha : a < 3) (hF : ∀ b, b ≠ 0 → b ≠ 96 + 2 * a → J b = I b) (hB : BI J Bx1 m1) : CC J L D T S Z H Bx1 m1 n g e := by
  obtain ⟨h1, h2, h3, h4, h5, h6, h7, h8, h9, h10, h11⟩ := h
  have ht : ∀ t, isT t → TT J t = TT I t := fun t ht => TT_fr ht (fun b g1 g2 => hF b (by omega) (by omega))
  have e1 := ht (D 1) (hD_1 h8.1)
  refine ⟨h1.fr (ht _ h1.1) (hF 48 (by omega) (by omega)) (ZZ_fr fun b g1 g2 => hF b (by omega) (by omega)), h2.fr (hF 51 (by omega) (by omega)) (fun i hi => hF _ (by omega) (by omega)), hB, by rw [hF 41 (by omega) (by omega)]; exact h4, h5, by rw [hF 42 (by omega) (by omega)]; exact h6, by rw [hF 44 (by omega) (by omega)]; exact h7, h8, h9, by rw [e1]; exact h10, h11⟩
theorem CC.tape (h : CC I L D T S Z H Bx m n g e) {n1 : Nat} {g1 : Nat → Int} (hF : Ft I J) (h3 : J 41 3 = (n1 : Int)) (hn : n1 ≤ 1600) (hg : J 42 = g1) : CC J L D T S Z H Bx m n1 g1 e := by
  obtain ⟨c1, c2, c3, c4, c5, c6, c7, c8, c9, c10, c11⟩ := h
  have hJ : ∀ b, b ≠ 41 → b ≠ 42 → J b = I b := hF.1
  have ht : ∀ t, isT t → TT J t = TT I t := fun t ht => TT_fr ht (fun b g1 g2 => hJ b (by omega) (by omega))
  have e1 := ht (D 1) (hD_1 c8.1)
  refine ⟨c1.fr (ht _ c1.1) (hJ 48 (by omega) (by omega)) (ZZ_fr fun b g1 g2 => hJ b (by omega) (by omega)), c2.fr (hJ 51 (by omega) (by omega)) (fun i hi => hJ _ (by omega) (by omega)), c3.fr (by rw [hJ 0 (by omega) (by omega)]) (fun i hi => hJ _ (by omega) (by omega)), h3, hn, hg, by rw [hJ 44 (by omega) (by omega)]; exact c7, c8, c9, by rw [e1]; exact c10, c11⟩
theorem CC.longs (h : CC I L D T S Z H Bx m n g e) (hL : Ln L M) : CC I M D T S Z H Bx m n g e := by
  obtain ⟨c1, c2, c3, c4, c5, c6, c7, c8, c9, c10, c11⟩ := h
  refine ⟨c1, c2, c3, c4, c5, c6, c7, c8, fun k hk => by rw [hL 43 (by decide) (by decide)]; exact c9 k hk, c10, fun t ht k j => ?_⟩
  have q := c11 t ht k j
  unfold NN at q ⊢
  by_cases z : k < 2
  · rw [if_pos z] at q ⊢
    rw [hL (t + 1 + k) (by omega) (by omega)]
    exact q
  · rw [if_neg z]; decide
theorem CC.same (h : CC I L D T S Z H Bx m n g e) (hS : sameD D D') : CC I L D' T S Z H Bx m n g e := by
  obtain ⟨c1, c2, c3, c4, c5, c6, c7, c8, c9, c10, c11⟩ := h
  have e0 : D' 0 = D 0 := hS.1 0 (by decide) (by decide)
  have e1 : D' 1 = D 1 := hS.1 1 (by decide) (by decide)
  have e3 : D' 3 = D 3 := hS.1 3 (by decide) (by decide)
  refine ⟨?_, c2, c3, c4, c5, c6, c7, ⟨?_, hS.2⟩, c9, by rw [e1]; exact c10, c11⟩
  · unfold CI; rw [e0, e3]; exact c1
  · unfold hD; rw [e0, e1]; exact c8.1
theorem CC.drop (h : CC I L D T S Z H Bx m n g e) : 0 ≤ I 41 3 ∧ I 41 3 ≤ 1600 := by
  obtain ⟨c1, c2, c3, c4, c5, c6⟩ := h
  omega
/-! the reference's half -/
theorem FX.fr (h : FX I T) (h1 : J 111 18 = I 111 18) (h2 : J 116 = I 116) (h3 : J 117 = I 117) : FX J T := by
  unfold FX
  rw [h1, h2, h3]
  exact h
theorem RZ.fr (h : RZ I Z) (h1 : J 111 77 = I 111 77) (h2 : J 111 78 = I 111 78) (h3 : ∀ b, 145 ≤ b → b ≤ 150 → J b = I b) : RZ J Z := by
  unfold RZ
  rw [h1, h2, h3 145 (by decide) (by decide), h3 146 (by decide) (by decide), h3 147 (by decide) (by decide), h3 148 (by decide) (by decide), h3 149 (by decide) (by decide), h3 150 (by decide) (by decide)]
  exact h
theorem RR.ri (h : RR I L T S Z H Bx m n g e) : RI I T S := by
  obtain ⟨h1, h2, h3, ⟨h4, h5, h6, h7, h8, -⟩, -⟩ := h
  exact ⟨h1, h2, h3, h4, h5, h6, h7, h8⟩
theorem RR.rq (h : RR I L T S Z H Bx m n g e) (hF : Rq I J) : RR J L T S Z H Bx m n g e := by
  obtain ⟨h1, h2, h3, h4, h5, h6, h7, h8, h9, h10, h11, h12⟩ := h
  obtain ⟨f1, f2⟩ := hF
  have f : ∀ b, b ≠ 111 → b ≠ 140 → b ≠ 141 → b ≠ 120 → b ≠ 119 → b ≠ 143 → b ≠ 144 → J b = I b := f1
  refine ⟨h1.fr (fun b g1 g2 => f b (by omega) (by omega) (by omega) (by omega) (by omega) (by omega) (by omega)) (fun j g1 g2 => f2 j (by omega) (by omega) (by omega)), by rw [f 139 (by decide) (by decide) (by decide) (by decide) (by decide) (by decide) (by decide)]; exact h2, h3.fr (f2 18 (by decide) (by decide) (by decide)) (f 116 (by decide) (by decide) (by decide) (by decide) (by decide) (by decide) (by decide)) (f 117 (by decide) (by decide) (by decide) (by decide) (by decide) (by decide) (by decide)), h4, h5.fr (f2 65 (by decide) (by decide) (by decide)) (f2 66 (by decide) (by decide) (by decide)) (f 142 (by decide) (by decide) (by decide) (by decide) (by decide) (by decide) (by decide)), h6.fr (f 151 (by decide) (by decide) (by decide) (by decide) (by decide) (by decide) (by decide)) (f 152 (by decide) (by decide) (by decide) (by decide) (by decide) (by decide) (by decide)), h7.fr (f2 77 (by decide) (by decide) (by decide)) (f2 78 (by decide) (by decide) (by decide)) (fun b g1 g2 => f b (by omega) (by omega) (by omega) (by omega) (by omega) (by omega) (by omega)), by rw [f2 21 (by decide) (by decide) (by decide)]; exact h8, by rw [f2 1 (by decide) (by decide) (by decide)]; exact h9, by rw [f 112 (by decide) (by decide) (by decide) (by decide) (by decide) (by decide) (by decide)]; exact h10, by rw [f2 2 (by decide) (by decide) (by decide), f2 3 (by decide) (by decide) (by decide)]; exact h11, h12⟩
theorem RR.low (h : RR I L T S Z H Bx m n g e) (hF : ∀ b, 111 ≤ b → J b = I b) : RR J L T S Z H Bx m n g e := by
  obtain ⟨h1, h2, h3, h4, h5, h6, h7, h8, h9, h10, h11, h12⟩ := h
  have k : ∀ j, J 111 j = I 111 j := fun j => by rw [hF 111 (by decide)]
  refine ⟨h1.fr (fun b g1 g2 => hF b (by omega)) (fun j _ _ => k j), by rw [hF 139 (by decide)]; exact h2, h3.fr (k 18) (hF 116 (by decide)) (hF 117 (by decide)), h4, h5.fr (k 65) (k 66) (hF 142 (by decide)), h6.fr (hF 151 (by decide)) (hF 152 (by decide)), h7.fr (k 77) (k 78) (fun b g1 g2 => hF b (by omega)), by rw [k 21]; exact h8, by rw [k 1]; exact h9, by rw [hF 112 (by decide)]; exact h10, by rw [k 2, k 3]; exact h11, h12⟩
theorem RR.act (h : RR I L T S Z H Bx m n g e) (hF : Rf2 I J) (hN : J 139 = pS S1) (hH : RH J H1) (hv : rwOk T S1) : RR J L T S1 Z H1 Bx m n g e := by
  obtain ⟨h1, h2, h3, ⟨h4, h4b, h4c, h4d⟩, h5, h6, h7, h8, h9, h10, h11, h12⟩ := h
  obtain ⟨f, f2⟩ := hF
  refine ⟨h1.fr (fun b g1 g2 => f b (by omega) (by omega) (by omega) (by omega) (by omega) (by omega) (by omega)) (fun j g1 g2 => f2 j (by omega) (by omega) (by omega) (by omega) (by omega)), hN, h3.fr (f2 18 (by decide) (by decide) (by decide) (by decide) (by decide)) (f 116 (by decide) (by decide) (by decide) (by decide) (by decide) (by decide) (by decide)) (f 117 (by decide) (by decide) (by decide) (by decide) (by decide) (by decide) (by decide)), ⟨h4, hv.1, hv.2.1, h4d⟩, hH, h6.fr (f 151 (by decide) (by decide) (by decide) (by decide) (by decide) (by decide) (by decide)) (f 152 (by decide) (by decide) (by decide) (by decide) (by decide) (by decide) (by decide)), h7.fr (f2 77 (by decide) (by decide) (by decide) (by decide) (by decide)) (f2 78 (by decide) (by decide) (by decide) (by decide) (by decide)) (fun b g1 g2 => f b (by omega) (by omega) (by omega) (by omega) (by omega) (by omega) (by omega)), by rw [f2 21 (by decide) (by decide) (by decide) (by decide) (by decide)]; exact h8, by rw [f2 1 (by decide) (by decide) (by decide) (by decide) (by decide)]; exact h9, by rw [f 112 (by decide) (by decide) (by decide) (by decide) (by decide) (by decide) (by decide)]; exact h10, by rw [f2 2 (by decide) (by decide) (by decide) (by decide) (by decide), f2 3 (by decide) (by decide) (by decide) (by decide) (by decide)]; exact h11, h12⟩
theorem RR.say (h : RR I L T S Z H Bx m n g e) (hF : Fy I J) (hZ : RZ J Z1) (hz : zw Z1) : RR J L T S Z1 H Bx m n g e := by
  obtain ⟨h1, h2, h3, ⟨h4, h4b, h4c, h4d, h4e, -⟩, h5, h6, h7, h8, h9, h10, h11, h12⟩ := h
  obtain ⟨f, f2⟩ := hF
  refine ⟨h1.fr (fun b g1 g2 => f b (by omega) (by omega)) (fun j g1 g2 => f2 j (by omega) (by omega)), by rw [f 139 (by decide) (by decide)]; exact h2, h3.fr (f2 18 (by decide) (by decide)) (f 116 (by decide) (by decide)) (f 117 (by decide) (by decide)), ⟨h4, h4b, h4c, h4d, h4e, hz⟩, h5.fr (f2 65 (by decide) (by decide)) (f2 66 (by decide) (by decide)) (f 142 (by decide) (by decide)), h6.fr (f 151 (by decide) (by decide)) (f 152 (by decide) (by decide)), hZ, by rw [f2 21 (by decide) (by decide)]; exact h8, by rw [f2 1 (by decide) (by decide)]; exact h9, by rw [f 112 (by decide) (by decide)]; exact h10, by rw [f2 2 (by decide) (by decide), f2 3 (by decide) (by decide)]; exact h11, h12⟩
theorem RR.box (h : RR I L T S Z H Bx m n g e) {m1 : Nat} {Bx1 : Nat → mS} (hF : ∀ b, b ≠ 151 → b ≠ 152 → J b = I b) (hB : RB J Bx1 m1) : RR J L T S Z H Bx1 m1 n g e := by
  obtain ⟨h1, h2, h3, h4, h5, h6, h7, h8, h9, h10, h11, h12⟩ := h
  have k : ∀ j, J 111 j = I 111 j := fun j => by rw [hF 111 (by decide) (by decide)]
  refine ⟨h1.fr (fun b g1 g2 => hF b (by omega) (by omega)) (fun j _ _ => k j), by rw [hF 139 (by decide) (by decide)]; exact h2, h3.fr (k 18) (hF 116 (by decide) (by decide)) (hF 117 (by decide) (by decide)), h4, h5.fr (k 65) (k 66) (hF 142 (by decide) (by decide)), hB, h7.fr (k 77) (k 78) (fun b g1 g2 => hF b (by omega) (by omega)), by rw [k 21]; exact h8, by rw [k 1]; exact h9, by rw [hF 112 (by decide) (by decide)]; exact h10, by rw [k 2, k 3]; exact h11, h12⟩
theorem RR.tape (h : RR I L T S Z H Bx m n g e) {n1 : Nat} {g1 : Nat → Int} (hF : Fu I J) (hn : J 111 1 = (n1 : Int)) (hg : ∀ j, J 112 j = g1 j % 256) : RR J L T S Z H Bx m n1 g1 e := by
  obtain ⟨h1, h2, h3, h4, h5, h6, h7, h8, h9, h10, h11, h12⟩ := h
  obtain ⟨f, f2⟩ := hF
  refine ⟨h1.fr (fun b g1 g2 => f b (by omega) (by omega)) (fun j g1 g2 => f2 j (by omega)), by rw [f 139 (by decide) (by decide)]; exact h2, h3.fr (f2 18 (by decide)) (f 116 (by decide) (by decide)) (f 117 (by decide) (by decide)), h4, h5.fr (f2 65 (by decide)) (f2 66 (by decide)) (f 142 (by decide) (by decide)), h6.fr (f 151 (by decide) (by decide)) (f 152 (by decide) (by decide)), h7.fr (f2 77 (by decide)) (f2 78 (by decide)) (fun b g1 g2 => f b (by omega) (by omega)), by rw [f2 21 (by decide)]; exact h8, hn, hg, by rw [f2 2 (by decide), f2 3 (by decide)]; exact h11, h12⟩
theorem RR.longs (h : RR I L T S Z H Bx m n g e) : RR I M T S Z H Bx m n g e := h
/-! frames -/
theorem Sc.low {t : Nat} (h : Sc I J t) (ht : isT t) : ∀ b, 111 ≤ b → J b = I b := fun b hb => h b (by omega) (by omega)
theorem Sc.cc (h : CC I L D T S Z H Bx m n g e) (hF : Sc I J (D 3)) : CC J L D T S Z H Bx m n g e := by
  have d3 : D 3 + 19 = 20 ∨ D 3 + 19 = 40 := by rw [h.1.2.1]; rcases h.1.1 with z | z <;> rw [z] <;> simp
  exact h.fr (fun b hb => hF b (fun z => hb (by unfold offC; omega)) (fun z => hb (by unfold offC; omega)))
theorem Ss.cc (h : CC I L D T S Z H Bx m n g e) (hF : Ss I J (D 3) 49) : CC J L D T S Z H Bx m n g e := by
  have d3 : D 3 + 19 = 20 ∨ D 3 + 19 = 40 := by rw [h.1.2.1]; rcases h.1.1 with z | z <;> rw [z] <;> simp
  exact h.fr (fun b hb => hF b (fun z => hb (by unfold offC; omega)) (fun z => hb (by unfold offC; omega)) (fun z => hb (by unfold offC; omega)))
theorem d3_t (h : CC I L D T S Z H Bx m n g e) : isT (D 3) := by rw [h.1.2.1]; exact h.1.1
theorem CC.hi (h : CC I L D T S Z H Bx m n g e) (hF : ∀ b, b < 111 → J b = I b) : CC J L D T S Z H Bx m n g e := h.fr (fun b hb => hF b (by unfold offC at hb; omega))
theorem Rq.hi (h : Rq I J) : ∀ b, b < 111 → J b = I b := fun b hb => h.1 b (by omega) (by omega) (by omega) (by omega) (by omega) (by omega) (by omega)
theorem Rf2.hi (h : Rf2 I J) : ∀ b, b < 111 → J b = I b := fun b hb => h.1 b (by omega) (by omega) (by omega) (by omega) (by omega) (by omega) (by omega)
theorem Fy.hi (h : Fy I J) : ∀ b, b < 111 → J b = I b := fun b hb => h.1 b (by omega) (by omega)
theorem Fu.hi (h : Fu I J) : ∀ b, b < 111 → J b = I b := fun b hb => h.1 b (by omega) (by omega)
theorem PU.ag (h : PU T S S' Z H H' Bx Bx' m) : agR T S S' := by
  obtain ⟨h1, h2, h3, h4, h5, h6⟩ := h
  have k := h5.2.2 H.2.1 h5.2.1
  rw [h3, show H.2.1 = H'.2.1 from by rw [h5.1], h4] at k
  exact k
theorem PU.act (h : PU T S S' Z H H' Bx Bx' m) {A A' : mS} (ha : agR T A A') : PU T A A' Z (hadd H A) (hadd H' A') Bx Bx' m := by
  obtain ⟨h1, h2, h3, h4, h5, h6⟩ := h
  exact ⟨h1, h2, hadd_now H A, hadd_now H' A', agH_add h5 ha, h6⟩
theorem PU.say (h : PU T S S' Z H H' Bx Bx' m) (hz : zk T Z1) : PU T S S' Z1 H H' Bx Bx' m := by
  obtain ⟨h1, h2, h3, h4, h5, h6⟩ := h
  exact ⟨h1, hz, h3, h4, h5, h6⟩
/-! sayings -/
theorem tell_r (Z : mT) (so su dg is : Int) (j : Nat) : tellZ Z so su dg is 1 j = (if j = (Z 0 6).toNat then so else Z 1 j) ∧ tellZ Z so su dg is 2 j = (if j = (Z 0 6).toNat then su else Z 2 j) ∧ tellZ Z so su dg is 3 j = (if j = (Z 0 6).toNat then dg else Z 3 j) ∧ tellZ Z so su dg is 4 j = (if j = (Z 0 6).toNat then is else Z 4 j) ∧ tellZ Z so su dg is 5 j = (if j = (Z 0 6).toNat then Z 0 7 else Z 5 j) ∧ tellZ Z so su dg is 6 j = (if j = (Z 0 6).toNat then -1 else Z 6 j) := by
  unfold tellZ
  refine ⟨?_, ?_, ?_, ?_, ?_, ?_⟩ <;> simp
theorem tell_0 (Z : mT) (so su dg is : Int) : tellZ Z so su dg is 0 6 = Z 0 6 + 1 ∧ tellZ Z so su dg is 0 7 = Z 0 7 := by
  unfold tellZ
  refine ⟨?_, ?_⟩ <;> simp
theorem tell_zw {so su dg is : Int} (h : zw Z) (h30 : Z 0 6 < 30) (h1 : 0 ≤ so ∧ so ≤ 2) (h2 : 0 ≤ su ∧ su ≤ 7) (h3 : 0 ≤ dg ∧ dg ≤ 8) (h4 : is = 0 ∨ is = 1) : zw (tellZ Z so su dg is) := by
  obtain ⟨z1, z2, z3, z4, z5, z6, z7, z8⟩ := h
  have t0 := tell_0 Z so su dg is
  refine ⟨by rw [t0.1]; omega, by rw [t0.2]; exact z2, fun j => ?_, fun j => ?_, fun j => ?_, fun j => ?_, fun j => ?_, fun j => ?_⟩
  · rw [(tell_r Z so su dg is j).1]; split
    · exact h1
    · exact z3 j
  · rw [(tell_r Z so su dg is j).2.1]; split
    · exact h2
    · exact z4 j
  · rw [(tell_r Z so su dg is j).2.2.1]; split
    · exact h3
    · exact z5 j
  · rw [(tell_r Z so su dg is j).2.2.2.1]; split
    · exact h4
    · exact z6 j
  · rw [(tell_r Z so su dg is j).2.2.2.2.1]; split
    · exact z2
    · exact z7 j
  · rw [(tell_r Z so su dg is j).2.2.2.2.2]; split
    · omega
    · exact z8 j
theorem tell_zk {so su dg is : Int} (h : zk T Z) (hz : zw Z) (h1 : so = 2 → su < T 0 12) : zk T (tellZ Z so su dg is) := by
  have t0 := tell_0 Z so su dg is
  have e : nZ (tellZ Z so su dg is) = nZ Z + 1 := by
    show (tellZ Z so su dg is 0 6).toNat = (Z 0 6).toNat + 1
    rw [t0.1]
    have := hz.1
    omega
  intro j hj
  rw [e] at hj
  rw [(tell_r Z so su dg is j).1, (tell_r Z so su dg is j).2.1]
  by_cases z : j = (Z 0 6).toNat
  · rw [if_pos z, if_pos z]; exact h1
  · rw [if_neg z, if_neg z]
    have e2 : nZ Z = (Z 0 6).toNat := rfl
    exact h j (by omega)
theorem set_zw6 {a : Nat} {v : Int} (h : zw Z) (hv : -1 ≤ v ∧ v ≤ 100000) : zw (setZ Z 6 a v) := by
  obtain ⟨z1, z2, z3, z4, z5, z6, z7, z8⟩ := h
  have o : ∀ k j, k ≠ 6 → setZ Z 6 a v k j = Z k j := fun k j hk => if_neg (fun x => hk x.1)
  refine ⟨by rw [o 0 6 (by decide)]; exact z1, by rw [o 0 7 (by decide)]; exact z2, fun j => by rw [o 1 j (by decide)]; exact z3 j, fun j => by rw [o 2 j (by decide)]; exact z4 j, fun j => by rw [o 3 j (by decide)]; exact z5 j, fun j => by rw [o 4 j (by decide)]; exact z6 j, fun j => by rw [o 5 j (by decide)]; exact z7 j, fun j => ?_⟩
  unfold setZ
  split
  · exact hv
  · exact z8 j
theorem set_zw7 {v : Int} (h : zw Z) (hv : 0 ≤ v ∧ v ≤ 100000) : zw (setZ Z 0 7 v) := by
  obtain ⟨z1, z2, z3, z4, z5, z6, z7, z8⟩ := h
  have o : ∀ k j, k ≠ 0 → setZ Z 0 7 v k j = Z k j := fun k j hk => if_neg (fun x => hk x.1)
  refine ⟨z1, ?_, fun j => by rw [o 1 j (by decide)]; exact z3 j, fun j => by rw [o 2 j (by decide)]; exact z4 j, fun j => by rw [o 3 j (by decide)]; exact z5 j, fun j => by rw [o 4 j (by decide)]; exact z6 j, fun j => by rw [o 5 j (by decide)]; exact z7 j, fun j => by rw [o 6 j (by decide)]; exact z8 j⟩
  show 0 ≤ (if (0 : Nat) = 0 ∧ (7 : Nat) = 7 then v else Z 0 7) ∧ (if (0 : Nat) = 0 ∧ (7 : Nat) = 7 then v else Z 0 7) ≤ 100000
  rw [if_pos ⟨rfl, rfl⟩]
  exact hv
theorem set_zk6 {a : Nat} {v : Int} (h : zk T Z) : zk T (setZ Z 6 a v) := h
theorem set_zk7 {v : Int} (h : zk T Z) : zk T (setZ Z 0 7 v) := h
end HALF
