/-! THE REFERENCE: what was, the boxes -/
/-- were: for each act done the state ahead of it, for each undone the state behind it -/
def RH (I : mI) (H : mH) : Prop := I 111 65 = ((H.2.1 : Nat) : Int) ∧ I 111 66 = ((H.2.2 - H.2.1 : Nat) : Int) ∧ H.2.1 ≤ H.2.2 ∧ H.2.2 ≤ 40 ∧ (∀ k j, k < H.2.1 → j < 30 → I 142 (30 * k + j) = pS (H.1 k) j) ∧ ∀ k j, H.2.1 ≤ k → k < H.2.2 → j < 30 → I 142 (30 * k + j) = pS (H.1 (k + 1)) j
theorem RH.fr {I J : mI} {H : mH} (h : RH I H) (h1 : J 111 65 = I 111 65) (h2 : J 111 66 = I 111 66) (h3 : J 142 = I 142) : RH J H := by
  unfold RH
  rw [h1, h2, h3]
  exact h
/-- the row n of were anew -/
def wrow (w g : Nat → Int) (n i : Nat) : Nat → Int := fun j => if 30 * n ≤ j ∧ j < 30 * n + i then g (j - 30 * n) else w j
theorem wrow_0 {w g : Nat → Int} {n : Nat} : wrow w g n 0 = w := funext fun j => if_neg (by omega)
theorem wrow_s {w g : Nat → Int} {n i : Nat} : (fun j => if j = 30 * n + i then g i else wrow w g n i j) = wrow w g n (i + 1) := by
  funext j
  unfold wrow
  by_cases h : j = 30 * n + i
  · rw [if_pos h, if_pos (by omega)]; congr 1; omega
  · rw [if_neg h]
    by_cases h2 : 30 * n ≤ j ∧ j < 30 * n + i
    · rw [if_pos h2, if_pos (by omega)]
    · rw [if_neg h2, if_neg (by omega)]
theorem wrow_y {w g : Nat → Int} {n j : Nat} (h : j < 30) : wrow w g n 30 (30 * n + j) = g j := by
  unfold wrow
  rw [if_pos (by omega)]
  congr 1
  omega
theorem wrow_n {w g : Nat → Int} {n k j : Nat} (h : j < 30) (hk : k ≠ n) : wrow w g n 30 (30 * k + j) = w (30 * k + j) := by
  unfold wrow
  rw [if_neg (by omega)]
/-- were shifted down by a row -/
def wsh (w : Nat → Int) (i : Nat) : Nat → Int := fun j => if j < i then w (30 + j) else w j
theorem wsh_s {w : Nat → Int} {i : Nat} : (fun j => if j = i then wsh w i (30 + i) else wsh w i j) = wsh w (i + 1) := by
  funext j
  unfold wsh
  by_cases h : j = i
  · subst h
    rw [if_pos rfl, if_neg (show ¬ 30 + j < j by omega), if_pos (show j < j + 1 by omega)]
  · rw [if_neg h]
    by_cases h2 : j < i
    · rw [if_pos h2, if_pos (by omega)]
    · rw [if_neg h2, if_neg (by omega)]
theorem rh_act {I J : mI} {H : mH} (h : RH I H) (hN : I 139 = pS (H.1 H.2.1)) (hn : H.2.1 < 40) (h1 : J 111 65 = ((H.2.1 + 1 : Nat) : Int)) (h2 : J 111 66 = 0) (h3 : J 142 = wrow (I 142) (I 139) H.2.1 30) (S : mS) : RH J (hadd H S) := by
  obtain ⟨g1, g2, g3, g4, g5, g6⟩ := h
  unfold hadd
  rw [if_pos hn]
  refine ⟨h1, by rw [h2]; show (0 : Int) = ((H.2.1 + 1 - (H.2.1 + 1) : Nat) : Int); omega, Nat.le_refl _, by show H.2.1 + 1 ≤ 40; omega, fun k j hk hj => ?_, fun k j hk hk2 hj => ?_⟩
  · have hk : k < H.2.1 + 1 := hk
    show J 142 (30 * k + j) = pS (if k = H.2.1 + 1 then S else H.1 k) j
    rw [if_neg (by omega), h3]
    by_cases e : k = H.2.1
    · rw [e, wrow_y hj, hN]
    · rw [wrow_n hj e]; exact g5 k j (by omega) hj
  · have hk : H.2.1 + 1 ≤ k := hk
    have hk2 : k < H.2.1 + 1 := hk2
    omega
theorem rh_act2 {I J : mI} {H : mH} (h : RH I H) (hN : I 139 = pS (H.1 H.2.1)) (hn : H.2.1 = 40) (h1 : J 111 65 = 40) (h2 : J 111 66 = 0) (h3 : J 142 = wrow (wsh (I 142) 1170) (I 139) 39 30) (S : mS) : RH J (hadd H S) := by
  obtain ⟨g1, g2, g3, g4, g5, g6⟩ := h
  unfold hadd
  rw [if_neg (by omega)]
  refine ⟨h1, h2, Nat.le_refl _, Nat.le_refl _, fun k j hk hj => ?_, fun k j hk hk2 hj => ?_⟩
  · have hk : k < 40 := hk
    show J 142 (30 * k + j) = pS (if k = 40 then S else H.1 (k + 1)) j
    rw [if_neg (by omega), h3]
    by_cases e : k = 39
    · rw [e, wrow_y hj, hN, hn]
    · rw [wrow_n hj e]
      show (if 30 * k + j < 1170 then I 142 (30 + (30 * k + j)) else I 142 (30 * k + j)) = _
      rw [if_pos (by omega), ← g5 (k + 1) j (by omega) hj]
      congr 1
      omega
  · have hk : 40 ≤ k := hk
    have hk2 : k < 40 := hk2
    omega
theorem rh_undo {I J : mI} {H : mH} (h : RH I H) (hN : I 139 = pS (H.1 H.2.1)) (hn : 0 < H.2.1) (h1 : J 111 65 = I 111 65 - 1) (h2 : J 111 66 = I 111 66 + 1) (h3 : J 142 = wrow (I 142) (I 139) (H.2.1 - 1) 30) : RH J (H.1, H.2.1 - 1, H.2.2) := by
  obtain ⟨g1, g2, g3, g4, g5, g6⟩ := h
  refine ⟨by rw [h1, g1]; show _ = ((H.2.1 - 1 : Nat) : Int); omega, by rw [h2, g2]; show _ = ((H.2.2 - (H.2.1 - 1) : Nat) : Int); omega, by show H.2.1 - 1 ≤ H.2.2; omega, g4, fun k j hk hj => ?_, fun k j hk hk2 hj => ?_⟩
  · have hk : k < H.2.1 - 1 := hk
    rw [h3, wrow_n hj (by omega)]
    exact g5 k j (by omega) hj
  · have hk : H.2.1 - 1 ≤ k := hk
    have hk2 : k < H.2.2 := hk2
    rw [h3]
    show _ = pS (H.1 (k + 1)) j
    by_cases e : k = H.2.1 - 1
    · rw [e, wrow_y hj, hN, show H.2.1 - 1 + 1 = H.2.1 from by omega]
    · rw [wrow_n hj e]; exact g6 k j (by omega) hk2 hj
theorem rh_redo {I J : mI} {H : mH} (h : RH I H) (hN : I 139 = pS (H.1 H.2.1)) (hn : H.2.1 < H.2.2) (h1 : J 111 65 = I 111 65 + 1) (h2 : J 111 66 = I 111 66 - 1) (h3 : J 142 = wrow (I 142) (I 139) H.2.1 30) : RH J (H.1, H.2.1 + 1, H.2.2) := by
  obtain ⟨g1, g2, g3, g4, g5, g6⟩ := h
  refine ⟨by rw [h1, g1]; show _ = ((H.2.1 + 1 : Nat) : Int); omega, by rw [h2, g2]; show _ = ((H.2.2 - (H.2.1 + 1) : Nat) : Int); omega, by show H.2.1 + 1 ≤ H.2.2; omega, g4, fun k j hk hj => ?_, fun k j hk hk2 hj => ?_⟩
  · have hk : k < H.2.1 + 1 := hk
    rw [h3]
    show _ = pS (H.1 k) j
    by_cases e : k = H.2.1
    · rw [e, wrow_y hj, hN]
    · rw [wrow_n hj e]; exact g5 k j (by omega) hj
  · have hk : H.2.1 + 1 ≤ k := hk
    have hk2 : k < H.2.2 := hk2
    rw [h3, wrow_n hj (by omega)]
    exact g6 k j (by omega) hk2 hj
/-- the boxes -/
def RB (I : mI) (Bx : Nat → mS) (m : Nat) : Prop := ∀ i, i < 3 → I 151 i = (if m.testBit i = true then 1 else 0) ∧ (m.testBit i = true → ∀ j, j < 30 → I 152 (30 * i + j) = pS (Bx i) j)
theorem RB.fr {I J : mI} {Bx : Nat → mS} {m : Nat} (h : RB I Bx m) (h1 : J 151 = I 151) (h2 : J 152 = I 152) : RB J Bx m := by
  unfold RB
  rw [h1, h2]
  exact h
theorem RB.b {I : mI} {Bx : Nat → mS} {m : Nat} (h : RB I Bx m) {i : Nat} (hi : i < 3) : I 151 i = 0 ∨ I 151 i = 1 := by
  rw [(h i hi).1]
  split <;> omega
theorem rb_image {I J : mI} {Bx : Nat → mS} {m a : Nat} {S : mS} (h : RB I Bx m) (hN : I 139 = pS S) (ha : a < 3) (h1 : J 151 = fun j => if j = a then 1 else I 151 j) (h2 : J 152 = wrow (I 152) (I 139) a 30) : RB J (fun i => if i = a then S else Bx i) (m ||| 2 ^ a) := by
  intro i hi
  have e : (m ||| 2 ^ a).testBit i = (m.testBit i || decide (a = i)) := by rw [Nat.testBit_or, Nat.testBit_two_pow]
  rw [e, h1, h2]
  by_cases ei : i = a
  · subst ei
    refine ⟨by simp, fun _ j hj => ?_⟩
    rw [wrow_y hj, hN]
    show _ = pS (if i = i then S else Bx i) j
    rw [if_pos rfl]
  · refine ⟨?_, fun hb j hj => ?_⟩
    · show (if i = a then 1 else I 151 i) = _
      rw [if_neg ei, (h i hi).1, decide_eq_false (fun x => ei x.symm), Bool.or_false]
    · rw [decide_eq_false (fun x => ei x.symm), Bool.or_false] at hb
      rw [wrow_n hj ei]
      show _ = pS (if i = a then S else Bx i) j
      rw [if_neg ei]
      exact (h i hi).2 hb j hj
/-- all but what acts change of the reference is as it was -/
def Rf2 (I J : mI) : Prop := (∀ b, b ≠ 111 → b ≠ 139 → b ≠ 140 → b ≠ 141 → b ≠ 142 → b ≠ 120 → b ≠ 119 → J b = I b) ∧ ∀ j, j ≠ 63 → j ≠ 65 → j ≠ 66 → j ≠ 67 → j ≠ 68 → J 111 j = I 111 j
theorem Rg.f2 {I J : mI} (h : Rg I J) : Rf2 I J := ⟨fun b g1 _ g2 g3 _ g4 g5 => h.1 b g1 g2 g3 g4 g5, fun j g1 _ _ g2 g3 => h.2 j g1 g2 g3⟩
theorem Rf2.trans {I J K : mI} (h : Rf2 I J) (h2 : Rf2 J K) : Rf2 I K := ⟨fun b g1 g2 g3 g4 g5 g6 g7 => (h2.1 b g1 g2 g3 g4 g5 g6 g7).trans (h.1 b g1 g2 g3 g4 g5 g6 g7), fun j g1 g2 g3 g4 g5 => (h2.2 j g1 g2 g3 g4 g5).trans (h.2 j g1 g2 g3 g4 g5)⟩
theorem Rf2.refl {I : mI} : Rf2 I I := ⟨fun _ _ _ _ _ _ _ _ => rfl, fun _ _ _ _ _ _ => rfl⟩
/-- all but what an act keeps is as it was -/
def Rk (I J : mI) : Prop := (∀ b, b ≠ 111 → b ≠ 142 → J b = I b) ∧ ∀ j, j ≠ 65 → j ≠ 66 → J 111 j = I 111 j
theorem Rk.f2 {I J : mI} (h : Rk I J) : Rf2 I J := ⟨fun b g1 _ _ _ g5 _ _ => h.1 b g1 g5, fun j _ g1 g2 _ _ => h.2 j g1 g2⟩
theorem Rk.rt {I J : mI} {T : mT} (h : Rk I J) (hR : RT I T) : RT J T := hR.fr (fun b g1 g2 => h.1 b (by omega) (by omega)) (fun j g1 g2 => h.2 j (by omega) (by omega))
theorem Rk.fx {I J : mI} {T : mT} (h : Rk I J) (hX : FX I T) : FX J T := by
  unfold FX
  rw [h.2 18 (by decide) (by decide), h.1 116 (by decide) (by decide), h.1 117 (by decide) (by decide)]
  exact hX
/-- rows of now -/
theorem pN_up {J : mI} {S : mS} {k k2 : Nat} {v : Int} (h : J 139 = pS S) (hk : ∀ j, (if 13 ≤ j ∧ j < 18 then j + 10 else if 18 ≤ j ∧ j < 28 then j - 5 else j) = k2 ↔ j = k) : (up J 139 k v) 139 = pS (setF S k2 v) := by
  have e := pS_up (J := upc J 140 (J 139)) (v := v) (k := k) (k2 := k2) (S := S) (by funext j; rw [upc_s, h]) hk
  rw [← e]
  funext j
  by_cases h1 : j = k
  · rw [h1, up_s, up_s]
  · rw [up_j h1, up_j h1, upc_s]
theorem pN_s {J : mI} {S : mS} {p : Nat} {v : Int} (hp : p < 8) (h : J 139 = pS S) : (up J 139 p v) 139 = pS (setF S p v) := pN_up h (fun j => by constructor <;> intro x <;> (try split at x) <;> (try split at x) <;> (try split) <;> (try split) <;> omega)
theorem pN_8 {J : mI} {S : mS} {q : Nat} {v : Int} (hq : q < 5) (h : J 139 = pS S) : (up J 139 (8 + q) v) 139 = pS (setF S (8 + q) v) := pN_up h (fun j => by constructor <;> intro x <;> (try split at x) <;> (try split at x) <;> (try split) <;> (try split) <;> omega)
theorem pN_18 {J : mI} {S : mS} {q : Nat} {v : Int} (hq : q < 5) (h : J 139 = pS S) : (up J 139 (18 + q) v) 139 = pS (setF S (13 + q) v) := pN_up h (fun j => by constructor <;> intro x <;> (try split at x) <;> (try split at x) <;> (try split) <;> (try split) <;> omega)
theorem pN_23 {J : mI} {S : mS} {q : Nat} {v : Int} (hq : q < 5) (h : J 139 = pS S) : (up J 139 (23 + q) v) 139 = pS (setF S (18 + q) v) := pN_up h (fun j => by constructor <;> intro x <;> (try split at x) <;> (try split at x) <;> (try split) <;> (try split) <;> omega)
