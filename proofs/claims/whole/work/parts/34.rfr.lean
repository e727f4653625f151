/-! THE REFERENCE's scratch: 119 values, 120 asks, 141 callsOf; readSet, quietUp, quietAll -/
def Rc (I J : mI) : Prop := (∀ b, b ≠ 111 → b ≠ 141 → b ≠ 120 → b ≠ 119 → J b = I b) ∧ ∀ j, j ≠ 63 → j ≠ 67 → j ≠ 68 → J 111 j = I 111 j
theorem Rc.refl {I : mI} : Rc I I := ⟨fun _ _ _ _ _ => rfl, fun _ _ _ _ => rfl⟩
theorem Rc.trans {I J K : mI} (h : Rc I J) (h2 : Rc J K) : Rc I K := ⟨fun b g1 g2 g3 g4 => (h2.1 b g1 g2 g3 g4).trans (h.1 b g1 g2 g3 g4), fun j g1 g2 g3 => (h2.2 j g1 g2 g3).trans (h.2 j g1 g2 g3)⟩
theorem RT.fr {I J : mI} {T : mT} (h : RT I T) (h1 : ∀ b, 129 ≤ b → b ≤ 138 → J b = I b) (h2 : ∀ j, 50 ≤ j → j ≤ 54 → J 111 j = I 111 j) : RT J T := by
  unfold RT
  rw [h2 50 (by decide) (by decide), h2 51 (by decide) (by decide), h2 52 (by decide) (by decide), h2 53 (by decide) (by decide), h2 54 (by decide) (by decide), h1 129 (by decide) (by decide), h1 130 (by decide) (by decide), h1 131 (by decide) (by decide), h1 132 (by decide) (by decide), h1 133 (by decide) (by decide), h1 134 (by decide) (by decide), h1 135 (by decide) (by decide), h1 137 (by decide) (by decide), h1 138 (by decide) (by decide)]
  exact h
theorem Rc.rt {I J : mI} {T : mT} (h : Rc I J) (hR : RT I T) : RT J T := hR.fr (fun b g1 g2 => h.1 b (by omega) (by omega) (by omega) (by omega)) (fun j g1 g2 => h.2 j (by omega) (by omega) (by omega))
theorem Rc.air {I J : mI} {f : Nat → Int} (h : Rc I J) (hA : I 140 = f) : J 140 = f := (h.1 140 (by decide) (by decide) (by decide) (by decide)).trans hA
theorem Rc.mc {I : mI} {r : Int} {f : Nat → Int} : Rc I (upc (up I 111 63 r) 141 f) := ⟨fun b g1 g2 _ _ => funext fun j => by rw [upc_c g2, up_c g1], fun j g1 _ _ => by rw [upc_c (by decide), up_j g1]⟩
theorem nrm_r {I : mI} {r r2 : Int} {f : Nat → Int} : up (upc (up I 111 63 r) 141 f) 111 63 r2 = upc (up I 111 63 r2) 141 f := by
  funext b j
  by_cases h1 : b = 141
  · subst h1; rw [up_c (by decide), upc_s, upc_s]
  · rw [upc_c h1]
    by_cases h2 : b = 111 ∧ j = 63
    · rw [h2.1, h2.2, up_s, up_s]
    · have e : ∀ (K : mI) (v : Int), up K 111 63 v b j = K b j := fun K v => if_neg h2
      rw [e, upc_c h1, e, e]
theorem lay_0 {I : mI} : up (up (up (up (up I 111 63 0) 141 0 0) 141 1 0) 141 2 0) 141 3 0 = upc (up I 111 63 0) 141 (fun j => if j < 4 then 0 else I 141 j) := by
  funext b j
  by_cases h1 : b = 141
  · subst h1
    rw [upc_s]
    unfold up
    simp only [true_and]
    repeat' split
    all_goals first | rfl | omega
  · rw [upc_c h1, up_c h1, up_c h1, up_c h1, up_c h1]
