/-! the town that the reference was told is the class's -/
theorem dl_dp (T18 : Nat → Int) : ∀ out : List Int, (∀ k, k < out.length → T18 k = oat out k) → dp T18 out.length = dl out
  | [], _ => rfl
  | x :: xs, h => by
    have ih := dl_dp T18 xs (fun k hk => (h k (by rw [List.length_cons]; omega)).trans (oat_low hk))
    have e : T18 xs.length = x := (h xs.length (by rw [List.length_cons]; omega)).trans oat_top
    show dpS (T18 xs.length) (dp T18 xs.length) = dpS x (dl xs)
    rw [e, ih]
theorem gdl_at (T18 : Nat → Int) : ∀ out : List Int, (∀ k, k < out.length → T18 k = oat out k) → gdl out → ∀ k, k < out.length → ((-5 ≤ T18 k ∧ dp T18 k < 40) ∨ (T18 k = -6 ∧ 0 < dp T18 k) ∨ (T18 k < -6 ∧ 1 < dp T18 k))
  | x :: xs, h, hg, k, hk => by
    have h' : ∀ k, k < xs.length → T18 k = oat xs k := fun k hk => (h k (by rw [List.length_cons]; omega)).trans (oat_low hk)
    by_cases z : k = xs.length
    · have e : T18 xs.length = x := (h xs.length (by rw [List.length_cons]; omega)).trans oat_top
      rw [z, e, dl_dp T18 xs h']
      exact hg.2
    · exact gdl_at T18 xs h' hg.1 k (by rw [List.length_cons] at hk; omega)
theorem tw_FX {J K : mI} {M : Nat → Nat → Int} {b g : Nat → Int} {n c : Nat} {T N : mT} {mo : Nat} (hP : RD J M b g n c T N mo) (hG : GT T mo) (hK : TWo J K T) : FX K (closeT T) := by
  have h18 := hK.2.2.2.2.1
  refine ⟨h18.1, fun k hk => ?_, fun h0 => ?_⟩
  · have hk2 : k < (T 17 2).toNat := hk
    by_cases hb : mo.testBit 11 = true
    · obtain ⟨out, un, hO, hg, hd1, h0, h3, h4⟩ := hG.2.1.2 hb
      have hl : (T 17 2).toNat = out.length := by rw [hO.1]; rfl
      have hr := (hP.2.2.2.2.1.2.2.2.1 hb).2 k hk2
      have hs := h18.2 k hk2
      refine ⟨?_, gdl_at (T 18) out (fun k hk => hO.2.2 k hk) hg k (by omega)⟩
      rw [hs.1, hs.2]
      exact hr
    · have := (hG.2.1.1 hb).1
      omega
  · have h0' : 0 < (T 17 2).toNat := h0
    by_cases hb : mo.testBit 11 = true
    · obtain ⟨out, un, hO, hg, hd1, h0, h3, h4⟩ := hG.2.1.2 hb
      have hl : (T 17 2).toNat = out.length := by rw [hO.1]; rfl
      show dp (T 18) (T 17 2).toNat = 1
      rw [hl, dl_dp (T 18) out (fun k hk => hO.2.2 k hk)]
      exact hd1
    · have := (hG.2.1.1 hb).1
      omega
