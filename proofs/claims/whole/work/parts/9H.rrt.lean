/-! the town that the reference was told is the class's -/
theorem dl_dp (T18 : Nat → Int) : ∀ out : List Int, (∀ k, k < out.length → T18 k = oat out k) → dp T18 out.length = dl out
  | [], _ => rfl
  | x :: xs, h => by
    have ih := dl_dp T18 xs (fun k hk => (h k (by rw [List.length_cons]; omega)).trans (oat_low hk))
    have e : T18 xs.length = x := (h xs.length (by rw [List.length_cons]; omega)).trans oat_top
    show dpS (T18 xs.length) (dp T18 xs.length) = dpS x (dl xs)
    rw [e, ih]
theorem gdl_at (T18 : Nat → Int) : ∀ out : List Int, (∀ k, k < out.length → T18 k = oat out k) → gdl out → ∀ k, k < out.length → ((-5 ≤ T18 k ∧ dp T18 k < 40) ∨ (T18 k = -6 ∧ 0 < dp T18 k) ∨ (T18 k < -6 ∧ 1 < dp T18 k))
  | x :: xs, h, hg, k, hk => by
    have h' : ∀ k, k < xs.length → T18 k = oat xs k := fun k hk => (h k (by rw [List.length_cons]; omega)).trans (oat_low hk)
    by_cases z : k = xs.length
    · have e : T18 xs.length = x := (h xs.length (by rw [List.length_cons]; omega)).trans oat_top
      rw [z, e, dl_dp T18 xs h']
      exact hg.2
    · exact gdl_at T18 xs h' hg.1 k (by rw [List.length_cons] at hk; omega)
theorem tw_FX {J K : mI} {M : Nat → Nat → Int} {b g : Nat → Int} {n c : Nat} {T N : mT} {mo : Nat} (hP : RD J M b g n c T N mo) (hG : GT T mo) (hK : TWo J K T) : FX K (closeT T) := by
  have h18 := hK.2.2.2.2.1
  refine ⟨h18.1, fun k hk => ?_, fun h0 => ?_⟩
  · have hk2 : k < (T 17 2).toNat := hk
    by_cases hb : mo.testBit 11 = true
    · obtain ⟨out, un, hO, hg, hd1, h0, h3, h4⟩ := hG.2.1.2 hb
      have hl : (T 17 2).toNat = out.length := by rw [hO.1]; rfl
      have hr := (hP.2.2.2.2.1.2.2.2.1 hb).2 k hk2
      have hs := h18.2 k hk2
      refine ⟨?_, gdl_at (T 18) out (fun k hk => hO.2.2 k hk) hg k (by omega)⟩
      rw [hs.1, hs.2]
      exact hr
    · have := (hG.2.1.1 hb).1
      omega
  · have h0' : 0 < (T 17 2).toNat := h0
    by_cases hb : mo.testBit 11 = true
    · obtain ⟨out, un, hO, hg, hd1, h0, h3, h4⟩ := hG.2.1.2 hb
      have hl : (T 17 2).toNat = out.length := by rw [hO.1]; rfl
      show dp (T 18) (T 17 2).toNat = 1
      rw [hl, dl_dp (T 18) out (fun k hk => hO.2.2 k hk)]
      exact hd1
    · have := (hG.2.1.1 hb).1
      omega
theorem tw_RT {J K : mI} {M : Nat → Nat → Int} {b g : Nat → Int} {n c : Nat} {T N : mT} {mo : Nat} (hP : RD J M b g n c T N mo) (hK : TWo J K T) : RT K (closeT T) := by
  have bp := tw_p hP.tw
  have eP : nP T = (T 0 12).toNat := rfl
  obtain ⟨-, -, -, h50, -, h8, hq, -, hu, -⟩ := hK
  refine ⟨h50, fun p hp => ?_, fun q hq' => ?_, fun p a hp ha => ?_⟩
  · have hp' : p < nP T := hp
    obtain ⟨v1, v2, v3, v4, v5, v6, v7, -⟩ := h8 p (by omega)
    have hv := hP.vow hp'
    have hvi := vowB_in T p
    exact ⟨v1.trans (hP.home hp'), v5.trans (hP.sails hp'), v7.trans (hP.spites hp'), (v4 (by rw [hv]; exact hvi)).trans hv, v2.trans (hP.par1 hp'), v3.trans (hP.par2 hp'), v6.trans (hP.knows hp')⟩
  · have hq2 : q < nQ T := hq'
    obtain ⟨v1, v2, -, -⟩ := hq q hq2
    exact ⟨v1.trans (hP.one hq2), v2.trans (hP.other hq2)⟩
  · exact hu p a hp ha
/-- a row, 0 beyond what is counted -/
def nrm (T : mT) (S : mS) : mS := fun j => if j < 8 then (if j < nP T then S j else 0) else if j < 13 then (if j < 8 + nQ T then S j else 0) else if j < 18 then (if j < 13 + nQ T then S j else 0) else if j < 23 then (if j < 18 + nQ T then S j else 0) else if j < 28 then (if j < 23 + nQ T then S j else 0) else if j < 30 then S j else 0
/-- the row of the begun town -/
theorem tw_row {J K : mI} {M : Nat → Nat → Int} {b g : Nat → Int} {n c : Nat} {T N : mT} {mo : Nat} (hP : RD J M b g n c T N mo) (hK : TWo J K T) : ∀ j, j < 30 → K 139 j = pS (nrm T (beginS (closeT T))) j := by
  have bp := tw_p hP.tw
  have bq := tw_q hP.tw
  have eP : nP T = (T 0 12).toNat := rfl
  have eQ : nQ T = (T 0 13).toNat := rfl
  obtain ⟨-, -, -, -, -, h8, hq, ⟨h29, hz⟩, -, -⟩ := hK
  intro j hj
  by_cases c1 : j < 8
  · rw [pS_s c1, (h8 j c1).2.2.2.2.2.2.2]
    unfold nrm
    rw [if_pos c1]
    split
    · next z =>
      rw [hP.home z]
      show T 3 j = beginS (closeT T) j
      unfold beginS
      rw [if_neg (by omega), if_neg (by omega), if_neg (by omega), if_pos (by omega)]
      rfl
    · rfl
  by_cases c29 : j = 29
  · rw [c29, h29]; rfl
  by_cases c18 : 18 ≤ j ∧ j < 18 + nQ T
  · have e : j = 18 + (j - 18) := by omega
    rw [e, pS_18 (by omega), (hq (j - 18) (by omega)).2.2.1, hP.at1 (by omega)]
    unfold nrm
    rw [if_neg (by omega), if_neg (by omega), if_pos (by omega), if_pos (by omega)]
    unfold beginS
    rw [if_neg (by omega), if_neg (by omega), if_pos (by omega)]
    show T 8 (j - 18) = T 8 (13 + (j - 18) - 13)
    congr 1; omega
  by_cases c23 : 23 ≤ j ∧ j < 23 + nQ T
  · have e : j = 23 + (j - 23) := by omega
    rw [e, pS_23 (by omega), (hq (j - 23) (by omega)).2.2.2, hP.at2 (by omega)]
    unfold nrm
    rw [if_neg (by omega), if_neg (by omega), if_neg (by omega), if_pos (by omega), if_pos (by omega)]
    unfold beginS
    rw [if_neg (by omega), if_pos (by omega)]
    show T 9 (j - 23) = T 9 (18 + (j - 23) - 18)
    congr 1; omega
  · rw [hz j (by omega) (by omega) c18 c23]
    unfold pS nrm beginS
    repeat' split
    all_goals first | rfl | omega
