/-! ONE CALL OF EACH: town -/
theorem wp_extL {l : Launch} {G : mG} {μ : mM} {d nf : Nat} {I : mI} {X : mX} {pc : Nat} {ls : List (Option mV)} {st : List mV} {Q : mQ} (L' : Nat → Nat → Int) (hg : ∀ a j, Int64.ofInt (L' a j) = Int64.ofInt (X.1 a j)) (k : WP l G μ d nf I (L', X.2) pc ls st Q) : WP l G μ d nf I X pc ls st Q := by
  intro p e R s m args below meth c H locs cells slots n0 cl hF hR hH hL
  have hf : ∀ a ty j, fV G I (L', X.2) a ty j = fV G I X a ty j := fun a ty j => by
    cases ty <;> first | rfl | (show Value.long (Int64.ofInt (L' a j)) = Value.long (Int64.ofInt (X.1 a j)); rw [hg])
  have ha : ∀ kk a j, aV G I (L', X.2) kk a j = aV G I X kk a j := fun kk a j => by
    unfold aV
    split
    · show Value.long (Int64.ofInt (L' a j)) = _
      rw [hg]
    · rfl
  have hc : ∀ b, cellP G I X H b → cellP G I (L', X.2) H b := by
    intro b h
    unfold cellP at h ⊢
    split at h
    · next hc =>
      rw [if_pos hc]
      exact h.to (fun k hk => (hf b _ k).symm)
    · next hc =>
      rw [if_neg hc, h]
      exact congrArg some (arrV_congr fun k hk => (ha _ b k).symm)
  exact k p e R s m args below meth c H locs cells slots n0 cl hF hR ⟨⟨hH.1.1, hH.1.2.1, fun a ha => hc a (hH.1.2.2 a ha)⟩, hH.2⟩ hL
theorem wrapL (x : Int) : Int64.ofInt (Int64.ofInt x).toInt = Int64.ofInt x ∧ inL (Int64.ofInt x).toInt := ⟨Int64.ofInt_toInt _, by have h1 := Int64.le_toInt (Int64.ofInt x); have h2 := Int64.toInt_lt (Int64.ofInt x); exact ⟨by omega, by omega⟩⟩
section TOWN
variable {I J K : mI} {L M : Nat → Nat → Int} {D : Nat → Nat} {T : mT} {S S' : mS} {Z : mT} {H H' : mH} {Bx Bx' : Nat → mS} {m n : Nat} {g : Nat → Int} {e : Int × Int}
theorem set_zw06 (h : zw Z) : zw (setZ Z 0 6 0) := by
  obtain ⟨z1, z2, z3, z4, z5, z6, z7, z8⟩ := h
  have o : ∀ k j, k ≠ 0 → setZ Z 0 6 0 k j = Z k j := fun k j hk => if_neg (fun x => hk x.1)
  refine ⟨?_, z2, fun j => by rw [o 1 j (by decide)]; exact z3 j, fun j => by rw [o 2 j (by decide)]; exact z4 j, fun j => by rw [o 3 j (by decide)]; exact z5 j, fun j => by rw [o 4 j (by decide)]; exact z6 j, fun j => by rw [o 5 j (by decide)]; exact z7 j, fun j => by rw [o 6 j (by decide)]; exact z8 j⟩
  show 0 ≤ (if (0 : Nat) = 0 ∧ (6 : Nat) = 6 then 0 else Z 0 6) ∧ (if (0 : Nat) = 0 ∧ (6 : Nat) = 6 then 0 else Z 0 6) ≤ 30
  rw [if_pos ⟨rfl, rfl⟩]
  decide
theorem ZZ_06 (hZ : ZZ I = Z) (h104 : ∀ j, j ≠ 6 → J 104 j = I 104 j) (h6 : J 104 6 = 0) (hr : ∀ b, 105 ≤ b → b ≤ 110 → J b = I b) : ZZ J = setZ Z 0 6 0 := by
  rw [← hZ]
  funext k j
  show (if k < 7 then J (104 + k) j else 0) = if k = 0 ∧ j = 6 then 0 else if k < 7 then I (104 + k) j else 0
  by_cases c0 : k = 0
  · subst c0
    by_cases c6 : j = 6
    · subst c6; exact h6
    · rw [if_neg (c := 0 = 0 ∧ j = 6) (fun x => c6 x.2)]; exact h104 j c6
  · rw [if_neg (c := k = 0 ∧ j = 6) (fun x => c0 x.1)]
    by_cases c7 : k < 7
    · rw [if_pos c7, if_pos c7, hr (104 + k) (by omega) (by omega)]
    · rw [if_neg c7, if_neg c7]
/-- a begun row -/
theorem beg_0 (T : mT) {j : Nat} (h : (8 ≤ j ∧ j < 13) ∨ (23 ≤ j ∧ j ≤ 28)) : beginS T j = 0 := by
  unfold beginS
  rw [if_neg (by omega), if_neg (by omega), if_neg (by omega), if_neg (by omega)]
theorem beg_c1 (T : mT) {j : Nat} (h : j < 5) : beginS T (13 + j) = T 8 j := by
  unfold beginS
  rw [if_neg (by omega), if_neg (by omega), if_pos (by omega)]
  congr 1; omega
theorem beg_c2 (T : mT) {j : Nat} (h : j < 5) : beginS T (18 + j) = T 9 j := by
  unfold beginS
  rw [if_neg (by omega), if_pos (by omega)]
  congr 1; omega
theorem beg_s (T : mT) {j : Nat} (h : j < 8) : beginS T j = T 3 j := by
  unfold beginS
  rw [if_neg (by omega), if_neg (by omega), if_neg (by omega), if_pos (by omega)]
  congr 1
theorem beg_ok (hw : tw T) (hp : ∀ q, q < nQ T → T 8 q < T 0 11 ∧ T 9 q < T 0 11) : rwOk T (beginS T) := by
  have b5 := nQ_le hw
  refine ⟨⟨fun j hj => ?_, fun j hj => ?_, fun j hj => ?_, fun j hj => ?_, fun j hj => ?_, ?_, ?_⟩, fun j hj => ?_, fun q r hq hr hn h1 => ?_, fun q h1 h2 => ?_, fun q hq => ?_⟩
  · rw [beg_s T hj]; exact tw_home hw j
  · rw [beg_0 T (by omega)]; decide
  · rw [beg_c1 T hj]; exact tw_c1 hw j
  · rw [beg_c2 T hj]; exact tw_c2 hw j
  · rw [beg_0 T (by omega), beg_0 T (by omega)]; decide
  · rw [beg_0 T (by omega)]; decide
  · exact tw_draw hw
  · rw [beg_0 T (by omega), beg_0 T (by omega)]; decide
  · rw [beg_0 T (by omega)] at h1; exact absurd h1 (by decide)
  · exact beg_0 T (by omega)
  · rw [beg_c1 T (by omega), beg_c2 T (by omega)]; exact hp q hq
theorem ok_cut (hw : tw T) {A B : mS} (hA : rwOk T A) (hag : agS T A B) (h0 : ∀ j, j < 30 → B j = A j ∨ B j = 0) (h8 : ∀ q, q < 5 → A (8 + q) = 0) : rwOk T B := by
  have b5 := nQ_le hw
  obtain ⟨a1, a2, a3, a4, a5⟩ := hA
  have e28 : B 28 = A 28 := hag.2.2.1.symm
  have e29 : B 29 = A 29 := hag.2.2.2.symm
  have hs := sw_sun a1
  have z8 : ∀ q, q < 5 → B (8 + q) = 0 := fun q hq => by
    rcases h0 (8 + q) (by omega) with z | z
    · rw [z]; exact h8 q hq
    · exact z
  refine ⟨⟨fun j hj => ?_, fun j hj => ?_, fun j hj => ?_, fun j hj => ?_, fun j hj => ?_, ?_, ?_⟩, fun j hj => ?_, fun q r hq hr hn h1 => ?_, fun q h1 h2 => ?_, fun q hq => ?_⟩
  · have := sw_seat a1 hj
    rcases h0 j (by omega) with z | z <;> omega
  · rw [z8 j hj]; decide
  · have := sw_c1 a1 hj
    rcases h0 (13 + j) (by omega) with z | z <;> omega
  · have := sw_c2 a1 hj
    rcases h0 (18 + j) (by omega) with z | z <;> omega
  · have := sw_read a1 hj
    rcases h0 (23 + j) (by omega) with z | z <;> omega
  · rw [e28]; exact hs
  · rw [e29]; exact sw_seed a1
  · have := a2 j hj
    rcases h0 (23 + j) (by omega) with z | z <;> omega
  · rw [z8 q (by omega)] at h1; exact absurd h1 (by decide)
  · exact z8 q h2
  · have e := hag.2.1 q hq
    rw [← e.2.1, ← e.2.2.1]; exact a5 q hq
theorem ag_cut (hw : tw T) {A B C : mS} (h : agS T A B) (hc : ∀ j, j < 30 → C j = B j) : agS T A C := by
  have b5 := nQ_le hw
  have b8 := nP_le hw
  obtain ⟨h1, h2, h3, h4⟩ := h
  refine ⟨fun p hp => (h1 p hp).trans (hc p (by omega)).symm, fun q hq => ?_, h3.trans (hc 28 (by decide)).symm, h4.trans (hc 29 (by decide)).symm⟩
  obtain ⟨e1, e2, e3, e4⟩ := h2 q hq
  exact ⟨e1.trans (hc _ (by omega)).symm, e2.trans (hc _ (by omega)).symm, e3.trans (hc _ (by omega)).symm, e4.trans (hc _ (by omega)).symm⟩
theorem nrm_or (T : mT) (A : mS) (j : Nat) : nrm T A j = A j ∨ nrm T A j = 0 := by
  unfold nrm
  repeat' split
  all_goals first | exact Or.inl rfl | exact Or.inr rfl
/-- the reference's half, behind a fault -/
theorem RR.bad (h : RR I L T S Z H Bx m n g e) {f : Int × Int} (hF : Fra I J) (hE : RE J f) : RR J M T S Z H Bx m 0 g f := by
  obtain ⟨h1, h2, h3, h4, h5, h6, h7, h8, h9, h10, h11, h12⟩ := h
  obtain ⟨f1, f2, f3⟩ := hF
  have k : ∀ b, b ≠ 111 → ¬ (113 ≤ b ∧ b ≤ 115) → b ≠ 118 → ¬ (121 ≤ b ∧ b ≤ 128) → b ≠ 136 → J b = I b := fun b g1 g2 g3 g4 g5 => f1 b (fun z => by unfold rnCell at z; omega)
  have k2 : ∀ j, (j = 18 ∨ j = 21 ∨ (50 ≤ j ∧ j ≤ 54) ∨ 65 ≤ j) → J 111 j = I 111 j := fun j hj => f2 j (fun z => by unfold rnSlot at z; omega) (by omega) (by omega)
  have kc : ∀ b, 129 ≤ b → b ≠ 136 → J b = I b := fun b hb hb2 => k b (by omega) (by omega) (by omega) (by omega) hb2
  refine ⟨?_, by rw [kc 139 (by decide) (by decide)]; exact h2, h3.fr (k2 18 (by omega)) (k 116 (by decide) (by decide) (by decide) (by decide) (by decide)) (k 117 (by decide) (by decide) (by decide) (by decide) (by decide)), h4, h5.fr (k2 65 (by omega)) (k2 66 (by omega)) (kc 142 (by decide) (by decide)), h6.fr (kc 151 (by decide) (by decide)) (kc 152 (by decide) (by decide)), h7.fr (k2 77 (by omega)) (k2 78 (by omega)) (fun b g1 g2 => kc b (by omega) (by omega)), by rw [k2 21 (by omega)]; exact h8, f3, by rw [k 112 (by decide) (by decide) (by decide) (by decide) (by decide)]; exact h10, ⟨hE.1, hE.2.1⟩, trivial⟩
  unfold RT
  rw [k2 50 (by omega), k2 51 (by omega), k2 52 (by omega), k2 53 (by omega), k2 54 (by omega), kc 129 (by decide) (by decide), kc 130 (by decide) (by decide), kc 131 (by decide) (by decide), kc 132 (by decide) (by decide), kc 133 (by decide) (by decide), kc 134 (by decide) (by decide), kc 135 (by decide) (by decide), kc 137 (by decide) (by decide), kc 138 (by decide) (by decide)]
  exact h1
theorem bo_town {l : Launch} {G : mG} {d : Nat} {X : mX} (hd : 100 ≤ d) (h : INV I X) : both l G d I X m_X10_town [some (vR 0), none, none] m_X11_town [some (vR 111), none] := by
  obtain ⟨L, D, T, S, S', Z, H, H', Bx, Bx', m, n, g, e, rfl, hC, hR, hP⟩ := h
  obtain ⟨c1, c2, c3, c4, c5, c6, c7, ⟨c8, c8b⟩, c9, c10, c11⟩ := id hC
  obtain ⟨i1, i2, i3, i4, i5, i6, i7, i8, i9, i10⟩ := id c1
  have r9 := hR.2.2.2.2.2.2.2.2.1
  have r10 := hR.2.2.2.2.2.2.2.2.2.1
  have hD1 : D 1 = 1 ∨ D 1 = 21 := hD_1 c8
  have hD0 : D 0 = 1 ∨ D 0 = 21 := i1
  have hD01 : D 0 ≠ D 1 := by rcases c8 with z | z <;> omega
  refine sp_town (b := bOf g n) (n := n) (T1 := TT I (D 1)) c8 rfl ⟨by rw [c6], c4, c5⟩ ⟨c9, c10.1, c10.2, c11 _ hD1⟩ (by omega) (fun mm q hx J M hF h104 h1046 h011 h413 h44 hL hTT hSS hHI hPX => ⟨_, rfl, rfl, ?_⟩) (fun mm q f hx J M hF hL h413 h44 hPX => ⟨_, rfl, rfl, ?_⟩)
  · have hlow : ∀ b, 111 ≤ b → J b = I b := fun b hb => hF b (by omega) (by omega) (by omega) (by omega) (by omega) (by omega) (by omega) (by omega)
    have hR1 : RR J M T S' Z H' Bx' m n g e := hR.low hlow
    have k9 := hR1.2.2.2.2.2.2.2.2.1
    have k10 := hR1.2.2.2.2.2.2.2.2.2.1
    refine wp_extL (fun a j => (Int64.ofInt (M a j)).toInt) (fun a j => (wrapL (M a j)).1) ?_
    refine rs_townok (b := bOf g n) (g := g) (n := n) (T1 := TT I (D 1)) (N := NN L (D 1)) k9 k10 c5 rfl c10.1 (fun j => (wrapL (M 113 j)).2) hx (by omega) (fun J1 M1 hFr hLn hRD hGT K hK => ⟨rfl, rfl, ?_⟩)
    have hw : tw (q mm).2.1 := hGT.1
    have hw2 : tw (closeT (q mm).2.1) := close_tw hw
    have hpr := hGT.2.2.2.2.1
    have bp := tw_p hw
    have bq := tw_q hw
    have hprs : ∀ r, r < nQ (closeT (q mm).2.1) → closeT (q mm).2.1 8 r < closeT (q mm).2.1 0 11 ∧ closeT (q mm).2.1 9 r < closeT (q mm).2.1 0 11 := fun r hr => ⟨(hpr r hr).2.2.1, (hpr r hr).2.2.2⟩
    have hok := beg_ok hw2 hprs
    have hTC : TC (closeT (q mm).2.1) := close_tc hw hGT.2.2.2.1 (fun r hr => by
      have z := hpr r hr
      have t1 := tw_one hw r
      have t2 := tw_other hw r
      show ((q mm).2.1 6 r).toNat < ((q mm).2.1 0 12).toNat ∧ ((q mm).2.1 7 r).toNat < ((q mm).2.1 0 12).toNat
      omega)
    have hrow := tw_row hRD hK
    obtain ⟨A, hA⟩ : ∃ A : mS, A = fun j => if j < 30 then nrm (q mm).2.1 (beginS (closeT (q mm).2.1)) j else K 139 j := ⟨_, rfl⟩
    have hAj : ∀ j, j < 30 → A j = nrm (closeT (q mm).2.1) (beginS (closeT (q mm).2.1)) j := fun j hj => by rw [hA]; exact if_pos hj
    have hAg : agS (closeT (q mm).2.1) (beginS (closeT (q mm).2.1)) A := ag_cut hw2 (ag_nrm hw2 _) hAj
    have hokA : rwOk (closeT (q mm).2.1) A := ok_cut hw2 hok hAg (fun j hj => by rw [hAj j hj]; exact nrm_or _ _ j) (fun r hr => beg_0 _ (by omega))
    have h139 : K 139 = pS A := by
      funext j
      by_cases hj : j < 30
      · rw [hrow j hj]
        unfold pS
        split
        · rw [hA]; exact (if_pos (by omega)).symm
        · split
          · rw [hA]; exact (if_pos (by omega)).symm
          · rw [hA]; exact (if_pos (by omega)).symm
      · unfold pS
        rw [if_neg (by omega), if_neg (by omega), hA]
        exact (if_neg hj).symm
    obtain ⟨t1, t2, t3, t4, t5, t6, t7, t8, t9, t10⟩ := id hK
    obtain ⟨f1, f2, f3⟩ := hFr
    have k : ∀ b, b < 111 ∨ b = 112 ∨ b = 142 ∨ (145 ≤ b ∧ b ≤ 150) ∨ b = 152 → K b = J b := fun b hb => (t1 b (by omega) (by omega) (by omega) (by omega) (by omega) (by omega) (by omega) (by omega) (by omega) (by omega) (by omega) (by omega) (by omega) (by omega)).trans (f1 b (fun z => by unfold rnCell at z; omega))
    have k78 : K 111 78 = J 111 78 := (t2 78 (by omega) (by omega) (by omega) (by omega) (by omega) (by omega)).trans (f2 78 (fun z => by unfold rnSlot at z; omega) (by omega) (by omega))
    have kt : ∀ t, isT t → TT K t = TT J t := fun t ht => TT_fr ht (fun b g1 g2 => k b (by omega))
    have kt0 : TT J (D 0) = TT I (D 0) := TT_fr hD0 (fun b g1 g2 => hF b (by omega) (by omega) (by omega) (by omega) (by omega) (by omega) (by omega) (by omega))
    have e0 : swD (dset D 2 (D 1)) 0 = D 1 := rfl
    have e1 : swD (dset D 2 (D 1)) 1 = D 0 := rfl
    have e3 : swD (dset D 2 (D 1)) 3 = D 1 := rfl
    have e4 : swD (dset D 2 (D 1)) 4 = D 4 := rfl
    have e5 : swD (dset D 2 (D 1)) 5 = D 5 := rfl
    have hzw := set_zw06 i8
    have hmM : ∀ a, a ≠ 111 → a ≠ 113 → ∀ j, M1 a j = (Int64.ofInt (M a j)).toInt := fun a h1 h2 j => congrFun (hLn a h1 h2) j
    have hCC : CC K M1 (swD (dset D 2 (D 1))) (closeT (q mm).2.1) (beginS (closeT (q mm).2.1)) (setZ Z 0 6 0) (fun _ => beginS (closeT (q mm).2.1), 0, 0) Bx 0 0 g (0, -1) := by
      refine ⟨⟨by rw [e0]; exact hD1, by rw [e3, e0], ?_, ?_, ?_, hw2, hok.1, hzw, hok.2.1, ?_⟩, ?_, ⟨?_, by decide, fun i _ hb => by rw [Nat.zero_testBit] at hb; cases hb⟩, ?_, by decide, ?_, ⟨?_, ?_⟩, ⟨?_, ?_⟩, fun j hj => ?_, ?_, fun t ht kk j => ?_⟩
      · rw [e0, kt _ hD1]; exact hTT
      · exact (show SS K 47 = SS J 47 from k 48 (by omega)).trans hSS
      · exact (ZZ_fr fun b g1 g2 => k b (by omega)).trans (ZZ_06 i5 h104 h1046 (fun b g1 g2 => hF b (by omega) (by omega) (by omega) (by omega) (by omega) (by omega) (by omega) (by omega)))
      · intro j
        have z := hPX.2.2.1 j
        rw [hTT] at z
        exact z
      · exact hHI.fr (k 51 (by omega)) (fun i hi => k _ (by omega))
      · rw [k 0 (by omega)]; exact h011
      · rw [k 41 (by omega)]; exact h413
      · rw [k 42 (by omega), hF 42 (by omega) (by omega) (by omega) (by omega) (by omega) (by omega) (by omega) (by omega)]; exact c6
      · rw [k 44 (by omega)]; exact h44.1
      · rw [k 44 (by omega)]; exact h44.2
      · show (D 1 = 1 ∧ D 0 = 21) ∨ (D 1 = 21 ∧ D 0 = 1)
        rcases c8 with z | z
        · exact Or.inr ⟨z.2, z.1⟩
        · exact Or.inl ⟨z.2, z.1⟩
      · unfold h45; rw [e4, e5]; exact c8b
      · rw [hmM 43 (by omega) (by omega), hPX.1 j hj]
        have z : ∀ k, k < 21 → (Int64.ofInt (W5 k)).toInt = W5 k := by decide +kernel
        exact z j hj
      · rw [e1, kt _ hD0, kt0, i3]
        exact ⟨i6, i10⟩
      · unfold NN
        split
        · rw [hmM (t + 1 + kk) (by omega) (by omega)]; exact (wrapL _).2
        · decide
    have hRR : RR K M1 (closeT (q mm).2.1) A (setZ Z 0 6 0) (fun _ => A, 0, 0) Bx' 0 0 g (0, -1) := by
      have z7 := hR1.2.2.2.2.2.2.1
      refine ⟨tw_RT hRD hK, h139, tw_FX hRD hGT hK, ⟨hw2, hokA.1, hokA.2.1, hTC, hCC.1.2.2.2.2.2.2.2.2.2, hzw⟩, ⟨t3.1, t3.2.1, Nat.le_refl _, Nat.zero_le 40, (fun kk j hk => absurd hk (Nat.not_lt_zero kk)), fun kk j h1 h2 => absurd h2 (Nat.not_lt_zero kk)⟩, fun i hi => ⟨?_, fun hb => by rw [Nat.zero_testBit] at hb; cases hb⟩, ⟨t3.2.2.1, ?_, ?_, ?_, ?_, ?_, ?_, ?_⟩, t3.2.2.2, ?_, ?_, ⟨?_, ?_⟩, trivial⟩
      · rw [Nat.zero_testBit, if_neg (by decide)]; exact t10 i hi
      · rw [k78]; exact z7.2.1
      · rw [k 145 (by omega)]; exact z7.2.2.1
      · rw [k 146 (by omega)]; exact z7.2.2.2.1
      · rw [k 147 (by omega)]; exact z7.2.2.2.2.1
      · rw [k 150 (by omega)]; exact z7.2.2.2.2.2.1
      · rw [k 148 (by omega)]; exact z7.2.2.2.2.2.2.1
      · rw [k 149 (by omega)]; exact z7.2.2.2.2.2.2.2
      · rw [t2 1 (by omega) (by omega) (by omega) (by omega) (by omega) (by omega)]; exact f3
      · rw [k 112 (by omega)]; exact k10
      · rw [t2 2 (by omega) (by omega) (by omega) (by omega) (by omega) (by omega)]; exact hRD.2.2.2.1.1
      · rw [t2 3 (by omega) (by omega) (by omega) (by omega) (by omega) (by omega)]; exact hRD.2.2.2.1.2
    exact inv_mk hCC hRR ⟨close_tc8 hw, fun j hj => absurd hj (Nat.not_lt_zero j), rfl, rfl, ⟨rfl, Nat.le_refl _, fun i _ => ⟨hAg, hok, hokA⟩⟩, fun i _ hb => by rw [Nat.zero_testBit] at hb; cases hb⟩
  · have hlow : ∀ b, 111 ≤ b → J b = I b := fun b hb => hF b (by omega) (by omega) (by omega)
    have hR1 : RR J M T S' Z H' Bx' m n g e := hR.low hlow
    have k9 := hR1.2.2.2.2.2.2.2.2.1
    have k10 := hR1.2.2.2.2.2.2.2.2.2.1
    refine wp_extL (fun a j => (Int64.ofInt (M a j)).toInt) (fun a j => (wrapL (M a j)).1) ?_
    refine rs_townbad (b := bOf g n) (g := g) (n := n) (T1 := TT I (D 1)) (N := NN L (D 1)) k9 k10 c5 rfl c10.1 (fun j => (wrapL (M 113 j)).2) hx (by omega) (fun J1 M1 hFr hLn hRE => ⟨rfl, rfl, ?_⟩)
    have hmM : ∀ a, a ≠ 111 → a ≠ 113 → ∀ j, M1 a j = (Int64.ofInt (M a j)).toInt := fun a h1 h2 j => congrFun (hLn a h1 h2) j
    have k : ∀ b, b < 111 → J1 b = J b := fun b hb => hFr.1 b (fun z => by unfold rnCell at z; omega)
    have kk1 : ∀ b, b < 111 → b ≠ 41 → b ≠ 44 → ¬ (D 1 ≤ b ∧ b < D 1 + 20) → J1 b = I b := fun b h1 h2 h3 h4 => (k b h1).trans (hF b h2 h3 h4)
    have kt1 : TT J1 (D 1) = TT J (D 1) := TT_fr hD1 (fun b g1 g2 => k b (by omega))
    have hCC : CC J1 M1 (dset D 2 (D 1)) T S Z H Bx m 0 g f := by
      refine ⟨⟨i1, i2, ?_, ?_, ?_, i6, i7, i8, i9, i10⟩, ?_, ?_, ?_, by decide, ?_, ⟨?_, ?_⟩, ⟨c8, c8b⟩, fun j hj => ?_, ?_, fun t ht kk j => ?_⟩
      · exact (TT_fr hD0 (fun b g1 g2 => kk1 b (by omega) (by omega) (by omega) (by omega))).trans i3
      · exact (show SS J1 47 = SS I 47 from kk1 48 (by omega) (by omega) (by omega) (by omega)).trans i4
      · exact (ZZ_fr fun b g1 g2 => kk1 b (by omega) (by omega) (by omega) (by omega)).trans i5
      · exact c2.fr (kk1 51 (by omega) (by omega) (by omega) (by omega)) (fun i hi => kk1 _ (by omega) (by omega) (by omega) (by omega))
      · exact c3.fr (by rw [kk1 0 (by omega) (by omega) (by omega) (by omega)]) (fun i hi => kk1 _ (by omega) (by omega) (by omega) (by omega))
      · rw [k 41 (by omega)]; exact h413
      · rw [kk1 42 (by omega) (by omega) (by omega) (by omega)]; exact c6
      · rw [k 44 (by omega)]; exact h44.1
      · rw [k 44 (by omega)]; exact h44.2
      · rw [hmM 43 (by omega) (by omega), hPX.1 j hj]
        have z : ∀ k, k < 21 → (Int64.ofInt (W5 k)).toInt = W5 k := by decide +kernel
        exact z j hj
      · show tw (TT J1 (D 1)) ∧ ∀ j, inR (TT J1 (D 1) 18 j)
        rw [kt1]
        exact ⟨hPX.2.1, hPX.2.2.1⟩
      · unfold NN
        split
        · rw [hmM (t + 1 + kk) (by omega) (by omega)]; exact (wrapL _).2
        · decide
    exact inv_mk hCC (hR1.bad hFr hRE) hP
end TOWN
