theorem rs_readHears {l : Launch} {G : mG} {d : Nat} {I : mI} {L : Nat → Nat → Int} {D : Nat → Nat} {Q : mQ} {b g : Nat → Int} {n c k : Nat} {f : mYd} (hB : RB0 I L b g n c) (h20 : I 111 20 = 0) (hs3 : ts b c ≠ 3) (hi : itn b k (0, te b c, [], [], 0, 0) = f) (hf : f.1 = 2 ∨ f.1 = 3) (hd : 5 ≤ d) (h1 : ∀ c out un, f = (2, c, [], out, un, 0) → ∀ J M, Fyd I J → Lb L M → RB0 J M b g n c → (J 111 17 = ((out.length : Nat) : Int) ∧ ∀ k, k < out.length → codeR (J 114 k) (J 115 k) (oat out k)) → J 111 20 = ((un : Nat) : Int) → Q none J (XX M D)) (h0 : ∀ c, f.1 = 3 → f.2.1 = c → ∀ J M, Fyd I J → Lb L M → RE J (bad b c 2) → Q none J (XX M D)) : WP l G m_X11_readHears d 153 I (XX L D) 0 [some (vR 111), none, none] [] Q := by
  refine wp_aload_n (pc := 0) 0 dX11_readHears_0 rfl rfl ?_
  refine wp_callV (pc := 1) (st := []) (nf' := 153) [] [some (vR 111), none, none] dX11_readHears_1 rfl c_X11_241 rfl kd_111 (by decide) rfl la_111 rfl (Nat.le_of_ble_eq_true rfl) rfl (Nat.le_of_ble_eq_true rfl) (by omega) (Nat.le_refl _) (Nat.le_refl _) ?_
  refine rs_token hB.1 hB.nx (hB.q4 hs3) (by omega) (fun J1 M1 hFb1 hLb1 hTk1 => ?_)
  have hB1 := hB.adv hB.nx hFb1 hTk1
  have h20_ : J1 111 20 = 0 := (hFb1.2 20 (by decide) (by decide) (by decide) (by decide)).trans h20
  refine wp_eqst (st' := []) rfl ?_
  refine wp_aload_n (pc := 4) 0 dX11_readHears_4 rfl rfl ?_
  refine wp_iconst (pc := 5) dX11_readHears_5 ?_
  refine wp_puti (pc := 6) dX11_readHears_6 rfl f_X11_267 kd_111 la_111 (fun _ h => by cases h; rfl) rfl ?_
  refine wp_aload_n (pc := 9) 0 dX11_readHears_9 rfl rfl ?_
  refine wp_iconst (pc := 10) dX11_readHears_10 ?_
  refine wp_puti (pc := 11) dX11_readHears_11 rfl f_X11_270 kd_111 la_111 (fun _ h => by cases h; rfl) rfl ?_
  refine wp_aload_n (pc := 14) 0 dX11_readHears_14 rfl rfl ?_
  refine wp_iconst (pc := 15) dX11_readHears_15 ?_
  refine wp_puti (pc := 16) dX11_readHears_16 rfl f_X11_280 kd_111 la_111 (fun _ h => by cases h; rfl) rfl ?_
  refine wp_aload_n (pc := 19) 0 dX11_readHears_19 rfl rfl ?_
  refine wp_iconst (pc := 20) dX11_readHears_20 ?_
  refine wp_puti (pc := 21) dX11_readHears_21 rfl f_X11_286 kd_111 la_111 (fun _ h => by cases h; rfl) rfl ?_
  refine wp_aload_n (pc := 24) 0 dX11_readHears_24 rfl rfl ?_
  refine wp_callV (pc := 25) (st := []) (nf' := 153) [] [some (vR 111), none, none] dX11_readHears_25 rfl c_X11_305 rfl kd_111 (by decide) rfl la_111 rfl (Nat.le_of_ble_eq_true rfl) rfl (Nat.le_of_ble_eq_true rfl) (by omega) (Nat.le_refl _) (Nat.le_refl _) ?_
  have hq : Fq J1 (up (up (up (up J1 111 17 0) 111 19 0) 111 23 0) 111 22 0) := (((Fq.refl.wr (by omega)).wr (by omega)).wr (by omega)).wr (by omega)
  have hY1 : YM (up (up (up (up J1 111 17 0) 111 19 0) 111 23 0) 111 22 0) [] [] 0 0 := ⟨⟨by rw [up_j (by decide), up_j (by decide), up_s]; rfl, fun k hk => absurd hk (Nat.not_lt_zero k)⟩, ⟨by rw [up_j (by decide), up_j (by decide), up_j (by decide), up_s]; rfl, fun k hk => absurd hk (Nat.not_lt_zero k)⟩, ⟨by rw [up_j (by decide), up_j (by decide), up_j (by decide), up_j (by decide)]; exact h20_, by rw [up_s]; rfl⟩, by rw [up_j (by decide), up_s]; rfl⟩
  have hI1 : YI0 [] [] 0 0 := ⟨by decide, by decide, Nat.le_refl 0, Nat.le_refl 0, by decide, fun s hs => nomatch hs⟩
  have hFs : Fyd I (up (up (up (up J1 111 17 0) 111 19 0) 111 23 0) 111 22 0) := hFb1.y.trans hq.y
  refine wp_unit0 ?_
  refine lp_runit (I0 := I) (L0 := L) (k0 := k) (f := f) hf (by omega) (fun k2 c2 st2 out2 un2 dp2 hk2 hi2 hI2 J2 M2 hF2 hL2 hB2 hY2 => ?_) (fun c2 hf3 hfc J2 M2 hF2 hL2 hE2 => ?_) k _ _ _ _ _ _ _ (Nat.le_refl _) (hB1.q hq) hY1 hI1 hi hFs hLb1
  · refine wp_eqst (st' := []) rfl ?_
    refine wp_iconst (pc := 28) dX11_readHears_28 ?_
    refine wq_istore_n (pc := 29) 1 [some (vR 111), some (vI 1), none] dX11_readHears_29 rfl rfl (by decide) rfl ?_
    exact lp_rhears hf hd h1 h0 k k2 _ _ _ _ _ _ _ (by omega) hB2 hY2 hI2 hi2 hF2 hL2
  · have x2 : J2 111 2 = (bad b c2 2).1 := hE2.1
    have xp : 0 < (bad b c2 2).1 ∧ (bad b c2 2).1 ≤ 5 := hE2.2.2
    refine wp_eqst (st' := []) rfl ?_
    refine wp_iconst (pc := 28) dX11_readHears_28 ?_
    refine wq_istore_n (pc := 29) 1 [some (vR 111), some (vI 1), none] dX11_readHears_29 rfl rfl (by decide) rfl ?_
    refine wp_iload_n (pc := 30) 1 dX11_readHears_30 rfl rfl ?_
    refine wp_if_eq (pc := 31) 157 dX11_readHears_31 (by decide) (by decide) (fun hh => absurd hh (by decide)) (fun _ => ?_)
    refine wp_aload_n (pc := 34) 0 dX11_readHears_34 rfl rfl ?_
    refine wp_geti (pc := 35) dX11_readHears_35 rfl f_X11_185 kd_111 la_111 (Or.inl rfl) ?_
    refine wp_eqst (st' := [vI ((bad b c2 2).1)]) (by rw [x2]) ?_
    refine wp_if_ne (pc := 38) 157 dX11_readHears_38 (by decide) (by omega) (fun _ => ?_) (fun hh => absurd hh (by omega))
    refine wp_aload_n (pc := 157) 0 dX11_readHears_157 rfl rfl ?_
    refine wp_geti (pc := 158) dX11_readHears_158 rfl f_X11_185 kd_111 la_111 (Or.inl rfl) ?_
    refine wp_eqst (st' := [vI ((bad b c2 2).1)]) (by rw [x2]) ?_
    refine wp_if_ne (pc := 161) 176 dX11_readHears_161 (by decide) (by omega) (fun _ => ?_) (fun hh => absurd hh (by omega))
    refine wp_aload_n (pc := 176) 0 dX11_readHears_176 rfl rfl ?_
    refine wp_geti (pc := 177) dX11_readHears_177 rfl f_X11_185 kd_111 la_111 (Or.inl rfl) ?_
    refine wp_eqst (st' := [vI ((bad b c2 2).1)]) (by rw [x2]) ?_
    refine wp_if_ne (pc := 180) 188 dX11_readHears_180 (by decide) (by omega) (fun _ => ?_) (fun hh => absurd hh (by omega))
    refine wp_vret (pc := 188) dX11_readHears_188 rfl rfl ?_
    exact h0 _ hf3 hfc _ _ hF2 hL2 hE2

/-! what a setting, or a formula, adds -/
section RDG
variable {I J : mI} {L M : Nat → Nat → Int} {b g : Nat → Int} {n c : Nat} {T N : mT} {mo : Nat}
theorem bitI_or {k j : Nat} (h : k ≠ j) : bitI (mo ||| 2 ^ k) j = bitI mo j := by unfold bitI; rw [bit_or h]
theorem bitI_self {k : Nat} : bitI (mo ||| 2 ^ k) k = 1 := if_pos (by rw [Nat.testBit_or, Nat.testBit_two_pow_self, Bool.or_true])
theorem RD.fl12 (h : RD I L b g n c T N mo) : RD (up I 111 56 1) L b g n c T N (mo ||| 2 ^ 12) := by
  obtain ⟨g1, g2, g3, g4, ⟨⟨a1, a2, a3, a4, a5, a6, a7, a8, a9, a10, a11, a12, a13⟩, r2, r3, r4, r5⟩, g6⟩ := h
  have u : ∀ k, k ≠ 56 → up I 111 56 1 111 k = I 111 k := fun k hk => up_j (by omega)
  refine ⟨g1.up111 (by decide), g2, g3.up111 (by decide), ⟨(u 2 (by decide)).trans g4.1, (u 3 (by decide)).trans g4.2⟩, ⟨⟨(u 42 (by decide)).trans a1, (u 43 (by decide)).trans a2, (u 44 (by decide)).trans a3, (u 45 (by decide)).trans a4, (u 46 (by decide)).trans a5, (u 47 (by decide)).trans a6, (u 48 (by decide)).trans a7, (u 49 (by decide)).trans a8, ((u 55 (by decide)).trans a9).trans (bitI_or (by decide)).symm, up_s _ _ _ _ |>.trans bitI_self.symm, ((u 57 (by decide)).trans a11).trans (bitI_or (by decide)).symm, ((u 58 (by decide)).trans a12).trans (bitI_or (by decide)).symm, (u 20 (by decide)).trans a13⟩, r2, r3, fun z => ?_, r5⟩, g6⟩
  rw [bit_or (by decide)] at z
  exact ⟨(u 17 (by decide)).trans (r4 z).1, (r4 z).2⟩
theorem RD.fl13 (h : RD I L b g n c T N mo) : RD (up I 111 57 1) L b g n c T N (mo ||| 2 ^ 13) := by
  obtain ⟨g1, g2, g3, g4, ⟨⟨a1, a2, a3, a4, a5, a6, a7, a8, a9, a10, a11, a12, a13⟩, r2, r3, r4, r5⟩, g6⟩ := h
  have u : ∀ k, k ≠ 57 → up I 111 57 1 111 k = I 111 k := fun k hk => up_j (by omega)
  refine ⟨g1.up111 (by decide), g2, g3.up111 (by decide), ⟨(u 2 (by decide)).trans g4.1, (u 3 (by decide)).trans g4.2⟩, ⟨⟨(u 42 (by decide)).trans a1, (u 43 (by decide)).trans a2, (u 44 (by decide)).trans a3, (u 45 (by decide)).trans a4, (u 46 (by decide)).trans a5, (u 47 (by decide)).trans a6, (u 48 (by decide)).trans a7, (u 49 (by decide)).trans a8, ((u 55 (by decide)).trans a9).trans (bitI_or (by decide)).symm, ((u 56 (by decide)).trans a10).trans (bitI_or (by decide)).symm, up_s _ _ _ _ |>.trans bitI_self.symm, ((u 58 (by decide)).trans a12).trans (bitI_or (by decide)).symm, (u 20 (by decide)).trans a13⟩, r2, r3, fun z => ?_, r5⟩, g6⟩
  rw [bit_or (by decide)] at z
  exact ⟨(u 17 (by decide)).trans (r4 z).1, (r4 z).2⟩
theorem RD.fl14 (h : RD I L b g n c T N mo) : RD (up I 111 58 1) L b g n c T N (mo ||| 2 ^ 14) := by
  obtain ⟨g1, g2, g3, g4, ⟨⟨a1, a2, a3, a4, a5, a6, a7, a8, a9, a10, a11, a12, a13⟩, r2, r3, r4, r5⟩, g6⟩ := h
  have u : ∀ k, k ≠ 58 → up I 111 58 1 111 k = I 111 k := fun k hk => up_j (by omega)
  refine ⟨g1.up111 (by decide), g2, g3.up111 (by decide), ⟨(u 2 (by decide)).trans g4.1, (u 3 (by decide)).trans g4.2⟩, ⟨⟨(u 42 (by decide)).trans a1, (u 43 (by decide)).trans a2, (u 44 (by decide)).trans a3, (u 45 (by decide)).trans a4, (u 46 (by decide)).trans a5, (u 47 (by decide)).trans a6, (u 48 (by decide)).trans a7, (u 49 (by decide)).trans a8, ((u 55 (by decide)).trans a9).trans (bitI_or (by decide)).symm, ((u 56 (by decide)).trans a10).trans (bitI_or (by decide)).symm, ((u 57 (by decide)).trans a11).trans (bitI_or (by decide)).symm, up_s _ _ _ _ |>.trans bitI_self.symm, (u 20 (by decide)).trans a13⟩, r2, r3, fun z => ?_, r5⟩, g6⟩
  rw [bit_or (by decide)] at z
  exact ⟨(u 17 (by decide)).trans (r4 z).1, (r4 z).2⟩
theorem RD.st15 {v : Int} (h : RD I L b g n c T N mo) (hv : 0 ≤ v ∧ v ≤ 8) : RD (up I 111 47 v) L b g n c (setT T 0 15 v) N mo := by
  obtain ⟨g1, g2, g3, g4, ⟨⟨a1, a2, a3, a4, a5, a6, a7, a8, a9, a10, a11, a12, a13⟩, r2, r3, r4, r5⟩, g6, g7, g8⟩ := h
  have u : ∀ k, k ≠ 47 → up I 111 47 v 111 k = I 111 k := fun k hk => up_j (by omega)
  exact ⟨g1.up111 (by decide), g2, g3.up111 (by decide), ⟨(u 2 (by decide)).trans g4.1, (u 3 (by decide)).trans g4.2⟩, ⟨⟨(u 42 (by decide)).trans a1, (u 43 (by decide)).trans a2, (u 44 (by decide)).trans a3, (u 45 (by decide)).trans a4, (u 46 (by decide)).trans a5, up_s _ _ _ _, (u 48 (by decide)).trans a7, (u 49 (by decide)).trans a8, (u 55 (by decide)).trans a9, (u 56 (by decide)).trans a10, (u 57 (by decide)).trans a11, (u 58 (by decide)).trans a12, (u 20 (by decide)).trans a13⟩, r2, r3, fun z => ⟨(u 17 (by decide)).trans (r4 z).1, (r4 z).2⟩, r5⟩, tw_set g6 (by unfold twB; omega), g7, g8⟩
theorem RD.st16 {v : Int} (h : RD I L b g n c T N mo) (hv : 1 ≤ v ∧ v ≤ 5) : RD (up I 111 48 v) L b g n c (setT T 0 16 v) N mo := by
  obtain ⟨g1, g2, g3, g4, ⟨⟨a1, a2, a3, a4, a5, a6, a7, a8, a9, a10, a11, a12, a13⟩, r2, r3, r4, r5⟩, g6, g7, g8⟩ := h
  have u : ∀ k, k ≠ 48 → up I 111 48 v 111 k = I 111 k := fun k hk => up_j (by omega)
  exact ⟨g1.up111 (by decide), g2, g3.up111 (by decide), ⟨(u 2 (by decide)).trans g4.1, (u 3 (by decide)).trans g4.2⟩, ⟨⟨(u 42 (by decide)).trans a1, (u 43 (by decide)).trans a2, (u 44 (by decide)).trans a3, (u 45 (by decide)).trans a4, (u 46 (by decide)).trans a5, (u 47 (by decide)).trans a6, up_s _ _ _ _, (u 49 (by decide)).trans a8, (u 55 (by decide)).trans a9, (u 56 (by decide)).trans a10, (u 57 (by decide)).trans a11, (u 58 (by decide)).trans a12, (u 20 (by decide)).trans a13⟩, r2, r3, fun z => ⟨(u 17 (by decide)).trans (r4 z).1, (r4 z).2⟩, r5⟩, tw_set g6 (by unfold twB; omega), g7, g8⟩
theorem RD.st17 {v : Int} (h : RD I L b g n c T N mo) (hv : 0 ≤ v ∧ v ≤ 999) : RD (up I 111 49 v) L b g n c (setT T 0 17 v) N mo := by
  obtain ⟨g1, g2, g3, g4, ⟨⟨a1, a2, a3, a4, a5, a6, a7, a8, a9, a10, a11, a12, a13⟩, r2, r3, r4, r5⟩, g6, g7, g8⟩ := h
  have u : ∀ k, k ≠ 49 → up I 111 49 v 111 k = I 111 k := fun k hk => up_j (by omega)
  exact ⟨g1.up111 (by decide), g2, g3.up111 (by decide), ⟨(u 2 (by decide)).trans g4.1, (u 3 (by decide)).trans g4.2⟩, ⟨⟨(u 42 (by decide)).trans a1, (u 43 (by decide)).trans a2, (u 44 (by decide)).trans a3, (u 45 (by decide)).trans a4, (u 46 (by decide)).trans a5, (u 47 (by decide)).trans a6, (u 48 (by decide)).trans a7, up_s _ _ _ _, (u 55 (by decide)).trans a9, (u 56 (by decide)).trans a10, (u 57 (by decide)).trans a11, (u 58 (by decide)).trans a12, (u 20 (by decide)).trans a13⟩, r2, r3, fun z => ⟨(u 17 (by decide)).trans (r4 z).1, (r4 z).2⟩, r5⟩, tw_set g6 (by unfold twB; omega), g7, g8⟩
theorem RD.b0 (h : RD I L b g n c T N mo) : RB0 (up I 111 55 1) L b g n c := ⟨h.1.up111 (by decide), h.2.1, h.2.2.1.up111 (by decide), ⟨(up_j (by decide)).trans h.2.2.2.1.1, (up_j (by decide)).trans h.2.2.2.1.2⟩, trivial⟩
theorem Fyd.fn {J : mI} (h : Fyd (up I 111 55 1) J) : Fn I J := by
  refine ⟨fun b g => ?_, fun j g => ?_⟩
  · unfold rnCell at g
    rw [h.1 b (by omega) (by omega) (by omega) (by omega)]
    exact funext fun k => up_c (by omega)
  · unfold rnSlot at g
    rw [h.2 j (by omega) (by omega) (by omega) (by omega) (by omega) (by omega) (by omega)]
    exact up_j (by omega)
theorem rd_hears {c' : Nat} {T' : mT} {out : List Int} {un : Nat} (h : RD I L b g n c T N mo) (hB : RB0 J M b g n c') (hF : Fyd (up I 111 55 1) J) (hL : Lb L M) (ho : J 111 17 = ((out.length : Nat) : Int) ∧ ∀ k, k < out.length → codeR (J 114 k) (J 115 k) (oat out k)) (hu : J 111 20 = ((un : Nat) : Int)) (hO : OF T' out un) (hT : TF T T') (hw : tw T') : RD J M b g n c' T' N (mo ||| 2 ^ 11) := by
  obtain ⟨g1, g2, g3, g4, ⟨⟨a1, a2, a3, a4, a5, a6, a7, a8, a9, a10, a11, a12, a13⟩, r2, r3, r4, r5⟩, g6, g7, g8⟩ := h
  have u : ∀ k, ¬ (2 ≤ k ∧ k ≤ 4) → ¬ (6 ≤ k ∧ k ≤ 8) → k ≠ 17 → k ≠ 19 → k ≠ 20 → k ≠ 22 → k ≠ 23 → k ≠ 55 → J 111 k = I 111 k := fun k b1 b2 b3 b4 b5 b6 b7 b8 => (hF.2 k b1 b2 b3 b4 b5 b6 b7).trans (up_j b8)
  have v : ∀ a, a ≠ 111 → a ≠ 114 → a ≠ 115 → a ≠ 118 → J a = I a := fun a b1 b2 b3 b4 => (hF.1 a b1 b2 b3 b4).trans (funext fun k => up_c b1)
  have t : ∀ k j, k ≠ 17 → k ≠ 18 → T' k j = T k j := hT
  have e13 : T' 13 = T 13 := funext fun j => t 13 j (by decide) (by decide)
  have e5 : T' 5 = T 5 := funext fun j => t 5 j (by decide) (by decide)
  have eP : nP T' = nP T := by show (T' 0 12).toNat = _; rw [t 0 12 (by decide) (by decide)]
  have eC : nC T' = nC T := by show (T' 0 11).toNat = _; rw [t 0 11 (by decide) (by decide)]
  have eQ : nQ T' = nQ T := by show (T' 0 13).toNat = _; rw [t 0 13 (by decide) (by decide)]
  refine ⟨hB.1, hB.2.1, hB.2.2.1, hB.2.2.2.1, ⟨?_, fun p hp => ?_, fun q hq => ?_, fun _ => ?_, ?_⟩, hw, by rw [eC]; exact g7, by rw [eP]; exact g8⟩
  · unfold rnC
    rw [e13, e5, t 0 11 (by decide) (by decide), t 0 12 (by decide) (by decide), t 0 13 (by decide) (by decide), t 0 15 (by decide) (by decide), t 0 16 (by decide) (by decide), t 0 17 (by decide) (by decide), bitI_self, bitI_or (by decide), bitI_or (by decide), bitI_or (by decide), hO.2.1, hu]
    refine ⟨(u 42 (by decide) (by decide) (by decide) (by decide) (by decide) (by decide) (by decide) (by decide)).trans a1, (u 43 (by decide) (by decide) (by decide) (by decide) (by decide) (by decide) (by decide) (by decide)).trans a2, (u 44 (by decide) (by decide) (by decide) (by decide) (by decide) (by decide) (by decide) (by decide)).trans a3, (u 45 (by decide) (by decide) (by decide) (by decide) (by decide) (by decide) (by decide) (by decide)).trans a4, (u 46 (by decide) (by decide) (by decide) (by decide) (by decide) (by decide) (by decide) (by decide)).trans a5, (u 47 (by decide) (by decide) (by decide) (by decide) (by decide) (by decide) (by decide) (by decide)).trans a6, (u 48 (by decide) (by decide) (by decide) (by decide) (by decide) (by decide) (by decide) (by decide)).trans a7, (u 49 (by decide) (by decide) (by decide) (by decide) (by decide) (by decide) (by decide) (by decide)).trans a8, ?_, (u 56 (by decide) (by decide) (by decide) (by decide) (by decide) (by decide) (by decide) (by decide)).trans a10, (u 57 (by decide) (by decide) (by decide) (by decide) (by decide) (by decide) (by decide) (by decide)).trans a11, (u 58 (by decide) (by decide) (by decide) (by decide) (by decide) (by decide) (by decide) (by decide)).trans a12, rfl⟩
    exact (hF.2 55 (by decide) (by decide) (by decide) (by decide) (by decide) (by decide) (by decide)).trans (up_s _ _ _ _)
  · rw [eP] at hp
    have := r2 p hp
    unfold rnW vowB at this ⊢
    rw [v 121 (by decide) (by decide) (by decide) (by decide), v 122 (by decide) (by decide) (by decide) (by decide), v 123 (by decide) (by decide) (by decide) (by decide), v 124 (by decide) (by decide) (by decide) (by decide), v 125 (by decide) (by decide) (by decide) (by decide), v 136 (by decide) (by decide) (by decide) (by decide), t 3 p (by decide) (by decide), t 11 p (by decide) (by decide), t 12 p (by decide) (by decide), t 4 p (by decide) (by decide), e13, e5, t 0 14 (by decide) (by decide)]
    exact this
  · rw [eQ] at hq
    have := r3 q hq
    unfold rnQ at this ⊢
    rw [v 126 (by decide) (by decide) (by decide) (by decide), v 127 (by decide) (by decide) (by decide) (by decide), v 128 (by decide) (by decide) (by decide) (by decide), t 6 q (by decide) (by decide), t 7 q (by decide) (by decide), t 8 q (by decide) (by decide), t 9 q (by decide) (by decide)]
    exact this
  · rw [hO.1]
    refine ⟨ho.1, fun k hk => ?_⟩
    have hk2 : k < out.length := by omega
    rw [hO.2.2 k hk2]
    exact ho.2 k hk2
  · unfold rnN at r5 ⊢
    rw [hL 113 (by decide), eC, eP]
    exact r5
end RDG
