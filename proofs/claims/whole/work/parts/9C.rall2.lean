theorem kcN_0 {f : Nat → Int} : ∀ k, (∀ j, j < k → f j = 0) → kcN f k = 0
  | 0, _ => rfl
  | k + 1, h => by
    show kcN f k + pc8 (f k).toNat = 0
    rw [kcN_0 k (fun j hj => h j (by omega)), h k (by omega)]
    rfl
theorem kc_clr {T : mT} {k : Nat} (hk : k = 13 ∨ k = 5) : (0 : Int) = ((kcN (clrT T k) 8 : Nat) : Int) := by
  rw [kcN_0 8 (fun j hj => by rcases hk with rfl | rfl <;> exact if_pos hj)]
  rfl
/-- all that reading a text changes of the reference -/
def Fra (I J : mI) : Prop := (∀ b, ¬ rnCell b → J b = I b) ∧ (∀ j, ¬ rnSlot j → j ≠ 1 → j ≠ 5 → J 111 j = I 111 j) ∧ J 111 1 = 0
theorem Fra.of {I J K : mI} (h1 : ∀ b, b ≠ 111 → J b = I b) (h2 : ∀ j, ¬ rnSlot j → j ≠ 1 → j ≠ 5 → J 111 j = I 111 j) (h3 : J 111 1 = 0) (h : Fn J K) : Fra I K := ⟨fun b g => (h.1 b g).trans (h1 b (fun e => g (Or.inl e))), fun j g a1 a2 => (h.2 j g).trans (h2 j g a1 a2), (h.2 1 (by unfold rnSlot; omega)).trans h3⟩
theorem rd_start {J0 J1 : mI} {M1 : Nat → Nat → Int} {b g : Nat → Int} {n : Nat} {T1 N : mT} (hB : RBk J1 b g n) (hF : Fb J0 J1) (hT : TKR J1 M1 b 0) (h2 : J0 111 2 = 0) (h3 : J0 111 3 = -1) (hC : rnC J0 (clrT T1) 0) (hw : tw T1) (hL : ∀ j, inL (M1 113 j)) : RD J1 M1 b g n 0 (clrT T1) N 0 := by
  have f : ∀ j, j ≠ 4 → j ≠ 6 → j ≠ 7 → j ≠ 8 → J1 111 j = J0 111 j := hF.2
  refine ⟨hB, Nat.zero_le _, hT, ⟨(f 2 (by decide) (by decide) (by decide) (by decide)).trans h2, (f 3 (by decide) (by decide) (by decide) (by decide)).trans h3⟩, ⟨hC.o (fun j hj => f j (by omega) (by omega) (by omega) (by omega)), fun p hp => absurd hp (Nat.not_lt_zero p), fun q hq => absurd hq (Nat.not_lt_zero q), fun z => ?_, ⟨hL, fun k hk => absurd hk (Nat.not_lt_zero k), fun k hk => absurd hk (Nat.not_lt_zero k)⟩⟩, clrT_tw hw, fun i j hi => absurd hi (Nat.not_lt_zero i), fun i j hi => absurd hi (Nat.not_lt_zero i)⟩
  rw [Nat.zero_testBit] at z
  exact absurd z (by decide)

theorem rs_readAllok {l : Launch} {G : mG} {d : Nat} {I : mI} {L : Nat → Nat → Int} {D : Nat → Nat} {Q : mQ} {b g : Nat → Int} {n : Nat} {T1 N : mT} {m : Nat} {q : Nat → mL} (h11 : I 111 1 = (n : Int)) (h112 : ∀ j, I 112 j = g j % 256) (hn : n ≤ 1600) (hb : b = bOf g n) (hw : tw T1) (hL : ∀ j, inL (L 113 j)) (hx : txOk b (0, clrT T1, N, 0) m q) (hd : 9 ≤ d) (hQ : ∀ J M, Fra I J → Ln L M → RD J M b g n (q m).1 (q m).2.1 (q m).2.2.1 (q m).2.2.2 → Q none J (XX M D)) : WP l G m_X11_readAll d 153 I (XX L D) 0 [some (vR 111)] [] Q := by
  refine wp_aload_n (pc := 0) 0 dX11_readAll_0 rfl rfl ?_
  refine wp_aload_n (pc := 1) 0 dX11_readAll_1 rfl rfl ?_
  refine wp_geti (pc := 2) dX11_readAll_2 rfl f_X11_145 kd_111 la_111 (Or.inl rfl) ?_
  refine wp_eqst (st' := [vI (n : Int), vR 111]) (by rw [h11]) ?_
  refine wp_puti (pc := 5) dX11_readAll_5 rfl f_X11_155 kd_111 la_111 (fun _ h => by cases h; rfl) rfl ?_
  refine wp_aload_n (pc := 8) 0 dX11_readAll_8 rfl rfl ?_
  refine wp_iconst (pc := 9) dX11_readAll_9 ?_
  refine wp_puti (pc := 10) dX11_readAll_10 rfl f_X11_145 kd_111 la_111 (fun _ h => by cases h; rfl) rfl ?_
  refine wp_aload_n (pc := 13) 0 dX11_readAll_13 rfl rfl ?_
  refine wp_iconst (pc := 14) dX11_readAll_14 ?_
  refine wp_puti (pc := 15) dX11_readAll_15 rfl f_X11_152 kd_111 la_111 (fun _ h => by cases h; rfl) rfl ?_
  refine wp_aload_n (pc := 18) 0 dX11_readAll_18 rfl rfl ?_
  refine wp_iconst (pc := 19) dX11_readAll_19 ?_
  refine wp_puti (pc := 20) dX11_readAll_20 rfl f_X11_185 kd_111 la_111 (fun _ h => by cases h; rfl) rfl ?_
  refine wp_aload_n (pc := 23) 0 dX11_readAll_23 rfl rfl ?_
  refine wp_iconst (pc := 24) dX11_readAll_24 ?_
  refine wp_puti (pc := 25) dX11_readAll_25 rfl f_X11_13 kd_111 la_111 (fun _ h => by cases h; rfl) rfl ?_
  refine wp_aload_n (pc := 28) 0 dX11_readAll_28 rfl rfl ?_
  refine wp_iconst (pc := 29) dX11_readAll_29 ?_
  refine wp_puti (pc := 30) dX11_readAll_30 rfl f_X11_264 kd_111 la_111 (fun _ h => by cases h; rfl) rfl ?_
  refine wp_aload_n (pc := 33) 0 dX11_readAll_33 rfl rfl ?_
  refine wp_iconst (pc := 34) dX11_readAll_34 ?_
  refine wp_puti (pc := 35) dX11_readAll_35 rfl f_X11_258 kd_111 la_111 (fun _ h => by cases h; rfl) rfl ?_
  refine wp_aload_n (pc := 38) 0 dX11_readAll_38 rfl rfl ?_
  refine wp_iconst (pc := 39) dX11_readAll_39 ?_
  refine wp_puti (pc := 40) dX11_readAll_40 rfl f_X11_356 kd_111 la_111 (fun _ h => by cases h; rfl) rfl ?_
  refine wp_aload_n (pc := 43) 0 dX11_readAll_43 rfl rfl ?_
  refine wp_iconst (pc := 44) dX11_readAll_44 ?_
  refine wp_puti (pc := 45) dX11_readAll_45 rfl f_X11_350 kd_111 la_111 (fun _ h => by cases h; rfl) rfl ?_
  refine wp_aload_n (pc := 48) 0 dX11_readAll_48 rfl rfl ?_
  refine wp_iconst (pc := 49) dX11_readAll_49 ?_
  refine wp_puti (pc := 50) dX11_readAll_50 rfl f_X11_353 kd_111 la_111 (fun _ h => by cases h; rfl) rfl ?_
  refine wp_aload_n (pc := 53) 0 dX11_readAll_53 rfl rfl ?_
  refine wp_iconst (pc := 54) dX11_readAll_54 ?_
  refine wp_puti (pc := 55) dX11_readAll_55 rfl f_X11_388 kd_111 la_111 (fun _ h => by cases h; rfl) rfl ?_
  refine wp_aload_n (pc := 58) 0 dX11_readAll_58 rfl rfl ?_
  refine wp_iconst (pc := 59) dX11_readAll_59 ?_
  refine wp_puti (pc := 60) dX11_readAll_60 rfl f_X11_394 kd_111 la_111 (fun _ h => by cases h; rfl) rfl ?_
  refine wp_aload_n (pc := 63) 0 dX11_readAll_63 rfl rfl ?_
  refine wp_iconst (pc := 64) dX11_readAll_64 ?_
  refine wp_puti (pc := 65) dX11_readAll_65 rfl f_X11_400 kd_111 la_111 (fun _ h => by cases h; rfl) rfl ?_
  refine wp_aload_n (pc := 68) 0 dX11_readAll_68 rfl rfl ?_
  refine wp_iconst (pc := 69) dX11_readAll_69 ?_
  refine wp_putz (pc := 70) dX11_readAll_70 rfl f_X11_378 kd_111 la_111 (fun _ h => by cases h; rfl) rfl (by decide) ?_
  refine wp_aload_n (pc := 73) 0 dX11_readAll_73 rfl rfl ?_
  refine wp_iconst (pc := 74) dX11_readAll_74 ?_
  refine wp_putz (pc := 75) dX11_readAll_75 rfl f_X11_385 kd_111 la_111 (fun _ h => by cases h; rfl) rfl (by decide) ?_
  refine wp_aload_n (pc := 78) 0 dX11_readAll_78 rfl rfl ?_
  refine wp_iconst (pc := 79) dX11_readAll_79 ?_
  refine wp_putz (pc := 80) dX11_readAll_80 rfl f_X11_391 kd_111 la_111 (fun _ h => by cases h; rfl) rfl (by decide) ?_
  refine wp_aload_n (pc := 83) 0 dX11_readAll_83 rfl rfl ?_
  refine wp_iconst (pc := 84) dX11_readAll_84 ?_
  refine wp_putz (pc := 85) dX11_readAll_85 rfl f_X11_397 kd_111 la_111 (fun _ h => by cases h; rfl) rfl (by decide) ?_
  refine wp_aload_n (pc := 88) 0 dX11_readAll_88 rfl rfl ?_
  refine wp_iconst (pc := 89) dX11_readAll_89 ?_
  refine wp_puti (pc := 90) dX11_readAll_90 rfl f_X11_283 kd_111 la_111 (fun _ h => by cases h; rfl) rfl ?_
  refine wp_gen (fun J => (∀ b, b ≠ 111 → J b = I b) ∧ (∀ j, ¬ rnSlot j → j ≠ 1 → j ≠ 5 → J 111 j = I 111 j) ∧ J 111 1 = 0 ∧ J 111 5 = (n : Int) ∧ J 111 4 = 0 ∧ J 111 2 = 0 ∧ J 111 3 = -1 ∧ rnC J (clrT T1) 0) ⟨fun b hb => funext fun k => by rw [up_c hb, up_c hb, up_c hb, up_c hb, up_c hb, up_c hb, up_c hb, up_c hb, up_c hb, up_c hb, up_c hb, up_c hb, up_c hb, up_c hb, up_c hb, up_c hb, up_c hb, up_c hb], fun j g1 g2 g3 => by unfold rnSlot at g1; rw [up_j (by omega), up_j (by omega), up_j (by omega), up_j (by omega), up_j (by omega), up_j (by omega), up_j (by omega), up_j (by omega), up_j (by omega), up_j (by omega), up_j (by omega), up_j (by omega), up_j (by omega), up_j (by omega), up_j (by omega), up_j (by omega), up_j (by omega), up_j (by omega)], (by rw [up_j (by omega), up_j (by omega), up_j (by omega), up_j (by omega), up_j (by omega), up_j (by omega), up_j (by omega), up_j (by omega), up_j (by omega), up_j (by omega), up_j (by omega), up_j (by omega), up_j (by omega), up_j (by omega), up_j (by omega), up_j (by omega), up_s]), (by rw [up_j (by omega), up_j (by omega), up_j (by omega), up_j (by omega), up_j (by omega), up_j (by omega), up_j (by omega), up_j (by omega), up_j (by omega), up_j (by omega), up_j (by omega), up_j (by omega), up_j (by omega), up_j (by omega), up_j (by omega), up_j (by omega), up_j (by omega), up_s]), (by rw [up_j (by omega), up_j (by omega), up_j (by omega), up_j (by omega), up_j (by omega), up_j (by omega), up_j (by omega), up_j (by omega), up_j (by omega), up_j (by omega), up_j (by omega), up_j (by omega), up_j (by omega), up_j (by omega), up_j (by omega), up_s]), (by rw [up_j (by omega), up_j (by omega), up_j (by omega), up_j (by omega), up_j (by omega), up_j (by omega), up_j (by omega), up_j (by omega), up_j (by omega), up_j (by omega), up_j (by omega), up_j (by omega), up_j (by omega), up_j (by omega), up_s]), (by rw [up_j (by omega), up_j (by omega), up_j (by omega), up_j (by omega), up_j (by omega), up_j (by omega), up_j (by omega), up_j (by omega), up_j (by omega), up_j (by omega), up_j (by omega), up_j (by omega), up_j (by omega), up_s]), ⟨(show (up (up (up (up (up (up (up (up (up (up (up (up (up (up (up (up (up (up I 111 5 (n : Int)) 111 1 0) 111 4 0) 111 2 0) 111 3 (-1)) 111 42 0) 111 43 0) 111 44 0) 111 45 0) 111 46 0) 111 47 4) 111 48 2) 111 49 0) 111 55 0) 111 56 0) 111 57 0) 111 58 0) 111 20 0) 111 42 = 0 from (by rw [up_j (by omega), up_j (by omega), up_j (by omega), up_j (by omega), up_j (by omega), up_j (by omega), up_j (by omega), up_j (by omega), up_j (by omega), up_j (by omega), up_j (by omega), up_j (by omega), up_s])), (show (up (up (up (up (up (up (up (up (up (up (up (up (up (up (up (up (up (up I 111 5 (n : Int)) 111 1 0) 111 4 0) 111 2 0) 111 3 (-1)) 111 42 0) 111 43 0) 111 44 0) 111 45 0) 111 46 0) 111 47 4) 111 48 2) 111 49 0) 111 55 0) 111 56 0) 111 57 0) 111 58 0) 111 20 0) 111 43 = 0 from (by rw [up_j (by omega), up_j (by omega), up_j (by omega), up_j (by omega), up_j (by omega), up_j (by omega), up_j (by omega), up_j (by omega), up_j (by omega), up_j (by omega), up_j (by omega), up_s])), (show (up (up (up (up (up (up (up (up (up (up (up (up (up (up (up (up (up (up I 111 5 (n : Int)) 111 1 0) 111 4 0) 111 2 0) 111 3 (-1)) 111 42 0) 111 43 0) 111 44 0) 111 45 0) 111 46 0) 111 47 4) 111 48 2) 111 49 0) 111 55 0) 111 56 0) 111 57 0) 111 58 0) 111 20 0) 111 44 = 0 from (by rw [up_j (by omega), up_j (by omega), up_j (by omega), up_j (by omega), up_j (by omega), up_j (by omega), up_j (by omega), up_j (by omega), up_j (by omega), up_j (by omega), up_s])), (show (up (up (up (up (up (up (up (up (up (up (up (up (up (up (up (up (up (up I 111 5 (n : Int)) 111 1 0) 111 4 0) 111 2 0) 111 3 (-1)) 111 42 0) 111 43 0) 111 44 0) 111 45 0) 111 46 0) 111 47 4) 111 48 2) 111 49 0) 111 55 0) 111 56 0) 111 57 0) 111 58 0) 111 20 0) 111 45 = 0 from (by rw [up_j (by omega), up_j (by omega), up_j (by omega), up_j (by omega), up_j (by omega), up_j (by omega), up_j (by omega), up_j (by omega), up_j (by omega), up_s])).trans (kc_clr (by omega)), (show (up (up (up (up (up (up (up (up (up (up (up (up (up (up (up (up (up (up I 111 5 (n : Int)) 111 1 0) 111 4 0) 111 2 0) 111 3 (-1)) 111 42 0) 111 43 0) 111 44 0) 111 45 0) 111 46 0) 111 47 4) 111 48 2) 111 49 0) 111 55 0) 111 56 0) 111 57 0) 111 58 0) 111 20 0) 111 46 = 0 from (by rw [up_j (by omega), up_j (by omega), up_j (by omega), up_j (by omega), up_j (by omega), up_j (by omega), up_j (by omega), up_j (by omega), up_s])).trans (kc_clr (by omega)), (show (up (up (up (up (up (up (up (up (up (up (up (up (up (up (up (up (up (up I 111 5 (n : Int)) 111 1 0) 111 4 0) 111 2 0) 111 3 (-1)) 111 42 0) 111 43 0) 111 44 0) 111 45 0) 111 46 0) 111 47 4) 111 48 2) 111 49 0) 111 55 0) 111 56 0) 111 57 0) 111 58 0) 111 20 0) 111 47 = 4 from (by rw [up_j (by omega), up_j (by omega), up_j (by omega), up_j (by omega), up_j (by omega), up_j (by omega), up_j (by omega), up_s])), (show (up (up (up (up (up (up (up (up (up (up (up (up (up (up (up (up (up (up I 111 5 (n : Int)) 111 1 0) 111 4 0) 111 2 0) 111 3 (-1)) 111 42 0) 111 43 0) 111 44 0) 111 45 0) 111 46 0) 111 47 4) 111 48 2) 111 49 0) 111 55 0) 111 56 0) 111 57 0) 111 58 0) 111 20 0) 111 48 = 2 from (by rw [up_j (by omega), up_j (by omega), up_j (by omega), up_j (by omega), up_j (by omega), up_j (by omega), up_s])), (show (up (up (up (up (up (up (up (up (up (up (up (up (up (up (up (up (up (up I 111 5 (n : Int)) 111 1 0) 111 4 0) 111 2 0) 111 3 (-1)) 111 42 0) 111 43 0) 111 44 0) 111 45 0) 111 46 0) 111 47 4) 111 48 2) 111 49 0) 111 55 0) 111 56 0) 111 57 0) 111 58 0) 111 20 0) 111 49 = 0 from (by rw [up_j (by omega), up_j (by omega), up_j (by omega), up_j (by omega), up_j (by omega), up_s])), (show (up (up (up (up (up (up (up (up (up (up (up (up (up (up (up (up (up (up I 111 5 (n : Int)) 111 1 0) 111 4 0) 111 2 0) 111 3 (-1)) 111 42 0) 111 43 0) 111 44 0) 111 45 0) 111 46 0) 111 47 4) 111 48 2) 111 49 0) 111 55 0) 111 56 0) 111 57 0) 111 58 0) 111 20 0) 111 55 = 0 from (by rw [up_j (by omega), up_j (by omega), up_j (by omega), up_j (by omega), up_s])), (show (up (up (up (up (up (up (up (up (up (up (up (up (up (up (up (up (up (up I 111 5 (n : Int)) 111 1 0) 111 4 0) 111 2 0) 111 3 (-1)) 111 42 0) 111 43 0) 111 44 0) 111 45 0) 111 46 0) 111 47 4) 111 48 2) 111 49 0) 111 55 0) 111 56 0) 111 57 0) 111 58 0) 111 20 0) 111 56 = 0 from (by rw [up_j (by omega), up_j (by omega), up_j (by omega), up_s])), (show (up (up (up (up (up (up (up (up (up (up (up (up (up (up (up (up (up (up I 111 5 (n : Int)) 111 1 0) 111 4 0) 111 2 0) 111 3 (-1)) 111 42 0) 111 43 0) 111 44 0) 111 45 0) 111 46 0) 111 47 4) 111 48 2) 111 49 0) 111 55 0) 111 56 0) 111 57 0) 111 58 0) 111 20 0) 111 57 = 0 from (by rw [up_j (by omega), up_j (by omega), up_s])), (show (up (up (up (up (up (up (up (up (up (up (up (up (up (up (up (up (up (up I 111 5 (n : Int)) 111 1 0) 111 4 0) 111 2 0) 111 3 (-1)) 111 42 0) 111 43 0) 111 44 0) 111 45 0) 111 46 0) 111 47 4) 111 48 2) 111 49 0) 111 55 0) 111 56 0) 111 57 0) 111 58 0) 111 20 0) 111 58 = 0 from (by rw [up_j (by omega), up_s])), (show (up (up (up (up (up (up (up (up (up (up (up (up (up (up (up (up (up (up I 111 5 (n : Int)) 111 1 0) 111 4 0) 111 2 0) 111 3 (-1)) 111 42 0) 111 43 0) 111 44 0) 111 45 0) 111 46 0) 111 47 4) 111 48 2) 111 49 0) 111 55 0) 111 56 0) 111 57 0) 111 58 0) 111 20 0) 111 20 = 0 from (by rw [up_s]))⟩⟩ (fun J0 hJ0 => ?_)
  obtain ⟨j1, j2, j3, j4, j5, j6, j7, j8⟩ := hJ0
  refine wp_aload_n (pc := 93) 0 dX11_readAll_93 rfl rfl ?_
  refine wp_callV (pc := 94) (st := []) (nf' := 153) [] [some (vR 111), none, none] dX11_readAll_94 rfl c_X11_241 rfl kd_111 (by decide) rfl la_111 rfl (Nat.le_of_ble_eq_true rfl) rfl (Nat.le_of_ble_eq_true rfl) (by omega) (Nat.le_refl _) (Nat.le_refl _) ?_
  have hB0 : RBk J0 b g n := ⟨hb, by rw [j1 112 (by decide)]; exact h112, j4, hn⟩
  refine rs_token (c := 0) hB0 (Nat.zero_le _) j5 (by omega) (fun J1 M1 hFb1 hLb1 hTk1 => ?_)
  have hP : RD J1 M1 b g n 0 (clrT T1) N 0 := rd_start (hFb1.tb hB0) hFb1 hTk1 j6 j7 j8 hw (by rw [hLb1 113 (by decide)]; exact hL)
  refine wp_eqst (st' := []) rfl ?_
  exact lp_rallok (I := J1) (L := M1) hx.1 hx.2 (clr_GT hw) hd (fun J M hF hL2 hR => hQ J M (Fra.of j1 j2 j3 (hFb1.n.trans hF)) (hLb1.n.trans hL2) hR) 0 (Nat.zero_le _) J1 M1 Fn.refl Ln.refl (by rw [hx.1.1]; exact hP)

theorem rs_readAllbad {l : Launch} {G : mG} {d : Nat} {I : mI} {L : Nat → Nat → Int} {D : Nat → Nat} {Q : mQ} {b g : Nat → Int} {n : Nat} {T1 N : mT} {m : Nat} {q : Nat → mL} {e : Int × Int} (h11 : I 111 1 = (n : Int)) (h112 : ∀ j, I 112 j = g j % 256) (hn : n ≤ 1600) (hb : b = bOf g n) (hw : tw T1) (hL : ∀ j, inL (L 113 j)) (hx : txBad b (0, clrT T1, N, 0) m q e) (hd : 9 ≤ d) (hQ : ∀ J M, Fra I J → Ln L M → RE J e → Q none J (XX M D)) : WP l G m_X11_readAll d 153 I (XX L D) 0 [some (vR 111)] [] Q := by
  refine wp_aload_n (pc := 0) 0 dX11_readAll_0 rfl rfl ?_
  refine wp_aload_n (pc := 1) 0 dX11_readAll_1 rfl rfl ?_
  refine wp_geti (pc := 2) dX11_readAll_2 rfl f_X11_145 kd_111 la_111 (Or.inl rfl) ?_
  refine wp_eqst (st' := [vI (n : Int), vR 111]) (by rw [h11]) ?_
  refine wp_puti (pc := 5) dX11_readAll_5 rfl f_X11_155 kd_111 la_111 (fun _ h => by cases h; rfl) rfl ?_
  refine wp_aload_n (pc := 8) 0 dX11_readAll_8 rfl rfl ?_
  refine wp_iconst (pc := 9) dX11_readAll_9 ?_
  refine wp_puti (pc := 10) dX11_readAll_10 rfl f_X11_145 kd_111 la_111 (fun _ h => by cases h; rfl) rfl ?_
  refine wp_aload_n (pc := 13) 0 dX11_readAll_13 rfl rfl ?_
  refine wp_iconst (pc := 14) dX11_readAll_14 ?_
  refine wp_puti (pc := 15) dX11_readAll_15 rfl f_X11_152 kd_111 la_111 (fun _ h => by cases h; rfl) rfl ?_
  refine wp_aload_n (pc := 18) 0 dX11_readAll_18 rfl rfl ?_
  refine wp_iconst (pc := 19) dX11_readAll_19 ?_
  refine wp_puti (pc := 20) dX11_readAll_20 rfl f_X11_185 kd_111 la_111 (fun _ h => by cases h; rfl) rfl ?_
  refine wp_aload_n (pc := 23) 0 dX11_readAll_23 rfl rfl ?_
  refine wp_iconst (pc := 24) dX11_readAll_24 ?_
  refine wp_puti (pc := 25) dX11_readAll_25 rfl f_X11_13 kd_111 la_111 (fun _ h => by cases h; rfl) rfl ?_
  refine wp_aload_n (pc := 28) 0 dX11_readAll_28 rfl rfl ?_
  refine wp_iconst (pc := 29) dX11_readAll_29 ?_
  refine wp_puti (pc := 30) dX11_readAll_30 rfl f_X11_264 kd_111 la_111 (fun _ h => by cases h; rfl) rfl ?_
  refine wp_aload_n (pc := 33) 0 dX11_readAll_33 rfl rfl ?_
  refine wp_iconst (pc := 34) dX11_readAll_34 ?_
  refine wp_puti (pc := 35) dX11_readAll_35 rfl f_X11_258 kd_111 la_111 (fun _ h => by cases h; rfl) rfl ?_
  refine wp_aload_n (pc := 38) 0 dX11_readAll_38 rfl rfl ?_
  refine wp_iconst (pc := 39) dX11_readAll_39 ?_
  refine wp_puti (pc := 40) dX11_readAll_40 rfl f_X11_356 kd_111 la_111 (fun _ h => by cases h; rfl) rfl ?_
  refine wp_aload_n (pc := 43) 0 dX11_readAll_43 rfl rfl ?_
  refine wp_iconst (pc := 44) dX11_readAll_44 ?_
  refine wp_puti (pc := 45) dX11_readAll_45 rfl f_X11_350 kd_111 la_111 (fun _ h => by cases h; rfl) rfl ?_
  refine wp_aload_n (pc := 48) 0 dX11_readAll_48 rfl rfl ?_
  refine wp_iconst (pc := 49) dX11_readAll_49 ?_
  refine wp_puti (pc := 50) dX11_readAll_50 rfl f_X11_353 kd_111 la_111 (fun _ h => by cases h; rfl) rfl ?_
  refine wp_aload_n (pc := 53) 0 dX11_readAll_53 rfl rfl ?_
  refine wp_iconst (pc := 54) dX11_readAll_54 ?_
  refine wp_puti (pc := 55) dX11_readAll_55 rfl f_X11_388 kd_111 la_111 (fun _ h => by cases h; rfl) rfl ?_
  refine wp_aload_n (pc := 58) 0 dX11_readAll_58 rfl rfl ?_
  refine wp_iconst (pc := 59) dX11_readAll_59 ?_
  refine wp_puti (pc := 60) dX11_readAll_60 rfl f_X11_394 kd_111 la_111 (fun _ h => by cases h; rfl) rfl ?_
  refine wp_aload_n (pc := 63) 0 dX11_readAll_63 rfl rfl ?_
  refine wp_iconst (pc := 64) dX11_readAll_64 ?_
  refine wp_puti (pc := 65) dX11_readAll_65 rfl f_X11_400 kd_111 la_111 (fun _ h => by cases h; rfl) rfl ?_
  refine wp_aload_n (pc := 68) 0 dX11_readAll_68 rfl rfl ?_
  refine wp_iconst (pc := 69) dX11_readAll_69 ?_
  refine wp_putz (pc := 70) dX11_readAll_70 rfl f_X11_378 kd_111 la_111 (fun _ h => by cases h; rfl) rfl (by decide) ?_
  refine wp_aload_n (pc := 73) 0 dX11_readAll_73 rfl rfl ?_
  refine wp_iconst (pc := 74) dX11_readAll_74 ?_
  refine wp_putz (pc := 75) dX11_readAll_75 rfl f_X11_385 kd_111 la_111 (fun _ h => by cases h; rfl) rfl (by decide) ?_
  refine wp_aload_n (pc := 78) 0 dX11_readAll_78 rfl rfl ?_
  refine wp_iconst (pc := 79) dX11_readAll_79 ?_
  refine wp_putz (pc := 80) dX11_readAll_80 rfl f_X11_391 kd_111 la_111 (fun _ h => by cases h; rfl) rfl (by decide) ?_
  refine wp_aload_n (pc := 83) 0 dX11_readAll_83 rfl rfl ?_
  refine wp_iconst (pc := 84) dX11_readAll_84 ?_
  refine wp_putz (pc := 85) dX11_readAll_85 rfl f_X11_397 kd_111 la_111 (fun _ h => by cases h; rfl) rfl (by decide) ?_
  refine wp_aload_n (pc := 88) 0 dX11_readAll_88 rfl rfl ?_
  refine wp_iconst (pc := 89) dX11_readAll_89 ?_
  refine wp_puti (pc := 90) dX11_readAll_90 rfl f_X11_283 kd_111 la_111 (fun _ h => by cases h; rfl) rfl ?_
  refine wp_gen (fun J => (∀ b, b ≠ 111 → J b = I b) ∧ (∀ j, ¬ rnSlot j → j ≠ 1 → j ≠ 5 → J 111 j = I 111 j) ∧ J 111 1 = 0 ∧ J 111 5 = (n : Int) ∧ J 111 4 = 0 ∧ J 111 2 = 0 ∧ J 111 3 = -1 ∧ rnC J (clrT T1) 0) ⟨fun b hb => funext fun k => by rw [up_c hb, up_c hb, up_c hb, up_c hb, up_c hb, up_c hb, up_c hb, up_c hb, up_c hb, up_c hb, up_c hb, up_c hb, up_c hb, up_c hb, up_c hb, up_c hb, up_c hb, up_c hb], fun j g1 g2 g3 => by unfold rnSlot at g1; rw [up_j (by omega), up_j (by omega), up_j (by omega), up_j (by omega), up_j (by omega), up_j (by omega), up_j (by omega), up_j (by omega), up_j (by omega), up_j (by omega), up_j (by omega), up_j (by omega), up_j (by omega), up_j (by omega), up_j (by omega), up_j (by omega), up_j (by omega), up_j (by omega)], (by rw [up_j (by omega), up_j (by omega), up_j (by omega), up_j (by omega), up_j (by omega), up_j (by omega), up_j (by omega), up_j (by omega), up_j (by omega), up_j (by omega), up_j (by omega), up_j (by omega), up_j (by omega), up_j (by omega), up_j (by omega), up_j (by omega), up_s]), (by rw [up_j (by omega), up_j (by omega), up_j (by omega), up_j (by omega), up_j (by omega), up_j (by omega), up_j (by omega), up_j (by omega), up_j (by omega), up_j (by omega), up_j (by omega), up_j (by omega), up_j (by omega), up_j (by omega), up_j (by omega), up_j (by omega), up_j (by omega), up_s]), (by rw [up_j (by omega), up_j (by omega), up_j (by omega), up_j (by omega), up_j (by omega), up_j (by omega), up_j (by omega), up_j (by omega), up_j (by omega), up_j (by omega), up_j (by omega), up_j (by omega), up_j (by omega), up_j (by omega), up_j (by omega), up_s]), (by rw [up_j (by omega), up_j (by omega), up_j (by omega), up_j (by omega), up_j (by omega), up_j (by omega), up_j (by omega), up_j (by omega), up_j (by omega), up_j (by omega), up_j (by omega), up_j (by omega), up_j (by omega), up_j (by omega), up_s]), (by rw [up_j (by omega), up_j (by omega), up_j (by omega), up_j (by omega), up_j (by omega), up_j (by omega), up_j (by omega), up_j (by omega), up_j (by omega), up_j (by omega), up_j (by omega), up_j (by omega), up_j (by omega), up_s]), ⟨(show (up (up (up (up (up (up (up (up (up (up (up (up (up (up (up (up (up (up I 111 5 (n : Int)) 111 1 0) 111 4 0) 111 2 0) 111 3 (-1)) 111 42 0) 111 43 0) 111 44 0) 111 45 0) 111 46 0) 111 47 4) 111 48 2) 111 49 0) 111 55 0) 111 56 0) 111 57 0) 111 58 0) 111 20 0) 111 42 = 0 from (by rw [up_j (by omega), up_j (by omega), up_j (by omega), up_j (by omega), up_j (by omega), up_j (by omega), up_j (by omega), up_j (by omega), up_j (by omega), up_j (by omega), up_j (by omega), up_j (by omega), up_s])), (show (up (up (up (up (up (up (up (up (up (up (up (up (up (up (up (up (up (up I 111 5 (n : Int)) 111 1 0) 111 4 0) 111 2 0) 111 3 (-1)) 111 42 0) 111 43 0) 111 44 0) 111 45 0) 111 46 0) 111 47 4) 111 48 2) 111 49 0) 111 55 0) 111 56 0) 111 57 0) 111 58 0) 111 20 0) 111 43 = 0 from (by rw [up_j (by omega), up_j (by omega), up_j (by omega), up_j (by omega), up_j (by omega), up_j (by omega), up_j (by omega), up_j (by omega), up_j (by omega), up_j (by omega), up_j (by omega), up_s])), (show (up (up (up (up (up (up (up (up (up (up (up (up (up (up (up (up (up (up I 111 5 (n : Int)) 111 1 0) 111 4 0) 111 2 0) 111 3 (-1)) 111 42 0) 111 43 0) 111 44 0) 111 45 0) 111 46 0) 111 47 4) 111 48 2) 111 49 0) 111 55 0) 111 56 0) 111 57 0) 111 58 0) 111 20 0) 111 44 = 0 from (by rw [up_j (by omega), up_j (by omega), up_j (by omega), up_j (by omega), up_j (by omega), up_j (by omega), up_j (by omega), up_j (by omega), up_j (by omega), up_j (by omega), up_s])), (show (up (up (up (up (up (up (up (up (up (up (up (up (up (up (up (up (up (up I 111 5 (n : Int)) 111 1 0) 111 4 0) 111 2 0) 111 3 (-1)) 111 42 0) 111 43 0) 111 44 0) 111 45 0) 111 46 0) 111 47 4) 111 48 2) 111 49 0) 111 55 0) 111 56 0) 111 57 0) 111 58 0) 111 20 0) 111 45 = 0 from (by rw [up_j (by omega), up_j (by omega), up_j (by omega), up_j (by omega), up_j (by omega), up_j (by omega), up_j (by omega), up_j (by omega), up_j (by omega), up_s])).trans (kc_clr (by omega)), (show (up (up (up (up (up (up (up (up (up (up (up (up (up (up (up (up (up (up I 111 5 (n : Int)) 111 1 0) 111 4 0) 111 2 0) 111 3 (-1)) 111 42 0) 111 43 0) 111 44 0) 111 45 0) 111 46 0) 111 47 4) 111 48 2) 111 49 0) 111 55 0) 111 56 0) 111 57 0) 111 58 0) 111 20 0) 111 46 = 0 from (by rw [up_j (by omega), up_j (by omega), up_j (by omega), up_j (by omega), up_j (by omega), up_j (by omega), up_j (by omega), up_j (by omega), up_s])).trans (kc_clr (by omega)), (show (up (up (up (up (up (up (up (up (up (up (up (up (up (up (up (up (up (up I 111 5 (n : Int)) 111 1 0) 111 4 0) 111 2 0) 111 3 (-1)) 111 42 0) 111 43 0) 111 44 0) 111 45 0) 111 46 0) 111 47 4) 111 48 2) 111 49 0) 111 55 0) 111 56 0) 111 57 0) 111 58 0) 111 20 0) 111 47 = 4 from (by rw [up_j (by omega), up_j (by omega), up_j (by omega), up_j (by omega), up_j (by omega), up_j (by omega), up_j (by omega), up_s])), (show (up (up (up (up (up (up (up (up (up (up (up (up (up (up (up (up (up (up I 111 5 (n : Int)) 111 1 0) 111 4 0) 111 2 0) 111 3 (-1)) 111 42 0) 111 43 0) 111 44 0) 111 45 0) 111 46 0) 111 47 4) 111 48 2) 111 49 0) 111 55 0) 111 56 0) 111 57 0) 111 58 0) 111 20 0) 111 48 = 2 from (by rw [up_j (by omega), up_j (by omega), up_j (by omega), up_j (by omega), up_j (by omega), up_j (by omega), up_s])), (show (up (up (up (up (up (up (up (up (up (up (up (up (up (up (up (up (up (up I 111 5 (n : Int)) 111 1 0) 111 4 0) 111 2 0) 111 3 (-1)) 111 42 0) 111 43 0) 111 44 0) 111 45 0) 111 46 0) 111 47 4) 111 48 2) 111 49 0) 111 55 0) 111 56 0) 111 57 0) 111 58 0) 111 20 0) 111 49 = 0 from (by rw [up_j (by omega), up_j (by omega), up_j (by omega), up_j (by omega), up_j (by omega), up_s])), (show (up (up (up (up (up (up (up (up (up (up (up (up (up (up (up (up (up (up I 111 5 (n : Int)) 111 1 0) 111 4 0) 111 2 0) 111 3 (-1)) 111 42 0) 111 43 0) 111 44 0) 111 45 0) 111 46 0) 111 47 4) 111 48 2) 111 49 0) 111 55 0) 111 56 0) 111 57 0) 111 58 0) 111 20 0) 111 55 = 0 from (by rw [up_j (by omega), up_j (by omega), up_j (by omega), up_j (by omega), up_s])), (show (up (up (up (up (up (up (up (up (up (up (up (up (up (up (up (up (up (up I 111 5 (n : Int)) 111 1 0) 111 4 0) 111 2 0) 111 3 (-1)) 111 42 0) 111 43 0) 111 44 0) 111 45 0) 111 46 0) 111 47 4) 111 48 2) 111 49 0) 111 55 0) 111 56 0) 111 57 0) 111 58 0) 111 20 0) 111 56 = 0 from (by rw [up_j (by omega), up_j (by omega), up_j (by omega), up_s])), (show (up (up (up (up (up (up (up (up (up (up (up (up (up (up (up (up (up (up I 111 5 (n : Int)) 111 1 0) 111 4 0) 111 2 0) 111 3 (-1)) 111 42 0) 111 43 0) 111 44 0) 111 45 0) 111 46 0) 111 47 4) 111 48 2) 111 49 0) 111 55 0) 111 56 0) 111 57 0) 111 58 0) 111 20 0) 111 57 = 0 from (by rw [up_j (by omega), up_j (by omega), up_s])), (show (up (up (up (up (up (up (up (up (up (up (up (up (up (up (up (up (up (up I 111 5 (n : Int)) 111 1 0) 111 4 0) 111 2 0) 111 3 (-1)) 111 42 0) 111 43 0) 111 44 0) 111 45 0) 111 46 0) 111 47 4) 111 48 2) 111 49 0) 111 55 0) 111 56 0) 111 57 0) 111 58 0) 111 20 0) 111 58 = 0 from (by rw [up_j (by omega), up_s])), (show (up (up (up (up (up (up (up (up (up (up (up (up (up (up (up (up (up (up I 111 5 (n : Int)) 111 1 0) 111 4 0) 111 2 0) 111 3 (-1)) 111 42 0) 111 43 0) 111 44 0) 111 45 0) 111 46 0) 111 47 4) 111 48 2) 111 49 0) 111 55 0) 111 56 0) 111 57 0) 111 58 0) 111 20 0) 111 20 = 0 from (by rw [up_s]))⟩⟩ (fun J0 hJ0 => ?_)
  obtain ⟨j1, j2, j3, j4, j5, j6, j7, j8⟩ := hJ0
  refine wp_aload_n (pc := 93) 0 dX11_readAll_93 rfl rfl ?_
  refine wp_callV (pc := 94) (st := []) (nf' := 153) [] [some (vR 111), none, none] dX11_readAll_94 rfl c_X11_241 rfl kd_111 (by decide) rfl la_111 rfl (Nat.le_of_ble_eq_true rfl) rfl (Nat.le_of_ble_eq_true rfl) (by omega) (Nat.le_refl _) (Nat.le_refl _) ?_
  have hB0 : RBk J0 b g n := ⟨hb, by rw [j1 112 (by decide)]; exact h112, j4, hn⟩
  refine rs_token (c := 0) hB0 (Nat.zero_le _) j5 (by omega) (fun J1 M1 hFb1 hLb1 hTk1 => ?_)
  have hP : RD J1 M1 b g n 0 (clrT T1) N 0 := rd_start (hFb1.tb hB0) hFb1 hTk1 j6 j7 j8 hw (by rw [hLb1 113 (by decide)]; exact hL)
  refine wp_eqst (st' := []) rfl ?_
  exact lp_rallbad (I := J1) (L := M1) hx.1 hx.2.1 hx.2.2 (clr_GT hw) hd (fun J M hF hL2 hR => hQ J M (Fra.of j1 j2 j3 (hFb1.n.trans hF)) (hLb1.n.trans hL2) hR) 0 (Nat.zero_le _) J1 M1 Fn.refl Ln.refl (by rw [hx.1.1]; exact hP)
