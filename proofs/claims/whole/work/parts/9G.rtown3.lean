/-- what the reference's town() leaves: J is what it read -/
def TWo (J K : mI) (T : mT) : Prop := (∀ b, b ≠ 111 → b ≠ 116 → b ≠ 117 → b ≠ 129 → b ≠ 130 → b ≠ 131 → b ≠ 132 → b ≠ 133 → b ≠ 134 → b ≠ 135 → b ≠ 137 → b ≠ 138 → b ≠ 139 → b ≠ 151 → K b = J b) ∧ (∀ j, ¬ (50 ≤ j ∧ j ≤ 54) → j ≠ 21 → j ≠ 18 → j ≠ 65 → j ≠ 66 → j ≠ 77 → K 111 j = J 111 j) ∧ (K 111 65 = 0 ∧ K 111 66 = 0 ∧ K 111 77 = 0 ∧ K 111 21 = T 17 3) ∧ (K 111 50 = T 0 11 ∧ K 111 51 = T 0 12 ∧ K 111 52 = T 0 13 ∧ K 111 53 = T 0 15 ∧ K 111 54 = T 0 16) ∧ (K 111 18 = T 17 2 ∧ ∀ k, k < (T 17 2).toNat → K 116 k = J 114 k ∧ K 117 k = J 115 k) ∧ (∀ k, k < 8 → K 129 k = J 121 k ∧ K 130 (2 * k) = J 122 (2 * k) ∧ K 130 (2 * k + 1) = J 122 (2 * k + 1) ∧ (J 136 k = 0 ∨ J 136 k = 1 → K 137 k = J 136 k) ∧ K 131 k = J 123 k ∧ K 132 k = J 124 k ∧ K 133 k = J 125 k ∧ K 139 k = (if k < nP T then J 121 k else 0)) ∧ (∀ k, k < nQ T → K 134 k = J 126 k ∧ K 135 k = J 127 k ∧ K 139 (18 + k) = J 128 (2 * k) ∧ K 139 (23 + k) = J 128 (2 * k + 1)) ∧ (K 139 29 = T 0 17 ∧ ∀ j, 8 ≤ j → j < 29 → ¬ (18 ≤ j ∧ j < 18 + nQ T) → ¬ (23 ≤ j ∧ j < 23 + nQ T) → K 139 j = 0) ∧ (∀ r a, r < nP T → a < nP T → K 138 (8 * r + a) = upT T (r * 8 + a)) ∧ ∀ k, k < 3 → K 151 k = 0

theorem rs_townok {l : Launch} {G : mG} {d : Nat} {I : mI} {L : Nat → Nat → Int} {D : Nat → Nat} {Q : mQ} {b g : Nat → Int} {n : Nat} {T1 N : mT} {m : Nat} {q : Nat → mL} (h11 : I 111 1 = (n : Int)) (h112 : ∀ j, I 112 j = g j % 256) (hn : n ≤ 1600) (hb : b = bOf g n) (hw : tw T1) (hL : ∀ j, inL (L 113 j)) (hx : txOk b (0, clrT T1, N, 0) m q) (hd : 10 ≤ d) (hQ : ∀ J M, Fra I J → Ln L M → RD J M b g n (q m).1 (q m).2.1 (q m).2.2.1 (q m).2.2.2 → GT (q m).2.1 (q m).2.2.2 → ∀ K, TWo J K (q m).2.1 → Q (some (vI ((q m).2.1 0 12))) K (XX M D)) : WP l G m_X11_town d 153 I (XX L D) 0 [some (vR 111), none] [] Q := by
  refine wp_aload_n (pc := 0) 0 dX11_town_0 rfl rfl ?_
  refine wp_callV (pc := 1) (st := []) (nf' := 153) [] [some (vR 111)] dX11_town_1 rfl c_X11_406 rfl kd_111 (by decide) rfl la_111 rfl (Nat.le_of_ble_eq_true rfl) rfl (Nat.le_of_ble_eq_true rfl) (by omega) (Nat.le_refl _) (Nat.le_refl _) ?_
  refine rs_readAllok h11 h112 hn hb hw hL hx (by omega) (fun J M hF hLn hP => ?_)
  have hG := hx.1.GT (clr_GT hw) m (Nat.le_refl _)
  generalize hTq : (q m).2.1 = T at *
  generalize hmq : (q m).2.2.2 = mo at *
  have hwT := hP.tw
  have bp := tw_p hwT
  have bq := tw_q hwT
  have eP : nP T = (T 0 12).toNat := rfl
  have eQ : nQ T = (T 0 13).toNat := rfl
  have bb := bitI_in mo 11
  refine wp_eqst (st' := []) rfl ?_
  refine wp_aload_n (pc := 4) 0 dX11_town_4 rfl rfl ?_
  refine wp_geti (pc := 5) dX11_town_5 rfl f_X11_185 kd_111 la_111 (Or.inl rfl) ?_
  refine wp_eqst (st' := [vI 0]) (by rw [hP.2.2.2.1.1]) ?_
  refine wp_if_le (pc := 8) 13 dX11_town_8 (by decide) (by decide) (fun _ => ?_) (fun hh => absurd hh (by decide))
  refine wp_aload_n (pc := 13) 0 dX11_town_13 rfl rfl ?_
  refine wp_aload_n (pc := 14) 0 dX11_town_14 rfl rfl ?_
  refine wp_geti (pc := 15) dX11_town_15 rfl f_X11_264 kd_111 la_111 (Or.inl rfl) ?_
  refine wp_eqst (st' := [vI (T 0 11), vR 111]) (by rw [hP.f42]) ?_
  refine wp_puti (pc := 18) dX11_town_18 rfl f_X11_409 kd_111 la_111 (fun _ h => by cases h; rfl) rfl ?_
  refine wp_aload_n (pc := 21) 0 dX11_town_21 rfl rfl ?_
  refine wp_aload_n (pc := 22) 0 dX11_town_22 rfl rfl ?_
  refine wp_geti (pc := 23) dX11_town_23 rfl f_X11_258 kd_111 la_111 (Or.inl rfl) ?_
  refine wp_eqst (st' := [vI (T 0 12), vR 111]) (by rw [up_j (by omega), hP.f43]) ?_
  refine wp_puti (pc := 26) dX11_town_26 rfl f_X11_412 kd_111 la_111 (fun _ h => by cases h; rfl) rfl ?_
  refine wp_aload_n (pc := 29) 0 dX11_town_29 rfl rfl ?_
  refine wp_aload_n (pc := 30) 0 dX11_town_30 rfl rfl ?_
  refine wp_geti (pc := 31) dX11_town_31 rfl f_X11_356 kd_111 la_111 (Or.inl rfl) ?_
  refine wp_eqst (st' := [vI (T 0 13), vR 111]) (by rw [up_j (by omega), up_j (by omega), hP.f44]) ?_
  refine wp_puti (pc := 34) dX11_town_34 rfl f_X11_415 kd_111 la_111 (fun _ h => by cases h; rfl) rfl ?_
  refine wp_aload_n (pc := 37) 0 dX11_town_37 rfl rfl ?_
  refine wp_aload_n (pc := 38) 0 dX11_town_38 rfl rfl ?_
  refine wp_geti (pc := 39) dX11_town_39 rfl f_X11_388 kd_111 la_111 (Or.inl rfl) ?_
  refine wp_eqst (st' := [vI (T 0 15), vR 111]) (by rw [up_j (by omega), up_j (by omega), up_j (by omega), hP.f47]) ?_
  refine wp_puti (pc := 42) dX11_town_42 rfl f_X11_94 kd_111 la_111 (fun _ h => by cases h; rfl) rfl ?_
  refine wp_aload_n (pc := 45) 0 dX11_town_45 rfl rfl ?_
  refine wp_aload_n (pc := 46) 0 dX11_town_46 rfl rfl ?_
  refine wp_geti (pc := 47) dX11_town_47 rfl f_X11_394 kd_111 la_111 (Or.inl rfl) ?_
  refine wp_eqst (st' := [vI (T 0 16), vR 111]) (by rw [up_j (by omega), up_j (by omega), up_j (by omega), up_j (by omega), hP.f48]) ?_
  refine wp_puti (pc := 50) dX11_town_50 rfl f_X11_97 kd_111 la_111 (fun _ h => by cases h; rfl) rfl ?_
  refine wp_aload_n (pc := 53) 0 dX11_town_53 rfl rfl ?_
  refine wp_aload_n (pc := 54) 0 dX11_town_54 rfl rfl ?_
  refine wp_geti (pc := 55) dX11_town_55 rfl f_X11_283 kd_111 la_111 (Or.inl rfl) ?_
  refine wp_eqst (st' := [vI (T 17 3), vR 111]) (by rw [up_j (by omega), up_j (by omega), up_j (by omega), up_j (by omega), up_j (by omega), hP.f20]) ?_
  refine wp_puti (pc := 58) dX11_town_58 rfl f_X11_418 kd_111 la_111 (fun _ h => by cases h; rfl) rfl ?_
  refine wp_aload_n (pc := 61) 0 dX11_town_61 rfl rfl ?_
  refine wp_aload_n (pc := 62) 0 dX11_town_62 rfl rfl ?_
  refine wp_geti (pc := 63) dX11_town_63 rfl f_X11_378 kd_111 la_111 (Or.inr rfl) ?_
  refine wp_eqst (st' := [vI (bitI mo 11), vR 111]) (by rw [up_j (by omega), up_j (by omega), up_j (by omega), up_j (by omega), up_j (by omega), up_j (by omega), hP.f55]) ?_
  refine wp_if_eq (pc := 66) 76 dX11_town_66 (by decide) (by omega) (fun h_1 => ?_) (fun h_1 => ?_)
  · refine wp_iconst (pc := 76) dX11_town_76 ?_
    refine wp_puti (pc := 77) dX11_town_77 rfl f_X11_324 kd_111 la_111 (fun _ h => by cases h; rfl) rfl ?_
    refine wp_iconst (pc := 80) dX11_town_80 ?_
    refine wq_istore_n (pc := 81) 1 [some (vR 111), some (vI 0)] dX11_town_81 rfl rfl (by decide) rfl ?_
    have hb11 : ¬ mo.testBit 11 = true := bitI_0.mp (by omega)
    have hf := hG.2.1.1 hb11
    have b17 : 0 ≤ T 17 2 ∧ T 17 2 ≤ 300 := by obtain ⟨_, _, _, _, _, _, _, _, _, _, _, _, _, _, _, _, _, _, _, _, z, _⟩ := hwT; exact z
    refine wp_gen (fun K => (∀ b, b ≠ 111 → K b = J b) ∧ (∀ j, ¬ (50 ≤ j ∧ j ≤ 54) → j ≠ 21 → j ≠ 18 → K 111 j = J 111 j) ∧ K 111 21 = T 17 3 ∧ (K 111 50 = T 0 11 ∧ K 111 51 = T 0 12 ∧ K 111 52 = T 0 13 ∧ K 111 53 = T 0 15 ∧ K 111 54 = T 0 16) ∧ K 111 18 = T 17 2) ⟨fun b g => funext fun k => by rw [up_c g, up_c g, up_c g, up_c g, up_c g, up_c g, up_c g], fun j g1 g2 g3 => by rw [up_j (by omega), up_j (by omega), up_j (by omega), up_j (by omega), up_j (by omega), up_j (by omega), up_j (by omega)], (by rw [up_j (by omega), up_s]), ⟨(by rw [up_j (by omega), up_j (by omega), up_j (by omega), up_j (by omega), up_j (by omega), up_j (by omega), up_s]), (by rw [up_j (by omega), up_j (by omega), up_j (by omega), up_j (by omega), up_j (by omega), up_s]), (by rw [up_j (by omega), up_j (by omega), up_j (by omega), up_j (by omega), up_s]), (by rw [up_j (by omega), up_j (by omega), up_j (by omega), up_s]), (by rw [up_j (by omega), up_j (by omega), up_s])⟩, (show (up (up (up (up (up (up (up J 111 50 (T 0 11)) 111 51 (T 0 12)) 111 52 (T 0 13)) 111 53 (T 0 15)) 111 54 (T 0 16)) 111 21 (T 17 3)) 111 18 0) 111 18 = 0 from (by rw [up_s])).trans hf.1.symm⟩ (fun J2 hJ2 => ?_)
    obtain ⟨a1, a2, a3, a4, a5⟩ := hJ2
    refine lp_tw1 (J := J2) (m := (T 17 2).toNat) (by omega) (by omega) (by omega) (fun K1 f1 v1 => ?_) 0 (Nat.zero_le _) J2 (fun _ _ _ => rfl) (fun k hk => absurd hk (Nat.not_lt_zero k))
    refine wp_iconst (pc := 120) dX11_town_120 ?_
    refine wq_istore_n (pc := 121) 1 [some (vR 111), some (vI 0)] dX11_town_121 rfl rfl (by decide) rfl ?_
    refine lp_tw2 (J := K1) (by omega) (fun K2 f2 v2 => ?_) 0 (Nat.zero_le _) K1 (fun _ _ => rfl) (fun k hk => absurd hk (Nat.not_lt_zero k))
    refine wp_iconst (pc := 141) dX11_town_141 ?_
    refine wq_istore_n (pc := 142) 1 [some (vR 111), some (vI 0)] dX11_town_142 rfl rfl (by decide) rfl ?_
    have g2 : ∀ b, b ≠ 116 → b ≠ 117 → b ≠ 139 → K2 b = J2 b := fun b z1 z2 z3 => (f2 b z3).trans (f1 b z1 z2)
    refine lp_tw3 (J := K2) (np := nP T) (by rw [g2 111 (by decide) (by decide) (by decide), a4.2.1]; omega) (by omega) (by omega) (fun K3 f3 r3 v3 => ?_) 0 (Nat.zero_le _) K2 (fun _ _ _ _ _ _ _ _ => rfl) (fun _ _ => rfl) (fun k hk => absurd hk (Nat.not_lt_zero k))
    refine wp_iconst (pc := 275) dX11_town_275 ?_
    refine wq_istore_n (pc := 276) 1 [some (vR 111), some (vI 0)] dX11_town_276 rfl rfl (by decide) rfl ?_
    have g3 : ∀ b, b ≠ 116 → b ≠ 117 → b ≠ 129 → b ≠ 130 → b ≠ 131 → b ≠ 132 → b ≠ 133 → b ≠ 137 → b ≠ 139 → K3 b = J2 b := fun b z1 z2 y1 y2 y3 y4 y5 y6 z3 => (f3 b y1 y2 y3 y4 y5 y6 z3).trans (g2 b z1 z2 z3)
    refine lp_tw4 (J := K3) (nq := nQ T) (by rw [g3 111 (by decide) (by decide) (by decide) (by decide) (by decide) (by decide) (by decide) (by decide) (by decide), a4.2.2.1]; omega) (by omega) (by omega) (fun K4 f4 r4 v4 => ?_) 0 (Nat.zero_le _) K3 (fun _ _ _ _ => rfl) (fun _ _ _ => rfl) (fun k hk => absurd hk (Nat.not_lt_zero k))
    have g4 : K4 111 = J2 111 := (f4 111 (by decide) (by decide) (by decide)).trans (g3 111 (by decide) (by decide) (by decide) (by decide) (by decide) (by decide) (by decide) (by decide) (by decide))
    have k49 : K4 111 49 = T 0 17 := by rw [g4, a2 49 (by omega) (by decide) (by decide)]; exact hP.f49
    refine wp_aload_n (pc := 351) 0 dX11_town_351 rfl rfl ?_
    refine wp_getr (pc := 352) dX11_town_352 rfl f_X11_103 kd_111 la_111 rfl (r_111_60 D) ?_
    refine wp_bipush (pc := 355) dX11_town_355 (by decide) ?_
    refine wp_aload_n (pc := 357) 0 dX11_town_357 rfl rfl ?_
    refine wp_geti (pc := 358) dX11_town_358 rfl f_X11_400 kd_111 la_111 (Or.inl rfl) ?_
    refine wp_eqst (st' := [vI (T 0 17), vI 29, vR 139]) (by rw [k49]) ?_
    refine wq_iast (pc := 361) 29 dX11_town_361 kd_139 la_139 rfl (by decide) ?_
    refine wp_aload_n (pc := 362) 0 dX11_town_362 rfl rfl ?_
    refine wp_callV (pc := 363) (st := []) (nf' := 153) [] [some (vR 111), none, none, none, none, none] dX11_town_363 rfl c_X11_421 rfl kd_111 (by decide) rfl la_111 rfl (Nat.le_of_ble_eq_true rfl) rfl (Nat.le_of_ble_eq_true rfl) (by omega) (Nat.le_refl _) (Nat.le_refl _) ?_
    have c130 : ∀ j, (up K4 139 29 (T 0 17)) 130 j = K3 130 j := fun j => (up_c (by decide)).trans (congrFun (f4 130 (by decide) (by decide) (by decide)) j)
    have m122 : ∀ j, K2 122 j = J 122 j := fun j => (congrFun (g2 122 (by decide) (by decide) (by decide)) j).trans (congrFun (a1 122 (by decide)) j)
    refine rs_layAncestors hwT hG.2.2.2.1 (by rw [up_c (by decide), g4]; exact a4.2.1) (fun p hp => by rw [c130, (v3 p (by omega)).2.1, m122]; exact hP.par1 hp) (fun p hp => by rw [c130, (v3 p (by omega)).2.2.1, m122]; exact hP.par2 hp) (by omega) (fun fU hU => ?_)
    refine wp_eqst (st' := []) rfl ?_
    refine wp_aload_n (pc := 366) 0 dX11_town_366 rfl rfl ?_
    refine wp_iconst (pc := 367) dX11_town_367 ?_
    refine wp_puti (pc := 368) dX11_town_368 rfl f_X11_424 kd_111 la_111 (fun _ h => by cases h; rfl) rfl ?_
    refine wp_aload_n (pc := 371) 0 dX11_town_371 rfl rfl ?_
    refine wp_iconst (pc := 372) dX11_town_372 ?_
    refine wp_puti (pc := 373) dX11_town_373 rfl f_X11_427 kd_111 la_111 (fun _ h => by cases h; rfl) rfl ?_
    refine wp_aload_n (pc := 376) 0 dX11_town_376 rfl rfl ?_
    refine wp_iconst (pc := 377) dX11_town_377 ?_
    refine wp_puti (pc := 378) dX11_town_378 rfl f_X11_430 kd_111 la_111 (fun _ h => by cases h; rfl) rfl ?_
    refine wp_iconst (pc := 381) dX11_town_381 ?_
    refine wq_istore_n (pc := 382) 1 [some (vR 111), some (vI 0)] dX11_town_382 rfl rfl (by decide) rfl ?_
    refine lp_tw5 (J := up (up (up (upc (up K4 139 29 (T 0 17)) 138 fU) 111 65 0) 111 66 0) 111 77 0) (by omega) (fun K5 f5 v5 => ?_) 0 (Nat.zero_le _) _ (fun _ _ => rfl) (fun k hk => absurd hk (Nat.not_lt_zero k))
    have k51 : K5 111 51 = T 0 12 := by rw [f5 111 (by decide), up_j (by decide), up_j (by decide), up_j (by decide), upc_c (by decide), up_c (by decide), g4]; exact a4.2.1
    refine wp_aload_n (pc := 401) 0 dX11_town_401 rfl rfl ?_
    refine wp_geti (pc := 402) dX11_town_402 rfl f_X11_412 kd_111 la_111 (Or.inl rfl) ?_
    refine wp_eqst (st' := [vI (T 0 12)]) (by rw [k51]) ?_
    refine wp_iret (pc := 405) dX11_town_405 rfl rfl ?_
    refine hQ J M hF hLn hP hG K5 ?_
    have z : ∀ b j, b ≠ 111 → b ≠ 138 → b ≠ 139 → b ≠ 151 → K5 b j = K4 b j := fun b j y1 y2 y3 y4 => by rw [f5 b y4, up_c y1, up_c y1, up_c y1, upc_c y2, up_c y3]
    have z1 : ∀ j, j ≠ 65 → j ≠ 66 → j ≠ 77 → K5 111 j = J2 111 j := fun j y1 y2 y3 => by rw [f5 111 (by decide), up_j y3, up_j y2, up_j y1, upc_c (by decide), up_c (by decide), g4]
    have z9 : ∀ j, j ≠ 29 → K5 139 j = K4 139 j := fun j y => by rw [f5 139 (by decide), up_c (by decide), up_c (by decide), up_c (by decide), upc_c (by decide), up_j y]
    refine ⟨fun b y111 y116 y117 y129 y130 y131 y132 y133 y134 y135 y137 y138 y139 y151 => ?_, fun j y1 y2 y3 y4 y5 y6 => (z1 j y4 y5 y6).trans (a2 j y1 y2 y3), ⟨?_, ?_, ?_, (z1 21 (by decide) (by decide) (by decide)).trans a3⟩, ⟨(z1 50 (by decide) (by decide) (by decide)).trans a4.1, (z1 51 (by decide) (by decide) (by decide)).trans a4.2.1, (z1 52 (by decide) (by decide) (by decide)).trans a4.2.2.1, (z1 53 (by decide) (by decide) (by decide)).trans a4.2.2.2.1, (z1 54 (by decide) (by decide) (by decide)).trans a4.2.2.2.2⟩, ⟨(z1 18 (by decide) (by decide) (by decide)).trans a5, fun k hk => ?_⟩, fun k hk => ?_, fun k hk => ?_, ⟨?_, fun j y1 y2 y3 y4 => ?_⟩, fun r a hr ha => ?_, v5⟩
    · funext j; rw [z b j y111 y138 y139 y151, f4 b y134 y135 y139, g3 b y116 y117 y129 y130 y131 y132 y133 y137 y139]; exact congrFun (a1 b y111) j
    · rw [f5 111 (by decide), up_j (by decide), up_j (by decide), up_s]
    · rw [f5 111 (by decide), up_j (by decide), up_s]
    · rw [f5 111 (by decide), up_s]
    · have h1 := v1 k hk
      rw [z 116 k (by decide) (by decide) (by decide) (by decide), z 117 k (by decide) (by decide) (by decide) (by decide), f4 116 (by decide) (by decide) (by decide), f4 117 (by decide) (by decide) (by decide), f3 116 (by decide) (by decide) (by decide) (by decide) (by decide) (by decide) (by decide), f3 117 (by decide) (by decide) (by decide) (by decide) (by decide) (by decide) (by decide), f2 116 (by decide), f2 117 (by decide), h1.1, h1.2, a1 114 (by decide), a1 115 (by decide)]
      exact ⟨rfl, rfl⟩
    · have h3 := v3 k hk
      have mm : ∀ b, b ≠ 111 → b ≠ 116 → b ≠ 117 → b ≠ 139 → K2 b = J b := fun b y0 y1 y2 y3 => (g2 b y1 y2 y3).trans (a1 b y0)
      rw [mm 121 (by decide) (by decide) (by decide) (by decide), mm 122 (by decide) (by decide) (by decide) (by decide), mm 123 (by decide) (by decide) (by decide) (by decide), mm 124 (by decide) (by decide) (by decide) (by decide), mm 125 (by decide) (by decide) (by decide) (by decide), mm 136 (by decide) (by decide) (by decide) (by decide)] at h3
      rw [z 129 k (by decide) (by decide) (by decide) (by decide), f4 129 (by decide) (by decide) (by decide), z 130 (2 * k) (by decide) (by decide) (by decide) (by decide), f4 130 (by decide) (by decide) (by decide), z 130 (2 * k + 1) (by decide) (by decide) (by decide) (by decide), f4 130 (by decide) (by decide) (by decide), z 137 k (by decide) (by decide) (by decide) (by decide), f4 137 (by decide) (by decide) (by decide), z 131 k (by decide) (by decide) (by decide) (by decide), f4 131 (by decide) (by decide) (by decide), z 132 k (by decide) (by decide) (by decide) (by decide), f4 132 (by decide) (by decide) (by decide), z 133 k (by decide) (by decide) (by decide) (by decide), f4 133 (by decide) (by decide) (by decide), z9 k (by omega), r4 k (by omega) (by omega)]
      exact h3
    · have h4 := v4 k hk
      have mm : ∀ b, b ≠ 111 → b ≠ 116 → b ≠ 117 → b ≠ 129 → b ≠ 130 → b ≠ 131 → b ≠ 132 → b ≠ 133 → b ≠ 137 → b ≠ 139 → K3 b = J b := fun b y0 y1 y2 y3 y4 y5 y6 y7 y8 y9 => (g3 b y1 y2 y3 y4 y5 y6 y7 y8 y9).trans (a1 b y0)
      rw [mm 126 (by decide) (by decide) (by decide) (by decide) (by decide) (by decide) (by decide) (by decide) (by decide) (by decide), mm 127 (by decide) (by decide) (by decide) (by decide) (by decide) (by decide) (by decide) (by decide) (by decide) (by decide), mm 128 (by decide) (by decide) (by decide) (by decide) (by decide) (by decide) (by decide) (by decide) (by decide) (by decide)] at h4
      rw [z 134 k (by decide) (by decide) (by decide) (by decide), z 135 k (by decide) (by decide) (by decide) (by decide), z9 (18 + k) (by omega), z9 (23 + k) (by omega)]
      exact h4
    · rw [f5 139 (by decide), up_c (by decide), up_c (by decide), up_c (by decide), upc_c (by decide), up_s]
    · rw [z9 j (by omega), r4 j y3 y4, r3 j y1]; exact v2 j (by omega)
    · rw [f5 138 (by decide), up_c (by decide), up_c (by decide), up_c (by decide), upc_s]; exact hU r a hr ha
  · refine wp_aload_n (pc := 69) 0 dX11_town_69 rfl rfl ?_
    refine wp_geti (pc := 70) dX11_town_70 rfl f_X11_267 kd_111 la_111 (Or.inl rfl) ?_
    refine wp_eqst (st' := [vI (J 111 17), vR 111]) (by rw [up_j (by omega), up_j (by omega), up_j (by omega), up_j (by omega), up_j (by omega), up_j (by omega)]) ?_
    refine wp_goto (pc := 73) 77 dX11_town_73 (by decide) ?_
    refine wp_puti (pc := 77) dX11_town_77 rfl f_X11_324 kd_111 la_111 (fun _ h => by cases h; rfl) rfl ?_
    refine wp_iconst (pc := 80) dX11_town_80 ?_
    refine wq_istore_n (pc := 81) 1 [some (vR 111), some (vI 0)] dX11_town_81 rfl rfl (by decide) rfl ?_
    have hb11 : mo.testBit 11 = true := Classical.byContradiction (fun z => absurd (bitI_0.mpr z) (by omega))
    have hf := hP.2.2.2.2.1.2.2.2.1 hb11
    have b17 : 0 ≤ T 17 2 ∧ T 17 2 ≤ 300 := by obtain ⟨_, _, _, _, _, _, _, _, _, _, _, _, _, _, _, _, _, _, _, _, z, _⟩ := hwT; exact z
    refine wp_gen (fun K => (∀ b, b ≠ 111 → K b = J b) ∧ (∀ j, ¬ (50 ≤ j ∧ j ≤ 54) → j ≠ 21 → j ≠ 18 → K 111 j = J 111 j) ∧ K 111 21 = T 17 3 ∧ (K 111 50 = T 0 11 ∧ K 111 51 = T 0 12 ∧ K 111 52 = T 0 13 ∧ K 111 53 = T 0 15 ∧ K 111 54 = T 0 16) ∧ K 111 18 = T 17 2) ⟨fun b g => funext fun k => by rw [up_c g, up_c g, up_c g, up_c g, up_c g, up_c g, up_c g], fun j g1 g2 g3 => by rw [up_j (by omega), up_j (by omega), up_j (by omega), up_j (by omega), up_j (by omega), up_j (by omega), up_j (by omega)], (by rw [up_j (by omega), up_s]), ⟨(by rw [up_j (by omega), up_j (by omega), up_j (by omega), up_j (by omega), up_j (by omega), up_j (by omega), up_s]), (by rw [up_j (by omega), up_j (by omega), up_j (by omega), up_j (by omega), up_j (by omega), up_s]), (by rw [up_j (by omega), up_j (by omega), up_j (by omega), up_j (by omega), up_s]), (by rw [up_j (by omega), up_j (by omega), up_j (by omega), up_s]), (by rw [up_j (by omega), up_j (by omega), up_s])⟩, (show (up (up (up (up (up (up (up J 111 50 (T 0 11)) 111 51 (T 0 12)) 111 52 (T 0 13)) 111 53 (T 0 15)) 111 54 (T 0 16)) 111 21 (T 17 3)) 111 18 (J 111 17)) 111 18 = J 111 17 from (by rw [up_s])).trans hf.1⟩ (fun J2 hJ2 => ?_)
    obtain ⟨a1, a2, a3, a4, a5⟩ := hJ2
    refine lp_tw1 (J := J2) (m := (T 17 2).toNat) (by omega) (by omega) (by omega) (fun K1 f1 v1 => ?_) 0 (Nat.zero_le _) J2 (fun _ _ _ => rfl) (fun k hk => absurd hk (Nat.not_lt_zero k))
    refine wp_iconst (pc := 120) dX11_town_120 ?_
    refine wq_istore_n (pc := 121) 1 [some (vR 111), some (vI 0)] dX11_town_121 rfl rfl (by decide) rfl ?_
    refine lp_tw2 (J := K1) (by omega) (fun K2 f2 v2 => ?_) 0 (Nat.zero_le _) K1 (fun _ _ => rfl) (fun k hk => absurd hk (Nat.not_lt_zero k))
    refine wp_iconst (pc := 141) dX11_town_141 ?_
    refine wq_istore_n (pc := 142) 1 [some (vR 111), some (vI 0)] dX11_town_142 rfl rfl (by decide) rfl ?_
    have g2 : ∀ b, b ≠ 116 → b ≠ 117 → b ≠ 139 → K2 b = J2 b := fun b z1 z2 z3 => (f2 b z3).trans (f1 b z1 z2)
    refine lp_tw3 (J := K2) (np := nP T) (by rw [g2 111 (by decide) (by decide) (by decide), a4.2.1]; omega) (by omega) (by omega) (fun K3 f3 r3 v3 => ?_) 0 (Nat.zero_le _) K2 (fun _ _ _ _ _ _ _ _ => rfl) (fun _ _ => rfl) (fun k hk => absurd hk (Nat.not_lt_zero k))
    refine wp_iconst (pc := 275) dX11_town_275 ?_
    refine wq_istore_n (pc := 276) 1 [some (vR 111), some (vI 0)] dX11_town_276 rfl rfl (by decide) rfl ?_
    have g3 : ∀ b, b ≠ 116 → b ≠ 117 → b ≠ 129 → b ≠ 130 → b ≠ 131 → b ≠ 132 → b ≠ 133 → b ≠ 137 → b ≠ 139 → K3 b = J2 b := fun b z1 z2 y1 y2 y3 y4 y5 y6 z3 => (f3 b y1 y2 y3 y4 y5 y6 z3).trans (g2 b z1 z2 z3)
    refine lp_tw4 (J := K3) (nq := nQ T) (by rw [g3 111 (by decide) (by decide) (by decide) (by decide) (by decide) (by decide) (by decide) (by decide) (by decide), a4.2.2.1]; omega) (by omega) (by omega) (fun K4 f4 r4 v4 => ?_) 0 (Nat.zero_le _) K3 (fun _ _ _ _ => rfl) (fun _ _ _ => rfl) (fun k hk => absurd hk (Nat.not_lt_zero k))
    have g4 : K4 111 = J2 111 := (f4 111 (by decide) (by decide) (by decide)).trans (g3 111 (by decide) (by decide) (by decide) (by decide) (by decide) (by decide) (by decide) (by decide) (by decide))
    have k49 : K4 111 49 = T 0 17 := by rw [g4, a2 49 (by omega) (by decide) (by decide)]; exact hP.f49
    refine wp_aload_n (pc := 351) 0 dX11_town_351 rfl rfl ?_
    refine wp_getr (pc := 352) dX11_town_352 rfl f_X11_103 kd_111 la_111 rfl (r_111_60 D) ?_
    refine wp_bipush (pc := 355) dX11_town_355 (by decide) ?_
    refine wp_aload_n (pc := 357) 0 dX11_town_357 rfl rfl ?_
    refine wp_geti (pc := 358) dX11_town_358 rfl f_X11_400 kd_111 la_111 (Or.inl rfl) ?_
    refine wp_eqst (st' := [vI (T 0 17), vI 29, vR 139]) (by rw [k49]) ?_
    refine wq_iast (pc := 361) 29 dX11_town_361 kd_139 la_139 rfl (by decide) ?_
    refine wp_aload_n (pc := 362) 0 dX11_town_362 rfl rfl ?_
    refine wp_callV (pc := 363) (st := []) (nf' := 153) [] [some (vR 111), none, none, none, none, none] dX11_town_363 rfl c_X11_421 rfl kd_111 (by decide) rfl la_111 rfl (Nat.le_of_ble_eq_true rfl) rfl (Nat.le_of_ble_eq_true rfl) (by omega) (Nat.le_refl _) (Nat.le_refl _) ?_
    have c130 : ∀ j, (up K4 139 29 (T 0 17)) 130 j = K3 130 j := fun j => (up_c (by decide)).trans (congrFun (f4 130 (by decide) (by decide) (by decide)) j)
    have m122 : ∀ j, K2 122 j = J 122 j := fun j => (congrFun (g2 122 (by decide) (by decide) (by decide)) j).trans (congrFun (a1 122 (by decide)) j)
    refine rs_layAncestors hwT hG.2.2.2.1 (by rw [up_c (by decide), g4]; exact a4.2.1) (fun p hp => by rw [c130, (v3 p (by omega)).2.1, m122]; exact hP.par1 hp) (fun p hp => by rw [c130, (v3 p (by omega)).2.2.1, m122]; exact hP.par2 hp) (by omega) (fun fU hU => ?_)
    refine wp_eqst (st' := []) rfl ?_
    refine wp_aload_n (pc := 366) 0 dX11_town_366 rfl rfl ?_
    refine wp_iconst (pc := 367) dX11_town_367 ?_
    refine wp_puti (pc := 368) dX11_town_368 rfl f_X11_424 kd_111 la_111 (fun _ h => by cases h; rfl) rfl ?_
    refine wp_aload_n (pc := 371) 0 dX11_town_371 rfl rfl ?_
    refine wp_iconst (pc := 372) dX11_town_372 ?_
    refine wp_puti (pc := 373) dX11_town_373 rfl f_X11_427 kd_111 la_111 (fun _ h => by cases h; rfl) rfl ?_
    refine wp_aload_n (pc := 376) 0 dX11_town_376 rfl rfl ?_
    refine wp_iconst (pc := 377) dX11_town_377 ?_
    refine wp_puti (pc := 378) dX11_town_378 rfl f_X11_430 kd_111 la_111 (fun _ h => by cases h; rfl) rfl ?_
    refine wp_iconst (pc := 381) dX11_town_381 ?_
    refine wq_istore_n (pc := 382) 1 [some (vR 111), some (vI 0)] dX11_town_382 rfl rfl (by decide) rfl ?_
    refine lp_tw5 (J := up (up (up (upc (up K4 139 29 (T 0 17)) 138 fU) 111 65 0) 111 66 0) 111 77 0) (by omega) (fun K5 f5 v5 => ?_) 0 (Nat.zero_le _) _ (fun _ _ => rfl) (fun k hk => absurd hk (Nat.not_lt_zero k))
    have k51 : K5 111 51 = T 0 12 := by rw [f5 111 (by decide), up_j (by decide), up_j (by decide), up_j (by decide), upc_c (by decide), up_c (by decide), g4]; exact a4.2.1
    refine wp_aload_n (pc := 401) 0 dX11_town_401 rfl rfl ?_
    refine wp_geti (pc := 402) dX11_town_402 rfl f_X11_412 kd_111 la_111 (Or.inl rfl) ?_
    refine wp_eqst (st' := [vI (T 0 12)]) (by rw [k51]) ?_
    refine wp_iret (pc := 405) dX11_town_405 rfl rfl ?_
    refine hQ J M hF hLn hP hG K5 ?_
    have z : ∀ b j, b ≠ 111 → b ≠ 138 → b ≠ 139 → b ≠ 151 → K5 b j = K4 b j := fun b j y1 y2 y3 y4 => by rw [f5 b y4, up_c y1, up_c y1, up_c y1, upc_c y2, up_c y3]
    have z1 : ∀ j, j ≠ 65 → j ≠ 66 → j ≠ 77 → K5 111 j = J2 111 j := fun j y1 y2 y3 => by rw [f5 111 (by decide), up_j y3, up_j y2, up_j y1, upc_c (by decide), up_c (by decide), g4]
    have z9 : ∀ j, j ≠ 29 → K5 139 j = K4 139 j := fun j y => by rw [f5 139 (by decide), up_c (by decide), up_c (by decide), up_c (by decide), upc_c (by decide), up_j y]
    refine ⟨fun b y111 y116 y117 y129 y130 y131 y132 y133 y134 y135 y137 y138 y139 y151 => ?_, fun j y1 y2 y3 y4 y5 y6 => (z1 j y4 y5 y6).trans (a2 j y1 y2 y3), ⟨?_, ?_, ?_, (z1 21 (by decide) (by decide) (by decide)).trans a3⟩, ⟨(z1 50 (by decide) (by decide) (by decide)).trans a4.1, (z1 51 (by decide) (by decide) (by decide)).trans a4.2.1, (z1 52 (by decide) (by decide) (by decide)).trans a4.2.2.1, (z1 53 (by decide) (by decide) (by decide)).trans a4.2.2.2.1, (z1 54 (by decide) (by decide) (by decide)).trans a4.2.2.2.2⟩, ⟨(z1 18 (by decide) (by decide) (by decide)).trans a5, fun k hk => ?_⟩, fun k hk => ?_, fun k hk => ?_, ⟨?_, fun j y1 y2 y3 y4 => ?_⟩, fun r a hr ha => ?_, v5⟩
    · funext j; rw [z b j y111 y138 y139 y151, f4 b y134 y135 y139, g3 b y116 y117 y129 y130 y131 y132 y133 y137 y139]; exact congrFun (a1 b y111) j
    · rw [f5 111 (by decide), up_j (by decide), up_j (by decide), up_s]
    · rw [f5 111 (by decide), up_j (by decide), up_s]
    · rw [f5 111 (by decide), up_s]
    · have h1 := v1 k hk
      rw [z 116 k (by decide) (by decide) (by decide) (by decide), z 117 k (by decide) (by decide) (by decide) (by decide), f4 116 (by decide) (by decide) (by decide), f4 117 (by decide) (by decide) (by decide), f3 116 (by decide) (by decide) (by decide) (by decide) (by decide) (by decide) (by decide), f3 117 (by decide) (by decide) (by decide) (by decide) (by decide) (by decide) (by decide), f2 116 (by decide), f2 117 (by decide), h1.1, h1.2, a1 114 (by decide), a1 115 (by decide)]
      exact ⟨rfl, rfl⟩
    · have h3 := v3 k hk
      have mm : ∀ b, b ≠ 111 → b ≠ 116 → b ≠ 117 → b ≠ 139 → K2 b = J b := fun b y0 y1 y2 y3 => (g2 b y1 y2 y3).trans (a1 b y0)
      rw [mm 121 (by decide) (by decide) (by decide) (by decide), mm 122 (by decide) (by decide) (by decide) (by decide), mm 123 (by decide) (by decide) (by decide) (by decide), mm 124 (by decide) (by decide) (by decide) (by decide), mm 125 (by decide) (by decide) (by decide) (by decide), mm 136 (by decide) (by decide) (by decide) (by decide)] at h3
      rw [z 129 k (by decide) (by decide) (by decide) (by decide), f4 129 (by decide) (by decide) (by decide), z 130 (2 * k) (by decide) (by decide) (by decide) (by decide), f4 130 (by decide) (by decide) (by decide), z 130 (2 * k + 1) (by decide) (by decide) (by decide) (by decide), f4 130 (by decide) (by decide) (by decide), z 137 k (by decide) (by decide) (by decide) (by decide), f4 137 (by decide) (by decide) (by decide), z 131 k (by decide) (by decide) (by decide) (by decide), f4 131 (by decide) (by decide) (by decide), z 132 k (by decide) (by decide) (by decide) (by decide), f4 132 (by decide) (by decide) (by decide), z 133 k (by decide) (by decide) (by decide) (by decide), f4 133 (by decide) (by decide) (by decide), z9 k (by omega), r4 k (by omega) (by omega)]
      exact h3
    · have h4 := v4 k hk
      have mm : ∀ b, b ≠ 111 → b ≠ 116 → b ≠ 117 → b ≠ 129 → b ≠ 130 → b ≠ 131 → b ≠ 132 → b ≠ 133 → b ≠ 137 → b ≠ 139 → K3 b = J b := fun b y0 y1 y2 y3 y4 y5 y6 y7 y8 y9 => (g3 b y1 y2 y3 y4 y5 y6 y7 y8 y9).trans (a1 b y0)
      rw [mm 126 (by decide) (by decide) (by decide) (by decide) (by decide) (by decide) (by decide) (by decide) (by decide) (by decide), mm 127 (by decide) (by decide) (by decide) (by decide) (by decide) (by decide) (by decide) (by decide) (by decide) (by decide), mm 128 (by decide) (by decide) (by decide) (by decide) (by decide) (by decide) (by decide) (by decide) (by decide) (by decide)] at h4
      rw [z 134 k (by decide) (by decide) (by decide) (by decide), z 135 k (by decide) (by decide) (by decide) (by decide), z9 (18 + k) (by omega), z9 (23 + k) (by omega)]
      exact h4
    · rw [f5 139 (by decide), up_c (by decide), up_c (by decide), up_c (by decide), upc_c (by decide), up_s]
    · rw [z9 j (by omega), r4 j y3 y4, r3 j y1]; exact v2 j (by omega)
    · rw [f5 138 (by decide), up_c (by decide), up_c (by decide), up_c (by decide), upc_s]; exact hU r a hr ha
