/-! THE REFERENCE's readPerson -/
theorem parF_k {b : Nat → Int} {c c' : Nat} {T N T' N' : mT} (h : parF b c T N = .inr (c', T', N')) : ∀ k j, k ≠ 11 → k ≠ 12 → T' k j = T k j := by
  intro k j h1 h2
  unfold parF at h
  split at h
  · cases h; rfl
  split at h
  · cases h
  split at h
  · cases h; exact setT_k h1
  split at h
  · cases h
  cases h
  exact (setT_k h2).trans (setT_k h1)
theorem RD.person {K : mI} {M : Nat → Nat → Int} {b g : Nat → Int} {n c : Nat} {T T3 N : mT} {mo : Nat} (h : RD K M b g n c T3 N mo) (hp : T3 0 12 = T 0 12) (h8 : T 0 12 < 8) (hW : rnW K T3 (nP T)) (hn : nmR (N 1 (nP T)) (M 113 (4 + nP T))) (hd : ∀ j, j < nP T → N 1 j ≠ N 1 (nP T)) : RD (up K 111 43 (T3 0 12 + 1)) M b g n c (setT T3 0 12 (T3 0 12 + 1)) N mo := by
  have e : nP T3 = nP T := by show (T3 0 12).toNat = _; rw [hp]
  exact h.incP (by omega) (by rw [e]; exact hW) (by rw [e]; exact hn) (by rw [e]; exact hd)

theorem rs_readPerson {l : Launch} {G : mG} {d : Nat} {I : mI} {L : Nat → Nat → Int} {D : Nat → Nat} {Q : mQ} {b g : Nat → Int} {n c : Nat} {T N : mT} {mo : Nat} (hP : RD I L b g n c T N mo) (h8 : T 0 12 < 8) (hs3 : ts b c ≠ 3) (hcl : T 11 (nP T) = -1 ∧ T 12 (nP T) = -1 ∧ T 13 (nP T) = 0 ∧ T 4 (nP T) = 0 ∧ T 5 (nP T) = 0) (hv7 : (T 0 14).toNat < 2 ^ nP T) (hd : 5 ≤ d) (h1 : ∀ c' T' N', personF b c T N = .inr (c', T', N') → ∀ J M, Fn I J → Ln L M → RD J M b g n c' T' N' mo → Q none J (XX M D)) (h0 : ∀ er, personF b c T N = .inl er → ∀ J M, Fn I J → Ln L M → RE J er → Q none J (XX M D)) : WP l G m_X11_readPerson d 153 I (XX L D) 0 [some (vR 111), none] [] Q := by
  have kw := wi_in b c
  have tr := ts_rng b c
  have i8 := hP.2.2.1.2.2.1.1
  have l9 := hP.2.2.1.2.2.2.2.1
  have hw := hP.tw
  have hb := hP.1.1
  have b_c := tw_c hw
  have b_p := tw_p hw
  have b_q := tw_q hw
  have b_v := tw_vows hw
  have eC : nC T = (T 0 11).toNat := rfl
  have eP : nP T = (T 0 12).toNat := rfl
  have eQ : nQ T = (T 0 13).toNat := rfl
  refine wp_aload_n (pc := 0) 0 dX11_readPerson_0 rfl rfl ?_
  refine wp_iconst (pc := 1) dX11_readPerson_1 ?_
  refine wp_aload_n (pc := 2) 0 dX11_readPerson_2 rfl rfl ?_
  refine wp_geti (pc := 3) dX11_readPerson_3 rfl f_X11_258 kd_111 la_111 (Or.inl rfl) ?_
  refine wp_eqst (st' := [vI (T 0 12), vI 4, vR 111]) (by rw [hP.f43]) ?_
  refine wp_callV (pc := 6) (st := []) (nf' := 153) [vI 4, vI (T 0 12)] [some (vR 111), some (vI 4), some (vI (T 0 12))] dX11_readPerson_6 rfl c_X11_331 rfl kd_111 (by decide) rfl la_111 rfl (Nat.le_of_ble_eq_true rfl) rfl (Nat.le_of_ble_eq_true rfl) (by omega) (Nat.le_refl _) (Nat.le_refl _) ?_
  have hz1 : RD (I) (L) b g n c T N mo := hP
  refine rs_newName1 (by omega) hz1 (by first | exact n3_k (by omega) | exact n3_4 (by omega) | exact n3_w (by omega) | exact n3_s (by omega) | omega) (by omega) (by omega) (fun h_1 J1 M1 hFb1 hLn1 hP1 hnm1 => ?_) (fun h_1 J1 M1 hF1 hL1 hE1 => ?_)
  · have nk1 := nwF_ok h_1
    have kw_1 := wi_in b (te b (te b c))
    have tr_1 := ts_rng b (te b (te b c))
    have i8_1 := hP1.2.2.1.2.2.1.1
    have l9_1 := hP1.2.2.1.2.2.2.2.1
    refine wp_eqst (st' := []) rfl ?_
    refine wp_aload_n (pc := 9) 0 dX11_readPerson_9 rfl rfl ?_
    refine wp_geti (pc := 10) dX11_readPerson_10 rfl f_X11_258 kd_111 la_111 (Or.inl rfl) ?_
    refine wp_eqst (st' := [vI (T 0 12)]) (by rw [hP1.f43]) ?_
    refine wq_istore_n (pc := 13) 1 [some (vR 111), some (vI (T 0 12))] dX11_readPerson_13 rfl rfl (by decide) rfl ?_
    refine wp_aload_n (pc := 14) 0 dX11_readPerson_14 rfl rfl ?_
    refine wp_ldc2 (pc := 15) (z := 26990) dX11_readPerson_15 rfl k_X11_192 rfl ?_
    refine wp_callV (pc := 18) (st := []) (nf' := 153) [vJ 26990] [some (vR 111), some (vJ 26990), none] dX11_readPerson_18 rfl c_X11_244 rfl kd_111 (by decide) rfl la_111 rfl (Nat.le_of_ble_eq_true rfl) rfl (Nat.le_of_ble_eq_true rfl) (by omega) (Nat.le_refl _) (Nat.le_refl _) ?_
    have hz2 : RD (J1) (M1) b g n (te b (te b c)) T (setT N 1 (nP T) (w5 b (te b c))) mo := hP1
    refine rs_want (k := 2) hz2 (by decide) rfl (by omega) (fun h_2 J2 M2 hFb2 hLb2 hP2 => ?_) (fun h_2 J2 M2 hF2 hL2 hE2 => ?_)
    · have kw_2 := wi_in b (te b (te b (te b c)))
      have tr_2 := ts_rng b (te b (te b (te b c)))
      have i8_2 := hP2.2.2.1.2.2.1.1
      have l9_2 := hP2.2.2.1.2.2.2.2.1
      refine wp_eqst (st' := []) rfl ?_
      refine wp_aload_n (pc := 21) 0 dX11_readPerson_21 rfl rfl ?_
      refine wp_getr (pc := 22) dX11_readPerson_22 rfl f_X11_42 kd_111 la_111 rfl (r_111_25 D) ?_
      refine wp_iload_n (pc := 25) 1 dX11_readPerson_25 rfl rfl ?_
      refine wp_aload_n (pc := 26) 0 dX11_readPerson_26 rfl rfl ?_
      refine wp_callV (pc := 27) (st := [vI (T 0 12), vR 121]) (nf' := 153) [] [some (vR 111), none] dX11_readPerson_27 rfl c_X11_340 rfl kd_111 (by decide) rfl la_111 rfl (Nat.le_of_ble_eq_true rfl) rfl (Nat.le_of_ble_eq_true rfl) (by omega) (Nat.le_refl _) (Nat.le_refl _) ?_
      have hz3 : RD (J2) (M2) b g n (te b (te b (te b c))) T (setT N 1 (nP T) (w5 b (te b c))) mo := hP2
      refine rs_rchurch hz3 (by omega) (fun h_3 J3 M3 hFb3 hLb3 hP3 => ?_) (fun h_3 J3 M3 hF3 hL3 hE3 => ?_)
      · replace h_3 : 0 ≤ prF b (te b (te b (te b c))) (N 0) (nC T) 0 := h_3
        have pi3 := prF_in (b := b) (c := te b (te b (te b c))) (N := N 0) (n := nC T) (rep := 0)
        have kw_3 := wi_in b (te b (te b (te b (te b c))))
        have tr_3 := ts_rng b (te b (te b (te b (te b c))))
        have i8_3 := hP3.2.2.1.2.2.1.1
        have l9_3 := hP3.2.2.1.2.2.2.2.1
        refine wp_eqst (st' := [vI (prF b (te b (te b (te b c))) (N 0) (nC T) 0), vI (T 0 12), vR 121]) rfl ?_
        refine wq_iast (pc := 30) (Int.toNat (T 0 12)) dX11_readPerson_30 kd_121 la_121 (by omega) (by omega) ?_
        refine wp_aload_n (pc := 31) 0 dX11_readPerson_31 rfl rfl ?_
        refine wp_iload_n (pc := 32) 1 dX11_readPerson_32 rfl rfl ?_
        refine wp_callV (pc := 33) (st := []) (nf' := 153) [vI (T 0 12)] [some (vR 111), some (vI (T 0 12)), none] dX11_readPerson_33 rfl c_X11_343 rfl kd_111 (by decide) rfl la_111 rfl (Nat.le_of_ble_eq_true rfl) rfl (Nat.le_of_ble_eq_true rfl) (by omega) (Nat.le_refl _) (Nat.le_refl _) ?_
        have hz4 : RD (up J3 121 (Int.toNat (T 0 12)) (prF b (te b (te b (te b c))) (N 0) (nC T) 0)) (M3) b g n (te b (te b (te b (te b c)))) T (setT N 1 (nP T) (w5 b (te b c))) mo := (hP3.w (by unfold rnFree; omega))
        have hs4 := hz4.sT (k := 3) (v := prF b (te b (te b (te b c))) (N 0) (nC T) 0) (by omega) (by unfold twB; omega)
        have en4 := (setN_n (T := T) (k := 3) (j := nP T) (v := prF b (te b (te b (te b c))) (N 0) (nC T) 0) (by decide)).1
        refine rs_readParents (T := setT T 3 (nP T) (prF b (te b (te b (te b c))) (N 0) (nC T) 0)) (by rw [en4]; omega) hs4 (show T 0 12 < 8 by omega) (by rw [en4, setT_k (by decide)]; exact hcl.1) (by rw [en4, setT_k (by decide)]; exact hcl.2.1) (by omega) (fun c5 T5 h_4 J4 M4 hF4 hLb4 hP4 h224 hK4 => ?_) (fun er5 h_4 J4 M4 hF4 hL4 hE4 => ?_)
        · rw [en4] at h224
          have pn := parF_n h_4
          have pk := parF_k h_4
          have e12 : T5 0 12 = T 0 12 := pn.2.1
          have e14 : T5 0 14 = T 0 14 := pn.2.2.2
          have eP5 : nP T5 = nP T := by show (T5 0 12).toNat = _; rw [e12]
          have nt4_0 : J4 121 (Int.toNat (T 0 12)) = prF b (te b (te b (te b c))) (N 0) (nC T) 0 := (congrFun (hK4 121 (by decide) (by decide)) (Int.toNat (T 0 12))).trans (by rw [up_s])
          have kw_4 := wi_in b c5
          have tr_4 := ts_rng b c5
          have i8_4 := hP4.2.2.1.2.2.1.1
          have l9_4 := hP4.2.2.1.2.2.2.2.1
          refine wp_eqst (st' := []) rfl ?_
          refine wp_aload_n (pc := 36) 0 dX11_readPerson_36 rfl rfl ?_
          refine wp_getr (pc := 37) dX11_readPerson_37 rfl f_X11_87 kd_111 la_111 rfl (r_111_40 D) ?_
          refine wp_iload_n (pc := 40) 1 dX11_readPerson_40 rfl rfl ?_
          refine wp_aload_n (pc := 41) 0 dX11_readPerson_41 rfl rfl ?_
          refine wp_ldc2 (pc := 42) (z := 7761783) dX11_readPerson_42 rfl k_X11_198 rfl ?_
          refine wp_callV (pc := 45) (st := [vI (T 0 12), vR 136]) (nf' := 153) [vJ 7761783] [some (vR 111), some (vJ 7761783), none, none] dX11_readPerson_45 rfl c_X11_334 rfl kd_111 (by decide) rfl la_111 rfl (Nat.le_of_ble_eq_true rfl) rfl (Nat.le_of_ble_eq_true rfl) (by omega) (Nat.le_refl _) (Nat.le_refl _) ?_
          have hz5 : RD (J4) (M4) b g n c5 T5 (setT N 1 (nP T) (w5 b (te b c))) mo := hP4
          refine rs_takes (k := 5) hz5 (by decide) rfl (by omega) (fun h_5 J5 M5 hFb5 hLb5 hP5 => ?_) (fun h_5 => ?_)
          · have nt5_0 : J5 121 (Int.toNat (T 0 12)) = prF b (te b (te b (te b c))) (N 0) (nC T) 0 := (congrFun (hFb5.1 121 (by decide)) (Int.toNat (T 0 12))).trans (by rw [nt4_0])
            have nt5_1 : J5 122 (2 * (nP T)) = T5 11 (nP T) := (congrFun (hFb5.1 122 (by decide)) (2 * (nP T))).trans (by rw [h224.1])
            have nt5_2 : J5 122 ((2 * (nP T)) + 1) = T5 12 (nP T) := (congrFun (hFb5.1 122 (by decide)) ((2 * (nP T)) + 1)).trans (by rw [h224.2])
            have kw_5 := wi_in b (te b c5)
            have tr_5 := ts_rng b (te b c5)
            have i8_5 := hP5.2.2.1.2.2.1.1
            have l9_5 := hP5.2.2.1.2.2.2.2.1
            refine wp_eqst (st' := [vI 1, vI (T 0 12), vR 136]) rfl ?_
            refine wq_zast (pc := 48) (Int.toNat (T 0 12)) dX11_readPerson_48 kd_136 la_136 (by omega) (by omega) (by decide) ?_
            refine wp_aload_n (pc := 49) 0 dX11_readPerson_49 rfl rfl ?_
            refine wp_getr (pc := 50) dX11_readPerson_50 rfl f_X11_48 kd_111 la_111 rfl (r_111_27 D) ?_
            refine wp_iload_n (pc := 53) 1 dX11_readPerson_53 rfl rfl ?_
            refine wp_aload_n (pc := 54) 0 dX11_readPerson_54 rfl rfl ?_
            refine wp_geti (pc := 55) dX11_readPerson_55 rfl f_X11_185 kd_111 la_111 (Or.inl rfl) ?_
            refine wp_eqst (st' := [vI 0, vI (T 0 12), vR 123]) (by rw [up_c (by omega), hP5.2.2.2.1.1]) ?_
            refine wp_if_ne (pc := 58) 84 dX11_readPerson_58 (by decide) (by decide) (fun hh => absurd hh (by decide)) (fun _ => ?_)
            refine wp_aload_n (pc := 61) 0 dX11_readPerson_61 rfl rfl ?_
            refine wp_ldc2 (pc := 62) (z := 495555538035) dX11_readPerson_62 rfl k_X11_200 rfl ?_
            refine wp_callV (pc := 65) (st := [vI (T 0 12), vR 123]) (nf' := 153) [vJ 495555538035] [some (vR 111), some (vJ 495555538035), none] dX11_readPerson_65 rfl c_X11_234 rfl kd_111 (by decide) rfl la_111 rfl (Nat.le_of_ble_eq_true rfl) rfl (Nat.le_of_ble_eq_true rfl) (by omega) (Nat.le_refl _) (Nat.le_refl _) ?_
            have hz6 : RD (up J5 136 (Int.toNat (T 0 12)) 1) (M5) b g n (te b c5) T5 (setT N 1 (nP T) (w5 b (te b c))) mo := (hP5.w (by unfold rnFree; omega))
            refine rs_isWord (k := 6) hz6.1.1 hz6.2.1 hz6.2.2.1 (by decide) rfl (by omega) (fun h_6 => ?_) (fun h_6 => ?_)
            · refine wp_eqst (st' := [vI 1, vI (T 0 12), vR 123]) rfl ?_
              refine wp_if_eq (pc := 68) 84 dX11_readPerson_68 (by decide) (by decide) (fun hh => absurd hh (by decide)) (fun _ => ?_)
              refine wp_aload_n (pc := 71) 0 dX11_readPerson_71 rfl rfl ?_
              refine wp_ldc2 (pc := 72) (z := 495555538035) dX11_readPerson_72 rfl k_X11_200 rfl ?_
              refine wp_iconst (pc := 75) dX11_readPerson_75 ?_
              refine wp_bipush (pc := 76) dX11_readPerson_76 (by decide) ?_
              refine wp_callV (pc := 78) (st := [vI (T 0 12), vR 123]) (nf' := 153) [vJ 495555538035, vI 1, vI 12] [some (vR 111), some (vJ 495555538035), none, some (vI 1), some (vI 12)] dX11_readPerson_78 rfl c_X11_346 rfl kd_111 (by decide) rfl la_111 rfl (Nat.le_of_ble_eq_true rfl) rfl (Nat.le_of_ble_eq_true rfl) (by omega) (Nat.le_refl _) (Nat.le_refl _) ?_
              have hz7 : RD (up J5 136 (Int.toNat (T 0 12)) 1) (M5) b g n (te b c5) T5 (setT N 1 (nP T) (w5 b (te b c))) mo := (hP5.w (by unfold rnFree; omega))
              refine rs_told (k := 6) hz7 (by decide) rfl (by omega) (by omega) (by omega) (by omega) (fun h_7 J7 M7 hFb7 hLb7 hP7 => ?_) (fun h_7 J7 M7 hF7 hL7 hE7 v7 => ?_)
              · have nt7_0 : J7 136 (Int.toNat (T 0 12)) = 1 := (congrFun (hFb7.1 136 (by decide)) (Int.toNat (T 0 12))).trans (by rw [up_s])
                have nt7_1 : J7 121 (Int.toNat (T 0 12)) = prF b (te b (te b (te b c))) (N 0) (nC T) 0 := (congrFun (hFb7.1 121 (by decide)) (Int.toNat (T 0 12))).trans (by rw [up_c (by omega), nt5_0])
                have nt7_2 : J7 122 (2 * (nP T)) = T5 11 (nP T) := (congrFun (hFb7.1 122 (by decide)) (2 * (nP T))).trans (by rw [up_c (by omega), nt5_1])
                have nt7_3 : J7 122 ((2 * (nP T)) + 1) = T5 12 (nP T) := (congrFun (hFb7.1 122 (by decide)) ((2 * (nP T)) + 1)).trans (by rw [up_c (by omega), nt5_2])
                have kw_7 := wi_in b (te b (te b (te b c5)))
                have tr_7 := ts_rng b (te b (te b (te b c5)))
                have i8_7 := hP7.2.2.1.2.2.1.1
                have l9_7 := hP7.2.2.1.2.2.2.2.1
                refine wp_eqst (st' := [vI (nbF b (te b (te b c5)) 1 12), vI (T 0 12), vR 123]) rfl ?_
                refine wp_goto (pc := 81) 85 dX11_readPerson_81 (by decide) ?_
                refine wq_iast (pc := 85) (Int.toNat (T 0 12)) dX11_readPerson_85 kd_123 la_123 (by omega) (by omega) ?_
                refine wp_aload_n (pc := 86) 0 dX11_readPerson_86 rfl rfl ?_
                refine wp_getr (pc := 87) dX11_readPerson_87 rfl f_X11_51 kd_111 la_111 rfl (r_111_28 D) ?_
                refine wp_iload_n (pc := 90) 1 dX11_readPerson_90 rfl rfl ?_
                refine wp_iconst (pc := 91) dX11_readPerson_91 ?_
                refine wq_iast (pc := 92) (Int.toNat (T 0 12)) dX11_readPerson_92 kd_124 la_124 (by omega) (by omega) ?_
                refine wp_aload_n (pc := 93) 0 dX11_readPerson_93 rfl rfl ?_
                refine wp_getr (pc := 94) dX11_readPerson_94 rfl f_X11_54 kd_111 la_111 rfl (r_111_29 D) ?_
                refine wp_iload_n (pc := 97) 1 dX11_readPerson_97 rfl rfl ?_
                refine wp_iconst (pc := 98) dX11_readPerson_98 ?_
                refine wq_iast (pc := 99) (Int.toNat (T 0 12)) dX11_readPerson_99 kd_125 la_125 (by omega) (by omega) ?_
                refine wp_aload_n (pc := 100) 0 dX11_readPerson_100 rfl rfl ?_
                refine wp_geti (pc := 101) dX11_readPerson_101 rfl f_X11_185 kd_111 la_111 (Or.inl rfl) ?_
                refine wp_eqst (st' := [vI 0]) (by rw [up_c (by omega), up_c (by omega), up_c (by omega), hP7.2.2.2.1.1]) ?_
                refine wp_if_ne (pc := 104) 117 dX11_readPerson_104 (by decide) (by decide) (fun hh => absurd hh (by decide)) (fun _ => ?_)
                refine wp_aload_n (pc := 107) 0 dX11_readPerson_107 rfl rfl ?_
                refine wp_dup (pc := 108) dX11_readPerson_108 rfl ?_
                refine wp_geti (pc := 109) dX11_readPerson_109 rfl f_X11_258 kd_111 la_111 (Or.inl rfl) ?_
                refine wp_eqst (st' := [vI (T5 0 12), vR 111]) (by rw [up_c (by omega), up_c (by omega), up_c (by omega), hP7.f43]) ?_
                refine wp_iconst (pc := 112) dX11_readPerson_112 ?_
                refine wp_iadd (pc := 113) dX11_readPerson_113 ?_
                refine wp_puti (pc := 114) dX11_readPerson_114 rfl f_X11_258 kd_111 la_111 (fun _ h => by cases h; rfl) rfl ?_
                refine wp_vret (pc := 117) dX11_readPerson_117 rfl rfl ?_
                have hA : RD (up (up (up J7 123 (Int.toNat (T 0 12)) (nbF b (te b (te b c5)) 1 12)) 124 (Int.toNat (T 0 12)) 0) 125 (Int.toNat (T 0 12)) 0) (M7) b g n (te b (te b (te b c5))) T5 (setT N 1 (nP T) (w5 b (te b c))) mo := (((hP7.w (by unfold rnFree; omega)).w (by unfold rnFree; omega)).w (by unfold rnFree; omega))
                have bv := tw_vows hA.tw
                have lv : (T5 0 14).toNat ||| 2 ^ nP T5 < 2 ^ 8 := or_lt (by omega) (two_lt (by omega))
                have hV := hA.sV (v := (((T5 0 14).toNat ||| 2 ^ nP T5 : Nat) : Int)) (fun p hp => by rw [Int.toNat_natCast]; exact bit_vow (by omega)) (by omega)
                have qn := nbF_ok (b := b) (c := te b (te b c5)) (lo := 1) (hi := 12) (by decide) (by omega)
                have hS := hV.sT (k := 4) (v := nbF b (te b (te b c5)) 1 12) (by omega) (by unfold twB; omega)
                rw [show nP (setT T5 0 14 (((T5 0 14).toNat ||| 2 ^ nP T5 : Nat) : Int)) = nP T from eP5] at hS
                have hW : rnW (up (up (up J7 123 (Int.toNat (T 0 12)) (nbF b (te b (te b c5)) 1 12)) 124 (Int.toNat (T 0 12)) 0) 125 (Int.toNat (T 0 12)) 0) (setT (setT T5 0 14 (((T5 0 14).toNat ||| 2 ^ nP T5 : Nat) : Int)) 4 (nP T) (nbF b (te b (te b c5)) 1 12)) (nP T) := by
                  refine ⟨?_, ?_, ?_, ?_, ?_, ?_, ?_⟩
                  · rw [setT_k (by decide)]; rw [setT_k (by decide)]; rw [pk 3 _ (by decide) (by decide), setT_s]; exact (by rw [up_c (by omega), up_c (by omega), up_c (by omega), nt7_1])
                  · rw [setT_k (by decide)]; rw [setT_k (by decide)]; exact (by rw [up_c (by omega), up_c (by omega), up_c (by omega), nt7_2])
                  · rw [setT_k (by decide)]; rw [setT_k (by decide)]; exact (by rw [up_c (by omega), up_c (by omega), up_c (by omega), nt7_3])
                  · rw [setT_s]; exact (by rw [up_c (by omega), up_c (by omega), up_s])
                  · rw [setT_k (by decide)]; rw [setT_k (by decide)]; rw [pk 13 _ (by decide) (by decide), setT_k (by decide), hcl.2.2.1]; exact (by rw [up_c (by omega), up_s])
                  · rw [setT_k (by decide)]; rw [setT_k (by decide)]; rw [pk 5 _ (by decide) (by decide), setT_k (by decide), hcl.2.2.2.2]; exact (by rw [up_s])
                  · unfold vowB; rw [setT_k (by decide)]; rw [setT_s, Int.toNat_natCast, eP5, bit_self]; show _ = (1 : Int); exact (by rw [up_c (by omega), up_c (by omega), up_c (by omega), nt7_0])
                have hlast : M7 113 = M1 113 := by rw [hLb7 113 (by decide), hLb5 113 (by decide), hLb4 113 (by decide), hLb3 113 (by decide), hLb2 113 (by decide)]
                have hf := hS.person (T := T) (show _ = _ from e12) (by omega) hW (by rw [setT_s, hlast]; exact hnm1) (fun j hj => by rw [setT_s, setT_j (by omega)]; exact fnd_m _ nk1.2 j hj)
                exact h1 _ _ _ (by unfold personF; (repeat (first | rw [if_pos (by omega)] | rw [if_neg (by omega)])); rw [h_4]; show bnd (slF b (vwF b c5 T5).1 (vwF b c5 T5).2 _) _ = _; rw [show vwF b c5 T5 = (te b c5, setT T5 0 14 (((T5 0 14).toNat ||| 2 ^ nP T5 : Nat) : Int)) from if_pos (by omega)]; show bnd (slF b (te b c5) (setT T5 0 14 (((T5 0 14).toNat ||| 2 ^ nP T5 : Nat) : Int)) _) _ = _; unfold slF; (repeat (first | rw [if_pos (by omega)] | rw [if_neg (by omega)])); rw [show nP (setT T5 0 14 (((T5 0 14).toNat ||| 2 ^ nP T5 : Nat) : Int)) = nP T from eP5]; rfl) _ _ ((((((((((((Fn.refl.trans hFb1.n).trans hFb2.n).trans hFb3.n).wr (Or.inr ⟨by decide, by unfold rnCell; omega⟩)).trans hF4).trans hFb5.n).wr (Or.inr ⟨by decide, by unfold rnCell; omega⟩)).trans hFb7.n).wr (Or.inr ⟨by decide, by unfold rnCell; omega⟩)).wr (Or.inr ⟨by decide, by unfold rnCell; omega⟩)).wr (Or.inr ⟨by decide, by unfold rnCell; omega⟩)).wr (Or.inl ⟨rfl, by unfold rnSlot; omega⟩)) ((((((Ln.refl.trans hLn1).trans hLb2.n).trans hLb3.n).trans hLb4.n).trans hLb5.n).trans hLb7.n) hf
              · have x2_7 : J7 111 2 = (bad b (te b (te b c5)) (-nbF b (te b (te b c5)) 1 12)).1 := hE7.1
                have xp_7 : 0 < (bad b (te b (te b c5)) (-nbF b (te b (te b c5)) 1 12)).1 ∧ (bad b (te b (te b c5)) (-nbF b (te b (te b c5)) 1 12)).1 ≤ 5 := hE7.2.2
                have x42_7 : J7 111 42 = T5 0 11 := (hF7.2 42 (by decide) (by decide) (by decide) (by decide) (by decide) (by decide)).trans (by rw [up_c (by omega), hP5.f42])
                have x43_7 : J7 111 43 = T5 0 12 := (hF7.2 43 (by decide) (by decide) (by decide) (by decide) (by decide) (by decide)).trans (by rw [up_c (by omega), hP5.f43])
                have x44_7 : J7 111 44 = T5 0 13 := (hF7.2 44 (by decide) (by decide) (by decide) (by decide) (by decide) (by decide)).trans (by rw [up_c (by omega), hP5.f44])
                refine wp_eqst (st' := [vI v7, vI (T 0 12), vR 123]) rfl ?_
                refine wp_goto (pc := 81) 85 dX11_readPerson_81 (by decide) ?_
                refine wq_iast (pc := 85) (Int.toNat (T 0 12)) dX11_readPerson_85 kd_123 la_123 (by omega) (by omega) ?_
                refine wp_aload_n (pc := 86) 0 dX11_readPerson_86 rfl rfl ?_
                refine wp_getr (pc := 87) dX11_readPerson_87 rfl f_X11_51 kd_111 la_111 rfl (r_111_28 D) ?_
                refine wp_iload_n (pc := 90) 1 dX11_readPerson_90 rfl rfl ?_
                refine wp_iconst (pc := 91) dX11_readPerson_91 ?_
                refine wq_iast (pc := 92) (Int.toNat (T 0 12)) dX11_readPerson_92 kd_124 la_124 (by omega) (by omega) ?_
                refine wp_aload_n (pc := 93) 0 dX11_readPerson_93 rfl rfl ?_
                refine wp_getr (pc := 94) dX11_readPerson_94 rfl f_X11_54 kd_111 la_111 rfl (r_111_29 D) ?_
                refine wp_iload_n (pc := 97) 1 dX11_readPerson_97 rfl rfl ?_
                refine wp_iconst (pc := 98) dX11_readPerson_98 ?_
                refine wq_iast (pc := 99) (Int.toNat (T 0 12)) dX11_readPerson_99 kd_125 la_125 (by omega) (by omega) ?_
                refine wp_aload_n (pc := 100) 0 dX11_readPerson_100 rfl rfl ?_
                refine wp_geti (pc := 101) dX11_readPerson_101 rfl f_X11_185 kd_111 la_111 (Or.inl rfl) ?_
                refine wp_eqst (st' := [vI ((bad b (te b (te b c5)) (-nbF b (te b (te b c5)) 1 12)).1)]) (by rw [up_c (by omega), up_c (by omega), up_c (by omega), x2_7]) ?_
                refine wp_if_ne (pc := 104) 117 dX11_readPerson_104 (by decide) (by omega) (fun _ => ?_) (fun hh => absurd hh (by omega))
                refine wp_vret (pc := 117) dX11_readPerson_117 rfl rfl ?_
                exact h0 _ (by unfold personF; (repeat (first | rw [if_pos (by omega)] | rw [if_neg (by omega)])); rw [h_4]; show bnd (slF b (vwF b c5 T5).1 (vwF b c5 T5).2 _) _ = _; rw [show vwF b c5 T5 = (te b c5, setT T5 0 14 (((T5 0 14).toNat ||| 2 ^ nP T5 : Nat) : Int)) from if_pos (by omega)]; show bnd (slF b (te b c5) (setT T5 0 14 (((T5 0 14).toNat ||| 2 ^ nP T5 : Nat) : Int)) _) _ = _; exact bnd_l (by unfold slF; (repeat (first | rw [if_pos (by omega)] | rw [if_neg (by omega)])); first | done | rfl)) _ _ (((((((((((Fn.refl.trans hFb1.n).trans hFb2.n).trans hFb3.n).wr (Or.inr ⟨by decide, by unfold rnCell; omega⟩)).trans hF4).trans hFb5.n).wr (Or.inr ⟨by decide, by unfold rnCell; omega⟩)).trans hF7.n).wr (Or.inr ⟨by decide, by unfold rnCell; omega⟩)).wr (Or.inr ⟨by decide, by unfold rnCell; omega⟩)).wr (Or.inr ⟨by decide, by unfold rnCell; omega⟩)) ((((((Ln.refl.trans hLn1).trans hLb2.n).trans hLb3.n).trans hLb4.n).trans hLb5.n).trans hL7) (((hE7.wr (by omega)).wr (by omega)).wr (by omega))
            · refine wp_eqst (st' := [vI 0, vI (T 0 12), vR 123]) rfl ?_
              refine wp_if_eq (pc := 68) 84 dX11_readPerson_68 (by decide) (by decide) (fun _ => ?_) (fun hh => absurd hh (by decide))
              refine wp_iconst (pc := 84) dX11_readPerson_84 ?_
              refine wq_iast (pc := 85) (Int.toNat (T 0 12)) dX11_readPerson_85 kd_123 la_123 (by omega) (by omega) ?_
              refine wp_aload_n (pc := 86) 0 dX11_readPerson_86 rfl rfl ?_
              refine wp_getr (pc := 87) dX11_readPerson_87 rfl f_X11_51 kd_111 la_111 rfl (r_111_28 D) ?_
              refine wp_iload_n (pc := 90) 1 dX11_readPerson_90 rfl rfl ?_
              refine wp_iconst (pc := 91) dX11_readPerson_91 ?_
              refine wq_iast (pc := 92) (Int.toNat (T 0 12)) dX11_readPerson_92 kd_124 la_124 (by omega) (by omega) ?_
              refine wp_aload_n (pc := 93) 0 dX11_readPerson_93 rfl rfl ?_
              refine wp_getr (pc := 94) dX11_readPerson_94 rfl f_X11_54 kd_111 la_111 rfl (r_111_29 D) ?_
              refine wp_iload_n (pc := 97) 1 dX11_readPerson_97 rfl rfl ?_
              refine wp_iconst (pc := 98) dX11_readPerson_98 ?_
              refine wq_iast (pc := 99) (Int.toNat (T 0 12)) dX11_readPerson_99 kd_125 la_125 (by omega) (by omega) ?_
              refine wp_aload_n (pc := 100) 0 dX11_readPerson_100 rfl rfl ?_
              refine wp_geti (pc := 101) dX11_readPerson_101 rfl f_X11_185 kd_111 la_111 (Or.inl rfl) ?_
              refine wp_eqst (st' := [vI 0]) (by rw [up_c (by omega), up_c (by omega), up_c (by omega), up_c (by omega), hP5.2.2.2.1.1]) ?_
              refine wp_if_ne (pc := 104) 117 dX11_readPerson_104 (by decide) (by decide) (fun hh => absurd hh (by decide)) (fun _ => ?_)
              refine wp_aload_n (pc := 107) 0 dX11_readPerson_107 rfl rfl ?_
              refine wp_dup (pc := 108) dX11_readPerson_108 rfl ?_
              refine wp_geti (pc := 109) dX11_readPerson_109 rfl f_X11_258 kd_111 la_111 (Or.inl rfl) ?_
              refine wp_eqst (st' := [vI (T5 0 12), vR 111]) (by rw [up_c (by omega), up_c (by omega), up_c (by omega), up_c (by omega), hP5.f43]) ?_
              refine wp_iconst (pc := 112) dX11_readPerson_112 ?_
              refine wp_iadd (pc := 113) dX11_readPerson_113 ?_
              refine wp_puti (pc := 114) dX11_readPerson_114 rfl f_X11_258 kd_111 la_111 (fun _ h => by cases h; rfl) rfl ?_
              refine wp_vret (pc := 117) dX11_readPerson_117 rfl rfl ?_
              have hA : RD (up (up (up (up J5 136 (Int.toNat (T 0 12)) 1) 123 (Int.toNat (T 0 12)) 0) 124 (Int.toNat (T 0 12)) 0) 125 (Int.toNat (T 0 12)) 0) (M5) b g n (te b c5) T5 (setT N 1 (nP T) (w5 b (te b c))) mo := ((((hP5.w (by unfold rnFree; omega)).w (by unfold rnFree; omega)).w (by unfold rnFree; omega)).w (by unfold rnFree; omega))
              have bv := tw_vows hA.tw
              have lv : (T5 0 14).toNat ||| 2 ^ nP T5 < 2 ^ 8 := or_lt (by omega) (two_lt (by omega))
              have hV := hA.sV (v := (((T5 0 14).toNat ||| 2 ^ nP T5 : Nat) : Int)) (fun p hp => by rw [Int.toNat_natCast]; exact bit_vow (by omega)) (by omega)
              have hW : rnW (up (up (up (up J5 136 (Int.toNat (T 0 12)) 1) 123 (Int.toNat (T 0 12)) 0) 124 (Int.toNat (T 0 12)) 0) 125 (Int.toNat (T 0 12)) 0) (setT T5 0 14 (((T5 0 14).toNat ||| 2 ^ nP T5 : Nat) : Int)) (nP T) := by
                refine ⟨?_, ?_, ?_, ?_, ?_, ?_, ?_⟩
                · rw [setT_k (by decide)]; rw [pk 3 _ (by decide) (by decide), setT_s]; exact (by rw [up_c (by omega), up_c (by omega), up_c (by omega), up_c (by omega), nt5_0])
                · rw [setT_k (by decide)]; exact (by rw [up_c (by omega), up_c (by omega), up_c (by omega), up_c (by omega), nt5_1])
                · rw [setT_k (by decide)]; exact (by rw [up_c (by omega), up_c (by omega), up_c (by omega), up_c (by omega), nt5_2])
                · rw [setT_k (by decide)]; rw [pk 4 _ (by decide) (by decide), setT_k (by decide), hcl.2.2.2.1]; exact (by rw [up_c (by omega), up_c (by omega), up_s])
                · rw [setT_k (by decide)]; rw [pk 13 _ (by decide) (by decide), setT_k (by decide), hcl.2.2.1]; exact (by rw [up_c (by omega), up_s])
                · rw [setT_k (by decide)]; rw [pk 5 _ (by decide) (by decide), setT_k (by decide), hcl.2.2.2.2]; exact (by rw [up_s])
                · unfold vowB; rw [setT_s, Int.toNat_natCast, eP5, bit_self]; show _ = (1 : Int); exact (by rw [up_c (by omega), up_c (by omega), up_c (by omega), up_s])
              have hlast : M5 113 = M1 113 := by rw [hLb5 113 (by decide), hLb4 113 (by decide), hLb3 113 (by decide), hLb2 113 (by decide)]
              have hf := hV.person (T := T) (show _ = _ from e12) (by omega) hW (by rw [setT_s, hlast]; exact hnm1) (fun j hj => by rw [setT_s, setT_j (by omega)]; exact fnd_m _ nk1.2 j hj)
              exact h1 _ _ _ (by unfold personF; (repeat (first | rw [if_pos (by omega)] | rw [if_neg (by omega)])); rw [h_4]; show bnd (slF b (vwF b c5 T5).1 (vwF b c5 T5).2 _) _ = _; rw [show vwF b c5 T5 = (te b c5, setT T5 0 14 (((T5 0 14).toNat ||| 2 ^ nP T5 : Nat) : Int)) from if_pos (by omega)]; show bnd (slF b (te b c5) (setT T5 0 14 (((T5 0 14).toNat ||| 2 ^ nP T5 : Nat) : Int)) _) _ = _; unfold slF; (repeat (first | rw [if_pos (by omega)] | rw [if_neg (by omega)])); rfl) _ _ (((((((((((Fn.refl.trans hFb1.n).trans hFb2.n).trans hFb3.n).wr (Or.inr ⟨by decide, by unfold rnCell; omega⟩)).trans hF4).trans hFb5.n).wr (Or.inr ⟨by decide, by unfold rnCell; omega⟩)).wr (Or.inr ⟨by decide, by unfold rnCell; omega⟩)).wr (Or.inr ⟨by decide, by unfold rnCell; omega⟩)).wr (Or.inr ⟨by decide, by unfold rnCell; omega⟩)).wr (Or.inl ⟨rfl, by unfold rnSlot; omega⟩)) (((((Ln.refl.trans hLn1).trans hLb2.n).trans hLb3.n).trans hLb4.n).trans hLb5.n) hf
          · refine wp_eqst (st' := [vI 0, vI (T 0 12), vR 136]) rfl ?_
            refine wq_zast (pc := 48) (Int.toNat (T 0 12)) dX11_readPerson_48 kd_136 la_136 (by omega) (by omega) (by decide) ?_
            refine wp_aload_n (pc := 49) 0 dX11_readPerson_49 rfl rfl ?_
            refine wp_getr (pc := 50) dX11_readPerson_50 rfl f_X11_48 kd_111 la_111 rfl (r_111_27 D) ?_
            refine wp_iload_n (pc := 53) 1 dX11_readPerson_53 rfl rfl ?_
            refine wp_aload_n (pc := 54) 0 dX11_readPerson_54 rfl rfl ?_
            refine wp_geti (pc := 55) dX11_readPerson_55 rfl f_X11_185 kd_111 la_111 (Or.inl rfl) ?_
            refine wp_eqst (st' := [vI 0, vI (T 0 12), vR 123]) (by rw [up_c (by omega), hP4.2.2.2.1.1]) ?_
            refine wp_if_ne (pc := 58) 84 dX11_readPerson_58 (by decide) (by decide) (fun hh => absurd hh (by decide)) (fun _ => ?_)
            refine wp_aload_n (pc := 61) 0 dX11_readPerson_61 rfl rfl ?_
            refine wp_ldc2 (pc := 62) (z := 495555538035) dX11_readPerson_62 rfl k_X11_200 rfl ?_
            refine wp_callV (pc := 65) (st := [vI (T 0 12), vR 123]) (nf' := 153) [vJ 495555538035] [some (vR 111), some (vJ 495555538035), none] dX11_readPerson_65 rfl c_X11_234 rfl kd_111 (by decide) rfl la_111 rfl (Nat.le_of_ble_eq_true rfl) rfl (Nat.le_of_ble_eq_true rfl) (by omega) (Nat.le_refl _) (Nat.le_refl _) ?_
            have hz8 : RD (up J4 136 (Int.toNat (T 0 12)) 0) (M4) b g n c5 T5 (setT N 1 (nP T) (w5 b (te b c))) mo := (hP4.w (by unfold rnFree; omega))
            refine rs_isWord (k := 6) hz8.1.1 hz8.2.1 hz8.2.2.1 (by decide) rfl (by omega) (fun h_8 => ?_) (fun h_8 => ?_)
            · refine wp_eqst (st' := [vI 1, vI (T 0 12), vR 123]) rfl ?_
              refine wp_if_eq (pc := 68) 84 dX11_readPerson_68 (by decide) (by decide) (fun hh => absurd hh (by decide)) (fun _ => ?_)
              refine wp_aload_n (pc := 71) 0 dX11_readPerson_71 rfl rfl ?_
              refine wp_ldc2 (pc := 72) (z := 495555538035) dX11_readPerson_72 rfl k_X11_200 rfl ?_
              refine wp_iconst (pc := 75) dX11_readPerson_75 ?_
              refine wp_bipush (pc := 76) dX11_readPerson_76 (by decide) ?_
              refine wp_callV (pc := 78) (st := [vI (T 0 12), vR 123]) (nf' := 153) [vJ 495555538035, vI 1, vI 12] [some (vR 111), some (vJ 495555538035), none, some (vI 1), some (vI 12)] dX11_readPerson_78 rfl c_X11_346 rfl kd_111 (by decide) rfl la_111 rfl (Nat.le_of_ble_eq_true rfl) rfl (Nat.le_of_ble_eq_true rfl) (by omega) (Nat.le_refl _) (Nat.le_refl _) ?_
              have hz9 : RD (up J4 136 (Int.toNat (T 0 12)) 0) (M4) b g n c5 T5 (setT N 1 (nP T) (w5 b (te b c))) mo := (hP4.w (by unfold rnFree; omega))
              refine rs_told (k := 6) hz9 (by decide) rfl (by omega) (by omega) (by omega) (by omega) (fun h_9 J9 M9 hFb9 hLb9 hP9 => ?_) (fun h_9 J9 M9 hF9 hL9 hE9 v9 => ?_)
              · have nt9_0 : J9 136 (Int.toNat (T 0 12)) = 0 := (congrFun (hFb9.1 136 (by decide)) (Int.toNat (T 0 12))).trans (by rw [up_s])
                have nt9_1 : J9 121 (Int.toNat (T 0 12)) = prF b (te b (te b (te b c))) (N 0) (nC T) 0 := (congrFun (hFb9.1 121 (by decide)) (Int.toNat (T 0 12))).trans (by rw [up_c (by omega), nt4_0])
                have nt9_2 : J9 122 (2 * (nP T)) = T5 11 (nP T) := (congrFun (hFb9.1 122 (by decide)) (2 * (nP T))).trans (by rw [up_c (by omega), h224.1])
                have nt9_3 : J9 122 ((2 * (nP T)) + 1) = T5 12 (nP T) := (congrFun (hFb9.1 122 (by decide)) ((2 * (nP T)) + 1)).trans (by rw [up_c (by omega), h224.2])
                have kw_9 := wi_in b (te b (te b c5))
                have tr_9 := ts_rng b (te b (te b c5))
                have i8_9 := hP9.2.2.1.2.2.1.1
                have l9_9 := hP9.2.2.1.2.2.2.2.1
                refine wp_eqst (st' := [vI (nbF b (te b c5) 1 12), vI (T 0 12), vR 123]) rfl ?_
                refine wp_goto (pc := 81) 85 dX11_readPerson_81 (by decide) ?_
                refine wq_iast (pc := 85) (Int.toNat (T 0 12)) dX11_readPerson_85 kd_123 la_123 (by omega) (by omega) ?_
                refine wp_aload_n (pc := 86) 0 dX11_readPerson_86 rfl rfl ?_
                refine wp_getr (pc := 87) dX11_readPerson_87 rfl f_X11_51 kd_111 la_111 rfl (r_111_28 D) ?_
                refine wp_iload_n (pc := 90) 1 dX11_readPerson_90 rfl rfl ?_
                refine wp_iconst (pc := 91) dX11_readPerson_91 ?_
                refine wq_iast (pc := 92) (Int.toNat (T 0 12)) dX11_readPerson_92 kd_124 la_124 (by omega) (by omega) ?_
                refine wp_aload_n (pc := 93) 0 dX11_readPerson_93 rfl rfl ?_
                refine wp_getr (pc := 94) dX11_readPerson_94 rfl f_X11_54 kd_111 la_111 rfl (r_111_29 D) ?_
                refine wp_iload_n (pc := 97) 1 dX11_readPerson_97 rfl rfl ?_
                refine wp_iconst (pc := 98) dX11_readPerson_98 ?_
                refine wq_iast (pc := 99) (Int.toNat (T 0 12)) dX11_readPerson_99 kd_125 la_125 (by omega) (by omega) ?_
                refine wp_aload_n (pc := 100) 0 dX11_readPerson_100 rfl rfl ?_
                refine wp_geti (pc := 101) dX11_readPerson_101 rfl f_X11_185 kd_111 la_111 (Or.inl rfl) ?_
                refine wp_eqst (st' := [vI 0]) (by rw [up_c (by omega), up_c (by omega), up_c (by omega), hP9.2.2.2.1.1]) ?_
                refine wp_if_ne (pc := 104) 117 dX11_readPerson_104 (by decide) (by decide) (fun hh => absurd hh (by decide)) (fun _ => ?_)
                refine wp_aload_n (pc := 107) 0 dX11_readPerson_107 rfl rfl ?_
                refine wp_dup (pc := 108) dX11_readPerson_108 rfl ?_
                refine wp_geti (pc := 109) dX11_readPerson_109 rfl f_X11_258 kd_111 la_111 (Or.inl rfl) ?_
                refine wp_eqst (st' := [vI (T5 0 12), vR 111]) (by rw [up_c (by omega), up_c (by omega), up_c (by omega), hP9.f43]) ?_
                refine wp_iconst (pc := 112) dX11_readPerson_112 ?_
                refine wp_iadd (pc := 113) dX11_readPerson_113 ?_
                refine wp_puti (pc := 114) dX11_readPerson_114 rfl f_X11_258 kd_111 la_111 (fun _ h => by cases h; rfl) rfl ?_
                refine wp_vret (pc := 117) dX11_readPerson_117 rfl rfl ?_
                have hA : RD (up (up (up J9 123 (Int.toNat (T 0 12)) (nbF b (te b c5) 1 12)) 124 (Int.toNat (T 0 12)) 0) 125 (Int.toNat (T 0 12)) 0) (M9) b g n (te b (te b c5)) T5 (setT N 1 (nP T) (w5 b (te b c))) mo := (((hP9.w (by unfold rnFree; omega)).w (by unfold rnFree; omega)).w (by unfold rnFree; omega))
                have qn := nbF_ok (b := b) (c := te b c5) (lo := 1) (hi := 12) (by decide) (by omega)
                have hS := hA.sT (k := 4) (v := nbF b (te b c5) 1 12) (by omega) (by unfold twB; omega)
                rw [eP5] at hS
                have hW : rnW (up (up (up J9 123 (Int.toNat (T 0 12)) (nbF b (te b c5) 1 12)) 124 (Int.toNat (T 0 12)) 0) 125 (Int.toNat (T 0 12)) 0) (setT T5 4 (nP T) (nbF b (te b c5) 1 12)) (nP T) := by
                  refine ⟨?_, ?_, ?_, ?_, ?_, ?_, ?_⟩
                  · rw [setT_k (by decide)]; rw [pk 3 _ (by decide) (by decide), setT_s]; exact (by rw [up_c (by omega), up_c (by omega), up_c (by omega), nt9_1])
                  · rw [setT_k (by decide)]; exact (by rw [up_c (by omega), up_c (by omega), up_c (by omega), nt9_2])
                  · rw [setT_k (by decide)]; exact (by rw [up_c (by omega), up_c (by omega), up_c (by omega), nt9_3])
                  · rw [setT_s]; exact (by rw [up_c (by omega), up_c (by omega), up_s])
                  · rw [setT_k (by decide)]; rw [pk 13 _ (by decide) (by decide), setT_k (by decide), hcl.2.2.1]; exact (by rw [up_c (by omega), up_s])
                  · rw [setT_k (by decide)]; rw [pk 5 _ (by decide) (by decide), setT_k (by decide), hcl.2.2.2.2]; exact (by rw [up_s])
                  · unfold vowB; rw [setT_k (by decide)]; rw [e14, bit_none hv7]; show _ = (0 : Int); exact (by rw [up_c (by omega), up_c (by omega), up_c (by omega), nt9_0])
                have hlast : M9 113 = M1 113 := by rw [hLb9 113 (by decide), hLb4 113 (by decide), hLb3 113 (by decide), hLb2 113 (by decide)]
                have hf := hS.person (T := T) (show _ = _ from e12) (by omega) hW (by rw [setT_s, hlast]; exact hnm1) (fun j hj => by rw [setT_s, setT_j (by omega)]; exact fnd_m _ nk1.2 j hj)
                exact h1 _ _ _ (by unfold personF; (repeat (first | rw [if_pos (by omega)] | rw [if_neg (by omega)])); rw [h_4]; show bnd (slF b (vwF b c5 T5).1 (vwF b c5 T5).2 _) _ = _; rw [show vwF b c5 T5 = (c5, T5) from if_neg (by omega)]; show bnd (slF b c5 T5 _) _ = _; unfold slF; (repeat (first | rw [if_pos (by omega)] | rw [if_neg (by omega)])); rw [eP5]; rfl) _ _ (((((((((((Fn.refl.trans hFb1.n).trans hFb2.n).trans hFb3.n).wr (Or.inr ⟨by decide, by unfold rnCell; omega⟩)).trans hF4).wr (Or.inr ⟨by decide, by unfold rnCell; omega⟩)).trans hFb9.n).wr (Or.inr ⟨by decide, by unfold rnCell; omega⟩)).wr (Or.inr ⟨by decide, by unfold rnCell; omega⟩)).wr (Or.inr ⟨by decide, by unfold rnCell; omega⟩)).wr (Or.inl ⟨rfl, by unfold rnSlot; omega⟩)) (((((Ln.refl.trans hLn1).trans hLb2.n).trans hLb3.n).trans hLb4.n).trans hLb9.n) hf
              · have x2_9 : J9 111 2 = (bad b (te b c5) (-nbF b (te b c5) 1 12)).1 := hE9.1
                have xp_9 : 0 < (bad b (te b c5) (-nbF b (te b c5) 1 12)).1 ∧ (bad b (te b c5) (-nbF b (te b c5) 1 12)).1 ≤ 5 := hE9.2.2
                have x42_9 : J9 111 42 = T5 0 11 := (hF9.2 42 (by decide) (by decide) (by decide) (by decide) (by decide) (by decide)).trans (by rw [up_c (by omega), hP4.f42])
                have x43_9 : J9 111 43 = T5 0 12 := (hF9.2 43 (by decide) (by decide) (by decide) (by decide) (by decide) (by decide)).trans (by rw [up_c (by omega), hP4.f43])
                have x44_9 : J9 111 44 = T5 0 13 := (hF9.2 44 (by decide) (by decide) (by decide) (by decide) (by decide) (by decide)).trans (by rw [up_c (by omega), hP4.f44])
                refine wp_eqst (st' := [vI v9, vI (T 0 12), vR 123]) rfl ?_
                refine wp_goto (pc := 81) 85 dX11_readPerson_81 (by decide) ?_
                refine wq_iast (pc := 85) (Int.toNat (T 0 12)) dX11_readPerson_85 kd_123 la_123 (by omega) (by omega) ?_
                refine wp_aload_n (pc := 86) 0 dX11_readPerson_86 rfl rfl ?_
                refine wp_getr (pc := 87) dX11_readPerson_87 rfl f_X11_51 kd_111 la_111 rfl (r_111_28 D) ?_
                refine wp_iload_n (pc := 90) 1 dX11_readPerson_90 rfl rfl ?_
                refine wp_iconst (pc := 91) dX11_readPerson_91 ?_
                refine wq_iast (pc := 92) (Int.toNat (T 0 12)) dX11_readPerson_92 kd_124 la_124 (by omega) (by omega) ?_
                refine wp_aload_n (pc := 93) 0 dX11_readPerson_93 rfl rfl ?_
                refine wp_getr (pc := 94) dX11_readPerson_94 rfl f_X11_54 kd_111 la_111 rfl (r_111_29 D) ?_
                refine wp_iload_n (pc := 97) 1 dX11_readPerson_97 rfl rfl ?_
                refine wp_iconst (pc := 98) dX11_readPerson_98 ?_
                refine wq_iast (pc := 99) (Int.toNat (T 0 12)) dX11_readPerson_99 kd_125 la_125 (by omega) (by omega) ?_
                refine wp_aload_n (pc := 100) 0 dX11_readPerson_100 rfl rfl ?_
                refine wp_geti (pc := 101) dX11_readPerson_101 rfl f_X11_185 kd_111 la_111 (Or.inl rfl) ?_
                refine wp_eqst (st' := [vI ((bad b (te b c5) (-nbF b (te b c5) 1 12)).1)]) (by rw [up_c (by omega), up_c (by omega), up_c (by omega), x2_9]) ?_
                refine wp_if_ne (pc := 104) 117 dX11_readPerson_104 (by decide) (by omega) (fun _ => ?_) (fun hh => absurd hh (by omega))
                refine wp_vret (pc := 117) dX11_readPerson_117 rfl rfl ?_
                exact h0 _ (by unfold personF; (repeat (first | rw [if_pos (by omega)] | rw [if_neg (by omega)])); rw [h_4]; show bnd (slF b (vwF b c5 T5).1 (vwF b c5 T5).2 _) _ = _; rw [show vwF b c5 T5 = (c5, T5) from if_neg (by omega)]; show bnd (slF b c5 T5 _) _ = _; exact bnd_l (by unfold slF; (repeat (first | rw [if_pos (by omega)] | rw [if_neg (by omega)])); first | done | rfl)) _ _ ((((((((((Fn.refl.trans hFb1.n).trans hFb2.n).trans hFb3.n).wr (Or.inr ⟨by decide, by unfold rnCell; omega⟩)).trans hF4).wr (Or.inr ⟨by decide, by unfold rnCell; omega⟩)).trans hF9.n).wr (Or.inr ⟨by decide, by unfold rnCell; omega⟩)).wr (Or.inr ⟨by decide, by unfold rnCell; omega⟩)).wr (Or.inr ⟨by decide, by unfold rnCell; omega⟩)) (((((Ln.refl.trans hLn1).trans hLb2.n).trans hLb3.n).trans hLb4.n).trans hL9) (((hE9.wr (by omega)).wr (by omega)).wr (by omega))
            · refine wp_eqst (st' := [vI 0, vI (T 0 12), vR 123]) rfl ?_
              refine wp_if_eq (pc := 68) 84 dX11_readPerson_68 (by decide) (by decide) (fun _ => ?_) (fun hh => absurd hh (by decide))
              refine wp_iconst (pc := 84) dX11_readPerson_84 ?_
              refine wq_iast (pc := 85) (Int.toNat (T 0 12)) dX11_readPerson_85 kd_123 la_123 (by omega) (by omega) ?_
              refine wp_aload_n (pc := 86) 0 dX11_readPerson_86 rfl rfl ?_
              refine wp_getr (pc := 87) dX11_readPerson_87 rfl f_X11_51 kd_111 la_111 rfl (r_111_28 D) ?_
              refine wp_iload_n (pc := 90) 1 dX11_readPerson_90 rfl rfl ?_
              refine wp_iconst (pc := 91) dX11_readPerson_91 ?_
              refine wq_iast (pc := 92) (Int.toNat (T 0 12)) dX11_readPerson_92 kd_124 la_124 (by omega) (by omega) ?_
              refine wp_aload_n (pc := 93) 0 dX11_readPerson_93 rfl rfl ?_
              refine wp_getr (pc := 94) dX11_readPerson_94 rfl f_X11_54 kd_111 la_111 rfl (r_111_29 D) ?_
              refine wp_iload_n (pc := 97) 1 dX11_readPerson_97 rfl rfl ?_
              refine wp_iconst (pc := 98) dX11_readPerson_98 ?_
              refine wq_iast (pc := 99) (Int.toNat (T 0 12)) dX11_readPerson_99 kd_125 la_125 (by omega) (by omega) ?_
              refine wp_aload_n (pc := 100) 0 dX11_readPerson_100 rfl rfl ?_
              refine wp_geti (pc := 101) dX11_readPerson_101 rfl f_X11_185 kd_111 la_111 (Or.inl rfl) ?_
              refine wp_eqst (st' := [vI 0]) (by rw [up_c (by omega), up_c (by omega), up_c (by omega), up_c (by omega), hP4.2.2.2.1.1]) ?_
              refine wp_if_ne (pc := 104) 117 dX11_readPerson_104 (by decide) (by decide) (fun hh => absurd hh (by decide)) (fun _ => ?_)
              refine wp_aload_n (pc := 107) 0 dX11_readPerson_107 rfl rfl ?_
              refine wp_dup (pc := 108) dX11_readPerson_108 rfl ?_
              refine wp_geti (pc := 109) dX11_readPerson_109 rfl f_X11_258 kd_111 la_111 (Or.inl rfl) ?_
              refine wp_eqst (st' := [vI (T5 0 12), vR 111]) (by rw [up_c (by omega), up_c (by omega), up_c (by omega), up_c (by omega), hP4.f43]) ?_
              refine wp_iconst (pc := 112) dX11_readPerson_112 ?_
              refine wp_iadd (pc := 113) dX11_readPerson_113 ?_
              refine wp_puti (pc := 114) dX11_readPerson_114 rfl f_X11_258 kd_111 la_111 (fun _ h => by cases h; rfl) rfl ?_
              refine wp_vret (pc := 117) dX11_readPerson_117 rfl rfl ?_
              have hA : RD (up (up (up (up J4 136 (Int.toNat (T 0 12)) 0) 123 (Int.toNat (T 0 12)) 0) 124 (Int.toNat (T 0 12)) 0) 125 (Int.toNat (T 0 12)) 0) (M4) b g n c5 T5 (setT N 1 (nP T) (w5 b (te b c))) mo := ((((hP4.w (by unfold rnFree; omega)).w (by unfold rnFree; omega)).w (by unfold rnFree; omega)).w (by unfold rnFree; omega))
              have hW : rnW (up (up (up (up J4 136 (Int.toNat (T 0 12)) 0) 123 (Int.toNat (T 0 12)) 0) 124 (Int.toNat (T 0 12)) 0) 125 (Int.toNat (T 0 12)) 0) (T5) (nP T) := by
                refine ⟨?_, ?_, ?_, ?_, ?_, ?_, ?_⟩
                · rw [pk 3 _ (by decide) (by decide), setT_s]; exact (by rw [up_c (by omega), up_c (by omega), up_c (by omega), up_c (by omega), nt4_0])
                · exact (by rw [up_c (by omega), up_c (by omega), up_c (by omega), up_c (by omega), h224.1])
                · exact (by rw [up_c (by omega), up_c (by omega), up_c (by omega), up_c (by omega), h224.2])
                · rw [pk 4 _ (by decide) (by decide), setT_k (by decide), hcl.2.2.2.1]; exact (by rw [up_c (by omega), up_c (by omega), up_s])
                · rw [pk 13 _ (by decide) (by decide), setT_k (by decide), hcl.2.2.1]; exact (by rw [up_c (by omega), up_s])
                · rw [pk 5 _ (by decide) (by decide), setT_k (by decide), hcl.2.2.2.2]; exact (by rw [up_s])
                · unfold vowB; rw [e14, bit_none hv7]; show _ = (0 : Int); exact (by rw [up_c (by omega), up_c (by omega), up_c (by omega), up_s])
              have hlast : M4 113 = M1 113 := by rw [hLb4 113 (by decide), hLb3 113 (by decide), hLb2 113 (by decide)]
              have hf := hA.person (T := T) (show _ = _ from e12) (by omega) hW (by rw [setT_s, hlast]; exact hnm1) (fun j hj => by rw [setT_s, setT_j (by omega)]; exact fnd_m _ nk1.2 j hj)
              exact h1 _ _ _ (by unfold personF; (repeat (first | rw [if_pos (by omega)] | rw [if_neg (by omega)])); rw [h_4]; show bnd (slF b (vwF b c5 T5).1 (vwF b c5 T5).2 _) _ = _; rw [show vwF b c5 T5 = (c5, T5) from if_neg (by omega)]; show bnd (slF b c5 T5 _) _ = _; unfold slF; (repeat (first | rw [if_pos (by omega)] | rw [if_neg (by omega)])); rfl) _ _ ((((((((((Fn.refl.trans hFb1.n).trans hFb2.n).trans hFb3.n).wr (Or.inr ⟨by decide, by unfold rnCell; omega⟩)).trans hF4).wr (Or.inr ⟨by decide, by unfold rnCell; omega⟩)).wr (Or.inr ⟨by decide, by unfold rnCell; omega⟩)).wr (Or.inr ⟨by decide, by unfold rnCell; omega⟩)).wr (Or.inr ⟨by decide, by unfold rnCell; omega⟩)).wr (Or.inl ⟨rfl, by unfold rnSlot; omega⟩)) ((((Ln.refl.trans hLn1).trans hLb2.n).trans hLb3.n).trans hLb4.n) hf
        · have x2_4 : J4 111 2 = (er5).1 := hE4.1
          have xp_4 : 0 < (er5).1 ∧ (er5).1 ≤ 5 := hE4.2.2
          refine wp_eqst (st' := []) rfl ?_
          refine wp_aload_n (pc := 36) 0 dX11_readPerson_36 rfl rfl ?_
          refine wp_getr (pc := 37) dX11_readPerson_37 rfl f_X11_87 kd_111 la_111 rfl (r_111_40 D) ?_
          refine wp_iload_n (pc := 40) 1 dX11_readPerson_40 rfl rfl ?_
          refine wp_aload_n (pc := 41) 0 dX11_readPerson_41 rfl rfl ?_
          refine wp_ldc2 (pc := 42) (z := 7761783) dX11_readPerson_42 rfl k_X11_198 rfl ?_
          refine wp_callV (pc := 45) (st := [vI (T 0 12), vR 136]) (nf' := 153) [vJ 7761783] [some (vR 111), some (vJ 7761783), none, none] dX11_readPerson_45 rfl c_X11_334 rfl kd_111 (by decide) rfl la_111 rfl (Nat.le_of_ble_eq_true rfl) rfl (Nat.le_of_ble_eq_true rfl) (by omega) (Nat.le_refl _) (Nat.le_refl _) ?_
          refine rz_takes hE4 (by omega) ?_
          refine wp_eqst (st' := [vI 0, vI (T 0 12), vR 136]) rfl ?_
          refine wq_zast (pc := 48) (Int.toNat (T 0 12)) dX11_readPerson_48 kd_136 la_136 (by omega) (by omega) (by decide) ?_
          refine wp_aload_n (pc := 49) 0 dX11_readPerson_49 rfl rfl ?_
          refine wp_getr (pc := 50) dX11_readPerson_50 rfl f_X11_48 kd_111 la_111 rfl (r_111_27 D) ?_
          refine wp_iload_n (pc := 53) 1 dX11_readPerson_53 rfl rfl ?_
          refine wp_aload_n (pc := 54) 0 dX11_readPerson_54 rfl rfl ?_
          refine wp_geti (pc := 55) dX11_readPerson_55 rfl f_X11_185 kd_111 la_111 (Or.inl rfl) ?_
          refine wp_eqst (st' := [vI ((er5).1), vI (T 0 12), vR 123]) (by rw [up_c (by omega), x2_4]) ?_
          refine wp_if_ne (pc := 58) 84 dX11_readPerson_58 (by decide) (by omega) (fun _ => ?_) (fun hh => absurd hh (by omega))
          refine wp_iconst (pc := 84) dX11_readPerson_84 ?_
          refine wq_iast (pc := 85) (Int.toNat (T 0 12)) dX11_readPerson_85 kd_123 la_123 (by omega) (by omega) ?_
          refine wp_aload_n (pc := 86) 0 dX11_readPerson_86 rfl rfl ?_
          refine wp_getr (pc := 87) dX11_readPerson_87 rfl f_X11_51 kd_111 la_111 rfl (r_111_28 D) ?_
          refine wp_iload_n (pc := 90) 1 dX11_readPerson_90 rfl rfl ?_
          refine wp_iconst (pc := 91) dX11_readPerson_91 ?_
          refine wq_iast (pc := 92) (Int.toNat (T 0 12)) dX11_readPerson_92 kd_124 la_124 (by omega) (by omega) ?_
          refine wp_aload_n (pc := 93) 0 dX11_readPerson_93 rfl rfl ?_
          refine wp_getr (pc := 94) dX11_readPerson_94 rfl f_X11_54 kd_111 la_111 rfl (r_111_29 D) ?_
          refine wp_iload_n (pc := 97) 1 dX11_readPerson_97 rfl rfl ?_
          refine wp_iconst (pc := 98) dX11_readPerson_98 ?_
          refine wq_iast (pc := 99) (Int.toNat (T 0 12)) dX11_readPerson_99 kd_125 la_125 (by omega) (by omega) ?_
          refine wp_aload_n (pc := 100) 0 dX11_readPerson_100 rfl rfl ?_
          refine wp_geti (pc := 101) dX11_readPerson_101 rfl f_X11_185 kd_111 la_111 (Or.inl rfl) ?_
          refine wp_eqst (st' := [vI ((er5).1)]) (by rw [up_c (by omega), up_c (by omega), up_c (by omega), up_c (by omega), x2_4]) ?_
          refine wp_if_ne (pc := 104) 117 dX11_readPerson_104 (by decide) (by omega) (fun _ => ?_) (fun hh => absurd hh (by omega))
          refine wp_vret (pc := 117) dX11_readPerson_117 rfl rfl ?_
          exact h0 _ (by unfold personF; (repeat (first | rw [if_pos (by omega)] | rw [if_neg (by omega)])); exact bnd_l h_4) _ _ (((((((((Fn.refl.trans hFb1.n).trans hFb2.n).trans hFb3.n).wr (Or.inr ⟨by decide, by unfold rnCell; omega⟩)).trans hF4).wr (Or.inr ⟨by decide, by unfold rnCell; omega⟩)).wr (Or.inr ⟨by decide, by unfold rnCell; omega⟩)).wr (Or.inr ⟨by decide, by unfold rnCell; omega⟩)).wr (Or.inr ⟨by decide, by unfold rnCell; omega⟩)) ((((Ln.refl.trans hLn1).trans hLb2.n).trans hLb3.n).trans hL4) ((((hE4.wr (by omega)).wr (by omega)).wr (by omega)).wr (by omega))
      · replace h_3 : prF b (te b (te b (te b c))) (N 0) (nC T) 0 < 0 := h_3
        have x2_3 : J3 111 2 = (bad b (te b (te b (te b c))) (-prF b (te b (te b (te b c))) (N 0) (nC T) 0)).1 := hE3.1
        have xp_3 : 0 < (bad b (te b (te b (te b c))) (-prF b (te b (te b (te b c))) (N 0) (nC T) 0)).1 ∧ (bad b (te b (te b (te b c))) (-prF b (te b (te b (te b c))) (N 0) (nC T) 0)).1 ≤ 5 := hE3.2.2
        have x42_3 : J3 111 42 = T 0 11 := (hF3.2 42 (by decide) (by decide) (by decide) (by decide) (by decide) (by decide)).trans (by rw [hP2.f42])
        have x43_3 : J3 111 43 = T 0 12 := (hF3.2 43 (by decide) (by decide) (by decide) (by decide) (by decide) (by decide)).trans (by rw [hP2.f43])
        have x44_3 : J3 111 44 = T 0 13 := (hF3.2 44 (by decide) (by decide) (by decide) (by decide) (by decide) (by decide)).trans (by rw [hP2.f44])
        refine wp_eqst (st' := [vI 0, vI (T 0 12), vR 121]) rfl ?_
        refine wq_iast (pc := 30) (Int.toNat (T 0 12)) dX11_readPerson_30 kd_121 la_121 (by omega) (by omega) ?_
        refine wp_aload_n (pc := 31) 0 dX11_readPerson_31 rfl rfl ?_
        refine wp_iload_n (pc := 32) 1 dX11_readPerson_32 rfl rfl ?_
        refine wp_callV (pc := 33) (st := []) (nf' := 153) [vI (T 0 12)] [some (vR 111), some (vI (T 0 12)), none] dX11_readPerson_33 rfl c_X11_343 rfl kd_111 (by decide) rfl la_111 rfl (Nat.le_of_ble_eq_true rfl) rfl (Nat.le_of_ble_eq_true rfl) (by omega) (Nat.le_refl _) (Nat.le_refl _) ?_
        refine rz_readParents (nP T) (by omega) (hE3.wr (by omega)) (by omega) (by omega) (fun J10 hF10 hE10 => ?_)
        have x2_10 : J10 111 2 = (bad b (te b (te b (te b c))) (-prF b (te b (te b (te b c))) (N 0) (nC T) 0)).1 := hE10.1
        have xp_10 : 0 < (bad b (te b (te b (te b c))) (-prF b (te b (te b (te b c))) (N 0) (nC T) 0)).1 ∧ (bad b (te b (te b (te b c))) (-prF b (te b (te b (te b c))) (N 0) (nC T) 0)).1 ≤ 5 := hE10.2.2
        refine wp_eqst (st' := []) rfl ?_
        refine wp_aload_n (pc := 36) 0 dX11_readPerson_36 rfl rfl ?_
        refine wp_getr (pc := 37) dX11_readPerson_37 rfl f_X11_87 kd_111 la_111 rfl (r_111_40 D) ?_
        refine wp_iload_n (pc := 40) 1 dX11_readPerson_40 rfl rfl ?_
        refine wp_aload_n (pc := 41) 0 dX11_readPerson_41 rfl rfl ?_
        refine wp_ldc2 (pc := 42) (z := 7761783) dX11_readPerson_42 rfl k_X11_198 rfl ?_
        refine wp_callV (pc := 45) (st := [vI (T 0 12), vR 136]) (nf' := 153) [vJ 7761783] [some (vR 111), some (vJ 7761783), none, none] dX11_readPerson_45 rfl c_X11_334 rfl kd_111 (by decide) rfl la_111 rfl (Nat.le_of_ble_eq_true rfl) rfl (Nat.le_of_ble_eq_true rfl) (by omega) (Nat.le_refl _) (Nat.le_refl _) ?_
        refine rz_takes hE10 (by omega) ?_
        refine wp_eqst (st' := [vI 0, vI (T 0 12), vR 136]) rfl ?_
        refine wq_zast (pc := 48) (Int.toNat (T 0 12)) dX11_readPerson_48 kd_136 la_136 (by omega) (by omega) (by decide) ?_
        refine wp_aload_n (pc := 49) 0 dX11_readPerson_49 rfl rfl ?_
        refine wp_getr (pc := 50) dX11_readPerson_50 rfl f_X11_48 kd_111 la_111 rfl (r_111_27 D) ?_
        refine wp_iload_n (pc := 53) 1 dX11_readPerson_53 rfl rfl ?_
        refine wp_aload_n (pc := 54) 0 dX11_readPerson_54 rfl rfl ?_
        refine wp_geti (pc := 55) dX11_readPerson_55 rfl f_X11_185 kd_111 la_111 (Or.inl rfl) ?_
        refine wp_eqst (st' := [vI ((bad b (te b (te b (te b c))) (-prF b (te b (te b (te b c))) (N 0) (nC T) 0)).1), vI (T 0 12), vR 123]) (by rw [up_c (by omega), x2_10]) ?_
        refine wp_if_ne (pc := 58) 84 dX11_readPerson_58 (by decide) (by omega) (fun _ => ?_) (fun hh => absurd hh (by omega))
        refine wp_iconst (pc := 84) dX11_readPerson_84 ?_
        refine wq_iast (pc := 85) (Int.toNat (T 0 12)) dX11_readPerson_85 kd_123 la_123 (by omega) (by omega) ?_
        refine wp_aload_n (pc := 86) 0 dX11_readPerson_86 rfl rfl ?_
        refine wp_getr (pc := 87) dX11_readPerson_87 rfl f_X11_51 kd_111 la_111 rfl (r_111_28 D) ?_
        refine wp_iload_n (pc := 90) 1 dX11_readPerson_90 rfl rfl ?_
        refine wp_iconst (pc := 91) dX11_readPerson_91 ?_
        refine wq_iast (pc := 92) (Int.toNat (T 0 12)) dX11_readPerson_92 kd_124 la_124 (by omega) (by omega) ?_
        refine wp_aload_n (pc := 93) 0 dX11_readPerson_93 rfl rfl ?_
        refine wp_getr (pc := 94) dX11_readPerson_94 rfl f_X11_54 kd_111 la_111 rfl (r_111_29 D) ?_
        refine wp_iload_n (pc := 97) 1 dX11_readPerson_97 rfl rfl ?_
        refine wp_iconst (pc := 98) dX11_readPerson_98 ?_
        refine wq_iast (pc := 99) (Int.toNat (T 0 12)) dX11_readPerson_99 kd_125 la_125 (by omega) (by omega) ?_
        refine wp_aload_n (pc := 100) 0 dX11_readPerson_100 rfl rfl ?_
        refine wp_geti (pc := 101) dX11_readPerson_101 rfl f_X11_185 kd_111 la_111 (Or.inl rfl) ?_
        refine wp_eqst (st' := [vI ((bad b (te b (te b (te b c))) (-prF b (te b (te b (te b c))) (N 0) (nC T) 0)).1)]) (by rw [up_c (by omega), up_c (by omega), up_c (by omega), up_c (by omega), x2_10]) ?_
        refine wp_if_ne (pc := 104) 117 dX11_readPerson_104 (by decide) (by omega) (fun _ => ?_) (fun hh => absurd hh (by omega))
        refine wp_vret (pc := 117) dX11_readPerson_117 rfl rfl ?_
        exact h0 _ (by unfold personF; (repeat (first | rw [if_pos (by omega)] | rw [if_neg (by omega)])); first | done | rfl) _ _ (((((((((Fn.refl.trans hFb1.n).trans hFb2.n).trans hF3.n).wr (Or.inr ⟨by decide, by unfold rnCell; omega⟩)).trans hF10).wr (Or.inr ⟨by decide, by unfold rnCell; omega⟩)).wr (Or.inr ⟨by decide, by unfold rnCell; omega⟩)).wr (Or.inr ⟨by decide, by unfold rnCell; omega⟩)).wr (Or.inr ⟨by decide, by unfold rnCell; omega⟩)) (((Ln.refl.trans hLn1).trans hLb2.n).trans hL3) ((((hE10.wr (by omega)).wr (by omega)).wr (by omega)).wr (by omega))
    · have x2_2 : J2 111 2 = (bad b (te b (te b c)) 2).1 := hE2.1
      have xp_2 : 0 < (bad b (te b (te b c)) 2).1 ∧ (bad b (te b (te b c)) 2).1 ≤ 5 := hE2.2.2
      have x42_2 : J2 111 42 = T 0 11 := (hF2.2 42 (by decide) (by decide) (by decide) (by decide) (by decide) (by decide)).trans (by rw [hP1.f42])
      have x43_2 : J2 111 43 = T 0 12 := (hF2.2 43 (by decide) (by decide) (by decide) (by decide) (by decide) (by decide)).trans (by rw [hP1.f43])
      have x44_2 : J2 111 44 = T 0 13 := (hF2.2 44 (by decide) (by decide) (by decide) (by decide) (by decide) (by decide)).trans (by rw [hP1.f44])
      refine wp_eqst (st' := []) rfl ?_
      refine wp_aload_n (pc := 21) 0 dX11_readPerson_21 rfl rfl ?_
      refine wp_getr (pc := 22) dX11_readPerson_22 rfl f_X11_42 kd_111 la_111 rfl (r_111_25 D) ?_
      refine wp_iload_n (pc := 25) 1 dX11_readPerson_25 rfl rfl ?_
      refine wp_aload_n (pc := 26) 0 dX11_readPerson_26 rfl rfl ?_
      refine wp_callV (pc := 27) (st := [vI (T 0 12), vR 121]) (nf' := 153) [] [some (vR 111), none] dX11_readPerson_27 rfl c_X11_340 rfl kd_111 (by decide) rfl la_111 rfl (Nat.le_of_ble_eq_true rfl) rfl (Nat.le_of_ble_eq_true rfl) (by omega) (Nat.le_refl _) (Nat.le_refl _) ?_
      refine rz_rchurch hE2 (by omega) ?_
      refine wp_eqst (st' := [vI 0, vI (T 0 12), vR 121]) rfl ?_
      refine wq_iast (pc := 30) (Int.toNat (T 0 12)) dX11_readPerson_30 kd_121 la_121 (by omega) (by omega) ?_
      refine wp_aload_n (pc := 31) 0 dX11_readPerson_31 rfl rfl ?_
      refine wp_iload_n (pc := 32) 1 dX11_readPerson_32 rfl rfl ?_
      refine wp_callV (pc := 33) (st := []) (nf' := 153) [vI (T 0 12)] [some (vR 111), some (vI (T 0 12)), none] dX11_readPerson_33 rfl c_X11_343 rfl kd_111 (by decide) rfl la_111 rfl (Nat.le_of_ble_eq_true rfl) rfl (Nat.le_of_ble_eq_true rfl) (by omega) (Nat.le_refl _) (Nat.le_refl _) ?_
      refine rz_readParents (nP T) (by omega) (hE2.wr (by omega)) (by omega) (by omega) (fun J12 hF12 hE12 => ?_)
      have x2_12 : J12 111 2 = (bad b (te b (te b c)) 2).1 := hE12.1
      have xp_12 : 0 < (bad b (te b (te b c)) 2).1 ∧ (bad b (te b (te b c)) 2).1 ≤ 5 := hE12.2.2
      refine wp_eqst (st' := []) rfl ?_
      refine wp_aload_n (pc := 36) 0 dX11_readPerson_36 rfl rfl ?_
      refine wp_getr (pc := 37) dX11_readPerson_37 rfl f_X11_87 kd_111 la_111 rfl (r_111_40 D) ?_
      refine wp_iload_n (pc := 40) 1 dX11_readPerson_40 rfl rfl ?_
      refine wp_aload_n (pc := 41) 0 dX11_readPerson_41 rfl rfl ?_
      refine wp_ldc2 (pc := 42) (z := 7761783) dX11_readPerson_42 rfl k_X11_198 rfl ?_
      refine wp_callV (pc := 45) (st := [vI (T 0 12), vR 136]) (nf' := 153) [vJ 7761783] [some (vR 111), some (vJ 7761783), none, none] dX11_readPerson_45 rfl c_X11_334 rfl kd_111 (by decide) rfl la_111 rfl (Nat.le_of_ble_eq_true rfl) rfl (Nat.le_of_ble_eq_true rfl) (by omega) (Nat.le_refl _) (Nat.le_refl _) ?_
      refine rz_takes hE12 (by omega) ?_
      refine wp_eqst (st' := [vI 0, vI (T 0 12), vR 136]) rfl ?_
      refine wq_zast (pc := 48) (Int.toNat (T 0 12)) dX11_readPerson_48 kd_136 la_136 (by omega) (by omega) (by decide) ?_
      refine wp_aload_n (pc := 49) 0 dX11_readPerson_49 rfl rfl ?_
      refine wp_getr (pc := 50) dX11_readPerson_50 rfl f_X11_48 kd_111 la_111 rfl (r_111_27 D) ?_
      refine wp_iload_n (pc := 53) 1 dX11_readPerson_53 rfl rfl ?_
      refine wp_aload_n (pc := 54) 0 dX11_readPerson_54 rfl rfl ?_
      refine wp_geti (pc := 55) dX11_readPerson_55 rfl f_X11_185 kd_111 la_111 (Or.inl rfl) ?_
      refine wp_eqst (st' := [vI ((bad b (te b (te b c)) 2).1), vI (T 0 12), vR 123]) (by rw [up_c (by omega), x2_12]) ?_
      refine wp_if_ne (pc := 58) 84 dX11_readPerson_58 (by decide) (by omega) (fun _ => ?_) (fun hh => absurd hh (by omega))
      refine wp_iconst (pc := 84) dX11_readPerson_84 ?_
      refine wq_iast (pc := 85) (Int.toNat (T 0 12)) dX11_readPerson_85 kd_123 la_123 (by omega) (by omega) ?_
      refine wp_aload_n (pc := 86) 0 dX11_readPerson_86 rfl rfl ?_
      refine wp_getr (pc := 87) dX11_readPerson_87 rfl f_X11_51 kd_111 la_111 rfl (r_111_28 D) ?_
      refine wp_iload_n (pc := 90) 1 dX11_readPerson_90 rfl rfl ?_
      refine wp_iconst (pc := 91) dX11_readPerson_91 ?_
      refine wq_iast (pc := 92) (Int.toNat (T 0 12)) dX11_readPerson_92 kd_124 la_124 (by omega) (by omega) ?_
      refine wp_aload_n (pc := 93) 0 dX11_readPerson_93 rfl rfl ?_
      refine wp_getr (pc := 94) dX11_readPerson_94 rfl f_X11_54 kd_111 la_111 rfl (r_111_29 D) ?_
      refine wp_iload_n (pc := 97) 1 dX11_readPerson_97 rfl rfl ?_
      refine wp_iconst (pc := 98) dX11_readPerson_98 ?_
      refine wq_iast (pc := 99) (Int.toNat (T 0 12)) dX11_readPerson_99 kd_125 la_125 (by omega) (by omega) ?_
      refine wp_aload_n (pc := 100) 0 dX11_readPerson_100 rfl rfl ?_
      refine wp_geti (pc := 101) dX11_readPerson_101 rfl f_X11_185 kd_111 la_111 (Or.inl rfl) ?_
      refine wp_eqst (st' := [vI ((bad b (te b (te b c)) 2).1)]) (by rw [up_c (by omega), up_c (by omega), up_c (by omega), up_c (by omega), x2_12]) ?_
      refine wp_if_ne (pc := 104) 117 dX11_readPerson_104 (by decide) (by omega) (fun _ => ?_) (fun hh => absurd hh (by omega))
      refine wp_vret (pc := 117) dX11_readPerson_117 rfl rfl ?_
      exact h0 _ (by unfold personF; (repeat (first | rw [if_pos (by omega)] | rw [if_neg (by omega)])); first | done | rfl) _ _ ((((((((Fn.refl.trans hFb1.n).trans hF2.n).wr (Or.inr ⟨by decide, by unfold rnCell; omega⟩)).trans hF12).wr (Or.inr ⟨by decide, by unfold rnCell; omega⟩)).wr (Or.inr ⟨by decide, by unfold rnCell; omega⟩)).wr (Or.inr ⟨by decide, by unfold rnCell; omega⟩)).wr (Or.inr ⟨by decide, by unfold rnCell; omega⟩)) ((Ln.refl.trans hLn1).trans hL2) ((((hE12.wr (by omega)).wr (by omega)).wr (by omega)).wr (by omega))
  · have x2_1 : J1 111 2 = (bad b (te b c) (nwF b (te b c) (N 1) (nP T))).1 := hE1.1
    have xp_1 : 0 < (bad b (te b c) (nwF b (te b c) (N 1) (nP T))).1 ∧ (bad b (te b c) (nwF b (te b c) (N 1) (nP T))).1 ≤ 5 := hE1.2.2
    have x42_1 : J1 111 42 = T 0 11 := (hF1.2 42 (by decide) (by decide) (by decide) (by decide) (by decide) (by decide)).trans (by rw [hP.f42])
    have x43_1 : J1 111 43 = T 0 12 := (hF1.2 43 (by decide) (by decide) (by decide) (by decide) (by decide) (by decide)).trans (by rw [hP.f43])
    have x44_1 : J1 111 44 = T 0 13 := (hF1.2 44 (by decide) (by decide) (by decide) (by decide) (by decide) (by decide)).trans (by rw [hP.f44])
    refine wp_eqst (st' := []) rfl ?_
    refine wp_aload_n (pc := 9) 0 dX11_readPerson_9 rfl rfl ?_
    refine wp_geti (pc := 10) dX11_readPerson_10 rfl f_X11_258 kd_111 la_111 (Or.inl rfl) ?_
    refine wp_eqst (st' := [vI (T 0 12)]) (by rw [x43_1]) ?_
    refine wq_istore_n (pc := 13) 1 [some (vR 111), some (vI (T 0 12))] dX11_readPerson_13 rfl rfl (by decide) rfl ?_
    refine wp_aload_n (pc := 14) 0 dX11_readPerson_14 rfl rfl ?_
    refine wp_ldc2 (pc := 15) (z := 26990) dX11_readPerson_15 rfl k_X11_192 rfl ?_
    refine wp_callV (pc := 18) (st := []) (nf' := 153) [vJ 26990] [some (vR 111), some (vJ 26990), none] dX11_readPerson_18 rfl c_X11_244 rfl kd_111 (by decide) rfl la_111 rfl (Nat.le_of_ble_eq_true rfl) rfl (Nat.le_of_ble_eq_true rfl) (by omega) (Nat.le_refl _) (Nat.le_refl _) ?_
    refine rz_want hE1 (by omega) ?_
    refine wp_eqst (st' := []) rfl ?_
    refine wp_aload_n (pc := 21) 0 dX11_readPerson_21 rfl rfl ?_
    refine wp_getr (pc := 22) dX11_readPerson_22 rfl f_X11_42 kd_111 la_111 rfl (r_111_25 D) ?_
    refine wp_iload_n (pc := 25) 1 dX11_readPerson_25 rfl rfl ?_
    refine wp_aload_n (pc := 26) 0 dX11_readPerson_26 rfl rfl ?_
    refine wp_callV (pc := 27) (st := [vI (T 0 12), vR 121]) (nf' := 153) [] [some (vR 111), none] dX11_readPerson_27 rfl c_X11_340 rfl kd_111 (by decide) rfl la_111 rfl (Nat.le_of_ble_eq_true rfl) rfl (Nat.le_of_ble_eq_true rfl) (by omega) (Nat.le_refl _) (Nat.le_refl _) ?_
    refine rz_rchurch hE1 (by omega) ?_
    refine wp_eqst (st' := [vI 0, vI (T 0 12), vR 121]) rfl ?_
    refine wq_iast (pc := 30) (Int.toNat (T 0 12)) dX11_readPerson_30 kd_121 la_121 (by omega) (by omega) ?_
    refine wp_aload_n (pc := 31) 0 dX11_readPerson_31 rfl rfl ?_
    refine wp_iload_n (pc := 32) 1 dX11_readPerson_32 rfl rfl ?_
    refine wp_callV (pc := 33) (st := []) (nf' := 153) [vI (T 0 12)] [some (vR 111), some (vI (T 0 12)), none] dX11_readPerson_33 rfl c_X11_343 rfl kd_111 (by decide) rfl la_111 rfl (Nat.le_of_ble_eq_true rfl) rfl (Nat.le_of_ble_eq_true rfl) (by omega) (Nat.le_refl _) (Nat.le_refl _) ?_
    refine rz_readParents (nP T) (by omega) (hE1.wr (by omega)) (by omega) (by omega) (fun J14 hF14 hE14 => ?_)
    have x2_14 : J14 111 2 = (bad b (te b c) (nwF b (te b c) (N 1) (nP T))).1 := hE14.1
    have xp_14 : 0 < (bad b (te b c) (nwF b (te b c) (N 1) (nP T))).1 ∧ (bad b (te b c) (nwF b (te b c) (N 1) (nP T))).1 ≤ 5 := hE14.2.2
    refine wp_eqst (st' := []) rfl ?_
    refine wp_aload_n (pc := 36) 0 dX11_readPerson_36 rfl rfl ?_
    refine wp_getr (pc := 37) dX11_readPerson_37 rfl f_X11_87 kd_111 la_111 rfl (r_111_40 D) ?_
    refine wp_iload_n (pc := 40) 1 dX11_readPerson_40 rfl rfl ?_
    refine wp_aload_n (pc := 41) 0 dX11_readPerson_41 rfl rfl ?_
    refine wp_ldc2 (pc := 42) (z := 7761783) dX11_readPerson_42 rfl k_X11_198 rfl ?_
    refine wp_callV (pc := 45) (st := [vI (T 0 12), vR 136]) (nf' := 153) [vJ 7761783] [some (vR 111), some (vJ 7761783), none, none] dX11_readPerson_45 rfl c_X11_334 rfl kd_111 (by decide) rfl la_111 rfl (Nat.le_of_ble_eq_true rfl) rfl (Nat.le_of_ble_eq_true rfl) (by omega) (Nat.le_refl _) (Nat.le_refl _) ?_
    refine rz_takes hE14 (by omega) ?_
    refine wp_eqst (st' := [vI 0, vI (T 0 12), vR 136]) rfl ?_
    refine wq_zast (pc := 48) (Int.toNat (T 0 12)) dX11_readPerson_48 kd_136 la_136 (by omega) (by omega) (by decide) ?_
    refine wp_aload_n (pc := 49) 0 dX11_readPerson_49 rfl rfl ?_
    refine wp_getr (pc := 50) dX11_readPerson_50 rfl f_X11_48 kd_111 la_111 rfl (r_111_27 D) ?_
    refine wp_iload_n (pc := 53) 1 dX11_readPerson_53 rfl rfl ?_
    refine wp_aload_n (pc := 54) 0 dX11_readPerson_54 rfl rfl ?_
    refine wp_geti (pc := 55) dX11_readPerson_55 rfl f_X11_185 kd_111 la_111 (Or.inl rfl) ?_
    refine wp_eqst (st' := [vI ((bad b (te b c) (nwF b (te b c) (N 1) (nP T))).1), vI (T 0 12), vR 123]) (by rw [up_c (by omega), x2_14]) ?_
    refine wp_if_ne (pc := 58) 84 dX11_readPerson_58 (by decide) (by omega) (fun _ => ?_) (fun hh => absurd hh (by omega))
    refine wp_iconst (pc := 84) dX11_readPerson_84 ?_
    refine wq_iast (pc := 85) (Int.toNat (T 0 12)) dX11_readPerson_85 kd_123 la_123 (by omega) (by omega) ?_
    refine wp_aload_n (pc := 86) 0 dX11_readPerson_86 rfl rfl ?_
    refine wp_getr (pc := 87) dX11_readPerson_87 rfl f_X11_51 kd_111 la_111 rfl (r_111_28 D) ?_
    refine wp_iload_n (pc := 90) 1 dX11_readPerson_90 rfl rfl ?_
    refine wp_iconst (pc := 91) dX11_readPerson_91 ?_
    refine wq_iast (pc := 92) (Int.toNat (T 0 12)) dX11_readPerson_92 kd_124 la_124 (by omega) (by omega) ?_
    refine wp_aload_n (pc := 93) 0 dX11_readPerson_93 rfl rfl ?_
    refine wp_getr (pc := 94) dX11_readPerson_94 rfl f_X11_54 kd_111 la_111 rfl (r_111_29 D) ?_
    refine wp_iload_n (pc := 97) 1 dX11_readPerson_97 rfl rfl ?_
    refine wp_iconst (pc := 98) dX11_readPerson_98 ?_
    refine wq_iast (pc := 99) (Int.toNat (T 0 12)) dX11_readPerson_99 kd_125 la_125 (by omega) (by omega) ?_
    refine wp_aload_n (pc := 100) 0 dX11_readPerson_100 rfl rfl ?_
    refine wp_geti (pc := 101) dX11_readPerson_101 rfl f_X11_185 kd_111 la_111 (Or.inl rfl) ?_
    refine wp_eqst (st' := [vI ((bad b (te b c) (nwF b (te b c) (N 1) (nP T))).1)]) (by rw [up_c (by omega), up_c (by omega), up_c (by omega), up_c (by omega), x2_14]) ?_
    refine wp_if_ne (pc := 104) 117 dX11_readPerson_104 (by decide) (by omega) (fun _ => ?_) (fun hh => absurd hh (by omega))
    refine wp_vret (pc := 117) dX11_readPerson_117 rfl rfl ?_
    exact h0 _ (by unfold personF; (repeat (first | rw [if_pos (by omega)] | rw [if_neg (by omega)])); first | done | rfl) _ _ (((((((Fn.refl.trans hF1.n).wr (Or.inr ⟨by decide, by unfold rnCell; omega⟩)).trans hF14).wr (Or.inr ⟨by decide, by unfold rnCell; omega⟩)).wr (Or.inr ⟨by decide, by unfold rnCell; omega⟩)).wr (Or.inr ⟨by decide, by unfold rnCell; omega⟩)).wr (Or.inr ⟨by decide, by unfold rnCell; omega⟩)) (Ln.refl.trans hL1) ((((hE14.wr (by omega)).wr (by omega)).wr (by omega)).wr (by omega))
