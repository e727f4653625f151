/-! THE REFERENCE's readKnows, readSpites, readPair -/
theorem rs_readKnows {l : Launch} {G : mG} {d : Nat} {I : mI} {L : Nat → Nat → Int} {D : Nat → Nat} {Q : mQ} {b g : Nat → Int} {n c : Nat} {T N : mT} {mo : Nat} (hP : RD I L b g n c T N mo) (hs3 : ts b c ≠ 3) (hm : kcN (T 13) 8 < 12) (hd : 4 ≤ d) (h1 : ∀ c' T' N', linkF b c T N 13 12 = .inr (c', T', N') → ∀ J M, Fn I J → Ln L M → RD J M b g n c' T' N' mo → Q none J (XX M D)) (h0 : ∀ er, linkF b c T N 13 12 = .inl er → ∀ J M, Fn I J → Ln L M → RE J er → Q none J (XX M D)) : WP l G m_X11_readKnows d 153 I (XX L D) 0 [some (vR 111), none, none] [] Q := by
  have kw := wi_in b c
  have tr := ts_rng b c
  have i8 := hP.2.2.1.2.2.1.1
  have l9 := hP.2.2.1.2.2.2.2.1
  have hw := hP.tw
  have hb := hP.1.1
  have b_c := tw_c hw
  have b_p := tw_p hw
  have b_q := tw_q hw
  have b_v := tw_vows hw
  have eC : nC T = (T 0 11).toNat := rfl
  have eP : nP T = (T 0 12).toNat := rfl
  have eQ : nQ T = (T 0 13).toNat := rfl
  refine wp_aload_n (pc := 0) 0 dX11_readKnows_0 rfl rfl ?_
  refine wp_callV (pc := 1) (st := []) (nf' := 153) [] [some (vR 111), none, none] dX11_readKnows_1 rfl c_X11_241 rfl kd_111 (by decide) rfl la_111 rfl (Nat.le_of_ble_eq_true rfl) rfl (Nat.le_of_ble_eq_true rfl) (by omega) (Nat.le_refl _) (Nat.le_refl _) ?_
  have n31 : ts b c ≠ 3 := (by first | exact n3_k (by omega) | exact n3_4 (by omega) | exact n3_w (by omega) | exact n3_s (by omega) | omega)
  have hz1 : RD (I) (L) b g n c T N mo := hP
  refine rs_token hz1.1 hz1.nx (hz1.q4 n31) (by omega) (fun J1 M1 hFb1 hLb1 hTk1 => ?_)
  have hP1 := hz1.adv hz1.nx hFb1 hLb1 hTk1
  have kw_1 := wi_in b (te b c)
  have tr_1 := ts_rng b (te b c)
  have i8_1 := hP1.2.2.1.2.2.1.1
  have l9_1 := hP1.2.2.1.2.2.2.2.1
  refine wp_eqst (st' := []) rfl ?_
  refine wp_aload_n (pc := 4) 0 dX11_readKnows_4 rfl rfl ?_
  refine wp_callV (pc := 5) (st := []) (nf' := 153) [] [some (vR 111)] dX11_readKnows_5 rfl c_X11_337 rfl kd_111 (by decide) rfl la_111 rfl (Nat.le_of_ble_eq_true rfl) rfl (Nat.le_of_ble_eq_true rfl) (by omega) (Nat.le_refl _) (Nat.le_refl _) ?_
  refine wp_aload_n (pc := 0) 0 dX11_oldPerson_0 rfl rfl ?_
  refine wp_iconst (pc := 1) dX11_oldPerson_1 ?_
  refine wp_aload_n (pc := 2) 0 dX11_oldPerson_2 rfl rfl ?_
  refine wp_geti (pc := 3) dX11_oldPerson_3 rfl f_X11_258 kd_111 la_111 (Or.inl rfl) ?_
  refine wp_eqst (st' := [vI (T 0 12), vI 4, vR 111]) (by rw [hP1.f43]) ?_
  refine wp_callV (pc := 6) (st := []) (nf' := 153) [vI 4, vI (T 0 12)] [some (vR 111), some (vI 4), some (vI (T 0 12))] dX11_oldPerson_6 rfl c_X11_261 rfl kd_111 (by decide) rfl la_111 rfl (Nat.le_of_ble_eq_true rfl) rfl (Nat.le_of_ble_eq_true rfl) (by omega) (Nat.le_refl _) (Nat.le_refl _) ?_
  have hz2 : RD (J1) (M1) b g n (te b c) T N mo := hP1
  have ez2 : T 0 12 = ((nP T : Nat) : Int) := by have z1 := tw_p hz2.tw; have z2 : nP T = (T 0 12).toNat := rfl; omega
  refine rs_oldName1 (nP T) ez2 hz2 rfl (by omega) (fun h_1 => ?_) (fun h_1 J2 M2 hF2 hL2 hE2 => ?_)
  · replace h_1 : 0 ≤ prF b (te b c) (N 1) (nP T) 0 := h_1
    have pk2 := prF_ok h_1
    have pi2 := prF_in (b := b) (c := te b c) (N := N 1) (n := nP T) (rep := 0)
    refine wp_eqst (st' := [vI (prF b (te b c) (N 1) (nP T) 0)]) rfl ?_
    refine wp_iret (pc := 9) dX11_oldPerson_9 rfl rfl ?_
    refine wp_eqst (st' := [vI (prF b (te b c) (N 1) (nP T) 0)]) rfl ?_
    refine wq_istore_n (pc := 8) 1 [some (vR 111), some (vI (prF b (te b c) (N 1) (nP T) 0)), none] dX11_readKnows_8 rfl rfl (by decide) rfl ?_
    refine wp_aload_n (pc := 9) 0 dX11_readKnows_9 rfl rfl ?_
    refine wp_geti (pc := 10) dX11_readKnows_10 rfl f_X11_185 kd_111 la_111 (Or.inl rfl) ?_
    refine wp_eqst (st' := [vI 0]) (by rw [hP1.2.2.2.1.1]) ?_
    refine wp_if_ne (pc := 13) 20 dX11_readKnows_13 (by decide) (by decide) (fun hh => absurd hh (by decide)) (fun _ => ?_)
    refine wp_aload_n (pc := 16) 0 dX11_readKnows_16 rfl rfl ?_
    refine wp_callV (pc := 17) (st := []) (nf' := 153) [] [some (vR 111), none, none] dX11_readKnows_17 rfl c_X11_241 rfl kd_111 (by decide) rfl la_111 rfl (Nat.le_of_ble_eq_true rfl) rfl (Nat.le_of_ble_eq_true rfl) (by omega) (Nat.le_refl _) (Nat.le_refl _) ?_
    have n33 : ts b (te b c) ≠ 3 := (by first | exact n3_k (by omega) | exact n3_4 (by omega) | exact n3_w (by omega) | exact n3_s (by omega) | omega)
    have hz3 : RD (J1) (M1) b g n (te b c) T N mo := hP1
    refine rs_token hz3.1 hz3.nx (hz3.q4 n33) (by omega) (fun J3 M3 hFb3 hLb3 hTk3 => ?_)
    have hP3 := hz3.adv hz3.nx hFb3 hLb3 hTk3
    have kw_3 := wi_in b (te b (te b c))
    have tr_3 := ts_rng b (te b (te b c))
    have i8_3 := hP3.2.2.1.2.2.1.1
    have l9_3 := hP3.2.2.1.2.2.2.2.1
    refine wp_eqst (st' := []) rfl ?_
    refine wp_aload_n (pc := 20) 0 dX11_readKnows_20 rfl rfl ?_
    refine wp_callV (pc := 21) (st := []) (nf' := 153) [] [some (vR 111)] dX11_readKnows_21 rfl c_X11_337 rfl kd_111 (by decide) rfl la_111 rfl (Nat.le_of_ble_eq_true rfl) rfl (Nat.le_of_ble_eq_true rfl) (by omega) (Nat.le_refl _) (Nat.le_refl _) ?_
    refine wp_aload_n (pc := 0) 0 dX11_oldPerson_0 rfl rfl ?_
    refine wp_iconst (pc := 1) dX11_oldPerson_1 ?_
    refine wp_aload_n (pc := 2) 0 dX11_oldPerson_2 rfl rfl ?_
    refine wp_geti (pc := 3) dX11_oldPerson_3 rfl f_X11_258 kd_111 la_111 (Or.inl rfl) ?_
    refine wp_eqst (st' := [vI (T 0 12), vI 4, vR 111]) (by rw [hP3.f43]) ?_
    refine wp_callV (pc := 6) (st := []) (nf' := 153) [vI 4, vI (T 0 12)] [some (vR 111), some (vI 4), some (vI (T 0 12))] dX11_oldPerson_6 rfl c_X11_261 rfl kd_111 (by decide) rfl la_111 rfl (Nat.le_of_ble_eq_true rfl) rfl (Nat.le_of_ble_eq_true rfl) (by omega) (Nat.le_refl _) (Nat.le_refl _) ?_
    have hz4 : RD (J3) (M3) b g n (te b (te b c)) T N mo := hP3
    have ez4 : T 0 12 = ((nP T : Nat) : Int) := by have z1 := tw_p hz4.tw; have z2 : nP T = (T 0 12).toNat := rfl; omega
    refine rs_oldName1 (nP T) ez4 hz4 rfl (by omega) (fun h_2 => ?_) (fun h_2 J4 M4 hF4 hL4 hE4 => ?_)
    · replace h_2 : 0 ≤ prF b (te b (te b c)) (N 1) (nP T) 0 := h_2
      have pk4 := prF_ok h_2
      have pi4 := prF_in (b := b) (c := te b (te b c)) (N := N 1) (n := nP T) (rep := 0)
      refine wp_eqst (st' := [vI (prF b (te b (te b c)) (N 1) (nP T) 0)]) rfl ?_
      refine wp_iret (pc := 9) dX11_oldPerson_9 rfl rfl ?_
      refine wp_eqst (st' := [vI (prF b (te b (te b c)) (N 1) (nP T) 0)]) rfl ?_
      refine wq_istore_n (pc := 24) 2 [some (vR 111), some (vI (prF b (te b c) (N 1) (nP T) 0)), some (vI (prF b (te b (te b c)) (N 1) (nP T) 0))] dX11_readKnows_24 rfl rfl (by decide) rfl ?_
      refine wp_aload_n (pc := 25) 0 dX11_readKnows_25 rfl rfl ?_
      refine wp_geti (pc := 26) dX11_readKnows_26 rfl f_X11_185 kd_111 la_111 (Or.inl rfl) ?_
      refine wp_eqst (st' := [vI 0]) (by rw [hP3.2.2.2.1.1]) ?_
      refine wp_if_ne (pc := 29) 56 dX11_readKnows_29 (by decide) (by decide) (fun hh => absurd hh (by decide)) (fun _ => ?_)
      have bk := tw_told hw (Int.toNat (prF b (te b c) (N 1) (nP T) 0))
      refine wp_iload_n (pc := 32) 1 dX11_readKnows_32 rfl rfl ?_
      refine wp_iload_n (pc := 33) 2 dX11_readKnows_33 rfl rfl ?_
      refine wp_icmp_eq (pc := 34) 51 dX11_readKnows_34 (by decide) (by omega) (by omega) (fun h_3 => ?_) (fun h_3 => ?_)
      · refine wp_aload_n (pc := 51) 0 dX11_readKnows_51 rfl rfl ?_
        refine wp_iconst (pc := 52) dX11_readKnows_52 ?_
        refine wp_callV (pc := 53) (st := []) (nf' := 153) [vI 3] [some (vR 111), some (vI 3)] dX11_readKnows_53 rfl c_X11_238 rfl kd_111 (by decide) rfl la_111 rfl (Nat.le_of_ble_eq_true rfl) rfl (Nat.le_of_ble_eq_true rfl) (by omega) (Nat.le_refl _) (Nat.le_refl _) ?_
        have hz5 : RD (J3) (M3) b g n (te b (te b c)) T N mo := hP3
        refine rs_wrong hz5.2.2.1 hz5.2.2.2.1.1 (by omega) (by omega) ?_
        refine wp_gen (fun J => Fe (J3) J ∧ RE J (bad b (te b (te b c)) 3)) ⟨Fe.bad, RD.bad (by omega)⟩ (fun J5 hJ5 => ?_)
        have x2_5 : J5 111 2 = (bad b (te b (te b c)) 3).1 := hJ5.2.1
        have xp_5 : 0 < (bad b (te b (te b c)) 3).1 ∧ (bad b (te b (te b c)) 3).1 ≤ 5 := hJ5.2.2.2
        have x42_5 : J5 111 42 = T 0 11 := (hJ5.1.2 42 (by decide) (by decide) (by decide) (by decide) (by decide) (by decide)).trans (by rw [hP3.f42])
        have x43_5 : J5 111 43 = T 0 12 := (hJ5.1.2 43 (by decide) (by decide) (by decide) (by decide) (by decide) (by decide)).trans (by rw [hP3.f43])
        have x44_5 : J5 111 44 = T 0 13 := (hJ5.1.2 44 (by decide) (by decide) (by decide) (by decide) (by decide) (by decide)).trans (by rw [hP3.f44])
        refine wp_eqst (st' := []) rfl ?_
        refine wp_aload_n (pc := 56) 0 dX11_readKnows_56 rfl rfl ?_
        refine wp_geti (pc := 57) dX11_readKnows_57 rfl f_X11_185 kd_111 la_111 (Or.inl rfl) ?_
        refine wp_eqst (st' := [vI ((bad b (te b (te b c)) 3).1)]) (by rw [x2_5]) ?_
        refine wp_if_le (pc := 60) 64 dX11_readKnows_60 (by decide) (by omega) (fun hh => absurd hh (by omega)) (fun _ => ?_)
        refine wp_vret (pc := 63) dX11_readKnows_63 rfl rfl ?_
        have er : prF b (te b (te b c)) (N 1) (nP T) ((T 13 (Int.toNat (prF b (te b c) (N 1) (nP T) 0))).toNat ||| 2 ^ (Int.toNat (prF b (te b c) (N 1) (nP T) 0))) = -3 := prF_r1 (by omega) (by rw [Nat.testBit_or, Nat.testBit_two_pow, decide_eq_true (by omega), Bool.or_true])
        exact h0 _ (by unfold linkF; (repeat (first | rw [if_pos (by omega)] | rw [if_neg (by omega)])); rw [er]; first | done | rfl) _ _ (((Fn.refl.trans hFb1.n).trans hFb3.n).trans hJ5.1.n) ((Ln.refl.trans hLb1.n).trans hLb3.n) hJ5.2
      · refine wp_aload_n (pc := 37) 0 dX11_readKnows_37 rfl rfl ?_
        refine wp_getr (pc := 38) dX11_readKnows_38 rfl f_X11_51 kd_111 la_111 rfl (r_111_28 D) ?_
        refine wp_iload_n (pc := 41) 1 dX11_readKnows_41 rfl rfl ?_
        refine wq_iald (pc := 42) (Int.toNat (prF b (te b c) (N 1) (nP T) 0)) dX11_readKnows_42 kd_124 la_124 (by omega) (by omega) ?_
        refine wp_eqst (st' := [vI (T 13 (Int.toNat (prF b (te b c) (N 1) (nP T) 0)))]) (by rw [hP3.knows (by omega)]) ?_
        refine wp_iload_n (pc := 43) 2 dX11_readKnows_43 rfl rfl ?_
        refine wn_shr (pc := 44) (Int.toNat (T 13 (Int.toNat (prF b (te b c) (N 1) (nP T) 0)))) (Int.toNat (prF b (te b (te b c)) (N 1) (nP T) 0)) dX11_readKnows_44 (by omega) (by omega) (by omega) (by omega) ?_
        refine wp_iconst (pc := 45) dX11_readKnows_45 ?_
        refine wn_mask (pc := 46) ((Int.toNat (T 13 (Int.toNat (prF b (te b c) (N 1) (nP T) 0)))) / 2 ^ (Int.toNat (prF b (te b (te b c)) (N 1) (nP T) 0))) 1 dX11_readKnows_46 rfl rfl (by decide) ?_
        refine wp_iconst (pc := 47) dX11_readKnows_47 ?_
        refine wp_icmp_ne (pc := 48) 56 dX11_readKnows_48 (by decide) (by omega) (by decide) (fun h_4 => ?_) (fun h_4 => ?_)
        · refine wp_aload_n (pc := 56) 0 dX11_readKnows_56 rfl rfl ?_
          refine wp_geti (pc := 57) dX11_readKnows_57 rfl f_X11_185 kd_111 la_111 (Or.inl rfl) ?_
          refine wp_eqst (st' := [vI 0]) (by rw [hP3.2.2.2.1.1]) ?_
          refine wp_if_le (pc := 60) 64 dX11_readKnows_60 (by decide) (by decide) (fun _ => ?_) (fun hh => absurd hh (by decide))
          refine wp_aload_n (pc := 64) 0 dX11_readKnows_64 rfl rfl ?_
          refine wp_getr (pc := 65) dX11_readKnows_65 rfl f_X11_51 kd_111 la_111 rfl (r_111_28 D) ?_
          refine wp_iload_n (pc := 68) 1 dX11_readKnows_68 rfl rfl ?_
          refine wp_dup2 (pc := 69) dX11_readKnows_69 rfl rfl ?_
          refine wq_iald (pc := 70) (Int.toNat (prF b (te b c) (N 1) (nP T) 0)) dX11_readKnows_70 kd_124 la_124 (by omega) (by omega) ?_
          refine wp_eqst (st' := [vI (T 13 (Int.toNat (prF b (te b c) (N 1) (nP T) 0))), vI (prF b (te b c) (N 1) (nP T) 0), vR 124]) (by rw [hP3.knows (by omega)]) ?_
          refine wp_iconst (pc := 71) dX11_readKnows_71 ?_
          refine wp_iload_n (pc := 72) 2 dX11_readKnows_72 rfl rfl ?_
          refine wn_shl1 (pc := 73) (Int.toNat (prF b (te b (te b c)) (N 1) (nP T) 0)) dX11_readKnows_73 (by omega) (by omega) ?_
          refine wn_or (pc := 74) (Int.toNat (T 13 (Int.toNat (prF b (te b c) (N 1) (nP T) 0)))) (2 ^ (Int.toNat (prF b (te b (te b c)) (N 1) (nP T) 0))) dX11_readKnows_74 (by omega) rfl ?_
          refine wq_iast (pc := 75) (Int.toNat (prF b (te b c) (N 1) (nP T) 0)) dX11_readKnows_75 kd_124 la_124 (by omega) (by omega) ?_
          refine wp_aload_n (pc := 76) 0 dX11_readKnows_76 rfl rfl ?_
          refine wp_dup (pc := 77) dX11_readKnows_77 rfl ?_
          refine wp_geti (pc := 78) dX11_readKnows_78 rfl f_X11_350 kd_111 la_111 (Or.inl rfl) ?_
          refine wp_eqst (st' := [vI ((kcN (T 13) 8 : Nat) : Int), vR 111]) (by rw [up_c (by omega), hP3.f45]) ?_
          refine wp_iconst (pc := 81) dX11_readKnows_81 ?_
          refine wp_iadd (pc := 82) dX11_readKnows_82 ?_
          refine wp_puti (pc := 83) dX11_readKnows_83 rfl f_X11_350 kd_111 la_111 (fun _ h => by cases h; rfl) rfl ?_
          have hbt : ¬ (T 13 (Int.toNat (prF b (te b c) (N 1) (nP T) 0))).toNat.testBit (Int.toNat (prF b (te b (te b c)) (N 1) (nP T) 0)) = true := fun z => absurd ((bit_iff _ _).mpr z) (by omega)
          have er : prF b (te b (te b c)) (N 1) (nP T) ((T 13 (Int.toNat (prF b (te b c) (N 1) (nP T) 0))).toNat ||| 2 ^ (Int.toNat (prF b (te b c) (N 1) (nP T) 0))) = prF b (te b (te b c)) (N 1) (nP T) 0 := prF_r2 (by omega) (by rw [Nat.testBit_or, Nat.testBit_two_pow, decide_eq_false (by omega), Bool.or_false]; exact hbt)
          have lv : (T 13 (Int.toNat (prF b (te b c) (N 1) (nP T) 0))).toNat ||| 2 ^ (Int.toNat (prF b (te b (te b c)) (N 1) (nP T) 0)) < 2 ^ 8 := or_lt (by omega) (two_lt (by omega))
          have hl := hP3.lk13 (a := Int.toNat (prF b (te b c) (N 1) (nP T) 0)) (v := (((T 13 (Int.toNat (prF b (te b c) (N 1) (nP T) 0))).toNat ||| 2 ^ (Int.toNat (prF b (te b (te b c)) (N 1) (nP T) 0)) : Nat) : Int)) (by omega) (by omega) (by rw [Int.toNat_natCast]; exact pc8_add (by omega) hbt)
          refine wp_gen (fun J => Fn I J ∧ RD J (M3) b g n (te b (te b c)) (setT T 13 (Int.toNat (prF b (te b c) (N 1) (nP T) 0)) (((T 13 (Int.toNat (prF b (te b c) (N 1) (nP T) 0))).toNat ||| 2 ^ (Int.toNat (prF b (te b (te b c)) (N 1) (nP T) 0)) : Nat) : Int)) N mo) ⟨(((Fn.refl.trans hFb1.n).trans hFb3.n).wr (Or.inr ⟨by decide, by unfold rnCell; omega⟩)).wr (Or.inl ⟨rfl, by unfold rnSlot; omega⟩), hl⟩ (fun J6 hJ6 => ?_)
          have kw_6 := wi_in b (te b (te b c))
          have tr_6 := ts_rng b (te b (te b c))
          have i8_6 := hJ6.2.2.2.1.2.2.1.1
          have l9_6 := hJ6.2.2.2.1.2.2.2.2.1
          refine wp_aload_n (pc := 86) 0 dX11_readKnows_86 rfl rfl ?_
          refine wp_callV (pc := 87) (st := []) (nf' := 153) [] [some (vR 111), none, none] dX11_readKnows_87 rfl c_X11_241 rfl kd_111 (by decide) rfl la_111 rfl (Nat.le_of_ble_eq_true rfl) rfl (Nat.le_of_ble_eq_true rfl) (by omega) (Nat.le_refl _) (Nat.le_refl _) ?_
          have n37 : ts b (te b (te b c)) ≠ 3 := (by first | exact n3_k (by omega) | exact n3_4 (by omega) | exact n3_w (by omega) | exact n3_s (by omega) | omega)
          have hz7 : RD (J6) (M3) b g n (te b (te b c)) (setT T 13 (Int.toNat (prF b (te b c) (N 1) (nP T) 0)) (((T 13 (Int.toNat (prF b (te b c) (N 1) (nP T) 0))).toNat ||| 2 ^ (Int.toNat (prF b (te b (te b c)) (N 1) (nP T) 0)) : Nat) : Int)) N mo := hJ6.2
          refine rs_token hz7.1 hz7.nx (hz7.q4 n37) (by omega) (fun J7 M7 hFb7 hLb7 hTk7 => ?_)
          have hP7 := hz7.adv hz7.nx hFb7 hLb7 hTk7
          have kw_7 := wi_in b (te b (te b (te b c)))
          have tr_7 := ts_rng b (te b (te b (te b c)))
          have i8_7 := hP7.2.2.1.2.2.1.1
          have l9_7 := hP7.2.2.1.2.2.2.2.1
          refine wp_eqst (st' := []) rfl ?_
          refine wp_vret (pc := 90) dX11_readKnows_90 rfl rfl ?_
          exact h1 _ _ _ (by unfold linkF; (repeat (first | rw [if_pos (by omega)] | rw [if_neg (by omega)])); rw [er]; first | done | rfl) _ _ (hJ6.1.trans hFb7.n) (((Ln.refl.trans hLb1.n).trans hLb3.n).trans hLb7.n) hP7
        · refine wp_aload_n (pc := 51) 0 dX11_readKnows_51 rfl rfl ?_
          refine wp_iconst (pc := 52) dX11_readKnows_52 ?_
          refine wp_callV (pc := 53) (st := []) (nf' := 153) [vI 3] [some (vR 111), some (vI 3)] dX11_readKnows_53 rfl c_X11_238 rfl kd_111 (by decide) rfl la_111 rfl (Nat.le_of_ble_eq_true rfl) rfl (Nat.le_of_ble_eq_true rfl) (by omega) (Nat.le_refl _) (Nat.le_refl _) ?_
          have hz8 : RD (J3) (M3) b g n (te b (te b c)) T N mo := hP3
          refine rs_wrong hz8.2.2.1 hz8.2.2.2.1.1 (by omega) (by omega) ?_
          refine wp_gen (fun J => Fe (J3) J ∧ RE J (bad b (te b (te b c)) 3)) ⟨Fe.bad, RD.bad (by omega)⟩ (fun J8 hJ8 => ?_)
          have x2_8 : J8 111 2 = (bad b (te b (te b c)) 3).1 := hJ8.2.1
          have xp_8 : 0 < (bad b (te b (te b c)) 3).1 ∧ (bad b (te b (te b c)) 3).1 ≤ 5 := hJ8.2.2.2
          have x42_8 : J8 111 42 = T 0 11 := (hJ8.1.2 42 (by decide) (by decide) (by decide) (by decide) (by decide) (by decide)).trans (by rw [hP3.f42])
          have x43_8 : J8 111 43 = T 0 12 := (hJ8.1.2 43 (by decide) (by decide) (by decide) (by decide) (by decide) (by decide)).trans (by rw [hP3.f43])
          have x44_8 : J8 111 44 = T 0 13 := (hJ8.1.2 44 (by decide) (by decide) (by decide) (by decide) (by decide) (by decide)).trans (by rw [hP3.f44])
          refine wp_eqst (st' := []) rfl ?_
          refine wp_aload_n (pc := 56) 0 dX11_readKnows_56 rfl rfl ?_
          refine wp_geti (pc := 57) dX11_readKnows_57 rfl f_X11_185 kd_111 la_111 (Or.inl rfl) ?_
          refine wp_eqst (st' := [vI ((bad b (te b (te b c)) 3).1)]) (by rw [x2_8]) ?_
          refine wp_if_le (pc := 60) 64 dX11_readKnows_60 (by decide) (by omega) (fun hh => absurd hh (by omega)) (fun _ => ?_)
          refine wp_vret (pc := 63) dX11_readKnows_63 rfl rfl ?_
          have er : prF b (te b (te b c)) (N 1) (nP T) ((T 13 (Int.toNat (prF b (te b c) (N 1) (nP T) 0))).toNat ||| 2 ^ (Int.toNat (prF b (te b c) (N 1) (nP T) 0))) = -3 := prF_r1 (by omega) (by rw [Nat.testBit_or, (bit_iff _ _).mp (by omega), Bool.true_or])
          exact h0 _ (by unfold linkF; (repeat (first | rw [if_pos (by omega)] | rw [if_neg (by omega)])); rw [er]; first | done | rfl) _ _ (((Fn.refl.trans hFb1.n).trans hFb3.n).trans hJ8.1.n) ((Ln.refl.trans hLb1.n).trans hLb3.n) hJ8.2
    · replace h_2 : prF b (te b (te b c)) (N 1) (nP T) 0 < 0 := h_2
      have x2_4 : J4 111 2 = (bad b (te b (te b c)) (-prF b (te b (te b c)) (N 1) (nP T) 0)).1 := hE4.1
      have xp_4 : 0 < (bad b (te b (te b c)) (-prF b (te b (te b c)) (N 1) (nP T) 0)).1 ∧ (bad b (te b (te b c)) (-prF b (te b (te b c)) (N 1) (nP T) 0)).1 ≤ 5 := hE4.2.2
      have x42_4 : J4 111 42 = T 0 11 := (hF4.2 42 (by decide) (by decide) (by decide) (by decide) (by decide) (by decide)).trans (by rw [hP3.f42])
      have x43_4 : J4 111 43 = T 0 12 := (hF4.2 43 (by decide) (by decide) (by decide) (by decide) (by decide) (by decide)).trans (by rw [hP3.f43])
      have x44_4 : J4 111 44 = T 0 13 := (hF4.2 44 (by decide) (by decide) (by decide) (by decide) (by decide) (by decide)).trans (by rw [hP3.f44])
      refine wp_eqst (st' := [vI 0]) rfl ?_
      refine wp_iret (pc := 9) dX11_oldPerson_9 rfl rfl ?_
      refine wp_eqst (st' := [vI 0]) rfl ?_
      refine wq_istore_n (pc := 24) 2 [some (vR 111), some (vI (prF b (te b c) (N 1) (nP T) 0)), some (vI 0)] dX11_readKnows_24 rfl rfl (by decide) rfl ?_
      refine wp_aload_n (pc := 25) 0 dX11_readKnows_25 rfl rfl ?_
      refine wp_geti (pc := 26) dX11_readKnows_26 rfl f_X11_185 kd_111 la_111 (Or.inl rfl) ?_
      refine wp_eqst (st' := [vI ((bad b (te b (te b c)) (-prF b (te b (te b c)) (N 1) (nP T) 0)).1)]) (by rw [x2_4]) ?_
      refine wp_if_ne (pc := 29) 56 dX11_readKnows_29 (by decide) (by omega) (fun _ => ?_) (fun hh => absurd hh (by omega))
      refine wp_aload_n (pc := 56) 0 dX11_readKnows_56 rfl rfl ?_
      refine wp_geti (pc := 57) dX11_readKnows_57 rfl f_X11_185 kd_111 la_111 (Or.inl rfl) ?_
      refine wp_eqst (st' := [vI ((bad b (te b (te b c)) (-prF b (te b (te b c)) (N 1) (nP T) 0)).1)]) (by rw [x2_4]) ?_
      refine wp_if_le (pc := 60) 64 dX11_readKnows_60 (by decide) (by omega) (fun hh => absurd hh (by omega)) (fun _ => ?_)
      refine wp_vret (pc := 63) dX11_readKnows_63 rfl rfl ?_
      have er : prF b (te b (te b c)) (N 1) (nP T) ((T 13 (Int.toNat (prF b (te b c) (N 1) (nP T) 0))).toNat ||| 2 ^ (Int.toNat (prF b (te b c) (N 1) (nP T) 0))) = prF b (te b (te b c)) (N 1) (nP T) 0 := prF_r0 (by omega)
      exact h0 _ (by unfold linkF; (repeat (first | rw [if_pos (by omega)] | rw [if_neg (by omega)])); rw [er]; first | done | rfl) _ _ (((Fn.refl.trans hFb1.n).trans hFb3.n).trans hF4.n) (((Ln.refl.trans hLb1.n).trans hLb3.n).trans hL4) hE4
  · replace h_1 : prF b (te b c) (N 1) (nP T) 0 < 0 := h_1
    have x2_2 : J2 111 2 = (bad b (te b c) (-prF b (te b c) (N 1) (nP T) 0)).1 := hE2.1
    have xp_2 : 0 < (bad b (te b c) (-prF b (te b c) (N 1) (nP T) 0)).1 ∧ (bad b (te b c) (-prF b (te b c) (N 1) (nP T) 0)).1 ≤ 5 := hE2.2.2
    have x42_2 : J2 111 42 = T 0 11 := (hF2.2 42 (by decide) (by decide) (by decide) (by decide) (by decide) (by decide)).trans (by rw [hP1.f42])
    have x43_2 : J2 111 43 = T 0 12 := (hF2.2 43 (by decide) (by decide) (by decide) (by decide) (by decide) (by decide)).trans (by rw [hP1.f43])
    have x44_2 : J2 111 44 = T 0 13 := (hF2.2 44 (by decide) (by decide) (by decide) (by decide) (by decide) (by decide)).trans (by rw [hP1.f44])
    refine wp_eqst (st' := [vI 0]) rfl ?_
    refine wp_iret (pc := 9) dX11_oldPerson_9 rfl rfl ?_
    refine wp_eqst (st' := [vI 0]) rfl ?_
    refine wq_istore_n (pc := 8) 1 [some (vR 111), some (vI 0), none] dX11_readKnows_8 rfl rfl (by decide) rfl ?_
    refine wp_aload_n (pc := 9) 0 dX11_readKnows_9 rfl rfl ?_
    refine wp_geti (pc := 10) dX11_readKnows_10 rfl f_X11_185 kd_111 la_111 (Or.inl rfl) ?_
    refine wp_eqst (st' := [vI ((bad b (te b c) (-prF b (te b c) (N 1) (nP T) 0)).1)]) (by rw [x2_2]) ?_
    refine wp_if_ne (pc := 13) 20 dX11_readKnows_13 (by decide) (by omega) (fun _ => ?_) (fun hh => absurd hh (by omega))
    refine wp_aload_n (pc := 20) 0 dX11_readKnows_20 rfl rfl ?_
    refine wp_callV (pc := 21) (st := []) (nf' := 153) [] [some (vR 111)] dX11_readKnows_21 rfl c_X11_337 rfl kd_111 (by decide) rfl la_111 rfl (Nat.le_of_ble_eq_true rfl) rfl (Nat.le_of_ble_eq_true rfl) (by omega) (Nat.le_refl _) (Nat.le_refl _) ?_
    refine wp_aload_n (pc := 0) 0 dX11_oldPerson_0 rfl rfl ?_
    refine wp_iconst (pc := 1) dX11_oldPerson_1 ?_
    refine wp_aload_n (pc := 2) 0 dX11_oldPerson_2 rfl rfl ?_
    refine wp_geti (pc := 3) dX11_oldPerson_3 rfl f_X11_258 kd_111 la_111 (Or.inl rfl) ?_
    refine wp_eqst (st' := [vI (T 0 12), vI 4, vR 111]) (by rw [x43_2]) ?_
    refine wp_callV (pc := 6) (st := []) (nf' := 153) [vI 4, vI (T 0 12)] [some (vR 111), some (vI 4), some (vI (T 0 12))] dX11_oldPerson_6 rfl c_X11_261 rfl kd_111 (by decide) rfl la_111 rfl (Nat.le_of_ble_eq_true rfl) rfl (Nat.le_of_ble_eq_true rfl) (by omega) (Nat.le_refl _) (Nat.le_refl _) ?_
    refine rz_oldName1 hE2 (by omega) ?_
    refine wp_eqst (st' := [vI 0]) rfl ?_
    refine wp_iret (pc := 9) dX11_oldPerson_9 rfl rfl ?_
    refine wp_eqst (st' := [vI 0]) rfl ?_
    refine wq_istore_n (pc := 24) 2 [some (vR 111), some (vI 0), some (vI 0)] dX11_readKnows_24 rfl rfl (by decide) rfl ?_
    refine wp_aload_n (pc := 25) 0 dX11_readKnows_25 rfl rfl ?_
    refine wp_geti (pc := 26) dX11_readKnows_26 rfl f_X11_185 kd_111 la_111 (Or.inl rfl) ?_
    refine wp_eqst (st' := [vI ((bad b (te b c) (-prF b (te b c) (N 1) (nP T) 0)).1)]) (by rw [x2_2]) ?_
    refine wp_if_ne (pc := 29) 56 dX11_readKnows_29 (by decide) (by omega) (fun _ => ?_) (fun hh => absurd hh (by omega))
    refine wp_aload_n (pc := 56) 0 dX11_readKnows_56 rfl rfl ?_
    refine wp_geti (pc := 57) dX11_readKnows_57 rfl f_X11_185 kd_111 la_111 (Or.inl rfl) ?_
    refine wp_eqst (st' := [vI ((bad b (te b c) (-prF b (te b c) (N 1) (nP T) 0)).1)]) (by rw [x2_2]) ?_
    refine wp_if_le (pc := 60) 64 dX11_readKnows_60 (by decide) (by omega) (fun hh => absurd hh (by omega)) (fun _ => ?_)
    refine wp_vret (pc := 63) dX11_readKnows_63 rfl rfl ?_
    exact h0 _ (by unfold linkF; (repeat (first | rw [if_pos (by omega)] | rw [if_neg (by omega)])); first | done | rfl) _ _ ((Fn.refl.trans hFb1.n).trans hF2.n) ((Ln.refl.trans hLb1.n).trans hL2) hE2

theorem rs_readSpites {l : Launch} {G : mG} {d : Nat} {I : mI} {L : Nat → Nat → Int} {D : Nat → Nat} {Q : mQ} {b g : Nat → Int} {n c : Nat} {T N : mT} {mo : Nat} (hP : RD I L b g n c T N mo) (hs3 : ts b c ≠ 3) (hm : kcN (T 5) 8 < 8) (hd : 4 ≤ d) (h1 : ∀ c' T' N', linkF b c T N 5 8 = .inr (c', T', N') → ∀ J M, Fn I J → Ln L M → RD J M b g n c' T' N' mo → Q none J (XX M D)) (h0 : ∀ er, linkF b c T N 5 8 = .inl er → ∀ J M, Fn I J → Ln L M → RE J er → Q none J (XX M D)) : WP l G m_X11_readSpites d 153 I (XX L D) 0 [some (vR 111), none, none] [] Q := by
  have kw := wi_in b c
  have tr := ts_rng b c
  have i8 := hP.2.2.1.2.2.1.1
  have l9 := hP.2.2.1.2.2.2.2.1
  have hw := hP.tw
  have hb := hP.1.1
  have b_c := tw_c hw
  have b_p := tw_p hw
  have b_q := tw_q hw
  have b_v := tw_vows hw
  have eC : nC T = (T 0 11).toNat := rfl
  have eP : nP T = (T 0 12).toNat := rfl
  have eQ : nQ T = (T 0 13).toNat := rfl
  refine wp_aload_n (pc := 0) 0 dX11_readSpites_0 rfl rfl ?_
  refine wp_callV (pc := 1) (st := []) (nf' := 153) [] [some (vR 111), none, none] dX11_readSpites_1 rfl c_X11_241 rfl kd_111 (by decide) rfl la_111 rfl (Nat.le_of_ble_eq_true rfl) rfl (Nat.le_of_ble_eq_true rfl) (by omega) (Nat.le_refl _) (Nat.le_refl _) ?_
  have n31 : ts b c ≠ 3 := (by first | exact n3_k (by omega) | exact n3_4 (by omega) | exact n3_w (by omega) | exact n3_s (by omega) | omega)
  have hz1 : RD (I) (L) b g n c T N mo := hP
  refine rs_token hz1.1 hz1.nx (hz1.q4 n31) (by omega) (fun J1 M1 hFb1 hLb1 hTk1 => ?_)
  have hP1 := hz1.adv hz1.nx hFb1 hLb1 hTk1
  have kw_1 := wi_in b (te b c)
  have tr_1 := ts_rng b (te b c)
  have i8_1 := hP1.2.2.1.2.2.1.1
  have l9_1 := hP1.2.2.1.2.2.2.2.1
  refine wp_eqst (st' := []) rfl ?_
  refine wp_aload_n (pc := 4) 0 dX11_readSpites_4 rfl rfl ?_
  refine wp_callV (pc := 5) (st := []) (nf' := 153) [] [some (vR 111)] dX11_readSpites_5 rfl c_X11_337 rfl kd_111 (by decide) rfl la_111 rfl (Nat.le_of_ble_eq_true rfl) rfl (Nat.le_of_ble_eq_true rfl) (by omega) (Nat.le_refl _) (Nat.le_refl _) ?_
  refine wp_aload_n (pc := 0) 0 dX11_oldPerson_0 rfl rfl ?_
  refine wp_iconst (pc := 1) dX11_oldPerson_1 ?_
  refine wp_aload_n (pc := 2) 0 dX11_oldPerson_2 rfl rfl ?_
  refine wp_geti (pc := 3) dX11_oldPerson_3 rfl f_X11_258 kd_111 la_111 (Or.inl rfl) ?_
  refine wp_eqst (st' := [vI (T 0 12), vI 4, vR 111]) (by rw [hP1.f43]) ?_
  refine wp_callV (pc := 6) (st := []) (nf' := 153) [vI 4, vI (T 0 12)] [some (vR 111), some (vI 4), some (vI (T 0 12))] dX11_oldPerson_6 rfl c_X11_261 rfl kd_111 (by decide) rfl la_111 rfl (Nat.le_of_ble_eq_true rfl) rfl (Nat.le_of_ble_eq_true rfl) (by omega) (Nat.le_refl _) (Nat.le_refl _) ?_
  have hz2 : RD (J1) (M1) b g n (te b c) T N mo := hP1
  have ez2 : T 0 12 = ((nP T : Nat) : Int) := by have z1 := tw_p hz2.tw; have z2 : nP T = (T 0 12).toNat := rfl; omega
  refine rs_oldName1 (nP T) ez2 hz2 rfl (by omega) (fun h_1 => ?_) (fun h_1 J2 M2 hF2 hL2 hE2 => ?_)
  · replace h_1 : 0 ≤ prF b (te b c) (N 1) (nP T) 0 := h_1
    have pk2 := prF_ok h_1
    have pi2 := prF_in (b := b) (c := te b c) (N := N 1) (n := nP T) (rep := 0)
    refine wp_eqst (st' := [vI (prF b (te b c) (N 1) (nP T) 0)]) rfl ?_
    refine wp_iret (pc := 9) dX11_oldPerson_9 rfl rfl ?_
    refine wp_eqst (st' := [vI (prF b (te b c) (N 1) (nP T) 0)]) rfl ?_
    refine wq_istore_n (pc := 8) 1 [some (vR 111), some (vI (prF b (te b c) (N 1) (nP T) 0)), none] dX11_readSpites_8 rfl rfl (by decide) rfl ?_
    refine wp_aload_n (pc := 9) 0 dX11_readSpites_9 rfl rfl ?_
    refine wp_geti (pc := 10) dX11_readSpites_10 rfl f_X11_185 kd_111 la_111 (Or.inl rfl) ?_
    refine wp_eqst (st' := [vI 0]) (by rw [hP1.2.2.2.1.1]) ?_
    refine wp_if_ne (pc := 13) 20 dX11_readSpites_13 (by decide) (by decide) (fun hh => absurd hh (by decide)) (fun _ => ?_)
    refine wp_aload_n (pc := 16) 0 dX11_readSpites_16 rfl rfl ?_
    refine wp_callV (pc := 17) (st := []) (nf' := 153) [] [some (vR 111), none, none] dX11_readSpites_17 rfl c_X11_241 rfl kd_111 (by decide) rfl la_111 rfl (Nat.le_of_ble_eq_true rfl) rfl (Nat.le_of_ble_eq_true rfl) (by omega) (Nat.le_refl _) (Nat.le_refl _) ?_
    have n33 : ts b (te b c) ≠ 3 := (by first | exact n3_k (by omega) | exact n3_4 (by omega) | exact n3_w (by omega) | exact n3_s (by omega) | omega)
    have hz3 : RD (J1) (M1) b g n (te b c) T N mo := hP1
    refine rs_token hz3.1 hz3.nx (hz3.q4 n33) (by omega) (fun J3 M3 hFb3 hLb3 hTk3 => ?_)
    have hP3 := hz3.adv hz3.nx hFb3 hLb3 hTk3
    have kw_3 := wi_in b (te b (te b c))
    have tr_3 := ts_rng b (te b (te b c))
    have i8_3 := hP3.2.2.1.2.2.1.1
    have l9_3 := hP3.2.2.1.2.2.2.2.1
    refine wp_eqst (st' := []) rfl ?_
    refine wp_aload_n (pc := 20) 0 dX11_readSpites_20 rfl rfl ?_
    refine wp_callV (pc := 21) (st := []) (nf' := 153) [] [some (vR 111)] dX11_readSpites_21 rfl c_X11_337 rfl kd_111 (by decide) rfl la_111 rfl (Nat.le_of_ble_eq_true rfl) rfl (Nat.le_of_ble_eq_true rfl) (by omega) (Nat.le_refl _) (Nat.le_refl _) ?_
    refine wp_aload_n (pc := 0) 0 dX11_oldPerson_0 rfl rfl ?_
    refine wp_iconst (pc := 1) dX11_oldPerson_1 ?_
    refine wp_aload_n (pc := 2) 0 dX11_oldPerson_2 rfl rfl ?_
    refine wp_geti (pc := 3) dX11_oldPerson_3 rfl f_X11_258 kd_111 la_111 (Or.inl rfl) ?_
    refine wp_eqst (st' := [vI (T 0 12), vI 4, vR 111]) (by rw [hP3.f43]) ?_
    refine wp_callV (pc := 6) (st := []) (nf' := 153) [vI 4, vI (T 0 12)] [some (vR 111), some (vI 4), some (vI (T 0 12))] dX11_oldPerson_6 rfl c_X11_261 rfl kd_111 (by decide) rfl la_111 rfl (Nat.le_of_ble_eq_true rfl) rfl (Nat.le_of_ble_eq_true rfl) (by omega) (Nat.le_refl _) (Nat.le_refl _) ?_
    have hz4 : RD (J3) (M3) b g n (te b (te b c)) T N mo := hP3
    have ez4 : T 0 12 = ((nP T : Nat) : Int) := by have z1 := tw_p hz4.tw; have z2 : nP T = (T 0 12).toNat := rfl; omega
    refine rs_oldName1 (nP T) ez4 hz4 rfl (by omega) (fun h_2 => ?_) (fun h_2 J4 M4 hF4 hL4 hE4 => ?_)
    · replace h_2 : 0 ≤ prF b (te b (te b c)) (N 1) (nP T) 0 := h_2
      have pk4 := prF_ok h_2
      have pi4 := prF_in (b := b) (c := te b (te b c)) (N := N 1) (n := nP T) (rep := 0)
      refine wp_eqst (st' := [vI (prF b (te b (te b c)) (N 1) (nP T) 0)]) rfl ?_
      refine wp_iret (pc := 9) dX11_oldPerson_9 rfl rfl ?_
      refine wp_eqst (st' := [vI (prF b (te b (te b c)) (N 1) (nP T) 0)]) rfl ?_
      refine wq_istore_n (pc := 24) 2 [some (vR 111), some (vI (prF b (te b c) (N 1) (nP T) 0)), some (vI (prF b (te b (te b c)) (N 1) (nP T) 0))] dX11_readSpites_24 rfl rfl (by decide) rfl ?_
      refine wp_aload_n (pc := 25) 0 dX11_readSpites_25 rfl rfl ?_
      refine wp_geti (pc := 26) dX11_readSpites_26 rfl f_X11_185 kd_111 la_111 (Or.inl rfl) ?_
      refine wp_eqst (st' := [vI 0]) (by rw [hP3.2.2.2.1.1]) ?_
      refine wp_if_ne (pc := 29) 56 dX11_readSpites_29 (by decide) (by decide) (fun hh => absurd hh (by decide)) (fun _ => ?_)
      have bk := tw_spites hw (Int.toNat (prF b (te b c) (N 1) (nP T) 0))
      refine wp_iload_n (pc := 32) 1 dX11_readSpites_32 rfl rfl ?_
      refine wp_iload_n (pc := 33) 2 dX11_readSpites_33 rfl rfl ?_
      refine wp_icmp_eq (pc := 34) 51 dX11_readSpites_34 (by decide) (by omega) (by omega) (fun h_3 => ?_) (fun h_3 => ?_)
      · refine wp_aload_n (pc := 51) 0 dX11_readSpites_51 rfl rfl ?_
        refine wp_iconst (pc := 52) dX11_readSpites_52 ?_
        refine wp_callV (pc := 53) (st := []) (nf' := 153) [vI 3] [some (vR 111), some (vI 3)] dX11_readSpites_53 rfl c_X11_238 rfl kd_111 (by decide) rfl la_111 rfl (Nat.le_of_ble_eq_true rfl) rfl (Nat.le_of_ble_eq_true rfl) (by omega) (Nat.le_refl _) (Nat.le_refl _) ?_
        have hz5 : RD (J3) (M3) b g n (te b (te b c)) T N mo := hP3
        refine rs_wrong hz5.2.2.1 hz5.2.2.2.1.1 (by omega) (by omega) ?_
        refine wp_gen (fun J => Fe (J3) J ∧ RE J (bad b (te b (te b c)) 3)) ⟨Fe.bad, RD.bad (by omega)⟩ (fun J5 hJ5 => ?_)
        have x2_5 : J5 111 2 = (bad b (te b (te b c)) 3).1 := hJ5.2.1
        have xp_5 : 0 < (bad b (te b (te b c)) 3).1 ∧ (bad b (te b (te b c)) 3).1 ≤ 5 := hJ5.2.2.2
        have x42_5 : J5 111 42 = T 0 11 := (hJ5.1.2 42 (by decide) (by decide) (by decide) (by decide) (by decide) (by decide)).trans (by rw [hP3.f42])
        have x43_5 : J5 111 43 = T 0 12 := (hJ5.1.2 43 (by decide) (by decide) (by decide) (by decide) (by decide) (by decide)).trans (by rw [hP3.f43])
        have x44_5 : J5 111 44 = T 0 13 := (hJ5.1.2 44 (by decide) (by decide) (by decide) (by decide) (by decide) (by decide)).trans (by rw [hP3.f44])
        refine wp_eqst (st' := []) rfl ?_
        refine wp_aload_n (pc := 56) 0 dX11_readSpites_56 rfl rfl ?_
        refine wp_geti (pc := 57) dX11_readSpites_57 rfl f_X11_185 kd_111 la_111 (Or.inl rfl) ?_
        refine wp_eqst (st' := [vI ((bad b (te b (te b c)) 3).1)]) (by rw [x2_5]) ?_
        refine wp_if_le (pc := 60) 64 dX11_readSpites_60 (by decide) (by omega) (fun hh => absurd hh (by omega)) (fun _ => ?_)
        refine wp_vret (pc := 63) dX11_readSpites_63 rfl rfl ?_
        have er : prF b (te b (te b c)) (N 1) (nP T) ((T 5 (Int.toNat (prF b (te b c) (N 1) (nP T) 0))).toNat ||| 2 ^ (Int.toNat (prF b (te b c) (N 1) (nP T) 0))) = -3 := prF_r1 (by omega) (by rw [Nat.testBit_or, Nat.testBit_two_pow, decide_eq_true (by omega), Bool.or_true])
        exact h0 _ (by unfold linkF; (repeat (first | rw [if_pos (by omega)] | rw [if_neg (by omega)])); rw [er]; first | done | rfl) _ _ (((Fn.refl.trans hFb1.n).trans hFb3.n).trans hJ5.1.n) ((Ln.refl.trans hLb1.n).trans hLb3.n) hJ5.2
      · refine wp_aload_n (pc := 37) 0 dX11_readSpites_37 rfl rfl ?_
        refine wp_getr (pc := 38) dX11_readSpites_38 rfl f_X11_54 kd_111 la_111 rfl (r_111_29 D) ?_
        refine wp_iload_n (pc := 41) 1 dX11_readSpites_41 rfl rfl ?_
        refine wq_iald (pc := 42) (Int.toNat (prF b (te b c) (N 1) (nP T) 0)) dX11_readSpites_42 kd_125 la_125 (by omega) (by omega) ?_
        refine wp_eqst (st' := [vI (T 5 (Int.toNat (prF b (te b c) (N 1) (nP T) 0)))]) (by rw [hP3.spites (by omega)]) ?_
        refine wp_iload_n (pc := 43) 2 dX11_readSpites_43 rfl rfl ?_
        refine wn_shr (pc := 44) (Int.toNat (T 5 (Int.toNat (prF b (te b c) (N 1) (nP T) 0)))) (Int.toNat (prF b (te b (te b c)) (N 1) (nP T) 0)) dX11_readSpites_44 (by omega) (by omega) (by omega) (by omega) ?_
        refine wp_iconst (pc := 45) dX11_readSpites_45 ?_
        refine wn_mask (pc := 46) ((Int.toNat (T 5 (Int.toNat (prF b (te b c) (N 1) (nP T) 0)))) / 2 ^ (Int.toNat (prF b (te b (te b c)) (N 1) (nP T) 0))) 1 dX11_readSpites_46 rfl rfl (by decide) ?_
        refine wp_iconst (pc := 47) dX11_readSpites_47 ?_
        refine wp_icmp_ne (pc := 48) 56 dX11_readSpites_48 (by decide) (by omega) (by decide) (fun h_4 => ?_) (fun h_4 => ?_)
        · refine wp_aload_n (pc := 56) 0 dX11_readSpites_56 rfl rfl ?_
          refine wp_geti (pc := 57) dX11_readSpites_57 rfl f_X11_185 kd_111 la_111 (Or.inl rfl) ?_
          refine wp_eqst (st' := [vI 0]) (by rw [hP3.2.2.2.1.1]) ?_
          refine wp_if_le (pc := 60) 64 dX11_readSpites_60 (by decide) (by decide) (fun _ => ?_) (fun hh => absurd hh (by decide))
          refine wp_aload_n (pc := 64) 0 dX11_readSpites_64 rfl rfl ?_
          refine wp_getr (pc := 65) dX11_readSpites_65 rfl f_X11_54 kd_111 la_111 rfl (r_111_29 D) ?_
          refine wp_iload_n (pc := 68) 1 dX11_readSpites_68 rfl rfl ?_
          refine wp_dup2 (pc := 69) dX11_readSpites_69 rfl rfl ?_
          refine wq_iald (pc := 70) (Int.toNat (prF b (te b c) (N 1) (nP T) 0)) dX11_readSpites_70 kd_125 la_125 (by omega) (by omega) ?_
          refine wp_eqst (st' := [vI (T 5 (Int.toNat (prF b (te b c) (N 1) (nP T) 0))), vI (prF b (te b c) (N 1) (nP T) 0), vR 125]) (by rw [hP3.spites (by omega)]) ?_
          refine wp_iconst (pc := 71) dX11_readSpites_71 ?_
          refine wp_iload_n (pc := 72) 2 dX11_readSpites_72 rfl rfl ?_
          refine wn_shl1 (pc := 73) (Int.toNat (prF b (te b (te b c)) (N 1) (nP T) 0)) dX11_readSpites_73 (by omega) (by omega) ?_
          refine wn_or (pc := 74) (Int.toNat (T 5 (Int.toNat (prF b (te b c) (N 1) (nP T) 0)))) (2 ^ (Int.toNat (prF b (te b (te b c)) (N 1) (nP T) 0))) dX11_readSpites_74 (by omega) rfl ?_
          refine wq_iast (pc := 75) (Int.toNat (prF b (te b c) (N 1) (nP T) 0)) dX11_readSpites_75 kd_125 la_125 (by omega) (by omega) ?_
          refine wp_aload_n (pc := 76) 0 dX11_readSpites_76 rfl rfl ?_
          refine wp_dup (pc := 77) dX11_readSpites_77 rfl ?_
          refine wp_geti (pc := 78) dX11_readSpites_78 rfl f_X11_353 kd_111 la_111 (Or.inl rfl) ?_
          refine wp_eqst (st' := [vI ((kcN (T 5) 8 : Nat) : Int), vR 111]) (by rw [up_c (by omega), hP3.f46]) ?_
          refine wp_iconst (pc := 81) dX11_readSpites_81 ?_
          refine wp_iadd (pc := 82) dX11_readSpites_82 ?_
          refine wp_puti (pc := 83) dX11_readSpites_83 rfl f_X11_353 kd_111 la_111 (fun _ h => by cases h; rfl) rfl ?_
          have hbt : ¬ (T 5 (Int.toNat (prF b (te b c) (N 1) (nP T) 0))).toNat.testBit (Int.toNat (prF b (te b (te b c)) (N 1) (nP T) 0)) = true := fun z => absurd ((bit_iff _ _).mpr z) (by omega)
          have er : prF b (te b (te b c)) (N 1) (nP T) ((T 5 (Int.toNat (prF b (te b c) (N 1) (nP T) 0))).toNat ||| 2 ^ (Int.toNat (prF b (te b c) (N 1) (nP T) 0))) = prF b (te b (te b c)) (N 1) (nP T) 0 := prF_r2 (by omega) (by rw [Nat.testBit_or, Nat.testBit_two_pow, decide_eq_false (by omega), Bool.or_false]; exact hbt)
          have lv : (T 5 (Int.toNat (prF b (te b c) (N 1) (nP T) 0))).toNat ||| 2 ^ (Int.toNat (prF b (te b (te b c)) (N 1) (nP T) 0)) < 2 ^ 8 := or_lt (by omega) (two_lt (by omega))
          have hl := hP3.lk5 (a := Int.toNat (prF b (te b c) (N 1) (nP T) 0)) (v := (((T 5 (Int.toNat (prF b (te b c) (N 1) (nP T) 0))).toNat ||| 2 ^ (Int.toNat (prF b (te b (te b c)) (N 1) (nP T) 0)) : Nat) : Int)) (by omega) (by omega) (by rw [Int.toNat_natCast]; exact pc8_add (by omega) hbt)
          refine wp_gen (fun J => Fn I J ∧ RD J (M3) b g n (te b (te b c)) (setT T 5 (Int.toNat (prF b (te b c) (N 1) (nP T) 0)) (((T 5 (Int.toNat (prF b (te b c) (N 1) (nP T) 0))).toNat ||| 2 ^ (Int.toNat (prF b (te b (te b c)) (N 1) (nP T) 0)) : Nat) : Int)) N mo) ⟨(((Fn.refl.trans hFb1.n).trans hFb3.n).wr (Or.inr ⟨by decide, by unfold rnCell; omega⟩)).wr (Or.inl ⟨rfl, by unfold rnSlot; omega⟩), hl⟩ (fun J6 hJ6 => ?_)
          have kw_6 := wi_in b (te b (te b c))
          have tr_6 := ts_rng b (te b (te b c))
          have i8_6 := hJ6.2.2.2.1.2.2.1.1
          have l9_6 := hJ6.2.2.2.1.2.2.2.2.1
          refine wp_aload_n (pc := 86) 0 dX11_readSpites_86 rfl rfl ?_
          refine wp_callV (pc := 87) (st := []) (nf' := 153) [] [some (vR 111), none, none] dX11_readSpites_87 rfl c_X11_241 rfl kd_111 (by decide) rfl la_111 rfl (Nat.le_of_ble_eq_true rfl) rfl (Nat.le_of_ble_eq_true rfl) (by omega) (Nat.le_refl _) (Nat.le_refl _) ?_
          have n37 : ts b (te b (te b c)) ≠ 3 := (by first | exact n3_k (by omega) | exact n3_4 (by omega) | exact n3_w (by omega) | exact n3_s (by omega) | omega)
          have hz7 : RD (J6) (M3) b g n (te b (te b c)) (setT T 5 (Int.toNat (prF b (te b c) (N 1) (nP T) 0)) (((T 5 (Int.toNat (prF b (te b c) (N 1) (nP T) 0))).toNat ||| 2 ^ (Int.toNat (prF b (te b (te b c)) (N 1) (nP T) 0)) : Nat) : Int)) N mo := hJ6.2
          refine rs_token hz7.1 hz7.nx (hz7.q4 n37) (by omega) (fun J7 M7 hFb7 hLb7 hTk7 => ?_)
          have hP7 := hz7.adv hz7.nx hFb7 hLb7 hTk7
          have kw_7 := wi_in b (te b (te b (te b c)))
          have tr_7 := ts_rng b (te b (te b (te b c)))
          have i8_7 := hP7.2.2.1.2.2.1.1
          have l9_7 := hP7.2.2.1.2.2.2.2.1
          refine wp_eqst (st' := []) rfl ?_
          refine wp_vret (pc := 90) dX11_readSpites_90 rfl rfl ?_
          exact h1 _ _ _ (by unfold linkF; (repeat (first | rw [if_pos (by omega)] | rw [if_neg (by omega)])); rw [er]; first | done | rfl) _ _ (hJ6.1.trans hFb7.n) (((Ln.refl.trans hLb1.n).trans hLb3.n).trans hLb7.n) hP7
        · refine wp_aload_n (pc := 51) 0 dX11_readSpites_51 rfl rfl ?_
          refine wp_iconst (pc := 52) dX11_readSpites_52 ?_
          refine wp_callV (pc := 53) (st := []) (nf' := 153) [vI 3] [some (vR 111), some (vI 3)] dX11_readSpites_53 rfl c_X11_238 rfl kd_111 (by decide) rfl la_111 rfl (Nat.le_of_ble_eq_true rfl) rfl (Nat.le_of_ble_eq_true rfl) (by omega) (Nat.le_refl _) (Nat.le_refl _) ?_
          have hz8 : RD (J3) (M3) b g n (te b (te b c)) T N mo := hP3
          refine rs_wrong hz8.2.2.1 hz8.2.2.2.1.1 (by omega) (by omega) ?_
          refine wp_gen (fun J => Fe (J3) J ∧ RE J (bad b (te b (te b c)) 3)) ⟨Fe.bad, RD.bad (by omega)⟩ (fun J8 hJ8 => ?_)
          have x2_8 : J8 111 2 = (bad b (te b (te b c)) 3).1 := hJ8.2.1
          have xp_8 : 0 < (bad b (te b (te b c)) 3).1 ∧ (bad b (te b (te b c)) 3).1 ≤ 5 := hJ8.2.2.2
          have x42_8 : J8 111 42 = T 0 11 := (hJ8.1.2 42 (by decide) (by decide) (by decide) (by decide) (by decide) (by decide)).trans (by rw [hP3.f42])
          have x43_8 : J8 111 43 = T 0 12 := (hJ8.1.2 43 (by decide) (by decide) (by decide) (by decide) (by decide) (by decide)).trans (by rw [hP3.f43])
          have x44_8 : J8 111 44 = T 0 13 := (hJ8.1.2 44 (by decide) (by decide) (by decide) (by decide) (by decide) (by decide)).trans (by rw [hP3.f44])
          refine wp_eqst (st' := []) rfl ?_
          refine wp_aload_n (pc := 56) 0 dX11_readSpites_56 rfl rfl ?_
          refine wp_geti (pc := 57) dX11_readSpites_57 rfl f_X11_185 kd_111 la_111 (Or.inl rfl) ?_
          refine wp_eqst (st' := [vI ((bad b (te b (te b c)) 3).1)]) (by rw [x2_8]) ?_
          refine wp_if_le (pc := 60) 64 dX11_readSpites_60 (by decide) (by omega) (fun hh => absurd hh (by omega)) (fun _ => ?_)
          refine wp_vret (pc := 63) dX11_readSpites_63 rfl rfl ?_
          have er : prF b (te b (te b c)) (N 1) (nP T) ((T 5 (Int.toNat (prF b (te b c) (N 1) (nP T) 0))).toNat ||| 2 ^ (Int.toNat (prF b (te b c) (N 1) (nP T) 0))) = -3 := prF_r1 (by omega) (by rw [Nat.testBit_or, (bit_iff _ _).mp (by omega), Bool.true_or])
          exact h0 _ (by unfold linkF; (repeat (first | rw [if_pos (by omega)] | rw [if_neg (by omega)])); rw [er]; first | done | rfl) _ _ (((Fn.refl.trans hFb1.n).trans hFb3.n).trans hJ8.1.n) ((Ln.refl.trans hLb1.n).trans hLb3.n) hJ8.2
    · replace h_2 : prF b (te b (te b c)) (N 1) (nP T) 0 < 0 := h_2
      have x2_4 : J4 111 2 = (bad b (te b (te b c)) (-prF b (te b (te b c)) (N 1) (nP T) 0)).1 := hE4.1
      have xp_4 : 0 < (bad b (te b (te b c)) (-prF b (te b (te b c)) (N 1) (nP T) 0)).1 ∧ (bad b (te b (te b c)) (-prF b (te b (te b c)) (N 1) (nP T) 0)).1 ≤ 5 := hE4.2.2
      have x42_4 : J4 111 42 = T 0 11 := (hF4.2 42 (by decide) (by decide) (by decide) (by decide) (by decide) (by decide)).trans (by rw [hP3.f42])
      have x43_4 : J4 111 43 = T 0 12 := (hF4.2 43 (by decide) (by decide) (by decide) (by decide) (by decide) (by decide)).trans (by rw [hP3.f43])
      have x44_4 : J4 111 44 = T 0 13 := (hF4.2 44 (by decide) (by decide) (by decide) (by decide) (by decide) (by decide)).trans (by rw [hP3.f44])
      refine wp_eqst (st' := [vI 0]) rfl ?_
      refine wp_iret (pc := 9) dX11_oldPerson_9 rfl rfl ?_
      refine wp_eqst (st' := [vI 0]) rfl ?_
      refine wq_istore_n (pc := 24) 2 [some (vR 111), some (vI (prF b (te b c) (N 1) (nP T) 0)), some (vI 0)] dX11_readSpites_24 rfl rfl (by decide) rfl ?_
      refine wp_aload_n (pc := 25) 0 dX11_readSpites_25 rfl rfl ?_
      refine wp_geti (pc := 26) dX11_readSpites_26 rfl f_X11_185 kd_111 la_111 (Or.inl rfl) ?_
      refine wp_eqst (st' := [vI ((bad b (te b (te b c)) (-prF b (te b (te b c)) (N 1) (nP T) 0)).1)]) (by rw [x2_4]) ?_
      refine wp_if_ne (pc := 29) 56 dX11_readSpites_29 (by decide) (by omega) (fun _ => ?_) (fun hh => absurd hh (by omega))
      refine wp_aload_n (pc := 56) 0 dX11_readSpites_56 rfl rfl ?_
      refine wp_geti (pc := 57) dX11_readSpites_57 rfl f_X11_185 kd_111 la_111 (Or.inl rfl) ?_
      refine wp_eqst (st' := [vI ((bad b (te b (te b c)) (-prF b (te b (te b c)) (N 1) (nP T) 0)).1)]) (by rw [x2_4]) ?_
      refine wp_if_le (pc := 60) 64 dX11_readSpites_60 (by decide) (by omega) (fun hh => absurd hh (by omega)) (fun _ => ?_)
      refine wp_vret (pc := 63) dX11_readSpites_63 rfl rfl ?_
      have er : prF b (te b (te b c)) (N 1) (nP T) ((T 5 (Int.toNat (prF b (te b c) (N 1) (nP T) 0))).toNat ||| 2 ^ (Int.toNat (prF b (te b c) (N 1) (nP T) 0))) = prF b (te b (te b c)) (N 1) (nP T) 0 := prF_r0 (by omega)
      exact h0 _ (by unfold linkF; (repeat (first | rw [if_pos (by omega)] | rw [if_neg (by omega)])); rw [er]; first | done | rfl) _ _ (((Fn.refl.trans hFb1.n).trans hFb3.n).trans hF4.n) (((Ln.refl.trans hLb1.n).trans hLb3.n).trans hL4) hE4
  · replace h_1 : prF b (te b c) (N 1) (nP T) 0 < 0 := h_1
    have x2_2 : J2 111 2 = (bad b (te b c) (-prF b (te b c) (N 1) (nP T) 0)).1 := hE2.1
    have xp_2 : 0 < (bad b (te b c) (-prF b (te b c) (N 1) (nP T) 0)).1 ∧ (bad b (te b c) (-prF b (te b c) (N 1) (nP T) 0)).1 ≤ 5 := hE2.2.2
    have x42_2 : J2 111 42 = T 0 11 := (hF2.2 42 (by decide) (by decide) (by decide) (by decide) (by decide) (by decide)).trans (by rw [hP1.f42])
    have x43_2 : J2 111 43 = T 0 12 := (hF2.2 43 (by decide) (by decide) (by decide) (by decide) (by decide) (by decide)).trans (by rw [hP1.f43])
    have x44_2 : J2 111 44 = T 0 13 := (hF2.2 44 (by decide) (by decide) (by decide) (by decide) (by decide) (by decide)).trans (by rw [hP1.f44])
    refine wp_eqst (st' := [vI 0]) rfl ?_
    refine wp_iret (pc := 9) dX11_oldPerson_9 rfl rfl ?_
    refine wp_eqst (st' := [vI 0]) rfl ?_
    refine wq_istore_n (pc := 8) 1 [some (vR 111), some (vI 0), none] dX11_readSpites_8 rfl rfl (by decide) rfl ?_
    refine wp_aload_n (pc := 9) 0 dX11_readSpites_9 rfl rfl ?_
    refine wp_geti (pc := 10) dX11_readSpites_10 rfl f_X11_185 kd_111 la_111 (Or.inl rfl) ?_
    refine wp_eqst (st' := [vI ((bad b (te b c) (-prF b (te b c) (N 1) (nP T) 0)).1)]) (by rw [x2_2]) ?_
    refine wp_if_ne (pc := 13) 20 dX11_readSpites_13 (by decide) (by omega) (fun _ => ?_) (fun hh => absurd hh (by omega))
    refine wp_aload_n (pc := 20) 0 dX11_readSpites_20 rfl rfl ?_
    refine wp_callV (pc := 21) (st := []) (nf' := 153) [] [some (vR 111)] dX11_readSpites_21 rfl c_X11_337 rfl kd_111 (by decide) rfl la_111 rfl (Nat.le_of_ble_eq_true rfl) rfl (Nat.le_of_ble_eq_true rfl) (by omega) (Nat.le_refl _) (Nat.le_refl _) ?_
    refine wp_aload_n (pc := 0) 0 dX11_oldPerson_0 rfl rfl ?_
    refine wp_iconst (pc := 1) dX11_oldPerson_1 ?_
    refine wp_aload_n (pc := 2) 0 dX11_oldPerson_2 rfl rfl ?_
    refine wp_geti (pc := 3) dX11_oldPerson_3 rfl f_X11_258 kd_111 la_111 (Or.inl rfl) ?_
    refine wp_eqst (st' := [vI (T 0 12), vI 4, vR 111]) (by rw [x43_2]) ?_
    refine wp_callV (pc := 6) (st := []) (nf' := 153) [vI 4, vI (T 0 12)] [some (vR 111), some (vI 4), some (vI (T 0 12))] dX11_oldPerson_6 rfl c_X11_261 rfl kd_111 (by decide) rfl la_111 rfl (Nat.le_of_ble_eq_true rfl) rfl (Nat.le_of_ble_eq_true rfl) (by omega) (Nat.le_refl _) (Nat.le_refl _) ?_
    refine rz_oldName1 hE2 (by omega) ?_
    refine wp_eqst (st' := [vI 0]) rfl ?_
    refine wp_iret (pc := 9) dX11_oldPerson_9 rfl rfl ?_
    refine wp_eqst (st' := [vI 0]) rfl ?_
    refine wq_istore_n (pc := 24) 2 [some (vR 111), some (vI 0), some (vI 0)] dX11_readSpites_24 rfl rfl (by decide) rfl ?_
    refine wp_aload_n (pc := 25) 0 dX11_readSpites_25 rfl rfl ?_
    refine wp_geti (pc := 26) dX11_readSpites_26 rfl f_X11_185 kd_111 la_111 (Or.inl rfl) ?_
    refine wp_eqst (st' := [vI ((bad b (te b c) (-prF b (te b c) (N 1) (nP T) 0)).1)]) (by rw [x2_2]) ?_
    refine wp_if_ne (pc := 29) 56 dX11_readSpites_29 (by decide) (by omega) (fun _ => ?_) (fun hh => absurd hh (by omega))
    refine wp_aload_n (pc := 56) 0 dX11_readSpites_56 rfl rfl ?_
    refine wp_geti (pc := 57) dX11_readSpites_57 rfl f_X11_185 kd_111 la_111 (Or.inl rfl) ?_
    refine wp_eqst (st' := [vI ((bad b (te b c) (-prF b (te b c) (N 1) (nP T) 0)).1)]) (by rw [x2_2]) ?_
    refine wp_if_le (pc := 60) 64 dX11_readSpites_60 (by decide) (by omega) (fun hh => absurd hh (by omega)) (fun _ => ?_)
    refine wp_vret (pc := 63) dX11_readSpites_63 rfl rfl ?_
    exact h0 _ (by unfold linkF; (repeat (first | rw [if_pos (by omega)] | rw [if_neg (by omega)])); first | done | rfl) _ _ ((Fn.refl.trans hFb1.n).trans hF2.n) ((Ln.refl.trans hLb1.n).trans hL2) hE2

theorem pwN_s {T : mT} (hw : tw T) {a e i : Nat} (hne : a ≠ e) : bitI (pwN T a (i + 1)) e = if (bitI (pwN T a i) e = 1 ∨ (T 6 i = a ∧ T 7 i = e)) ∨ (T 6 i = e ∧ T 7 i = a) then 1 else 0 := by
  have b6 := tw_one hw i
  have b7 := tw_other hw i
  have tb : ∀ x, (pm T i).testBit x = (decide ((T 6 i).toNat = x) || decide ((T 7 i).toNat = x)) := fun x => by
    show (2 ^ (T 6 i).toNat ||| 2 ^ (T 7 i).toNat).testBit x = _
    rw [Nat.testBit_or, Nat.testBit_two_pow, Nat.testBit_two_pow]
  have ta : (pm T i).testBit a = true ↔ (T 6 i = a ∨ T 7 i = a) := by rw [tb, Bool.or_eq_true, decide_eq_true_iff, decide_eq_true_iff]; omega
  have te : (pm T i).testBit e = true ↔ (T 6 i = e ∨ T 7 i = e) := by rw [tb, Bool.or_eq_true, decide_eq_true_iff, decide_eq_true_iff]; omega
  have hp : (pwN T a (i + 1)).testBit e = true ↔ ((pwN T a i).testBit e = true ∨ ((T 6 i = a ∨ T 7 i = a) ∧ (T 6 i = e ∨ T 7 i = e))) := by
    rw [pwN]
    by_cases z : (pm T i).testBit a = true
    · rw [if_pos z, Nat.testBit_or, Bool.or_eq_true, te]
      exact ⟨fun y => y.elim Or.inl (fun y => Or.inr ⟨ta.mp z, y⟩), fun y => y.elim Or.inl (fun y => Or.inr y.2)⟩
    · rw [if_neg z]
      exact ⟨Or.inl, fun y => y.elim id (fun y => absurd (ta.mpr y.1) z)⟩
  have h1 : bitI (pwN T a i) e = 1 ↔ (pwN T a i).testBit e = true := by unfold bitI; split <;> simp_all
  by_cases z : (pwN T a (i + 1)).testBit e = true
  · rw [show bitI (pwN T a (i + 1)) e = 1 from if_pos z, if_pos]
    rcases hp.mp z with y | y
    · exact Or.inl (Or.inl (h1.mpr y))
    · omega
  · rw [show bitI (pwN T a (i + 1)) e = 0 from if_neg z, if_neg]
    intro y
    refine z (hp.mpr ?_)
    rcases y with (y | y) | y
    · exact Or.inl (h1.mp y)
    · exact Or.inr ⟨Or.inl y.1, Or.inr y.2⟩
    · exact Or.inr ⟨Or.inr y.2, Or.inl y.1⟩

theorem lp_rpt {l : Launch} {G : mG} {d : Nat} {I : mI} {L : Nat → Nat → Int} {D : Nat → Nat} {Q : mQ} {b g : Nat → Int} {n c : Nat} {T N : mT} {mo : Nat} {a e : Nat} (hP : RD I L b g n c T N mo) (ha : a < 8) (he : e < 8) (hne : a ≠ e) (hd : 0 ≤ d) (hQ : Q (some (vI (bitI (pwN T a (nQ T)) e))) I (XX L D)) : ∀ i : Nat, i ≤ (nQ T) → WP l G m_X11_isPairTold d 153 I (XX L D) 5 [some (vR 111), some (vI (a : Int)), some (vI (e : Int)), some (vI (bitI (pwN T a i) e)), some (vI (i : Int))] [] Q := by
  have hw := hP.tw
  have b_q := tw_q hw
  have eQ : nQ T = (T 0 13).toNat := rfl
  have bbn := bitI_in (pwN T a (nQ T)) e
  refine loop_dn (fun i => WP l G m_X11_isPairTold d 153 I (XX L D) 5 [some (vR 111), some (vI (a : Int)), some (vI (e : Int)), some (vI (bitI (pwN T a i) e)), some (vI (i : Int))] [] Q) (nQ T) ?_ (fun i hi ih => ?_)
  · refine wp_iload (pc := 5) dX11_isPairTold_5 rfl ?_
    refine wp_aload_n (pc := 7) 0 dX11_isPairTold_7 rfl rfl ?_
    refine wp_geti (pc := 8) dX11_isPairTold_8 rfl f_X11_356 kd_111 la_111 (Or.inl rfl) ?_
    refine wp_eqst (st' := [vI (T 0 13), vI (((nQ T) : Nat) : Int)]) (by rw [hP.f44]) ?_
    refine wp_icmp_ge (pc := 11) 74 dX11_isPairTold_11 (by decide) (by omega) (by omega) (fun h_1 => ?_) (fun h_1 => ?_)
    · refine wp_iload_n (pc := 74) 3 dX11_isPairTold_74 rfl rfl ?_
      refine wp_zret (pc := 75) dX11_isPairTold_75 rfl rfl (by omega) ?_
      exact hQ
    · exfalso; omega
  · have b6 := tw_one hw i
    have b7 := tw_other hw i
    have bb := bitI_in (pwN T a i) e
    refine wp_iload (pc := 5) dX11_isPairTold_5 rfl ?_
    refine wp_aload_n (pc := 7) 0 dX11_isPairTold_7 rfl rfl ?_
    refine wp_geti (pc := 8) dX11_isPairTold_8 rfl f_X11_356 kd_111 la_111 (Or.inl rfl) ?_
    refine wp_eqst (st' := [vI (T 0 13), vI (i : Int)]) (by rw [hP.f44]) ?_
    refine wp_icmp_ge (pc := 11) 74 dX11_isPairTold_11 (by decide) (by omega) (by omega) (fun h_1 => ?_) (fun h_1 => ?_)
    · exfalso; omega
    · refine wp_iload_n (pc := 14) 3 dX11_isPairTold_14 rfl rfl ?_
      refine wp_if_ne (pc := 15) 62 dX11_isPairTold_15 (by decide) (by omega) (fun h_2 => ?_) (fun h_2 => ?_)
      · refine wp_iconst (pc := 62) dX11_isPairTold_62 ?_
        refine wp_goto (pc := 63) 67 dX11_isPairTold_63 (by decide) ?_
        refine wq_istore_n (pc := 67) 3 [some (vR 111), some (vI (a : Int)), some (vI (e : Int)), some (vI 1), some (vI (i : Int))] dX11_isPairTold_67 rfl rfl (by decide) rfl ?_
        refine wq_iinc (pc := 68) [some (vR 111), some (vI (a : Int)), some (vI (e : Int)), some (vI 1), some (vI ((i : Int) + 1))] dX11_isPairTold_68 rfl rfl (by decide) rfl ?_
        refine wp_goto (pc := 71) 5 dX11_isPairTold_71 (by decide) ?_
        refine wp_eqls (ls' := [some (vR 111), some (vI (a : Int)), some (vI (e : Int)), some (vI (bitI (pwN T a (i + 1)) e)), some (vI ((i + 1 : Nat) : Int))]) (by rw [pwN_s hw hne, if_pos (by omega)] <;> rfl) ih
      · refine wp_aload_n (pc := 18) 0 dX11_isPairTold_18 rfl rfl ?_
        refine wp_getr (pc := 19) dX11_isPairTold_19 rfl f_X11_57 kd_111 la_111 rfl (r_111_30 D) ?_
        refine wp_iload (pc := 22) dX11_isPairTold_22 rfl ?_
        refine wq_iald (pc := 24) i dX11_isPairTold_24 kd_126 la_126 rfl (by omega) ?_
        refine wp_eqst (st' := [vI (T 6 i)]) (by rw [hP.one (by omega)]) ?_
        refine wp_iload_n (pc := 25) 1 dX11_isPairTold_25 rfl rfl ?_
        refine wp_icmp_ne (pc := 26) 40 dX11_isPairTold_26 (by decide) (by omega) (by omega) (fun h_3 => ?_) (fun h_3 => ?_)
        · refine wp_aload_n (pc := 40) 0 dX11_isPairTold_40 rfl rfl ?_
          refine wp_getr (pc := 41) dX11_isPairTold_41 rfl f_X11_57 kd_111 la_111 rfl (r_111_30 D) ?_
          refine wp_iload (pc := 44) dX11_isPairTold_44 rfl ?_
          refine wq_iald (pc := 46) i dX11_isPairTold_46 kd_126 la_126 rfl (by omega) ?_
          refine wp_eqst (st' := [vI (T 6 i)]) (by rw [hP.one (by omega)]) ?_
          refine wp_iload_n (pc := 47) 2 dX11_isPairTold_47 rfl rfl ?_
          refine wp_icmp_ne (pc := 48) 66 dX11_isPairTold_48 (by decide) (by omega) (by omega) (fun h_4 => ?_) (fun h_4 => ?_)
          · refine wp_iconst (pc := 66) dX11_isPairTold_66 ?_
            refine wq_istore_n (pc := 67) 3 [some (vR 111), some (vI (a : Int)), some (vI (e : Int)), some (vI 0), some (vI (i : Int))] dX11_isPairTold_67 rfl rfl (by decide) rfl ?_
            refine wq_iinc (pc := 68) [some (vR 111), some (vI (a : Int)), some (vI (e : Int)), some (vI 0), some (vI ((i : Int) + 1))] dX11_isPairTold_68 rfl rfl (by decide) rfl ?_
            refine wp_goto (pc := 71) 5 dX11_isPairTold_71 (by decide) ?_
            refine wp_eqls (ls' := [some (vR 111), some (vI (a : Int)), some (vI (e : Int)), some (vI (bitI (pwN T a (i + 1)) e)), some (vI ((i + 1 : Nat) : Int))]) (by rw [pwN_s hw hne, if_neg (by omega)] <;> rfl) ih
          · refine wp_aload_n (pc := 51) 0 dX11_isPairTold_51 rfl rfl ?_
            refine wp_getr (pc := 52) dX11_isPairTold_52 rfl f_X11_60 kd_111 la_111 rfl (r_111_31 D) ?_
            refine wp_iload (pc := 55) dX11_isPairTold_55 rfl ?_
            refine wq_iald (pc := 57) i dX11_isPairTold_57 kd_127 la_127 rfl (by omega) ?_
            refine wp_eqst (st' := [vI (T 7 i)]) (by rw [hP.other (by omega)]) ?_
            refine wp_iload_n (pc := 58) 1 dX11_isPairTold_58 rfl rfl ?_
            refine wp_icmp_ne (pc := 59) 66 dX11_isPairTold_59 (by decide) (by omega) (by omega) (fun h_5 => ?_) (fun h_5 => ?_)
            · refine wp_iconst (pc := 66) dX11_isPairTold_66 ?_
              refine wq_istore_n (pc := 67) 3 [some (vR 111), some (vI (a : Int)), some (vI (e : Int)), some (vI 0), some (vI (i : Int))] dX11_isPairTold_67 rfl rfl (by decide) rfl ?_
              refine wq_iinc (pc := 68) [some (vR 111), some (vI (a : Int)), some (vI (e : Int)), some (vI 0), some (vI ((i : Int) + 1))] dX11_isPairTold_68 rfl rfl (by decide) rfl ?_
              refine wp_goto (pc := 71) 5 dX11_isPairTold_71 (by decide) ?_
              refine wp_eqls (ls' := [some (vR 111), some (vI (a : Int)), some (vI (e : Int)), some (vI (bitI (pwN T a (i + 1)) e)), some (vI ((i + 1 : Nat) : Int))]) (by rw [pwN_s hw hne, if_neg (by omega)] <;> rfl) ih
            · refine wp_iconst (pc := 62) dX11_isPairTold_62 ?_
              refine wp_goto (pc := 63) 67 dX11_isPairTold_63 (by decide) ?_
              refine wq_istore_n (pc := 67) 3 [some (vR 111), some (vI (a : Int)), some (vI (e : Int)), some (vI 1), some (vI (i : Int))] dX11_isPairTold_67 rfl rfl (by decide) rfl ?_
              refine wq_iinc (pc := 68) [some (vR 111), some (vI (a : Int)), some (vI (e : Int)), some (vI 1), some (vI ((i : Int) + 1))] dX11_isPairTold_68 rfl rfl (by decide) rfl ?_
              refine wp_goto (pc := 71) 5 dX11_isPairTold_71 (by decide) ?_
              refine wp_eqls (ls' := [some (vR 111), some (vI (a : Int)), some (vI (e : Int)), some (vI (bitI (pwN T a (i + 1)) e)), some (vI ((i + 1 : Nat) : Int))]) (by rw [pwN_s hw hne, if_pos (by omega)] <;> rfl) ih
        · refine wp_aload_n (pc := 29) 0 dX11_isPairTold_29 rfl rfl ?_
          refine wp_getr (pc := 30) dX11_isPairTold_30 rfl f_X11_60 kd_111 la_111 rfl (r_111_31 D) ?_
          refine wp_iload (pc := 33) dX11_isPairTold_33 rfl ?_
          refine wq_iald (pc := 35) i dX11_isPairTold_35 kd_127 la_127 rfl (by omega) ?_
          refine wp_eqst (st' := [vI (T 7 i)]) (by rw [hP.other (by omega)]) ?_
          refine wp_iload_n (pc := 36) 2 dX11_isPairTold_36 rfl rfl ?_
          refine wp_icmp_eq (pc := 37) 62 dX11_isPairTold_37 (by decide) (by omega) (by omega) (fun h_6 => ?_) (fun h_6 => ?_)
          · refine wp_iconst (pc := 62) dX11_isPairTold_62 ?_
            refine wp_goto (pc := 63) 67 dX11_isPairTold_63 (by decide) ?_
            refine wq_istore_n (pc := 67) 3 [some (vR 111), some (vI (a : Int)), some (vI (e : Int)), some (vI 1), some (vI (i : Int))] dX11_isPairTold_67 rfl rfl (by decide) rfl ?_
            refine wq_iinc (pc := 68) [some (vR 111), some (vI (a : Int)), some (vI (e : Int)), some (vI 1), some (vI ((i : Int) + 1))] dX11_isPairTold_68 rfl rfl (by decide) rfl ?_
            refine wp_goto (pc := 71) 5 dX11_isPairTold_71 (by decide) ?_
            refine wp_eqls (ls' := [some (vR 111), some (vI (a : Int)), some (vI (e : Int)), some (vI (bitI (pwN T a (i + 1)) e)), some (vI ((i + 1 : Nat) : Int))]) (by rw [pwN_s hw hne, if_pos (by omega)] <;> rfl) ih
          · refine wp_aload_n (pc := 40) 0 dX11_isPairTold_40 rfl rfl ?_
            refine wp_getr (pc := 41) dX11_isPairTold_41 rfl f_X11_57 kd_111 la_111 rfl (r_111_30 D) ?_
            refine wp_iload (pc := 44) dX11_isPairTold_44 rfl ?_
            refine wq_iald (pc := 46) i dX11_isPairTold_46 kd_126 la_126 rfl (by omega) ?_
            refine wp_eqst (st' := [vI (T 6 i)]) (by rw [hP.one (by omega)]) ?_
            refine wp_iload_n (pc := 47) 2 dX11_isPairTold_47 rfl rfl ?_
            refine wp_icmp_ne (pc := 48) 66 dX11_isPairTold_48 (by decide) (by omega) (by omega) (fun h_7 => ?_) (fun h_7 => ?_)
            · refine wp_iconst (pc := 66) dX11_isPairTold_66 ?_
              refine wq_istore_n (pc := 67) 3 [some (vR 111), some (vI (a : Int)), some (vI (e : Int)), some (vI 0), some (vI (i : Int))] dX11_isPairTold_67 rfl rfl (by decide) rfl ?_
              refine wq_iinc (pc := 68) [some (vR 111), some (vI (a : Int)), some (vI (e : Int)), some (vI 0), some (vI ((i : Int) + 1))] dX11_isPairTold_68 rfl rfl (by decide) rfl ?_
              refine wp_goto (pc := 71) 5 dX11_isPairTold_71 (by decide) ?_
              refine wp_eqls (ls' := [some (vR 111), some (vI (a : Int)), some (vI (e : Int)), some (vI (bitI (pwN T a (i + 1)) e)), some (vI ((i + 1 : Nat) : Int))]) (by rw [pwN_s hw hne, if_neg (by omega)] <;> rfl) ih
            · refine wp_aload_n (pc := 51) 0 dX11_isPairTold_51 rfl rfl ?_
              refine wp_getr (pc := 52) dX11_isPairTold_52 rfl f_X11_60 kd_111 la_111 rfl (r_111_31 D) ?_
              refine wp_iload (pc := 55) dX11_isPairTold_55 rfl ?_
              refine wq_iald (pc := 57) i dX11_isPairTold_57 kd_127 la_127 rfl (by omega) ?_
              refine wp_eqst (st' := [vI (T 7 i)]) (by rw [hP.other (by omega)]) ?_
              refine wp_iload_n (pc := 58) 1 dX11_isPairTold_58 rfl rfl ?_
              refine wp_icmp_ne (pc := 59) 66 dX11_isPairTold_59 (by decide) (by omega) (by omega) (fun h_8 => ?_) (fun h_8 => ?_)
              · refine wp_iconst (pc := 66) dX11_isPairTold_66 ?_
                refine wq_istore_n (pc := 67) 3 [some (vR 111), some (vI (a : Int)), some (vI (e : Int)), some (vI 0), some (vI (i : Int))] dX11_isPairTold_67 rfl rfl (by decide) rfl ?_
                refine wq_iinc (pc := 68) [some (vR 111), some (vI (a : Int)), some (vI (e : Int)), some (vI 0), some (vI ((i : Int) + 1))] dX11_isPairTold_68 rfl rfl (by decide) rfl ?_
                refine wp_goto (pc := 71) 5 dX11_isPairTold_71 (by decide) ?_
                refine wp_eqls (ls' := [some (vR 111), some (vI (a : Int)), some (vI (e : Int)), some (vI (bitI (pwN T a (i + 1)) e)), some (vI ((i + 1 : Nat) : Int))]) (by rw [pwN_s hw hne, if_neg (by omega)] <;> rfl) ih
              · refine wp_iconst (pc := 62) dX11_isPairTold_62 ?_
                refine wp_goto (pc := 63) 67 dX11_isPairTold_63 (by decide) ?_
                refine wq_istore_n (pc := 67) 3 [some (vR 111), some (vI (a : Int)), some (vI (e : Int)), some (vI 1), some (vI (i : Int))] dX11_isPairTold_67 rfl rfl (by decide) rfl ?_
                refine wq_iinc (pc := 68) [some (vR 111), some (vI (a : Int)), some (vI (e : Int)), some (vI 1), some (vI ((i : Int) + 1))] dX11_isPairTold_68 rfl rfl (by decide) rfl ?_
                refine wp_goto (pc := 71) 5 dX11_isPairTold_71 (by decide) ?_
                refine wp_eqls (ls' := [some (vR 111), some (vI (a : Int)), some (vI (e : Int)), some (vI (bitI (pwN T a (i + 1)) e)), some (vI ((i + 1 : Nat) : Int))]) (by rw [pwN_s hw hne, if_pos (by omega)] <;> rfl) ih

theorem rs_isPairTold {l : Launch} {G : mG} {d : Nat} {I : mI} {L : Nat → Nat → Int} {D : Nat → Nat} {Q : mQ} {b g : Nat → Int} {n c : Nat} {T N : mT} {mo : Nat} (a : Nat) {a_ : Int} (ha_ : a_ = (a : Int)) (e : Nat) {e_ : Int} (he_ : e_ = (e : Int)) (hP : RD I L b g n c T N mo) (ha : a < 8) (he : e < 8) (hne : a ≠ e) (hd : 0 ≤ d) (hQ : Q (some (vI (bitI (pwN T a (nQ T)) e))) I (XX L D)) : WP l G m_X11_isPairTold d 153 I (XX L D) 0 [some (vR 111), some (vI a_), some (vI e_), none, none] [] Q := by
  subst ha_
  subst he_
  refine wp_iconst (pc := 0) dX11_isPairTold_0 ?_
  refine wq_istore_n (pc := 1) 3 [some (vR 111), some (vI (a : Int)), some (vI (e : Int)), some (vI 0), none] dX11_isPairTold_1 rfl rfl (by decide) rfl ?_
  refine wp_iconst (pc := 2) dX11_isPairTold_2 ?_
  refine wq_istore (pc := 3) [some (vR 111), some (vI (a : Int)), some (vI (e : Int)), some (vI 0), some (vI 0)] dX11_isPairTold_3 rfl (by decide) rfl ?_
  exact wp_eqls (ls' := [some (vR 111), some (vI (a : Int)), some (vI (e : Int)), some (vI (bitI (pwN T a 0) e)), some (vI 0)]) (by rw [show bitI (pwN T a 0) e = 0 from if_neg (by rw [pwN, Nat.zero_testBit]; decide)] <;> rfl) (lp_rpt hP ha he hne hd hQ 0 (Nat.zero_le _))

theorem rs_readPair {l : Launch} {G : mG} {d : Nat} {I : mI} {L : Nat → Nat → Int} {D : Nat → Nat} {Q : mQ} {b g : Nat → Int} {n c : Nat} {T N : mT} {mo : Nat} (hP : RD I L b g n c T N mo) (hs3 : ts b c ≠ 3) (h5 : T 0 13 < 5) (hd : 4 ≤ d) (h1 : ∀ c' T' N', pairF b c T N = .inr (c', T', N') → ∀ J M, Fn I J → Ln L M → RD J M b g n c' T' N' mo → Q none J (XX M D)) (h0 : ∀ er, pairF b c T N = .inl er → ∀ J M, Fn I J → Ln L M → RE J er → Q none J (XX M D)) : WP l G m_X11_readPair d 153 I (XX L D) 0 [some (vR 111), none, none, none] [] Q := by
  have kw := wi_in b c
  have tr := ts_rng b c
  have i8 := hP.2.2.1.2.2.1.1
  have l9 := hP.2.2.1.2.2.2.2.1
  have hw := hP.tw
  have hb := hP.1.1
  have b_c := tw_c hw
  have b_p := tw_p hw
  have b_q := tw_q hw
  have b_v := tw_vows hw
  have eC : nC T = (T 0 11).toNat := rfl
  have eP : nP T = (T 0 12).toNat := rfl
  have eQ : nQ T = (T 0 13).toNat := rfl
  refine wp_aload_n (pc := 0) 0 dX11_readPair_0 rfl rfl ?_
  refine wp_callV (pc := 1) (st := []) (nf' := 153) [] [some (vR 111), none, none] dX11_readPair_1 rfl c_X11_241 rfl kd_111 (by decide) rfl la_111 rfl (Nat.le_of_ble_eq_true rfl) rfl (Nat.le_of_ble_eq_true rfl) (by omega) (Nat.le_refl _) (Nat.le_refl _) ?_
  have n31 : ts b c ≠ 3 := (by first | exact n3_k (by omega) | exact n3_4 (by omega) | exact n3_w (by omega) | exact n3_s (by omega) | omega)
  have hz1 : RD (I) (L) b g n c T N mo := hP
  refine rs_token hz1.1 hz1.nx (hz1.q4 n31) (by omega) (fun J1 M1 hFb1 hLb1 hTk1 => ?_)
  have hP1 := hz1.adv hz1.nx hFb1 hLb1 hTk1
  have kw_1 := wi_in b (te b c)
  have tr_1 := ts_rng b (te b c)
  have i8_1 := hP1.2.2.1.2.2.1.1
  have l9_1 := hP1.2.2.1.2.2.2.2.1
  refine wp_eqst (st' := []) rfl ?_
  refine wp_aload_n (pc := 4) 0 dX11_readPair_4 rfl rfl ?_
  refine wp_callV (pc := 5) (st := []) (nf' := 153) [] [some (vR 111)] dX11_readPair_5 rfl c_X11_337 rfl kd_111 (by decide) rfl la_111 rfl (Nat.le_of_ble_eq_true rfl) rfl (Nat.le_of_ble_eq_true rfl) (by omega) (Nat.le_refl _) (Nat.le_refl _) ?_
  refine wp_aload_n (pc := 0) 0 dX11_oldPerson_0 rfl rfl ?_
  refine wp_iconst (pc := 1) dX11_oldPerson_1 ?_
  refine wp_aload_n (pc := 2) 0 dX11_oldPerson_2 rfl rfl ?_
  refine wp_geti (pc := 3) dX11_oldPerson_3 rfl f_X11_258 kd_111 la_111 (Or.inl rfl) ?_
  refine wp_eqst (st' := [vI (T 0 12), vI 4, vR 111]) (by rw [hP1.f43]) ?_
  refine wp_callV (pc := 6) (st := []) (nf' := 153) [vI 4, vI (T 0 12)] [some (vR 111), some (vI 4), some (vI (T 0 12))] dX11_oldPerson_6 rfl c_X11_261 rfl kd_111 (by decide) rfl la_111 rfl (Nat.le_of_ble_eq_true rfl) rfl (Nat.le_of_ble_eq_true rfl) (by omega) (Nat.le_refl _) (Nat.le_refl _) ?_
  have hz2 : RD (J1) (M1) b g n (te b c) T N mo := hP1
  have ez2 : T 0 12 = ((nP T : Nat) : Int) := by have z1 := tw_p hz2.tw; have z2 : nP T = (T 0 12).toNat := rfl; omega
  refine rs_oldName1 (nP T) ez2 hz2 rfl (by omega) (fun h_1 => ?_) (fun h_1 J2 M2 hF2 hL2 hE2 => ?_)
  · replace h_1 : 0 ≤ prF b (te b c) (N 1) (nP T) 0 := h_1
    have pk2 := prF_ok h_1
    have pi2 := prF_in (b := b) (c := te b c) (N := N 1) (n := nP T) (rep := 0)
    refine wp_eqst (st' := [vI (prF b (te b c) (N 1) (nP T) 0)]) rfl ?_
    refine wp_iret (pc := 9) dX11_oldPerson_9 rfl rfl ?_
    refine wp_eqst (st' := [vI (prF b (te b c) (N 1) (nP T) 0)]) rfl ?_
    refine wq_istore_n (pc := 8) 1 [some (vR 111), some (vI (prF b (te b c) (N 1) (nP T) 0)), none, none] dX11_readPair_8 rfl rfl (by decide) rfl ?_
    refine wp_aload_n (pc := 9) 0 dX11_readPair_9 rfl rfl ?_
    refine wp_geti (pc := 10) dX11_readPair_10 rfl f_X11_185 kd_111 la_111 (Or.inl rfl) ?_
    refine wp_eqst (st' := [vI 0]) (by rw [hP1.2.2.2.1.1]) ?_
    refine wp_if_ne (pc := 13) 20 dX11_readPair_13 (by decide) (by decide) (fun hh => absurd hh (by decide)) (fun _ => ?_)
    refine wp_aload_n (pc := 16) 0 dX11_readPair_16 rfl rfl ?_
    refine wp_callV (pc := 17) (st := []) (nf' := 153) [] [some (vR 111), none, none] dX11_readPair_17 rfl c_X11_241 rfl kd_111 (by decide) rfl la_111 rfl (Nat.le_of_ble_eq_true rfl) rfl (Nat.le_of_ble_eq_true rfl) (by omega) (Nat.le_refl _) (Nat.le_refl _) ?_
    have n33 : ts b (te b c) ≠ 3 := (by first | exact n3_k (by omega) | exact n3_4 (by omega) | exact n3_w (by omega) | exact n3_s (by omega) | omega)
    have hz3 : RD (J1) (M1) b g n (te b c) T N mo := hP1
    refine rs_token hz3.1 hz3.nx (hz3.q4 n33) (by omega) (fun J3 M3 hFb3 hLb3 hTk3 => ?_)
    have hP3 := hz3.adv hz3.nx hFb3 hLb3 hTk3
    have kw_3 := wi_in b (te b (te b c))
    have tr_3 := ts_rng b (te b (te b c))
    have i8_3 := hP3.2.2.1.2.2.1.1
    have l9_3 := hP3.2.2.1.2.2.2.2.1
    refine wp_eqst (st' := []) rfl ?_
    refine wp_aload_n (pc := 20) 0 dX11_readPair_20 rfl rfl ?_
    refine wp_callV (pc := 21) (st := []) (nf' := 153) [] [some (vR 111)] dX11_readPair_21 rfl c_X11_337 rfl kd_111 (by decide) rfl la_111 rfl (Nat.le_of_ble_eq_true rfl) rfl (Nat.le_of_ble_eq_true rfl) (by omega) (Nat.le_refl _) (Nat.le_refl _) ?_
    refine wp_aload_n (pc := 0) 0 dX11_oldPerson_0 rfl rfl ?_
    refine wp_iconst (pc := 1) dX11_oldPerson_1 ?_
    refine wp_aload_n (pc := 2) 0 dX11_oldPerson_2 rfl rfl ?_
    refine wp_geti (pc := 3) dX11_oldPerson_3 rfl f_X11_258 kd_111 la_111 (Or.inl rfl) ?_
    refine wp_eqst (st' := [vI (T 0 12), vI 4, vR 111]) (by rw [hP3.f43]) ?_
    refine wp_callV (pc := 6) (st := []) (nf' := 153) [vI 4, vI (T 0 12)] [some (vR 111), some (vI 4), some (vI (T 0 12))] dX11_oldPerson_6 rfl c_X11_261 rfl kd_111 (by decide) rfl la_111 rfl (Nat.le_of_ble_eq_true rfl) rfl (Nat.le_of_ble_eq_true rfl) (by omega) (Nat.le_refl _) (Nat.le_refl _) ?_
    have hz4 : RD (J3) (M3) b g n (te b (te b c)) T N mo := hP3
    have ez4 : T 0 12 = ((nP T : Nat) : Int) := by have z1 := tw_p hz4.tw; have z2 : nP T = (T 0 12).toNat := rfl; omega
    refine rs_oldName1 (nP T) ez4 hz4 rfl (by omega) (fun h_2 => ?_) (fun h_2 J4 M4 hF4 hL4 hE4 => ?_)
    · replace h_2 : 0 ≤ prF b (te b (te b c)) (N 1) (nP T) 0 := h_2
      have pk4 := prF_ok h_2
      have pi4 := prF_in (b := b) (c := te b (te b c)) (N := N 1) (n := nP T) (rep := 0)
      refine wp_eqst (st' := [vI (prF b (te b (te b c)) (N 1) (nP T) 0)]) rfl ?_
      refine wp_iret (pc := 9) dX11_oldPerson_9 rfl rfl ?_
      refine wp_eqst (st' := [vI (prF b (te b (te b c)) (N 1) (nP T) 0)]) rfl ?_
      refine wq_istore_n (pc := 24) 2 [some (vR 111), some (vI (prF b (te b c) (N 1) (nP T) 0)), some (vI (prF b (te b (te b c)) (N 1) (nP T) 0)), none] dX11_readPair_24 rfl rfl (by decide) rfl ?_
      refine wp_aload_n (pc := 25) 0 dX11_readPair_25 rfl rfl ?_
      refine wp_geti (pc := 26) dX11_readPair_26 rfl f_X11_185 kd_111 la_111 (Or.inl rfl) ?_
      refine wp_eqst (st' := [vI 0]) (by rw [hP3.2.2.2.1.1]) ?_
      refine wp_if_ne (pc := 29) 51 dX11_readPair_29 (by decide) (by decide) (fun hh => absurd hh (by decide)) (fun _ => ?_)
      refine wp_iload_n (pc := 32) 1 dX11_readPair_32 rfl rfl ?_
      refine wp_iload_n (pc := 33) 2 dX11_readPair_33 rfl rfl ?_
      refine wp_icmp_eq (pc := 34) 46 dX11_readPair_34 (by decide) (by omega) (by omega) (fun h_3 => ?_) (fun h_3 => ?_)
      · refine wp_aload_n (pc := 46) 0 dX11_readPair_46 rfl rfl ?_
        refine wp_iconst (pc := 47) dX11_readPair_47 ?_
        refine wp_callV (pc := 48) (st := []) (nf' := 153) [vI 3] [some (vR 111), some (vI 3)] dX11_readPair_48 rfl c_X11_238 rfl kd_111 (by decide) rfl la_111 rfl (Nat.le_of_ble_eq_true rfl) rfl (Nat.le_of_ble_eq_true rfl) (by omega) (Nat.le_refl _) (Nat.le_refl _) ?_
        have hz5 : RD (J3) (M3) b g n (te b (te b c)) T N mo := hP3
        refine rs_wrong hz5.2.2.1 hz5.2.2.2.1.1 (by omega) (by omega) ?_
        refine wp_gen (fun J => Fe (J3) J ∧ RE J (bad b (te b (te b c)) 3)) ⟨Fe.bad, RD.bad (by omega)⟩ (fun J5 hJ5 => ?_)
        have x2_5 : J5 111 2 = (bad b (te b (te b c)) 3).1 := hJ5.2.1
        have xp_5 : 0 < (bad b (te b (te b c)) 3).1 ∧ (bad b (te b (te b c)) 3).1 ≤ 5 := hJ5.2.2.2
        have x42_5 : J5 111 42 = T 0 11 := (hJ5.1.2 42 (by decide) (by decide) (by decide) (by decide) (by decide) (by decide)).trans (by rw [hP3.f42])
        have x43_5 : J5 111 43 = T 0 12 := (hJ5.1.2 43 (by decide) (by decide) (by decide) (by decide) (by decide) (by decide)).trans (by rw [hP3.f43])
        have x44_5 : J5 111 44 = T 0 13 := (hJ5.1.2 44 (by decide) (by decide) (by decide) (by decide) (by decide) (by decide)).trans (by rw [hP3.f44])
        refine wp_eqst (st' := []) rfl ?_
        refine wp_aload_n (pc := 51) 0 dX11_readPair_51 rfl rfl ?_
        refine wp_geti (pc := 52) dX11_readPair_52 rfl f_X11_185 kd_111 la_111 (Or.inl rfl) ?_
        refine wp_eqst (st' := [vI ((bad b (te b (te b c)) 3).1)]) (by rw [x2_5]) ?_
        refine wp_if_le (pc := 55) 59 dX11_readPair_55 (by decide) (by omega) (fun hh => absurd hh (by omega)) (fun _ => ?_)
        refine wp_vret (pc := 58) dX11_readPair_58 rfl rfl ?_
        have er : prF b (te b (te b c)) (N 1) (nP T) (pwN T (Int.toNat (prF b (te b c) (N 1) (nP T) 0)) (nQ T) ||| 2 ^ (Int.toNat (prF b (te b c) (N 1) (nP T) 0))) = -3 := prF_r1 (by omega) (by rw [Nat.testBit_or, Nat.testBit_two_pow, decide_eq_true (by omega), Bool.or_true])
        exact h0 _ (by unfold pairF; (repeat (first | rw [if_pos (by omega)] | rw [if_neg (by omega)])); rw [er]; first | done | rfl) _ _ (((Fn.refl.trans hFb1.n).trans hFb3.n).trans hJ5.1.n) ((Ln.refl.trans hLb1.n).trans hLb3.n) hJ5.2
      · refine wp_aload_n (pc := 37) 0 dX11_readPair_37 rfl rfl ?_
        refine wp_iload_n (pc := 38) 1 dX11_readPair_38 rfl rfl ?_
        refine wp_iload_n (pc := 39) 2 dX11_readPair_39 rfl rfl ?_
        refine wp_callV (pc := 40) (st := []) (nf' := 153) [vI (prF b (te b c) (N 1) (nP T) 0), vI (prF b (te b (te b c)) (N 1) (nP T) 0)] [some (vR 111), some (vI (prF b (te b c) (N 1) (nP T) 0)), some (vI (prF b (te b (te b c)) (N 1) (nP T) 0)), none, none] dX11_readPair_40 rfl c_X11_359 rfl kd_111 (by decide) rfl la_111 rfl (Nat.le_of_ble_eq_true rfl) rfl (Nat.le_of_ble_eq_true rfl) (by omega) (Nat.le_refl _) (Nat.le_refl _) ?_
        refine rs_isPairTold (Int.toNat (prF b (te b c) (N 1) (nP T) 0)) (by omega) (Int.toNat (prF b (te b (te b c)) (N 1) (nP T) 0)) (by omega) hP3 (by omega) (by omega) (by omega) (by omega) ?_
        have bb6 := bitI_in (pwN T (Int.toNat (prF b (te b c) (N 1) (nP T) 0)) (nQ T)) (Int.toNat (prF b (te b (te b c)) (N 1) (nP T) 0))
        refine wp_eqst (st' := [vI (bitI (pwN T (Int.toNat (prF b (te b c) (N 1) (nP T) 0)) (nQ T)) (Int.toNat (prF b (te b (te b c)) (N 1) (nP T) 0)))]) rfl ?_
        refine wp_if_eq (pc := 43) 51 dX11_readPair_43 (by decide) (by omega) (fun h_4 => ?_) (fun h_4 => ?_)
        · refine wp_aload_n (pc := 51) 0 dX11_readPair_51 rfl rfl ?_
          refine wp_geti (pc := 52) dX11_readPair_52 rfl f_X11_185 kd_111 la_111 (Or.inl rfl) ?_
          refine wp_eqst (st' := [vI 0]) (by rw [hP3.2.2.2.1.1]) ?_
          refine wp_if_le (pc := 55) 59 dX11_readPair_55 (by decide) (by decide) (fun _ => ?_) (fun hh => absurd hh (by decide))
          have hbt : ¬ (pwN T (Int.toNat (prF b (te b c) (N 1) (nP T) 0)) (nQ T)).testBit (Int.toNat (prF b (te b (te b c)) (N 1) (nP T) 0)) = true := bitI_0.mp (by omega)
          have er : prF b (te b (te b c)) (N 1) (nP T) (pwN T (Int.toNat (prF b (te b c) (N 1) (nP T) 0)) (nQ T) ||| 2 ^ (Int.toNat (prF b (te b c) (N 1) (nP T) 0))) = prF b (te b (te b c)) (N 1) (nP T) 0 := prF_r2 (by omega) (by rw [Nat.testBit_or, Nat.testBit_two_pow, decide_eq_false (by omega), Bool.or_false]; exact hbt)
          have bh1 := tw_home hw (Int.toNat (prF b (te b c) (N 1) (nP T) 0))
          have bh2 := tw_home hw (Int.toNat (prF b (te b (te b c)) (N 1) (nP T) 0))
          refine wp_aload_n (pc := 59) 0 dX11_readPair_59 rfl rfl ?_
          refine wp_callV (pc := 60) (st := []) (nf' := 153) [] [some (vR 111), none, none] dX11_readPair_60 rfl c_X11_241 rfl kd_111 (by decide) rfl la_111 rfl (Nat.le_of_ble_eq_true rfl) rfl (Nat.le_of_ble_eq_true rfl) (by omega) (Nat.le_refl _) (Nat.le_refl _) ?_
          have n37 : ts b (te b (te b c)) ≠ 3 := (by first | exact n3_k (by omega) | exact n3_4 (by omega) | exact n3_w (by omega) | exact n3_s (by omega) | omega)
          have hz7 : RD (J3) (M3) b g n (te b (te b c)) T N mo := hP3
          refine rs_token hz7.1 hz7.nx (hz7.q4 n37) (by omega) (fun J7 M7 hFb7 hLb7 hTk7 => ?_)
          have hP7 := hz7.adv hz7.nx hFb7 hLb7 hTk7
          have kw_7 := wi_in b (te b (te b (te b c)))
          have tr_7 := ts_rng b (te b (te b (te b c)))
          have i8_7 := hP7.2.2.1.2.2.1.1
          have l9_7 := hP7.2.2.1.2.2.2.2.1
          refine wp_eqst (st' := []) rfl ?_
          refine wp_aload_n (pc := 63) 0 dX11_readPair_63 rfl rfl ?_
          refine wp_ldc2 (pc := 64) (z := 24948) dX11_readPair_64 rfl k_X11_208 rfl ?_
          refine wp_callV (pc := 67) (st := []) (nf' := 153) [vJ 24948] [some (vR 111), some (vJ 24948), none, none] dX11_readPair_67 rfl c_X11_334 rfl kd_111 (by decide) rfl la_111 rfl (Nat.le_of_ble_eq_true rfl) rfl (Nat.le_of_ble_eq_true rfl) (by omega) (Nat.le_refl _) (Nat.le_refl _) ?_
          have hz8 : RD (J7) (M7) b g n (te b (te b (te b c))) T N mo := hP7
          refine rs_takes (k := 10) hz8 (by decide) rfl (by omega) (fun h_5 J8 M8 hFb8 hLb8 hP8 => ?_) (fun h_5 => ?_)
          · have kw_8 := wi_in b (te b (te b (te b (te b c))))
            have tr_8 := ts_rng b (te b (te b (te b (te b c))))
            have i8_8 := hP8.2.2.1.2.2.1.1
            have l9_8 := hP8.2.2.1.2.2.2.2.1
            refine wp_eqst (st' := [vI 1]) rfl ?_
            refine wq_istore_n (pc := 70) 3 [some (vR 111), some (vI (prF b (te b c) (N 1) (nP T) 0)), some (vI (prF b (te b (te b c)) (N 1) (nP T) 0)), some (vI 1)] dX11_readPair_70 rfl rfl (by decide) rfl ?_
            refine wp_aload_n (pc := 71) 0 dX11_readPair_71 rfl rfl ?_
            refine wp_getr (pc := 72) dX11_readPair_72 rfl f_X11_63 kd_111 la_111 rfl (r_111_32 D) ?_
            refine wp_iconst (pc := 75) dX11_readPair_75 ?_
            refine wp_aload_n (pc := 76) 0 dX11_readPair_76 rfl rfl ?_
            refine wp_geti (pc := 77) dX11_readPair_77 rfl f_X11_356 kd_111 la_111 (Or.inl rfl) ?_
            refine wp_eqst (st' := [vI (T 0 13), vI 2, vR 128]) (by rw [hP8.f44]) ?_
            refine wp_imul (pc := 80) dX11_readPair_80 ?_
            refine wp_iload_n (pc := 81) 3 dX11_readPair_81 rfl rfl ?_
            refine wp_if_eq (pc := 82) 92 dX11_readPair_82 (by decide) (by decide) (fun hh => absurd hh (by decide)) (fun _ => ?_)
            refine wp_aload_n (pc := 85) 0 dX11_readPair_85 rfl rfl ?_
            refine wp_callV (pc := 86) (st := [vI (2 * (T 0 13)), vR 128]) (nf' := 153) [] [some (vR 111), none] dX11_readPair_86 rfl c_X11_340 rfl kd_111 (by decide) rfl la_111 rfl (Nat.le_of_ble_eq_true rfl) rfl (Nat.le_of_ble_eq_true rfl) (by omega) (Nat.le_refl _) (Nat.le_refl _) ?_
            have hz9 : RD (J8) (M8) b g n (te b (te b (te b (te b c)))) T N mo := hP8
            refine rs_rchurch hz9 (by omega) (fun h_6 J9 M9 hFb9 hLb9 hP9 => ?_) (fun h_6 J9 M9 hF9 hL9 hE9 => ?_)
            · replace h_6 : 0 ≤ prF b (te b (te b (te b (te b c)))) (N 0) (nC T) 0 := h_6
              have pi9 := prF_in (b := b) (c := te b (te b (te b (te b c)))) (N := N 0) (n := nC T) (rep := 0)
              have kw_9 := wi_in b (te b (te b (te b (te b (te b c)))))
              have tr_9 := ts_rng b (te b (te b (te b (te b (te b c)))))
              have i8_9 := hP9.2.2.1.2.2.1.1
              have l9_9 := hP9.2.2.1.2.2.2.2.1
              refine wp_eqst (st' := [vI (prF b (te b (te b (te b (te b c)))) (N 0) (nC T) 0), vI (2 * (T 0 13)), vR 128]) rfl ?_
              refine wp_goto (pc := 89) 98 dX11_readPair_89 (by decide) ?_
              refine wq_iast (pc := 98) (Int.toNat (2 * (T 0 13))) dX11_readPair_98 kd_128 la_128 (by omega) (by omega) ?_
              refine wp_aload_n (pc := 99) 0 dX11_readPair_99 rfl rfl ?_
              refine wp_getr (pc := 100) dX11_readPair_100 rfl f_X11_63 kd_111 la_111 rfl (r_111_32 D) ?_
              refine wp_iconst (pc := 103) dX11_readPair_103 ?_
              refine wp_aload_n (pc := 104) 0 dX11_readPair_104 rfl rfl ?_
              refine wp_geti (pc := 105) dX11_readPair_105 rfl f_X11_356 kd_111 la_111 (Or.inl rfl) ?_
              refine wp_eqst (st' := [vI (T 0 13), vI 2, vR 128]) (by rw [up_c (by omega), hP9.f44]) ?_
              refine wp_imul (pc := 108) dX11_readPair_108 ?_
              refine wp_iconst (pc := 109) dX11_readPair_109 ?_
              refine wp_iadd (pc := 110) dX11_readPair_110 ?_
              refine wp_iload_n (pc := 111) 3 dX11_readPair_111 rfl rfl ?_
              refine wp_if_eq (pc := 112) 122 dX11_readPair_112 (by decide) (by decide) (fun hh => absurd hh (by decide)) (fun _ => ?_)
              refine wp_aload_n (pc := 115) 0 dX11_readPair_115 rfl rfl ?_
              refine wp_callV (pc := 116) (st := [vI ((2 * (T 0 13)) + 1), vR 128]) (nf' := 153) [] [some (vR 111), none] dX11_readPair_116 rfl c_X11_340 rfl kd_111 (by decide) rfl la_111 rfl (Nat.le_of_ble_eq_true rfl) rfl (Nat.le_of_ble_eq_true rfl) (by omega) (Nat.le_refl _) (Nat.le_refl _) ?_
              have hz10 : RD (up J9 128 (Int.toNat (2 * (T 0 13))) (prF b (te b (te b (te b (te b c)))) (N 0) (nC T) 0)) (M9) b g n (te b (te b (te b (te b (te b c))))) T N mo := (hP9.w (by unfold rnFree; omega))
              refine rs_rchurch hz10 (by omega) (fun h_7 J10 M10 hFb10 hLb10 hP10 => ?_) (fun h_7 J10 M10 hF10 hL10 hE10 => ?_)
              · replace h_7 : 0 ≤ prF b (te b (te b (te b (te b (te b c))))) (N 0) (nC T) 0 := h_7
                have pi10 := prF_in (b := b) (c := te b (te b (te b (te b (te b c))))) (N := N 0) (n := nC T) (rep := 0)
                have nt10_0 : J10 128 (Int.toNat (2 * (T 0 13))) = prF b (te b (te b (te b (te b c)))) (N 0) (nC T) 0 := (congrFun (hFb10.1 128 (by decide)) (Int.toNat (2 * (T 0 13)))).trans (by rw [up_s])
                have kw_10 := wi_in b (te b (te b (te b (te b (te b (te b c))))))
                have tr_10 := ts_rng b (te b (te b (te b (te b (te b (te b c))))))
                have i8_10 := hP10.2.2.1.2.2.1.1
                have l9_10 := hP10.2.2.1.2.2.2.2.1
                refine wp_eqst (st' := [vI (prF b (te b (te b (te b (te b (te b c))))) (N 0) (nC T) 0), vI ((2 * (T 0 13)) + 1), vR 128]) rfl ?_
                refine wp_goto (pc := 119) 128 dX11_readPair_119 (by decide) ?_
                refine wq_iast (pc := 128) (Int.toNat ((2 * (T 0 13)) + 1)) dX11_readPair_128 kd_128 la_128 (by omega) (by omega) ?_
                refine wp_aload_n (pc := 129) 0 dX11_readPair_129 rfl rfl ?_
                refine wp_geti (pc := 130) dX11_readPair_130 rfl f_X11_185 kd_111 la_111 (Or.inl rfl) ?_
                refine wp_eqst (st' := [vI 0]) (by rw [up_c (by omega), hP10.2.2.2.1.1]) ?_
                refine wp_if_le (pc := 133) 137 dX11_readPair_133 (by decide) (by decide) (fun _ => ?_) (fun hh => absurd hh (by decide))
                refine wp_aload_n (pc := 137) 0 dX11_readPair_137 rfl rfl ?_
                refine wp_getr (pc := 138) dX11_readPair_138 rfl f_X11_57 kd_111 la_111 rfl (r_111_30 D) ?_
                refine wp_aload_n (pc := 141) 0 dX11_readPair_141 rfl rfl ?_
                refine wp_geti (pc := 142) dX11_readPair_142 rfl f_X11_356 kd_111 la_111 (Or.inl rfl) ?_
                refine wp_eqst (st' := [vI (T 0 13), vR 126]) (by rw [up_c (by omega), hP10.f44]) ?_
                refine wp_iload_n (pc := 145) 1 dX11_readPair_145 rfl rfl ?_
                refine wq_iast (pc := 146) (Int.toNat (T 0 13)) dX11_readPair_146 kd_126 la_126 (by omega) (by omega) ?_
                refine wp_aload_n (pc := 147) 0 dX11_readPair_147 rfl rfl ?_
                refine wp_getr (pc := 148) dX11_readPair_148 rfl f_X11_60 kd_111 la_111 rfl (r_111_31 D) ?_
                refine wp_aload_n (pc := 151) 0 dX11_readPair_151 rfl rfl ?_
                refine wp_geti (pc := 152) dX11_readPair_152 rfl f_X11_356 kd_111 la_111 (Or.inl rfl) ?_
                refine wp_eqst (st' := [vI (T 0 13), vR 127]) (by rw [up_c (by omega), up_c (by omega), hP10.f44]) ?_
                refine wp_iload_n (pc := 155) 2 dX11_readPair_155 rfl rfl ?_
                refine wq_iast (pc := 156) (Int.toNat (T 0 13)) dX11_readPair_156 kd_127 la_127 (by omega) (by omega) ?_
                refine wp_aload_n (pc := 157) 0 dX11_readPair_157 rfl rfl ?_
                refine wp_dup (pc := 158) dX11_readPair_158 rfl ?_
                refine wp_geti (pc := 159) dX11_readPair_159 rfl f_X11_356 kd_111 la_111 (Or.inl rfl) ?_
                refine wp_eqst (st' := [vI (T 0 13), vR 111]) (by rw [up_c (by omega), up_c (by omega), up_c (by omega), hP10.f44]) ?_
                refine wp_iconst (pc := 162) dX11_readPair_162 ?_
                refine wp_iadd (pc := 163) dX11_readPair_163 ?_
                refine wp_puti (pc := 164) dX11_readPair_164 rfl f_X11_356 kd_111 la_111 (fun _ h => by cases h; rfl) rfl ?_
                refine wp_vret (pc := 167) dX11_readPair_167 rfl rfl ?_
                have hA : RD (up (up (up J10 128 (Int.toNat ((2 * (T 0 13)) + 1)) (prF b (te b (te b (te b (te b (te b c))))) (N 0) (nC T) 0)) 126 (Int.toNat (T 0 13)) (prF b (te b c) (N 1) (nP T) 0)) 127 (Int.toNat (T 0 13)) (prF b (te b (te b c)) (N 1) (nP T) 0)) (M10) b g n (te b (te b (te b (te b (te b (te b c)))))) T N mo := (((hP10.w (by unfold rnFree; omega)).w (by unfold rnFree; omega)).w (by unfold rnFree; omega))
                have hf := hA.incQ (a := prF b (te b c) (N 1) (nP T) 0) (e := prF b (te b (te b c)) (N 1) (nP T) 0) (x := prF b (te b (te b (te b (te b c)))) (N 0) (nC T) 0) (y := prF b (te b (te b (te b (te b (te b c))))) (N 0) (nC T) 0) (by omega) (by omega) (by omega) (by omega) (by omega) (by rw [up_c (by omega), up_s]) (by rw [up_s]) (by rw [show 2 * nQ T = Int.toNat (2 * (T 0 13)) by omega]; exact (by rw [up_c (by omega), up_c (by omega), up_j (by omega), nt10_0])) (by rw [show 2 * nQ T + 1 = Int.toNat ((2 * (T 0 13)) + 1) by omega]; exact (by rw [up_c (by omega), up_c (by omega), up_s]))
                exact h1 _ _ _ (by unfold pairF; (repeat (first | rw [if_pos (by omega)] | rw [if_neg (by omega)])); rw [er]; unfold plcF; (repeat (first | rw [if_pos (by omega)] | rw [if_neg (by omega)])); first | done | rfl) _ _ (((((((((((Fn.refl.trans hFb1.n).trans hFb3.n).trans hFb7.n).trans hFb8.n).trans hFb9.n).wr (Or.inr ⟨by decide, by unfold rnCell; omega⟩)).trans hFb10.n).wr (Or.inr ⟨by decide, by unfold rnCell; omega⟩)).wr (Or.inr ⟨by decide, by unfold rnCell; omega⟩)).wr (Or.inr ⟨by decide, by unfold rnCell; omega⟩)).wr (Or.inl ⟨rfl, by unfold rnSlot; omega⟩)) ((((((Ln.refl.trans hLb1.n).trans hLb3.n).trans hLb7.n).trans hLb8.n).trans hLb9.n).trans hLb10.n) hf
              · replace h_7 : prF b (te b (te b (te b (te b (te b c))))) (N 0) (nC T) 0 < 0 := h_7
                have x2_10 : J10 111 2 = (bad b (te b (te b (te b (te b (te b c))))) (-prF b (te b (te b (te b (te b (te b c))))) (N 0) (nC T) 0)).1 := hE10.1
                have xp_10 : 0 < (bad b (te b (te b (te b (te b (te b c))))) (-prF b (te b (te b (te b (te b (te b c))))) (N 0) (nC T) 0)).1 ∧ (bad b (te b (te b (te b (te b (te b c))))) (-prF b (te b (te b (te b (te b (te b c))))) (N 0) (nC T) 0)).1 ≤ 5 := hE10.2.2
                have x42_10 : J10 111 42 = T 0 11 := (hF10.2 42 (by decide) (by decide) (by decide) (by decide) (by decide) (by decide)).trans (by rw [up_c (by omega), hP9.f42])
                have x43_10 : J10 111 43 = T 0 12 := (hF10.2 43 (by decide) (by decide) (by decide) (by decide) (by decide) (by decide)).trans (by rw [up_c (by omega), hP9.f43])
                have x44_10 : J10 111 44 = T 0 13 := (hF10.2 44 (by decide) (by decide) (by decide) (by decide) (by decide) (by decide)).trans (by rw [up_c (by omega), hP9.f44])
                refine wp_eqst (st' := [vI 0, vI ((2 * (T 0 13)) + 1), vR 128]) rfl ?_
                refine wp_goto (pc := 119) 128 dX11_readPair_119 (by decide) ?_
                refine wq_iast (pc := 128) (Int.toNat ((2 * (T 0 13)) + 1)) dX11_readPair_128 kd_128 la_128 (by omega) (by omega) ?_
                refine wp_aload_n (pc := 129) 0 dX11_readPair_129 rfl rfl ?_
                refine wp_geti (pc := 130) dX11_readPair_130 rfl f_X11_185 kd_111 la_111 (Or.inl rfl) ?_
                refine wp_eqst (st' := [vI ((bad b (te b (te b (te b (te b (te b c))))) (-prF b (te b (te b (te b (te b (te b c))))) (N 0) (nC T) 0)).1)]) (by rw [up_c (by omega), x2_10]) ?_
                refine wp_if_le (pc := 133) 137 dX11_readPair_133 (by decide) (by omega) (fun hh => absurd hh (by omega)) (fun _ => ?_)
                refine wp_vret (pc := 136) dX11_readPair_136 rfl rfl ?_
                exact h0 _ (by unfold pairF; (repeat (first | rw [if_pos (by omega)] | rw [if_neg (by omega)])); rw [er]; unfold plcF; (repeat (first | rw [if_pos (by omega)] | rw [if_neg (by omega)])); first | done | rfl) _ _ ((((((((Fn.refl.trans hFb1.n).trans hFb3.n).trans hFb7.n).trans hFb8.n).trans hFb9.n).wr (Or.inr ⟨by decide, by unfold rnCell; omega⟩)).trans hF10.n).wr (Or.inr ⟨by decide, by unfold rnCell; omega⟩)) ((((((Ln.refl.trans hLb1.n).trans hLb3.n).trans hLb7.n).trans hLb8.n).trans hLb9.n).trans hL10) (hE10.wr (by omega))
            · replace h_6 : prF b (te b (te b (te b (te b c)))) (N 0) (nC T) 0 < 0 := h_6
              have x2_9 : J9 111 2 = (bad b (te b (te b (te b (te b c)))) (-prF b (te b (te b (te b (te b c)))) (N 0) (nC T) 0)).1 := hE9.1
              have xp_9 : 0 < (bad b (te b (te b (te b (te b c)))) (-prF b (te b (te b (te b (te b c)))) (N 0) (nC T) 0)).1 ∧ (bad b (te b (te b (te b (te b c)))) (-prF b (te b (te b (te b (te b c)))) (N 0) (nC T) 0)).1 ≤ 5 := hE9.2.2
              have x42_9 : J9 111 42 = T 0 11 := (hF9.2 42 (by decide) (by decide) (by decide) (by decide) (by decide) (by decide)).trans (by rw [hP8.f42])
              have x43_9 : J9 111 43 = T 0 12 := (hF9.2 43 (by decide) (by decide) (by decide) (by decide) (by decide) (by decide)).trans (by rw [hP8.f43])
              have x44_9 : J9 111 44 = T 0 13 := (hF9.2 44 (by decide) (by decide) (by decide) (by decide) (by decide) (by decide)).trans (by rw [hP8.f44])
              refine wp_eqst (st' := [vI 0, vI (2 * (T 0 13)), vR 128]) rfl ?_
              refine wp_goto (pc := 89) 98 dX11_readPair_89 (by decide) ?_
              refine wq_iast (pc := 98) (Int.toNat (2 * (T 0 13))) dX11_readPair_98 kd_128 la_128 (by omega) (by omega) ?_
              refine wp_aload_n (pc := 99) 0 dX11_readPair_99 rfl rfl ?_
              refine wp_getr (pc := 100) dX11_readPair_100 rfl f_X11_63 kd_111 la_111 rfl (r_111_32 D) ?_
              refine wp_iconst (pc := 103) dX11_readPair_103 ?_
              refine wp_aload_n (pc := 104) 0 dX11_readPair_104 rfl rfl ?_
              refine wp_geti (pc := 105) dX11_readPair_105 rfl f_X11_356 kd_111 la_111 (Or.inl rfl) ?_
              refine wp_eqst (st' := [vI (T 0 13), vI 2, vR 128]) (by rw [up_c (by omega), x44_9]) ?_
              refine wp_imul (pc := 108) dX11_readPair_108 ?_
              refine wp_iconst (pc := 109) dX11_readPair_109 ?_
              refine wp_iadd (pc := 110) dX11_readPair_110 ?_
              refine wp_iload_n (pc := 111) 3 dX11_readPair_111 rfl rfl ?_
              refine wp_if_eq (pc := 112) 122 dX11_readPair_112 (by decide) (by decide) (fun hh => absurd hh (by decide)) (fun _ => ?_)
              refine wp_aload_n (pc := 115) 0 dX11_readPair_115 rfl rfl ?_
              refine wp_callV (pc := 116) (st := [vI ((2 * (T 0 13)) + 1), vR 128]) (nf' := 153) [] [some (vR 111), none] dX11_readPair_116 rfl c_X11_340 rfl kd_111 (by decide) rfl la_111 rfl (Nat.le_of_ble_eq_true rfl) rfl (Nat.le_of_ble_eq_true rfl) (by omega) (Nat.le_refl _) (Nat.le_refl _) ?_
              refine rz_rchurch (hE9.wr (by omega)) (by omega) ?_
              refine wp_eqst (st' := [vI 0, vI ((2 * (T 0 13)) + 1), vR 128]) rfl ?_
              refine wp_goto (pc := 119) 128 dX11_readPair_119 (by decide) ?_
              refine wq_iast (pc := 128) (Int.toNat ((2 * (T 0 13)) + 1)) dX11_readPair_128 kd_128 la_128 (by omega) (by omega) ?_
              refine wp_aload_n (pc := 129) 0 dX11_readPair_129 rfl rfl ?_
              refine wp_geti (pc := 130) dX11_readPair_130 rfl f_X11_185 kd_111 la_111 (Or.inl rfl) ?_
              refine wp_eqst (st' := [vI ((bad b (te b (te b (te b (te b c)))) (-prF b (te b (te b (te b (te b c)))) (N 0) (nC T) 0)).1)]) (by rw [up_c (by omega), up_c (by omega), x2_9]) ?_
              refine wp_if_le (pc := 133) 137 dX11_readPair_133 (by decide) (by omega) (fun hh => absurd hh (by omega)) (fun _ => ?_)
              refine wp_vret (pc := 136) dX11_readPair_136 rfl rfl ?_
              exact h0 _ (by unfold pairF; (repeat (first | rw [if_pos (by omega)] | rw [if_neg (by omega)])); rw [er]; unfold plcF; (repeat (first | rw [if_pos (by omega)] | rw [if_neg (by omega)])); first | done | rfl) _ _ (((((((Fn.refl.trans hFb1.n).trans hFb3.n).trans hFb7.n).trans hFb8.n).trans hF9.n).wr (Or.inr ⟨by decide, by unfold rnCell; omega⟩)).wr (Or.inr ⟨by decide, by unfold rnCell; omega⟩)) (((((Ln.refl.trans hLb1.n).trans hLb3.n).trans hLb7.n).trans hLb8.n).trans hL9) ((hE9.wr (by omega)).wr (by omega))
          · refine wp_eqst (st' := [vI 0]) rfl ?_
            refine wq_istore_n (pc := 70) 3 [some (vR 111), some (vI (prF b (te b c) (N 1) (nP T) 0)), some (vI (prF b (te b (te b c)) (N 1) (nP T) 0)), some (vI 0)] dX11_readPair_70 rfl rfl (by decide) rfl ?_
            refine wp_aload_n (pc := 71) 0 dX11_readPair_71 rfl rfl ?_
            refine wp_getr (pc := 72) dX11_readPair_72 rfl f_X11_63 kd_111 la_111 rfl (r_111_32 D) ?_
            refine wp_iconst (pc := 75) dX11_readPair_75 ?_
            refine wp_aload_n (pc := 76) 0 dX11_readPair_76 rfl rfl ?_
            refine wp_geti (pc := 77) dX11_readPair_77 rfl f_X11_356 kd_111 la_111 (Or.inl rfl) ?_
            refine wp_eqst (st' := [vI (T 0 13), vI 2, vR 128]) (by rw [hP7.f44]) ?_
            refine wp_imul (pc := 80) dX11_readPair_80 ?_
            refine wp_iload_n (pc := 81) 3 dX11_readPair_81 rfl rfl ?_
            refine wp_if_eq (pc := 82) 92 dX11_readPair_82 (by decide) (by decide) (fun _ => ?_) (fun hh => absurd hh (by decide))
            refine wp_aload_n (pc := 92) 0 dX11_readPair_92 rfl rfl ?_
            refine wp_getr (pc := 93) dX11_readPair_93 rfl f_X11_42 kd_111 la_111 rfl (r_111_25 D) ?_
            refine wp_iload_n (pc := 96) 1 dX11_readPair_96 rfl rfl ?_
            refine wq_iald (pc := 97) (Int.toNat (prF b (te b c) (N 1) (nP T) 0)) dX11_readPair_97 kd_121 la_121 (by omega) (by omega) ?_
            refine wp_eqst (st' := [vI (T 3 (Int.toNat (prF b (te b c) (N 1) (nP T) 0))), vI (2 * (T 0 13)), vR 128]) (by rw [hP7.home (by omega)]) ?_
            refine wq_iast (pc := 98) (Int.toNat (2 * (T 0 13))) dX11_readPair_98 kd_128 la_128 (by omega) (by omega) ?_
            refine wp_aload_n (pc := 99) 0 dX11_readPair_99 rfl rfl ?_
            refine wp_getr (pc := 100) dX11_readPair_100 rfl f_X11_63 kd_111 la_111 rfl (r_111_32 D) ?_
            refine wp_iconst (pc := 103) dX11_readPair_103 ?_
            refine wp_aload_n (pc := 104) 0 dX11_readPair_104 rfl rfl ?_
            refine wp_geti (pc := 105) dX11_readPair_105 rfl f_X11_356 kd_111 la_111 (Or.inl rfl) ?_
            refine wp_eqst (st' := [vI (T 0 13), vI 2, vR 128]) (by rw [up_c (by omega), hP7.f44]) ?_
            refine wp_imul (pc := 108) dX11_readPair_108 ?_
            refine wp_iconst (pc := 109) dX11_readPair_109 ?_
            refine wp_iadd (pc := 110) dX11_readPair_110 ?_
            refine wp_iload_n (pc := 111) 3 dX11_readPair_111 rfl rfl ?_
            refine wp_if_eq (pc := 112) 122 dX11_readPair_112 (by decide) (by decide) (fun _ => ?_) (fun hh => absurd hh (by decide))
            refine wp_aload_n (pc := 122) 0 dX11_readPair_122 rfl rfl ?_
            refine wp_getr (pc := 123) dX11_readPair_123 rfl f_X11_42 kd_111 la_111 rfl (r_111_25 D) ?_
            refine wp_iload_n (pc := 126) 2 dX11_readPair_126 rfl rfl ?_
            refine wq_iald (pc := 127) (Int.toNat (prF b (te b (te b c)) (N 1) (nP T) 0)) dX11_readPair_127 kd_121 la_121 (by omega) (by omega) ?_
            refine wp_eqst (st' := [vI (T 3 (Int.toNat (prF b (te b (te b c)) (N 1) (nP T) 0))), vI ((2 * (T 0 13)) + 1), vR 128]) (by rw [up_c (by omega), hP7.home (by omega)]) ?_
            refine wq_iast (pc := 128) (Int.toNat ((2 * (T 0 13)) + 1)) dX11_readPair_128 kd_128 la_128 (by omega) (by omega) ?_
            refine wp_aload_n (pc := 129) 0 dX11_readPair_129 rfl rfl ?_
            refine wp_geti (pc := 130) dX11_readPair_130 rfl f_X11_185 kd_111 la_111 (Or.inl rfl) ?_
            refine wp_eqst (st' := [vI 0]) (by rw [up_c (by omega), up_c (by omega), hP7.2.2.2.1.1]) ?_
            refine wp_if_le (pc := 133) 137 dX11_readPair_133 (by decide) (by decide) (fun _ => ?_) (fun hh => absurd hh (by decide))
            refine wp_aload_n (pc := 137) 0 dX11_readPair_137 rfl rfl ?_
            refine wp_getr (pc := 138) dX11_readPair_138 rfl f_X11_57 kd_111 la_111 rfl (r_111_30 D) ?_
            refine wp_aload_n (pc := 141) 0 dX11_readPair_141 rfl rfl ?_
            refine wp_geti (pc := 142) dX11_readPair_142 rfl f_X11_356 kd_111 la_111 (Or.inl rfl) ?_
            refine wp_eqst (st' := [vI (T 0 13), vR 126]) (by rw [up_c (by omega), up_c (by omega), hP7.f44]) ?_
            refine wp_iload_n (pc := 145) 1 dX11_readPair_145 rfl rfl ?_
            refine wq_iast (pc := 146) (Int.toNat (T 0 13)) dX11_readPair_146 kd_126 la_126 (by omega) (by omega) ?_
            refine wp_aload_n (pc := 147) 0 dX11_readPair_147 rfl rfl ?_
            refine wp_getr (pc := 148) dX11_readPair_148 rfl f_X11_60 kd_111 la_111 rfl (r_111_31 D) ?_
            refine wp_aload_n (pc := 151) 0 dX11_readPair_151 rfl rfl ?_
            refine wp_geti (pc := 152) dX11_readPair_152 rfl f_X11_356 kd_111 la_111 (Or.inl rfl) ?_
            refine wp_eqst (st' := [vI (T 0 13), vR 127]) (by rw [up_c (by omega), up_c (by omega), up_c (by omega), hP7.f44]) ?_
            refine wp_iload_n (pc := 155) 2 dX11_readPair_155 rfl rfl ?_
            refine wq_iast (pc := 156) (Int.toNat (T 0 13)) dX11_readPair_156 kd_127 la_127 (by omega) (by omega) ?_
            refine wp_aload_n (pc := 157) 0 dX11_readPair_157 rfl rfl ?_
            refine wp_dup (pc := 158) dX11_readPair_158 rfl ?_
            refine wp_geti (pc := 159) dX11_readPair_159 rfl f_X11_356 kd_111 la_111 (Or.inl rfl) ?_
            refine wp_eqst (st' := [vI (T 0 13), vR 111]) (by rw [up_c (by omega), up_c (by omega), up_c (by omega), up_c (by omega), hP7.f44]) ?_
            refine wp_iconst (pc := 162) dX11_readPair_162 ?_
            refine wp_iadd (pc := 163) dX11_readPair_163 ?_
            refine wp_puti (pc := 164) dX11_readPair_164 rfl f_X11_356 kd_111 la_111 (fun _ h => by cases h; rfl) rfl ?_
            refine wp_vret (pc := 167) dX11_readPair_167 rfl rfl ?_
            have hA : RD (up (up (up (up J7 128 (Int.toNat (2 * (T 0 13))) (T 3 (Int.toNat (prF b (te b c) (N 1) (nP T) 0)))) 128 (Int.toNat ((2 * (T 0 13)) + 1)) (T 3 (Int.toNat (prF b (te b (te b c)) (N 1) (nP T) 0)))) 126 (Int.toNat (T 0 13)) (prF b (te b c) (N 1) (nP T) 0)) 127 (Int.toNat (T 0 13)) (prF b (te b (te b c)) (N 1) (nP T) 0)) (M7) b g n (te b (te b (te b c))) T N mo := ((((hP7.w (by unfold rnFree; omega)).w (by unfold rnFree; omega)).w (by unfold rnFree; omega)).w (by unfold rnFree; omega))
            have hf := hA.incQ (a := prF b (te b c) (N 1) (nP T) 0) (e := prF b (te b (te b c)) (N 1) (nP T) 0) (x := T 3 (Int.toNat (prF b (te b c) (N 1) (nP T) 0))) (y := T 3 (Int.toNat (prF b (te b (te b c)) (N 1) (nP T) 0))) (by omega) (by omega) (by omega) (by omega) (by omega) (by rw [up_c (by omega), up_s]) (by rw [up_s]) (by rw [show 2 * nQ T = Int.toNat (2 * (T 0 13)) by omega]; exact (by rw [up_c (by omega), up_c (by omega), up_j (by omega), up_s])) (by rw [show 2 * nQ T + 1 = Int.toNat ((2 * (T 0 13)) + 1) by omega]; exact (by rw [up_c (by omega), up_c (by omega), up_s]))
            exact h1 _ _ _ (by unfold pairF; (repeat (first | rw [if_pos (by omega)] | rw [if_neg (by omega)])); rw [er]; unfold plcF; (repeat (first | rw [if_pos (by omega)] | rw [if_neg (by omega)])); first | done | rfl) _ _ ((((((((Fn.refl.trans hFb1.n).trans hFb3.n).trans hFb7.n).wr (Or.inr ⟨by decide, by unfold rnCell; omega⟩)).wr (Or.inr ⟨by decide, by unfold rnCell; omega⟩)).wr (Or.inr ⟨by decide, by unfold rnCell; omega⟩)).wr (Or.inr ⟨by decide, by unfold rnCell; omega⟩)).wr (Or.inl ⟨rfl, by unfold rnSlot; omega⟩)) (((Ln.refl.trans hLb1.n).trans hLb3.n).trans hLb7.n) hf
        · refine wp_aload_n (pc := 46) 0 dX11_readPair_46 rfl rfl ?_
          refine wp_iconst (pc := 47) dX11_readPair_47 ?_
          refine wp_callV (pc := 48) (st := []) (nf' := 153) [vI 3] [some (vR 111), some (vI 3)] dX11_readPair_48 rfl c_X11_238 rfl kd_111 (by decide) rfl la_111 rfl (Nat.le_of_ble_eq_true rfl) rfl (Nat.le_of_ble_eq_true rfl) (by omega) (Nat.le_refl _) (Nat.le_refl _) ?_
          have hz12 : RD (J3) (M3) b g n (te b (te b c)) T N mo := hP3
          refine rs_wrong hz12.2.2.1 hz12.2.2.2.1.1 (by omega) (by omega) ?_
          refine wp_gen (fun J => Fe (J3) J ∧ RE J (bad b (te b (te b c)) 3)) ⟨Fe.bad, RD.bad (by omega)⟩ (fun J12 hJ12 => ?_)
          have x2_12 : J12 111 2 = (bad b (te b (te b c)) 3).1 := hJ12.2.1
          have xp_12 : 0 < (bad b (te b (te b c)) 3).1 ∧ (bad b (te b (te b c)) 3).1 ≤ 5 := hJ12.2.2.2
          have x42_12 : J12 111 42 = T 0 11 := (hJ12.1.2 42 (by decide) (by decide) (by decide) (by decide) (by decide) (by decide)).trans (by rw [hP3.f42])
          have x43_12 : J12 111 43 = T 0 12 := (hJ12.1.2 43 (by decide) (by decide) (by decide) (by decide) (by decide) (by decide)).trans (by rw [hP3.f43])
          have x44_12 : J12 111 44 = T 0 13 := (hJ12.1.2 44 (by decide) (by decide) (by decide) (by decide) (by decide) (by decide)).trans (by rw [hP3.f44])
          refine wp_eqst (st' := []) rfl ?_
          refine wp_aload_n (pc := 51) 0 dX11_readPair_51 rfl rfl ?_
          refine wp_geti (pc := 52) dX11_readPair_52 rfl f_X11_185 kd_111 la_111 (Or.inl rfl) ?_
          refine wp_eqst (st' := [vI ((bad b (te b (te b c)) 3).1)]) (by rw [x2_12]) ?_
          refine wp_if_le (pc := 55) 59 dX11_readPair_55 (by decide) (by omega) (fun hh => absurd hh (by omega)) (fun _ => ?_)
          refine wp_vret (pc := 58) dX11_readPair_58 rfl rfl ?_
          have er : prF b (te b (te b c)) (N 1) (nP T) (pwN T (Int.toNat (prF b (te b c) (N 1) (nP T) 0)) (nQ T) ||| 2 ^ (Int.toNat (prF b (te b c) (N 1) (nP T) 0))) = -3 := prF_r1 (by omega) (by rw [Nat.testBit_or, show (pwN T (Int.toNat (prF b (te b c) (N 1) (nP T) 0)) (nQ T)).testBit (Int.toNat (prF b (te b (te b c)) (N 1) (nP T) 0)) = true from Classical.byContradiction (fun z => absurd (bitI_0.mpr z) (by omega)), Bool.true_or])
          exact h0 _ (by unfold pairF; (repeat (first | rw [if_pos (by omega)] | rw [if_neg (by omega)])); rw [er]; first | done | rfl) _ _ (((Fn.refl.trans hFb1.n).trans hFb3.n).trans hJ12.1.n) ((Ln.refl.trans hLb1.n).trans hLb3.n) hJ12.2
    · replace h_2 : prF b (te b (te b c)) (N 1) (nP T) 0 < 0 := h_2
      have x2_4 : J4 111 2 = (bad b (te b (te b c)) (-prF b (te b (te b c)) (N 1) (nP T) 0)).1 := hE4.1
      have xp_4 : 0 < (bad b (te b (te b c)) (-prF b (te b (te b c)) (N 1) (nP T) 0)).1 ∧ (bad b (te b (te b c)) (-prF b (te b (te b c)) (N 1) (nP T) 0)).1 ≤ 5 := hE4.2.2
      have x42_4 : J4 111 42 = T 0 11 := (hF4.2 42 (by decide) (by decide) (by decide) (by decide) (by decide) (by decide)).trans (by rw [hP3.f42])
      have x43_4 : J4 111 43 = T 0 12 := (hF4.2 43 (by decide) (by decide) (by decide) (by decide) (by decide) (by decide)).trans (by rw [hP3.f43])
      have x44_4 : J4 111 44 = T 0 13 := (hF4.2 44 (by decide) (by decide) (by decide) (by decide) (by decide) (by decide)).trans (by rw [hP3.f44])
      refine wp_eqst (st' := [vI 0]) rfl ?_
      refine wp_iret (pc := 9) dX11_oldPerson_9 rfl rfl ?_
      refine wp_eqst (st' := [vI 0]) rfl ?_
      refine wq_istore_n (pc := 24) 2 [some (vR 111), some (vI (prF b (te b c) (N 1) (nP T) 0)), some (vI 0), none] dX11_readPair_24 rfl rfl (by decide) rfl ?_
      refine wp_aload_n (pc := 25) 0 dX11_readPair_25 rfl rfl ?_
      refine wp_geti (pc := 26) dX11_readPair_26 rfl f_X11_185 kd_111 la_111 (Or.inl rfl) ?_
      refine wp_eqst (st' := [vI ((bad b (te b (te b c)) (-prF b (te b (te b c)) (N 1) (nP T) 0)).1)]) (by rw [x2_4]) ?_
      refine wp_if_ne (pc := 29) 51 dX11_readPair_29 (by decide) (by omega) (fun _ => ?_) (fun hh => absurd hh (by omega))
      refine wp_aload_n (pc := 51) 0 dX11_readPair_51 rfl rfl ?_
      refine wp_geti (pc := 52) dX11_readPair_52 rfl f_X11_185 kd_111 la_111 (Or.inl rfl) ?_
      refine wp_eqst (st' := [vI ((bad b (te b (te b c)) (-prF b (te b (te b c)) (N 1) (nP T) 0)).1)]) (by rw [x2_4]) ?_
      refine wp_if_le (pc := 55) 59 dX11_readPair_55 (by decide) (by omega) (fun hh => absurd hh (by omega)) (fun _ => ?_)
      refine wp_vret (pc := 58) dX11_readPair_58 rfl rfl ?_
      have er : prF b (te b (te b c)) (N 1) (nP T) (pwN T (Int.toNat (prF b (te b c) (N 1) (nP T) 0)) (nQ T) ||| 2 ^ (Int.toNat (prF b (te b c) (N 1) (nP T) 0))) = prF b (te b (te b c)) (N 1) (nP T) 0 := prF_r0 (by omega)
      exact h0 _ (by unfold pairF; (repeat (first | rw [if_pos (by omega)] | rw [if_neg (by omega)])); rw [er]; first | done | rfl) _ _ (((Fn.refl.trans hFb1.n).trans hFb3.n).trans hF4.n) (((Ln.refl.trans hLb1.n).trans hLb3.n).trans hL4) hE4
  · replace h_1 : prF b (te b c) (N 1) (nP T) 0 < 0 := h_1
    have x2_2 : J2 111 2 = (bad b (te b c) (-prF b (te b c) (N 1) (nP T) 0)).1 := hE2.1
    have xp_2 : 0 < (bad b (te b c) (-prF b (te b c) (N 1) (nP T) 0)).1 ∧ (bad b (te b c) (-prF b (te b c) (N 1) (nP T) 0)).1 ≤ 5 := hE2.2.2
    have x42_2 : J2 111 42 = T 0 11 := (hF2.2 42 (by decide) (by decide) (by decide) (by decide) (by decide) (by decide)).trans (by rw [hP1.f42])
    have x43_2 : J2 111 43 = T 0 12 := (hF2.2 43 (by decide) (by decide) (by decide) (by decide) (by decide) (by decide)).trans (by rw [hP1.f43])
    have x44_2 : J2 111 44 = T 0 13 := (hF2.2 44 (by decide) (by decide) (by decide) (by decide) (by decide) (by decide)).trans (by rw [hP1.f44])
    refine wp_eqst (st' := [vI 0]) rfl ?_
    refine wp_iret (pc := 9) dX11_oldPerson_9 rfl rfl ?_
    refine wp_eqst (st' := [vI 0]) rfl ?_
    refine wq_istore_n (pc := 8) 1 [some (vR 111), some (vI 0), none, none] dX11_readPair_8 rfl rfl (by decide) rfl ?_
    refine wp_aload_n (pc := 9) 0 dX11_readPair_9 rfl rfl ?_
    refine wp_geti (pc := 10) dX11_readPair_10 rfl f_X11_185 kd_111 la_111 (Or.inl rfl) ?_
    refine wp_eqst (st' := [vI ((bad b (te b c) (-prF b (te b c) (N 1) (nP T) 0)).1)]) (by rw [x2_2]) ?_
    refine wp_if_ne (pc := 13) 20 dX11_readPair_13 (by decide) (by omega) (fun _ => ?_) (fun hh => absurd hh (by omega))
    refine wp_aload_n (pc := 20) 0 dX11_readPair_20 rfl rfl ?_
    refine wp_callV (pc := 21) (st := []) (nf' := 153) [] [some (vR 111)] dX11_readPair_21 rfl c_X11_337 rfl kd_111 (by decide) rfl la_111 rfl (Nat.le_of_ble_eq_true rfl) rfl (Nat.le_of_ble_eq_true rfl) (by omega) (Nat.le_refl _) (Nat.le_refl _) ?_
    refine wp_aload_n (pc := 0) 0 dX11_oldPerson_0 rfl rfl ?_
    refine wp_iconst (pc := 1) dX11_oldPerson_1 ?_
    refine wp_aload_n (pc := 2) 0 dX11_oldPerson_2 rfl rfl ?_
    refine wp_geti (pc := 3) dX11_oldPerson_3 rfl f_X11_258 kd_111 la_111 (Or.inl rfl) ?_
    refine wp_eqst (st' := [vI (T 0 12), vI 4, vR 111]) (by rw [x43_2]) ?_
    refine wp_callV (pc := 6) (st := []) (nf' := 153) [vI 4, vI (T 0 12)] [some (vR 111), some (vI 4), some (vI (T 0 12))] dX11_oldPerson_6 rfl c_X11_261 rfl kd_111 (by decide) rfl la_111 rfl (Nat.le_of_ble_eq_true rfl) rfl (Nat.le_of_ble_eq_true rfl) (by omega) (Nat.le_refl _) (Nat.le_refl _) ?_
    refine rz_oldName1 hE2 (by omega) ?_
    refine wp_eqst (st' := [vI 0]) rfl ?_
    refine wp_iret (pc := 9) dX11_oldPerson_9 rfl rfl ?_
    refine wp_eqst (st' := [vI 0]) rfl ?_
    refine wq_istore_n (pc := 24) 2 [some (vR 111), some (vI 0), some (vI 0), none] dX11_readPair_24 rfl rfl (by decide) rfl ?_
    refine wp_aload_n (pc := 25) 0 dX11_readPair_25 rfl rfl ?_
    refine wp_geti (pc := 26) dX11_readPair_26 rfl f_X11_185 kd_111 la_111 (Or.inl rfl) ?_
    refine wp_eqst (st' := [vI ((bad b (te b c) (-prF b (te b c) (N 1) (nP T) 0)).1)]) (by rw [x2_2]) ?_
    refine wp_if_ne (pc := 29) 51 dX11_readPair_29 (by decide) (by omega) (fun _ => ?_) (fun hh => absurd hh (by omega))
    refine wp_aload_n (pc := 51) 0 dX11_readPair_51 rfl rfl ?_
    refine wp_geti (pc := 52) dX11_readPair_52 rfl f_X11_185 kd_111 la_111 (Or.inl rfl) ?_
    refine wp_eqst (st' := [vI ((bad b (te b c) (-prF b (te b c) (N 1) (nP T) 0)).1)]) (by rw [x2_2]) ?_
    refine wp_if_le (pc := 55) 59 dX11_readPair_55 (by decide) (by omega) (fun hh => absurd hh (by omega)) (fun _ => ?_)
    refine wp_vret (pc := 58) dX11_readPair_58 rfl rfl ?_
    exact h0 _ (by unfold pairF; (repeat (first | rw [if_pos (by omega)] | rw [if_neg (by omega)])); first | done | rfl) _ _ ((Fn.refl.trans hFb1.n).trans hF2.n) ((Ln.refl.trans hLb1.n).trans hL2) hE2
