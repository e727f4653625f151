/-! THE REFERENCE's lines -/
theorem rs_newName0 {l : Launch} {G : mG} {d : Nat} {I : mI} {L : Nat → Nat → Int} {D : Nat → Nat} {Q : mQ} {b g : Nat → Int} {n c : Nat} {T N : mT} {mo : Nat} {m_ : Int} (hm_ : m_ = ((nC T : Nat) : Int)) (hP : RD I L b g n c T N mo) (hs3 : ts b c ≠ 3) (hlt : nC T < 4) (hd : 2 ≤ d) (h1 : nwF b (te b c) (N 0) (nC T) = 0 → ∀ J M, Fb I J → Ln L M → RD J M b g n (te b (te b c)) T (setT N 0 (nC T) (w5 b (te b c))) mo → nmR (w5 b (te b c)) (M 113 (nC T)) → Q none J (XX M D)) (h0 : ¬ nwF b (te b c) (N 0) (nC T) = 0 → ∀ J M, Fe I J → Ln L M → RE J (bad b (te b c) (nwF b (te b c) (N 0) (nC T))) → Q none J (XX M D)) : WP l G m_X11_newName d 153 I (XX L D) 0 [some (vR 111), some (vI 0), some (vI m_)] [] Q := by
  subst hm_
  have kw := wi_in b c
  have tr := ts_rng b c
  have i8 := hP.2.2.1.2.2.1.1
  have l9 := hP.2.2.1.2.2.2.2.1
  have hw := hP.tw
  have hb := hP.1.1
  have b_c := tw_c hw
  have b_p := tw_p hw
  have b_q := tw_q hw
  have b_v := tw_vows hw
  have eC : nC T = (T 0 11).toNat := rfl
  have eP : nP T = (T 0 12).toNat := rfl
  have eQ : nQ T = (T 0 13).toNat := rfl
  refine wp_aload_n (pc := 0) 0 dX11_newName_0 rfl rfl ?_
  refine wp_callV (pc := 1) (st := []) (nf' := 153) [] [some (vR 111), none, none] dX11_newName_1 rfl c_X11_241 rfl kd_111 (by decide) rfl la_111 rfl (Nat.le_of_ble_eq_true rfl) rfl (Nat.le_of_ble_eq_true rfl) (by omega) (Nat.le_refl _) (Nat.le_refl _) ?_
  have n31 : ts b c ≠ 3 := (by first | exact n3_k (by omega) | exact n3_4 (by omega) | exact n3_w (by omega) | exact n3_s (by omega) | omega)
  have hz1 : RD (I) (L) b g n c T N mo := hP
  refine rs_token hz1.1 hz1.nx (hz1.q4 n31) (by omega) (fun J1 M1 hFb1 hLb1 hTk1 => ?_)
  have hP1 := hz1.adv hz1.nx hFb1 hLb1 hTk1
  have kw_1 := wi_in b (te b c)
  have tr_1 := ts_rng b (te b c)
  have i8_1 := hP1.2.2.1.2.2.1.1
  have l9_1 := hP1.2.2.1.2.2.2.2.1
  refine wp_eqst (st' := []) rfl ?_
  refine wp_aload_n (pc := 4) 0 dX11_newName_4 rfl rfl ?_
  refine wp_callV (pc := 5) (st := []) (nf' := 153) [] [some (vR 111)] dX11_newName_5 rfl c_X11_252 rfl kd_111 (by decide) rfl la_111 rfl (Nat.le_of_ble_eq_true rfl) rfl (Nat.le_of_ble_eq_true rfl) (by omega) (Nat.le_refl _) (Nat.le_refl _) ?_
  refine rs_isName hP1.1.1 hP1.2.1 hP1.2.2.1 (by omega) (fun h_1 => ?_) (fun h_1 => ?_)
  · refine wp_eqst (st' := [vI 1]) rfl ?_
    refine wp_if_ne (pc := 8) 19 dX11_newName_8 (by decide) (by decide) (fun _ => ?_) (fun hh => absurd hh (by decide))
    refine wp_aload_n (pc := 19) 0 dX11_newName_19 rfl rfl ?_
    refine wp_iload_n (pc := 20) 1 dX11_newName_20 rfl rfl ?_
    refine wp_iload_n (pc := 21) 2 dX11_newName_21 rfl rfl ?_
    refine wp_callV (pc := 22) (st := []) (nf' := 153) [vI 0, vI ((nC T : Nat) : Int)] [some (vR 111), some (vI 0), some (vI ((nC T : Nat) : Int)), none, none] dX11_newName_22 rfl c_X11_255 rfl kd_111 (by decide) rfl la_111 rfl (Nat.le_of_ble_eq_true rfl) rfl (Nat.le_of_ble_eq_true rfl) (by omega) (Nat.le_refl _) (Nat.le_refl _) ?_
    refine rs_find0 (nC T) rfl hP1 (by omega) (k2_w (by omega)) (by omega) ?_
    have fi2 := fnd_in (N 0) (w5 b (te b c)) (nC T)
    refine wp_eqst (st' := [vI (fnd (N 0) (w5 b (te b c)) (nC T))]) rfl ?_
    refine wp_if_lt (pc := 25) 33 dX11_newName_25 (by decide) (by omega) (fun h_2 => ?_) (fun h_2 => ?_)
    · refine wp_aload_n (pc := 33) 0 dX11_newName_33 rfl rfl ?_
      refine wp_geti (pc := 34) dX11_newName_34 rfl f_X11_185 kd_111 la_111 (Or.inl rfl) ?_
      refine wp_eqst (st' := [vI 0]) (by rw [hP1.2.2.2.1.1]) ?_
      refine wp_if_le (pc := 37) 41 dX11_newName_37 (by decide) (by decide) (fun _ => ?_) (fun hh => absurd hh (by decide))
      refine wp_aload_n (pc := 41) 0 dX11_newName_41 rfl rfl ?_
      refine wp_getr (pc := 42) dX11_newName_42 rfl f_X11_17 kd_111 la_111 rfl (r_111_10 D) ?_
      refine wp_iload_n (pc := 45) 1 dX11_newName_45 rfl rfl ?_
      refine wp_iload_n (pc := 46) 2 dX11_newName_46 rfl rfl ?_
      refine wp_iadd (pc := 47) dX11_newName_47 ?_
      refine wp_aload_n (pc := 48) 0 dX11_newName_48 rfl rfl ?_
      refine wp_getl (pc := 49) dX11_newName_49 rfl f_X11_165 kd_111 la_111 rfl ?_
      refine wp_eqst (st' := [vJ (M1 111 9), vI (0 + ((nC T : Nat) : Int)), vR 113]) rfl ?_
      refine wq_last (pc := 52) (nC T) dX11_newName_52 kd_113 la_113 (by omega) (by omega) ?_
      have t1 : ts b (te b c) = 1 := k2_w (by omega)
      have hn3 := hP1.nm0 t1 (by omega)
      have hr3 := hP1.nmr t1
      refine wp_aload_n (pc := 53) 0 dX11_newName_53 rfl rfl ?_
      refine wp_callV (pc := 54) (st := []) (nf' := 153) [] [some (vR 111), none, none] dX11_newName_54 rfl c_X11_241 rfl kd_111 (by decide) rfl la_111 rfl (Nat.le_of_ble_eq_true rfl) rfl (Nat.le_of_ble_eq_true rfl) (by omega) (Nat.le_refl _) (Nat.le_refl _) ?_
      have n34 : ts b (te b c) ≠ 3 := (by first | exact n3_k (by omega) | exact n3_4 (by omega) | exact n3_w (by omega) | exact n3_s (by omega) | omega)
      have hz4 : RD (J1) (upL M1 113 (nC T) (M1 111 9)) b g n (te b c) T (setT N 0 (nC T) (w5 b (te b c))) mo := hn3
      refine rs_token hz4.1 hz4.nx (hz4.q4 n34) (by omega) (fun J4 M4 hFb4 hLb4 hTk4 => ?_)
      have hP4 := hz4.adv hz4.nx hFb4 hLb4 hTk4
      have kw_4 := wi_in b (te b (te b c))
      have tr_4 := ts_rng b (te b (te b c))
      have i8_4 := hP4.2.2.1.2.2.1.1
      have l9_4 := hP4.2.2.1.2.2.2.2.1
      refine wp_eqst (st' := []) rfl ?_
      refine wp_vret (pc := 57) dX11_newName_57 rfl rfl ?_
      exact h1 (nwF_0 (by omega) (by omega)) _ _ ((Fb.refl.trans hFb1).trans hFb4) (((Ln.refl.trans hLb1.n).trans Ln.refl.wr).trans hLb4.n) hP4 (by rw [hLb4 113 (by decide), upL_s]; exact hr3)
    · refine wp_aload_n (pc := 28) 0 dX11_newName_28 rfl rfl ?_
      refine wp_iconst (pc := 29) dX11_newName_29 ?_
      refine wp_callV (pc := 30) (st := []) (nf' := 153) [vI 3] [some (vR 111), some (vI 3)] dX11_newName_30 rfl c_X11_238 rfl kd_111 (by decide) rfl la_111 rfl (Nat.le_of_ble_eq_true rfl) rfl (Nat.le_of_ble_eq_true rfl) (by omega) (Nat.le_refl _) (Nat.le_refl _) ?_
      have hz5 : RD (J1) (M1) b g n (te b c) T N mo := hP1
      refine rs_wrong hz5.2.2.1 hz5.2.2.2.1.1 (by omega) (by omega) ?_
      refine wp_gen (fun J => Fe (J1) J ∧ RE J (bad b (te b c) 3)) ⟨Fe.bad, RD.bad (by omega)⟩ (fun J5 hJ5 => ?_)
      have x2_5 : J5 111 2 = (bad b (te b c) 3).1 := hJ5.2.1
      have xp_5 : 0 < (bad b (te b c) 3).1 ∧ (bad b (te b c) 3).1 ≤ 5 := hJ5.2.2.2
      have x42_5 : J5 111 42 = T 0 11 := (hJ5.1.2 42 (by decide) (by decide) (by decide) (by decide) (by decide) (by decide)).trans (by rw [hP1.f42])
      have x43_5 : J5 111 43 = T 0 12 := (hJ5.1.2 43 (by decide) (by decide) (by decide) (by decide) (by decide) (by decide)).trans (by rw [hP1.f43])
      have x44_5 : J5 111 44 = T 0 13 := (hJ5.1.2 44 (by decide) (by decide) (by decide) (by decide) (by decide) (by decide)).trans (by rw [hP1.f44])
      refine wp_eqst (st' := []) rfl ?_
      refine wp_aload_n (pc := 33) 0 dX11_newName_33 rfl rfl ?_
      refine wp_geti (pc := 34) dX11_newName_34 rfl f_X11_185 kd_111 la_111 (Or.inl rfl) ?_
      refine wp_eqst (st' := [vI ((bad b (te b c) 3).1)]) (by rw [x2_5]) ?_
      refine wp_if_le (pc := 37) 41 dX11_newName_37 (by decide) (by omega) (fun hh => absurd hh (by omega)) (fun _ => ?_)
      refine wp_vret (pc := 40) dX11_newName_40 rfl rfl ?_
      have en : nwF b (te b c) (N 0) (nC T) = 3 := nwF_3 (by omega) (by omega)
      rw [en] at h0; exact h0 (by decide) _ _ ((Fb.refl.trans hFb1).te hJ5.1) (Ln.refl.trans hLb1.n) hJ5.2
  · refine wp_eqst (st' := [vI 0]) rfl ?_
    refine wp_if_ne (pc := 8) 19 dX11_newName_8 (by decide) (by decide) (fun hh => absurd hh (by decide)) (fun _ => ?_)
    refine wp_aload_n (pc := 11) 0 dX11_newName_11 rfl rfl ?_
    refine wp_iconst (pc := 12) dX11_newName_12 ?_
    refine wp_callV (pc := 13) (st := []) (nf' := 153) [vI 2] [some (vR 111), some (vI 2)] dX11_newName_13 rfl c_X11_238 rfl kd_111 (by decide) rfl la_111 rfl (Nat.le_of_ble_eq_true rfl) rfl (Nat.le_of_ble_eq_true rfl) (by omega) (Nat.le_refl _) (Nat.le_refl _) ?_
    have hz6 : RD (J1) (M1) b g n (te b c) T N mo := hP1
    refine rs_wrong hz6.2.2.1 hz6.2.2.2.1.1 (by omega) (by omega) ?_
    refine wp_gen (fun J => Fe (J1) J ∧ RE J (bad b (te b c) 2)) ⟨Fe.bad, RD.bad (by omega)⟩ (fun J6 hJ6 => ?_)
    have x2_6 : J6 111 2 = (bad b (te b c) 2).1 := hJ6.2.1
    have xp_6 : 0 < (bad b (te b c) 2).1 ∧ (bad b (te b c) 2).1 ≤ 5 := hJ6.2.2.2
    have x42_6 : J6 111 42 = T 0 11 := (hJ6.1.2 42 (by decide) (by decide) (by decide) (by decide) (by decide) (by decide)).trans (by rw [hP1.f42])
    have x43_6 : J6 111 43 = T 0 12 := (hJ6.1.2 43 (by decide) (by decide) (by decide) (by decide) (by decide) (by decide)).trans (by rw [hP1.f43])
    have x44_6 : J6 111 44 = T 0 13 := (hJ6.1.2 44 (by decide) (by decide) (by decide) (by decide) (by decide) (by decide)).trans (by rw [hP1.f44])
    refine wp_eqst (st' := []) rfl ?_
    refine wp_goto (pc := 16) 33 dX11_newName_16 (by decide) ?_
    refine wp_aload_n (pc := 33) 0 dX11_newName_33 rfl rfl ?_
    refine wp_geti (pc := 34) dX11_newName_34 rfl f_X11_185 kd_111 la_111 (Or.inl rfl) ?_
    refine wp_eqst (st' := [vI ((bad b (te b c) 2).1)]) (by rw [x2_6]) ?_
    refine wp_if_le (pc := 37) 41 dX11_newName_37 (by decide) (by omega) (fun hh => absurd hh (by omega)) (fun _ => ?_)
    refine wp_vret (pc := 40) dX11_newName_40 rfl rfl ?_
    have en : nwF b (te b c) (N 0) (nC T) = 2 := nwF_2 (by omega)
    rw [en] at h0; exact h0 (by decide) _ _ ((Fb.refl.trans hFb1).te hJ6.1) (Ln.refl.trans hLb1.n) hJ6.2

theorem rs_newName1 {l : Launch} {G : mG} {d : Nat} {I : mI} {L : Nat → Nat → Int} {D : Nat → Nat} {Q : mQ} {b g : Nat → Int} {n c : Nat} {T N : mT} {mo : Nat} {m_ : Int} (hm_ : m_ = ((nP T : Nat) : Int)) (hP : RD I L b g n c T N mo) (hs3 : ts b c ≠ 3) (hlt : nP T < 8) (hd : 2 ≤ d) (h1 : nwF b (te b c) (N 1) (nP T) = 0 → ∀ J M, Fb I J → Ln L M → RD J M b g n (te b (te b c)) T (setT N 1 (nP T) (w5 b (te b c))) mo → nmR (w5 b (te b c)) (M 113 (4 + nP T)) → Q none J (XX M D)) (h0 : ¬ nwF b (te b c) (N 1) (nP T) = 0 → ∀ J M, Fe I J → Ln L M → RE J (bad b (te b c) (nwF b (te b c) (N 1) (nP T))) → Q none J (XX M D)) : WP l G m_X11_newName d 153 I (XX L D) 0 [some (vR 111), some (vI 4), some (vI m_)] [] Q := by
  subst hm_
  have kw := wi_in b c
  have tr := ts_rng b c
  have i8 := hP.2.2.1.2.2.1.1
  have l9 := hP.2.2.1.2.2.2.2.1
  have hw := hP.tw
  have hb := hP.1.1
  have b_c := tw_c hw
  have b_p := tw_p hw
  have b_q := tw_q hw
  have b_v := tw_vows hw
  have eC : nC T = (T 0 11).toNat := rfl
  have eP : nP T = (T 0 12).toNat := rfl
  have eQ : nQ T = (T 0 13).toNat := rfl
  refine wp_aload_n (pc := 0) 0 dX11_newName_0 rfl rfl ?_
  refine wp_callV (pc := 1) (st := []) (nf' := 153) [] [some (vR 111), none, none] dX11_newName_1 rfl c_X11_241 rfl kd_111 (by decide) rfl la_111 rfl (Nat.le_of_ble_eq_true rfl) rfl (Nat.le_of_ble_eq_true rfl) (by omega) (Nat.le_refl _) (Nat.le_refl _) ?_
  have n31 : ts b c ≠ 3 := (by first | exact n3_k (by omega) | exact n3_4 (by omega) | exact n3_w (by omega) | exact n3_s (by omega) | omega)
  have hz1 : RD (I) (L) b g n c T N mo := hP
  refine rs_token hz1.1 hz1.nx (hz1.q4 n31) (by omega) (fun J1 M1 hFb1 hLb1 hTk1 => ?_)
  have hP1 := hz1.adv hz1.nx hFb1 hLb1 hTk1
  have kw_1 := wi_in b (te b c)
  have tr_1 := ts_rng b (te b c)
  have i8_1 := hP1.2.2.1.2.2.1.1
  have l9_1 := hP1.2.2.1.2.2.2.2.1
  refine wp_eqst (st' := []) rfl ?_
  refine wp_aload_n (pc := 4) 0 dX11_newName_4 rfl rfl ?_
  refine wp_callV (pc := 5) (st := []) (nf' := 153) [] [some (vR 111)] dX11_newName_5 rfl c_X11_252 rfl kd_111 (by decide) rfl la_111 rfl (Nat.le_of_ble_eq_true rfl) rfl (Nat.le_of_ble_eq_true rfl) (by omega) (Nat.le_refl _) (Nat.le_refl _) ?_
  refine rs_isName hP1.1.1 hP1.2.1 hP1.2.2.1 (by omega) (fun h_1 => ?_) (fun h_1 => ?_)
  · refine wp_eqst (st' := [vI 1]) rfl ?_
    refine wp_if_ne (pc := 8) 19 dX11_newName_8 (by decide) (by decide) (fun _ => ?_) (fun hh => absurd hh (by decide))
    refine wp_aload_n (pc := 19) 0 dX11_newName_19 rfl rfl ?_
    refine wp_iload_n (pc := 20) 1 dX11_newName_20 rfl rfl ?_
    refine wp_iload_n (pc := 21) 2 dX11_newName_21 rfl rfl ?_
    refine wp_callV (pc := 22) (st := []) (nf' := 153) [vI 4, vI ((nP T : Nat) : Int)] [some (vR 111), some (vI 4), some (vI ((nP T : Nat) : Int)), none, none] dX11_newName_22 rfl c_X11_255 rfl kd_111 (by decide) rfl la_111 rfl (Nat.le_of_ble_eq_true rfl) rfl (Nat.le_of_ble_eq_true rfl) (by omega) (Nat.le_refl _) (Nat.le_refl _) ?_
    refine rs_find1 (nP T) rfl hP1 (by omega) (k2_w (by omega)) (by omega) ?_
    have fi2 := fnd_in (N 1) (w5 b (te b c)) (nP T)
    refine wp_eqst (st' := [vI (fnd (N 1) (w5 b (te b c)) (nP T))]) rfl ?_
    refine wp_if_lt (pc := 25) 33 dX11_newName_25 (by decide) (by omega) (fun h_2 => ?_) (fun h_2 => ?_)
    · refine wp_aload_n (pc := 33) 0 dX11_newName_33 rfl rfl ?_
      refine wp_geti (pc := 34) dX11_newName_34 rfl f_X11_185 kd_111 la_111 (Or.inl rfl) ?_
      refine wp_eqst (st' := [vI 0]) (by rw [hP1.2.2.2.1.1]) ?_
      refine wp_if_le (pc := 37) 41 dX11_newName_37 (by decide) (by decide) (fun _ => ?_) (fun hh => absurd hh (by decide))
      refine wp_aload_n (pc := 41) 0 dX11_newName_41 rfl rfl ?_
      refine wp_getr (pc := 42) dX11_newName_42 rfl f_X11_17 kd_111 la_111 rfl (r_111_10 D) ?_
      refine wp_iload_n (pc := 45) 1 dX11_newName_45 rfl rfl ?_
      refine wp_iload_n (pc := 46) 2 dX11_newName_46 rfl rfl ?_
      refine wp_iadd (pc := 47) dX11_newName_47 ?_
      refine wp_aload_n (pc := 48) 0 dX11_newName_48 rfl rfl ?_
      refine wp_getl (pc := 49) dX11_newName_49 rfl f_X11_165 kd_111 la_111 rfl ?_
      refine wp_eqst (st' := [vJ (M1 111 9), vI (4 + ((nP T : Nat) : Int)), vR 113]) rfl ?_
      refine wq_last (pc := 52) (4 + (nP T)) dX11_newName_52 kd_113 la_113 (by omega) (by omega) ?_
      have t1 : ts b (te b c) = 1 := k2_w (by omega)
      have hn3 := hP1.nm1 t1
      have hr3 := hP1.nmr t1
      refine wp_aload_n (pc := 53) 0 dX11_newName_53 rfl rfl ?_
      refine wp_callV (pc := 54) (st := []) (nf' := 153) [] [some (vR 111), none, none] dX11_newName_54 rfl c_X11_241 rfl kd_111 (by decide) rfl la_111 rfl (Nat.le_of_ble_eq_true rfl) rfl (Nat.le_of_ble_eq_true rfl) (by omega) (Nat.le_refl _) (Nat.le_refl _) ?_
      have n34 : ts b (te b c) ≠ 3 := (by first | exact n3_k (by omega) | exact n3_4 (by omega) | exact n3_w (by omega) | exact n3_s (by omega) | omega)
      have hz4 : RD (J1) (upL M1 113 (4 + (nP T)) (M1 111 9)) b g n (te b c) T (setT N 1 (nP T) (w5 b (te b c))) mo := hn3
      refine rs_token hz4.1 hz4.nx (hz4.q4 n34) (by omega) (fun J4 M4 hFb4 hLb4 hTk4 => ?_)
      have hP4 := hz4.adv hz4.nx hFb4 hLb4 hTk4
      have kw_4 := wi_in b (te b (te b c))
      have tr_4 := ts_rng b (te b (te b c))
      have i8_4 := hP4.2.2.1.2.2.1.1
      have l9_4 := hP4.2.2.1.2.2.2.2.1
      refine wp_eqst (st' := []) rfl ?_
      refine wp_vret (pc := 57) dX11_newName_57 rfl rfl ?_
      exact h1 (nwF_0 (by omega) (by omega)) _ _ ((Fb.refl.trans hFb1).trans hFb4) (((Ln.refl.trans hLb1.n).trans Ln.refl.wr).trans hLb4.n) hP4 (by rw [hLb4 113 (by decide), upL_s]; exact hr3)
    · refine wp_aload_n (pc := 28) 0 dX11_newName_28 rfl rfl ?_
      refine wp_iconst (pc := 29) dX11_newName_29 ?_
      refine wp_callV (pc := 30) (st := []) (nf' := 153) [vI 3] [some (vR 111), some (vI 3)] dX11_newName_30 rfl c_X11_238 rfl kd_111 (by decide) rfl la_111 rfl (Nat.le_of_ble_eq_true rfl) rfl (Nat.le_of_ble_eq_true rfl) (by omega) (Nat.le_refl _) (Nat.le_refl _) ?_
      have hz5 : RD (J1) (M1) b g n (te b c) T N mo := hP1
      refine rs_wrong hz5.2.2.1 hz5.2.2.2.1.1 (by omega) (by omega) ?_
      refine wp_gen (fun J => Fe (J1) J ∧ RE J (bad b (te b c) 3)) ⟨Fe.bad, RD.bad (by omega)⟩ (fun J5 hJ5 => ?_)
      have x2_5 : J5 111 2 = (bad b (te b c) 3).1 := hJ5.2.1
      have xp_5 : 0 < (bad b (te b c) 3).1 ∧ (bad b (te b c) 3).1 ≤ 5 := hJ5.2.2.2
      have x42_5 : J5 111 42 = T 0 11 := (hJ5.1.2 42 (by decide) (by decide) (by decide) (by decide) (by decide) (by decide)).trans (by rw [hP1.f42])
      have x43_5 : J5 111 43 = T 0 12 := (hJ5.1.2 43 (by decide) (by decide) (by decide) (by decide) (by decide) (by decide)).trans (by rw [hP1.f43])
      have x44_5 : J5 111 44 = T 0 13 := (hJ5.1.2 44 (by decide) (by decide) (by decide) (by decide) (by decide) (by decide)).trans (by rw [hP1.f44])
      refine wp_eqst (st' := []) rfl ?_
      refine wp_aload_n (pc := 33) 0 dX11_newName_33 rfl rfl ?_
      refine wp_geti (pc := 34) dX11_newName_34 rfl f_X11_185 kd_111 la_111 (Or.inl rfl) ?_
      refine wp_eqst (st' := [vI ((bad b (te b c) 3).1)]) (by rw [x2_5]) ?_
      refine wp_if_le (pc := 37) 41 dX11_newName_37 (by decide) (by omega) (fun hh => absurd hh (by omega)) (fun _ => ?_)
      refine wp_vret (pc := 40) dX11_newName_40 rfl rfl ?_
      have en : nwF b (te b c) (N 1) (nP T) = 3 := nwF_3 (by omega) (by omega)
      rw [en] at h0; exact h0 (by decide) _ _ ((Fb.refl.trans hFb1).te hJ5.1) (Ln.refl.trans hLb1.n) hJ5.2
  · refine wp_eqst (st' := [vI 0]) rfl ?_
    refine wp_if_ne (pc := 8) 19 dX11_newName_8 (by decide) (by decide) (fun hh => absurd hh (by decide)) (fun _ => ?_)
    refine wp_aload_n (pc := 11) 0 dX11_newName_11 rfl rfl ?_
    refine wp_iconst (pc := 12) dX11_newName_12 ?_
    refine wp_callV (pc := 13) (st := []) (nf' := 153) [vI 2] [some (vR 111), some (vI 2)] dX11_newName_13 rfl c_X11_238 rfl kd_111 (by decide) rfl la_111 rfl (Nat.le_of_ble_eq_true rfl) rfl (Nat.le_of_ble_eq_true rfl) (by omega) (Nat.le_refl _) (Nat.le_refl _) ?_
    have hz6 : RD (J1) (M1) b g n (te b c) T N mo := hP1
    refine rs_wrong hz6.2.2.1 hz6.2.2.2.1.1 (by omega) (by omega) ?_
    refine wp_gen (fun J => Fe (J1) J ∧ RE J (bad b (te b c) 2)) ⟨Fe.bad, RD.bad (by omega)⟩ (fun J6 hJ6 => ?_)
    have x2_6 : J6 111 2 = (bad b (te b c) 2).1 := hJ6.2.1
    have xp_6 : 0 < (bad b (te b c) 2).1 ∧ (bad b (te b c) 2).1 ≤ 5 := hJ6.2.2.2
    have x42_6 : J6 111 42 = T 0 11 := (hJ6.1.2 42 (by decide) (by decide) (by decide) (by decide) (by decide) (by decide)).trans (by rw [hP1.f42])
    have x43_6 : J6 111 43 = T 0 12 := (hJ6.1.2 43 (by decide) (by decide) (by decide) (by decide) (by decide) (by decide)).trans (by rw [hP1.f43])
    have x44_6 : J6 111 44 = T 0 13 := (hJ6.1.2 44 (by decide) (by decide) (by decide) (by decide) (by decide) (by decide)).trans (by rw [hP1.f44])
    refine wp_eqst (st' := []) rfl ?_
    refine wp_goto (pc := 16) 33 dX11_newName_16 (by decide) ?_
    refine wp_aload_n (pc := 33) 0 dX11_newName_33 rfl rfl ?_
    refine wp_geti (pc := 34) dX11_newName_34 rfl f_X11_185 kd_111 la_111 (Or.inl rfl) ?_
    refine wp_eqst (st' := [vI ((bad b (te b c) 2).1)]) (by rw [x2_6]) ?_
    refine wp_if_le (pc := 37) 41 dX11_newName_37 (by decide) (by omega) (fun hh => absurd hh (by omega)) (fun _ => ?_)
    refine wp_vret (pc := 40) dX11_newName_40 rfl rfl ?_
    have en : nwF b (te b c) (N 1) (nP T) = 2 := nwF_2 (by omega)
    rw [en] at h0; exact h0 (by decide) _ _ ((Fb.refl.trans hFb1).te hJ6.1) (Ln.refl.trans hLb1.n) hJ6.2

theorem rs_readChurch {l : Launch} {G : mG} {d : Nat} {I : mI} {L : Nat → Nat → Int} {D : Nat → Nat} {Q : mQ} {b g : Nat → Int} {n c : Nat} {T N : mT} {mo : Nat}   (hP : RD I L b g n c T N mo) (h4 : T 0 11 < 4) (hs3 : ts b c ≠ 3) (hd : 3 ≤ d) (h1 : ∀ c' T' N', churchF b c T N = .inr (c', T', N') → ∀ J M, Fn I J → Ln L M → RD J M b g n c' T' N' mo → Q none J (XX M D)) (h0 : ∀ er, churchF b c T N = .inl er → ∀ J M, Fn I J → Ln L M → RE J er → Q none J (XX M D)) : WP l G m_X11_readChurch d 153 I (XX L D) 0 [some (vR 111)] [] Q := by
  have kw := wi_in b c
  have tr := ts_rng b c
  have i8 := hP.2.2.1.2.2.1.1
  have l9 := hP.2.2.1.2.2.2.2.1
  have hw := hP.tw
  have hb := hP.1.1
  have b_c := tw_c hw
  have b_p := tw_p hw
  have b_q := tw_q hw
  have b_v := tw_vows hw
  have eC : nC T = (T 0 11).toNat := rfl
  have eP : nP T = (T 0 12).toNat := rfl
  have eQ : nQ T = (T 0 13).toNat := rfl
  refine wp_aload_n (pc := 0) 0 dX11_readChurch_0 rfl rfl ?_
  refine wp_iconst (pc := 1) dX11_readChurch_1 ?_
  refine wp_aload_n (pc := 2) 0 dX11_readChurch_2 rfl rfl ?_
  refine wp_geti (pc := 3) dX11_readChurch_3 rfl f_X11_264 kd_111 la_111 (Or.inl rfl) ?_
  refine wp_eqst (st' := [vI (T 0 11), vI 0, vR 111]) (by rw [hP.f42]) ?_
  refine wp_callV (pc := 6) (st := []) (nf' := 153) [vI 0, vI (T 0 11)] [some (vR 111), some (vI 0), some (vI (T 0 11))] dX11_readChurch_6 rfl c_X11_331 rfl kd_111 (by decide) rfl la_111 rfl (Nat.le_of_ble_eq_true rfl) rfl (Nat.le_of_ble_eq_true rfl) (by omega) (Nat.le_refl _) (Nat.le_refl _) ?_
  have hz1 : RD (I) (L) b g n c T N mo := hP
  refine rs_newName0 (by omega) hz1 (by first | exact n3_k (by omega) | exact n3_4 (by omega) | exact n3_w (by omega) | exact n3_s (by omega) | omega) (by omega) (by omega) (fun h_1 J1 M1 hFb1 hLn1 hP1 hnm1 => ?_) (fun h_1 J1 M1 hF1 hL1 hE1 => ?_)
  · have nk1 := nwF_ok h_1
    have kw_1 := wi_in b (te b (te b c))
    have tr_1 := ts_rng b (te b (te b c))
    have i8_1 := hP1.2.2.1.2.2.1.1
    have l9_1 := hP1.2.2.1.2.2.2.2.1
    refine wp_eqst (st' := []) rfl ?_
    refine wp_aload_n (pc := 9) 0 dX11_readChurch_9 rfl rfl ?_
    refine wp_geti (pc := 10) dX11_readChurch_10 rfl f_X11_185 kd_111 la_111 (Or.inl rfl) ?_
    refine wp_eqst (st' := [vI 0]) (by rw [hP1.2.2.2.1.1]) ?_
    refine wp_if_ne (pc := 13) 26 dX11_readChurch_13 (by decide) (by decide) (fun hh => absurd hh (by decide)) (fun _ => ?_)
    refine wp_aload_n (pc := 16) 0 dX11_readChurch_16 rfl rfl ?_
    refine wp_dup (pc := 17) dX11_readChurch_17 rfl ?_
    refine wp_geti (pc := 18) dX11_readChurch_18 rfl f_X11_264 kd_111 la_111 (Or.inl rfl) ?_
    refine wp_eqst (st' := [vI (T 0 11), vR 111]) (by rw [hP1.f42]) ?_
    refine wp_iconst (pc := 21) dX11_readChurch_21 ?_
    refine wp_iadd (pc := 22) dX11_readChurch_22 ?_
    refine wp_puti (pc := 23) dX11_readChurch_23 rfl f_X11_264 kd_111 la_111 (fun _ h => by cases h; rfl) rfl ?_
    refine wp_vret (pc := 26) dX11_readChurch_26 rfl rfl ?_
    have hf := hP1.incC (by omega) (by rw [setT_s]; exact hnm1) (fun j hj => by rw [setT_s, setT_j (by omega)]; exact fnd_m _ nk1.2 j hj)
    exact h1 _ _ _ (by unfold churchF; (repeat (first | rw [if_pos (by omega)] | rw [if_neg (by omega)])); first | done | rfl) _ _ ((Fn.refl.trans hFb1.n).wr (Or.inl ⟨rfl, by unfold rnSlot; omega⟩)) (Ln.refl.trans hLn1) hf
  · have x2_1 : J1 111 2 = (bad b (te b c) (nwF b (te b c) (N 0) (nC T))).1 := hE1.1
    have xp_1 : 0 < (bad b (te b c) (nwF b (te b c) (N 0) (nC T))).1 ∧ (bad b (te b c) (nwF b (te b c) (N 0) (nC T))).1 ≤ 5 := hE1.2.2
    have x42_1 : J1 111 42 = T 0 11 := (hF1.2 42 (by decide) (by decide) (by decide) (by decide) (by decide) (by decide)).trans (by rw [hP.f42])
    have x43_1 : J1 111 43 = T 0 12 := (hF1.2 43 (by decide) (by decide) (by decide) (by decide) (by decide) (by decide)).trans (by rw [hP.f43])
    have x44_1 : J1 111 44 = T 0 13 := (hF1.2 44 (by decide) (by decide) (by decide) (by decide) (by decide) (by decide)).trans (by rw [hP.f44])
    refine wp_eqst (st' := []) rfl ?_
    refine wp_aload_n (pc := 9) 0 dX11_readChurch_9 rfl rfl ?_
    refine wp_geti (pc := 10) dX11_readChurch_10 rfl f_X11_185 kd_111 la_111 (Or.inl rfl) ?_
    refine wp_eqst (st' := [vI ((bad b (te b c) (nwF b (te b c) (N 0) (nC T))).1)]) (by rw [x2_1]) ?_
    refine wp_if_ne (pc := 13) 26 dX11_readChurch_13 (by decide) (by omega) (fun _ => ?_) (fun hh => absurd hh (by omega))
    refine wp_vret (pc := 26) dX11_readChurch_26 rfl rfl ?_
    exact h0 _ (by unfold churchF; (repeat (first | rw [if_pos (by omega)] | rw [if_neg (by omega)])); first | done | rfl) _ _ (Fn.refl.trans hF1.n) (Ln.refl.trans hL1) hE1

theorem rs_readParents {l : Launch} {G : mG} {d : Nat} {I : mI} {L : Nat → Nat → Int} {D : Nat → Nat} {Q : mQ} {b g : Nat → Int} {n c : Nat} {T N : mT} {mo : Nat} {p_ : Int} (hp_ : p_ = ((nP T : Nat) : Int)) (hP : RD I L b g n c T N mo) (h8 : T 0 12 < 8) (hT1 : T 11 (nP T) = -1) (hT2 : T 12 (nP T) = -1) (hd : 4 ≤ d) (h1 : ∀ c' T', parF b c T N = .inr (c', T', N) → ∀ J M, Fn I J → Lb L M → RD J M b g n c' T' N mo → (J 122 (2 * nP T) = T' 11 (nP T) ∧ J 122 (2 * nP T + 1) = T' 12 (nP T)) → (∀ a, a ≠ 111 → a ≠ 122 → J a = I a) → Q none J (XX M D)) (h0 : ∀ er, parF b c T N = .inl er → ∀ J M, Fn I J → Ln L M → RE J er → Q none J (XX M D)) : WP l G m_X11_readParents d 153 I (XX L D) 0 [some (vR 111), some (vI p_), none] [] Q := by
  subst hp_
  have kw := wi_in b c
  have tr := ts_rng b c
  have i8 := hP.2.2.1.2.2.1.1
  have l9 := hP.2.2.1.2.2.2.2.1
  have hw := hP.tw
  have hb := hP.1.1
  have b_c := tw_c hw
  have b_p := tw_p hw
  have b_q := tw_q hw
  have b_v := tw_vows hw
  have eC : nC T = (T 0 11).toNat := rfl
  have eP : nP T = (T 0 12).toNat := rfl
  have eQ : nQ T = (T 0 13).toNat := rfl
  refine wp_aload_n (pc := 0) 0 dX11_readParents_0 rfl rfl ?_
  refine wp_getr (pc := 1) dX11_readParents_1 rfl f_X11_45 kd_111 la_111 rfl (r_111_26 D) ?_
  refine wp_iconst (pc := 4) dX11_readParents_4 ?_
  refine wp_iload_n (pc := 5) 1 dX11_readParents_5 rfl rfl ?_
  refine wp_imul (pc := 6) dX11_readParents_6 ?_
  refine wp_iconst (pc := 7) dX11_readParents_7 ?_
  refine wq_iast (pc := 8) (2 * (nP T)) dX11_readParents_8 kd_122 la_122 (by omega) (by omega) ?_
  refine wp_aload_n (pc := 9) 0 dX11_readParents_9 rfl rfl ?_
  refine wp_getr (pc := 10) dX11_readParents_10 rfl f_X11_45 kd_111 la_111 rfl (r_111_26 D) ?_
  refine wp_iconst (pc := 13) dX11_readParents_13 ?_
  refine wp_iload_n (pc := 14) 1 dX11_readParents_14 rfl rfl ?_
  refine wp_imul (pc := 15) dX11_readParents_15 ?_
  refine wp_iconst (pc := 16) dX11_readParents_16 ?_
  refine wp_iadd (pc := 17) dX11_readParents_17 ?_
  refine wp_iconst (pc := 18) dX11_readParents_18 ?_
  refine wq_iast (pc := 19) ((2 * (nP T)) + 1) dX11_readParents_19 kd_122 la_122 (by omega) (by omega) ?_
  refine wp_aload_n (pc := 20) 0 dX11_readParents_20 rfl rfl ?_
  refine wp_ldc2 (pc := 21) (z := 28518) dX11_readParents_21 rfl k_X11_194 rfl ?_
  refine wp_callV (pc := 24) (st := []) (nf' := 153) [vJ 28518] [some (vR 111), some (vJ 28518), none, none] dX11_readParents_24 rfl c_X11_334 rfl kd_111 (by decide) rfl la_111 rfl (Nat.le_of_ble_eq_true rfl) rfl (Nat.le_of_ble_eq_true rfl) (by omega) (Nat.le_refl _) (Nat.le_refl _) ?_
  have hz1 : RD (up (up I 122 (2 * (nP T)) (-1)) 122 ((2 * (nP T)) + 1) (-1)) (L) b g n c T N mo := ((hP.w (by unfold rnFree; omega)).w (by unfold rnFree; omega))
  refine rs_takes (k := 3) hz1 (by decide) rfl (by omega) (fun h_1 J1 M1 hFb1 hLb1 hP1 => ?_) (fun h_1 => ?_)
  · have nt1_0 : J1 122 ((2 * (nP T)) + 1) = -1 := (congrFun (hFb1.1 122 (by decide)) ((2 * (nP T)) + 1)).trans (by rw [up_s])
    have nt1_1 : J1 122 (2 * (nP T)) = -1 := (congrFun (hFb1.1 122 (by decide)) (2 * (nP T))).trans (by rw [up_j (by omega), up_s])
    have kw_1 := wi_in b (te b c)
    have tr_1 := ts_rng b (te b c)
    have i8_1 := hP1.2.2.1.2.2.1.1
    have l9_1 := hP1.2.2.1.2.2.2.2.1
    refine wp_eqst (st' := [vI 1]) rfl ?_
    refine wp_if_ne (pc := 27) 31 dX11_readParents_27 (by decide) (by decide) (fun _ => ?_) (fun hh => absurd hh (by decide))
    refine wp_aload_n (pc := 31) 0 dX11_readParents_31 rfl rfl ?_
    refine wp_getr (pc := 32) dX11_readParents_32 rfl f_X11_45 kd_111 la_111 rfl (r_111_26 D) ?_
    refine wp_iconst (pc := 35) dX11_readParents_35 ?_
    refine wp_iload_n (pc := 36) 1 dX11_readParents_36 rfl rfl ?_
    refine wp_imul (pc := 37) dX11_readParents_37 ?_
    refine wp_aload_n (pc := 38) 0 dX11_readParents_38 rfl rfl ?_
    refine wp_callV (pc := 39) (st := [vI (2 * ((nP T : Nat) : Int)), vR 122]) (nf' := 153) [] [some (vR 111)] dX11_readParents_39 rfl c_X11_337 rfl kd_111 (by decide) rfl la_111 rfl (Nat.le_of_ble_eq_true rfl) rfl (Nat.le_of_ble_eq_true rfl) (by omega) (Nat.le_refl _) (Nat.le_refl _) ?_
    refine wp_aload_n (pc := 0) 0 dX11_oldPerson_0 rfl rfl ?_
    refine wp_iconst (pc := 1) dX11_oldPerson_1 ?_
    refine wp_aload_n (pc := 2) 0 dX11_oldPerson_2 rfl rfl ?_
    refine wp_geti (pc := 3) dX11_oldPerson_3 rfl f_X11_258 kd_111 la_111 (Or.inl rfl) ?_
    refine wp_eqst (st' := [vI (T 0 12), vI 4, vR 111]) (by rw [hP1.f43]) ?_
    refine wp_callV (pc := 6) (st := []) (nf' := 153) [vI 4, vI (T 0 12)] [some (vR 111), some (vI 4), some (vI (T 0 12))] dX11_oldPerson_6 rfl c_X11_261 rfl kd_111 (by decide) rfl la_111 rfl (Nat.le_of_ble_eq_true rfl) rfl (Nat.le_of_ble_eq_true rfl) (by omega) (Nat.le_refl _) (Nat.le_refl _) ?_
    have hz2 : RD (J1) (M1) b g n (te b c) T N mo := hP1
    have ez2 : T 0 12 = ((nP T : Nat) : Int) := by have z1 := tw_p hz2.tw; have z2 : nP T = (T 0 12).toNat := rfl; omega
    refine rs_oldName1 (nP T) ez2 hz2 rfl (by omega) (fun h_2 => ?_) (fun h_2 J2 M2 hF2 hL2 hE2 => ?_)
    · replace h_2 : 0 ≤ prF b (te b c) (N 1) (nP T) 0 := h_2
      have pk2 := prF_ok h_2
      have pi2 := prF_in (b := b) (c := te b c) (N := N 1) (n := nP T) (rep := 0)
      refine wp_eqst (st' := [vI (prF b (te b c) (N 1) (nP T) 0)]) rfl ?_
      refine wp_iret (pc := 9) dX11_oldPerson_9 rfl rfl ?_
      refine wp_eqst (st' := [vI (prF b (te b c) (N 1) (nP T) 0), vI (2 * ((nP T : Nat) : Int)), vR 122]) rfl ?_
      refine wq_iast (pc := 42) (2 * (nP T)) dX11_readParents_42 kd_122 la_122 (by omega) (by omega) ?_
      refine wp_aload_n (pc := 43) 0 dX11_readParents_43 rfl rfl ?_
      refine wp_geti (pc := 44) dX11_readParents_44 rfl f_X11_185 kd_111 la_111 (Or.inl rfl) ?_
      refine wp_eqst (st' := [vI 0]) (by rw [up_c (by omega), hP1.2.2.2.1.1]) ?_
      refine wp_if_ne (pc := 47) 54 dX11_readParents_47 (by decide) (by decide) (fun hh => absurd hh (by decide)) (fun _ => ?_)
      refine wp_aload_n (pc := 50) 0 dX11_readParents_50 rfl rfl ?_
      refine wp_callV (pc := 51) (st := []) (nf' := 153) [] [some (vR 111), none, none] dX11_readParents_51 rfl c_X11_241 rfl kd_111 (by decide) rfl la_111 rfl (Nat.le_of_ble_eq_true rfl) rfl (Nat.le_of_ble_eq_true rfl) (by omega) (Nat.le_refl _) (Nat.le_refl _) ?_
      have n33 : ts b (te b c) ≠ 3 := (by first | exact n3_k (by omega) | exact n3_4 (by omega) | exact n3_w (by omega) | exact n3_s (by omega) | omega)
      have hz3 : RD (up J1 122 (2 * (nP T)) (prF b (te b c) (N 1) (nP T) 0)) (M1) b g n (te b c) T N mo := (hP1.w (by unfold rnFree; omega))
      refine rs_token hz3.1 hz3.nx (hz3.q4 n33) (by omega) (fun J3 M3 hFb3 hLb3 hTk3 => ?_)
      have hP3 := hz3.adv hz3.nx hFb3 hLb3 hTk3
      have nt3_0 : J3 122 (2 * (nP T)) = prF b (te b c) (N 1) (nP T) 0 := (congrFun (hFb3.1 122 (by decide)) (2 * (nP T))).trans (by rw [up_s])
      have nt3_1 : J3 122 ((2 * (nP T)) + 1) = -1 := (congrFun (hFb3.1 122 (by decide)) ((2 * (nP T)) + 1)).trans (by rw [up_j (by omega), nt1_0])
      have kw_3 := wi_in b (te b (te b c))
      have tr_3 := ts_rng b (te b (te b c))
      have i8_3 := hP3.2.2.1.2.2.1.1
      have l9_3 := hP3.2.2.1.2.2.2.2.1
      refine wp_eqst (st' := []) rfl ?_
      refine wp_aload_n (pc := 54) 0 dX11_readParents_54 rfl rfl ?_
      refine wp_ldc2 (pc := 55) (z := 6385252) dX11_readParents_55 rfl k_X11_196 rfl ?_
      refine wp_callV (pc := 58) (st := []) (nf' := 153) [vJ 6385252] [some (vR 111), some (vJ 6385252), none, none] dX11_readParents_58 rfl c_X11_334 rfl kd_111 (by decide) rfl la_111 rfl (Nat.le_of_ble_eq_true rfl) rfl (Nat.le_of_ble_eq_true rfl) (by omega) (Nat.le_refl _) (Nat.le_refl _) ?_
      have hz4 : RD (J3) (M3) b g n (te b (te b c)) T N mo := hP3
      refine rs_takes (k := 4) hz4 (by decide) rfl (by omega) (fun h_3 J4 M4 hFb4 hLb4 hP4 => ?_) (fun h_3 => ?_)
      · have nt4_0 : J4 122 (2 * (nP T)) = prF b (te b c) (N 1) (nP T) 0 := (congrFun (hFb4.1 122 (by decide)) (2 * (nP T))).trans (by rw [nt3_0])
        have nt4_1 : J4 122 ((2 * (nP T)) + 1) = -1 := (congrFun (hFb4.1 122 (by decide)) ((2 * (nP T)) + 1)).trans (by rw [nt3_1])
        have kw_4 := wi_in b (te b (te b (te b c)))
        have tr_4 := ts_rng b (te b (te b (te b c)))
        have i8_4 := hP4.2.2.1.2.2.1.1
        have l9_4 := hP4.2.2.1.2.2.2.2.1
        refine wp_eqst (st' := [vI 1]) rfl ?_
        refine wp_if_ne (pc := 61) 65 dX11_readParents_61 (by decide) (by decide) (fun _ => ?_) (fun hh => absurd hh (by decide))
        refine wp_aload_n (pc := 65) 0 dX11_readParents_65 rfl rfl ?_
        refine wp_callV (pc := 66) (st := []) (nf' := 153) [] [some (vR 111)] dX11_readParents_66 rfl c_X11_337 rfl kd_111 (by decide) rfl la_111 rfl (Nat.le_of_ble_eq_true rfl) rfl (Nat.le_of_ble_eq_true rfl) (by omega) (Nat.le_refl _) (Nat.le_refl _) ?_
        refine wp_aload_n (pc := 0) 0 dX11_oldPerson_0 rfl rfl ?_
        refine wp_iconst (pc := 1) dX11_oldPerson_1 ?_
        refine wp_aload_n (pc := 2) 0 dX11_oldPerson_2 rfl rfl ?_
        refine wp_geti (pc := 3) dX11_oldPerson_3 rfl f_X11_258 kd_111 la_111 (Or.inl rfl) ?_
        refine wp_eqst (st' := [vI (T 0 12), vI 4, vR 111]) (by rw [hP4.f43]) ?_
        refine wp_callV (pc := 6) (st := []) (nf' := 153) [vI 4, vI (T 0 12)] [some (vR 111), some (vI 4), some (vI (T 0 12))] dX11_oldPerson_6 rfl c_X11_261 rfl kd_111 (by decide) rfl la_111 rfl (Nat.le_of_ble_eq_true rfl) rfl (Nat.le_of_ble_eq_true rfl) (by omega) (Nat.le_refl _) (Nat.le_refl _) ?_
        have hz5 : RD (J4) (M4) b g n (te b (te b (te b c))) T N mo := hP4
        have ez5 : T 0 12 = ((nP T : Nat) : Int) := by have z1 := tw_p hz5.tw; have z2 : nP T = (T 0 12).toNat := rfl; omega
        refine rs_oldName1 (nP T) ez5 hz5 rfl (by omega) (fun h_4 => ?_) (fun h_4 J5 M5 hF5 hL5 hE5 => ?_)
        · replace h_4 : 0 ≤ prF b (te b (te b (te b c))) (N 1) (nP T) 0 := h_4
          have pk5 := prF_ok h_4
          have pi5 := prF_in (b := b) (c := te b (te b (te b c))) (N := N 1) (n := nP T) (rep := 0)
          refine wp_eqst (st' := [vI (prF b (te b (te b (te b c))) (N 1) (nP T) 0)]) rfl ?_
          refine wp_iret (pc := 9) dX11_oldPerson_9 rfl rfl ?_
          refine wp_eqst (st' := [vI (prF b (te b (te b (te b c))) (N 1) (nP T) 0)]) rfl ?_
          refine wq_istore_n (pc := 69) 2 [some (vR 111), some (vI ((nP T : Nat) : Int)), some (vI (prF b (te b (te b (te b c))) (N 1) (nP T) 0))] dX11_readParents_69 rfl rfl (by decide) rfl ?_
          refine wp_aload_n (pc := 70) 0 dX11_readParents_70 rfl rfl ?_
          refine wp_geti (pc := 71) dX11_readParents_71 rfl f_X11_185 kd_111 la_111 (Or.inl rfl) ?_
          refine wp_eqst (st' := [vI 0]) (by rw [hP4.2.2.2.1.1]) ?_
          refine wp_if_ne (pc := 74) 94 dX11_readParents_74 (by decide) (by decide) (fun hh => absurd hh (by decide)) (fun _ => ?_)
          refine wp_iload_n (pc := 77) 2 dX11_readParents_77 rfl rfl ?_
          refine wp_aload_n (pc := 78) 0 dX11_readParents_78 rfl rfl ?_
          refine wp_getr (pc := 79) dX11_readParents_79 rfl f_X11_45 kd_111 la_111 rfl (r_111_26 D) ?_
          refine wp_iconst (pc := 82) dX11_readParents_82 ?_
          refine wp_iload_n (pc := 83) 1 dX11_readParents_83 rfl rfl ?_
          refine wp_imul (pc := 84) dX11_readParents_84 ?_
          refine wq_iald (pc := 85) (2 * (nP T)) dX11_readParents_85 kd_122 la_122 (by omega) (by omega) ?_
          refine wp_eqst (st' := [vI (prF b (te b c) (N 1) (nP T) 0), vI (prF b (te b (te b (te b c))) (N 1) (nP T) 0)]) (by rw [nt4_0]) ?_
          refine wp_icmp_ne (pc := 86) 94 dX11_readParents_86 (by decide) (by omega) (by omega) (fun h_5 => ?_) (fun h_5 => ?_)
          · refine wp_aload_n (pc := 94) 0 dX11_readParents_94 rfl rfl ?_
            refine wp_getr (pc := 95) dX11_readParents_95 rfl f_X11_45 kd_111 la_111 rfl (r_111_26 D) ?_
            refine wp_iconst (pc := 98) dX11_readParents_98 ?_
            refine wp_iload_n (pc := 99) 1 dX11_readParents_99 rfl rfl ?_
            refine wp_imul (pc := 100) dX11_readParents_100 ?_
            refine wp_iconst (pc := 101) dX11_readParents_101 ?_
            refine wp_iadd (pc := 102) dX11_readParents_102 ?_
            refine wp_iload_n (pc := 103) 2 dX11_readParents_103 rfl rfl ?_
            refine wq_iast (pc := 104) ((2 * (nP T)) + 1) dX11_readParents_104 kd_122 la_122 (by omega) (by omega) ?_
            refine wp_aload_n (pc := 105) 0 dX11_readParents_105 rfl rfl ?_
            refine wp_geti (pc := 106) dX11_readParents_106 rfl f_X11_185 kd_111 la_111 (Or.inl rfl) ?_
            refine wp_eqst (st' := [vI 0]) (by rw [up_c (by omega), hP4.2.2.2.1.1]) ?_
            refine wp_if_ne (pc := 109) 116 dX11_readParents_109 (by decide) (by decide) (fun hh => absurd hh (by decide)) (fun _ => ?_)
            refine wp_aload_n (pc := 112) 0 dX11_readParents_112 rfl rfl ?_
            refine wp_callV (pc := 113) (st := []) (nf' := 153) [] [some (vR 111), none, none] dX11_readParents_113 rfl c_X11_241 rfl kd_111 (by decide) rfl la_111 rfl (Nat.le_of_ble_eq_true rfl) rfl (Nat.le_of_ble_eq_true rfl) (by omega) (Nat.le_refl _) (Nat.le_refl _) ?_
            have n36 : ts b (te b (te b (te b c))) ≠ 3 := (by first | exact n3_k (by omega) | exact n3_4 (by omega) | exact n3_w (by omega) | exact n3_s (by omega) | omega)
            have hz6 : RD (up J4 122 ((2 * (nP T)) + 1) (prF b (te b (te b (te b c))) (N 1) (nP T) 0)) (M4) b g n (te b (te b (te b c))) T N mo := (hP4.w (by unfold rnFree; omega))
            refine rs_token hz6.1 hz6.nx (hz6.q4 n36) (by omega) (fun J6 M6 hFb6 hLb6 hTk6 => ?_)
            have hP6 := hz6.adv hz6.nx hFb6 hLb6 hTk6
            have nt6_0 : J6 122 ((2 * (nP T)) + 1) = prF b (te b (te b (te b c))) (N 1) (nP T) 0 := (congrFun (hFb6.1 122 (by decide)) ((2 * (nP T)) + 1)).trans (by rw [up_s])
            have nt6_1 : J6 122 (2 * (nP T)) = prF b (te b c) (N 1) (nP T) 0 := (congrFun (hFb6.1 122 (by decide)) (2 * (nP T))).trans (by rw [up_j (by omega), nt4_0])
            have kw_6 := wi_in b (te b (te b (te b (te b c))))
            have tr_6 := ts_rng b (te b (te b (te b (te b c))))
            have i8_6 := hP6.2.2.1.2.2.1.1
            have l9_6 := hP6.2.2.1.2.2.2.2.1
            refine wp_eqst (st' := []) rfl ?_
            refine wp_vret (pc := 116) dX11_readParents_116 rfl rfl ?_
            have er : prF b (te b (te b (te b c))) (N 1) (nP T) (2 ^ (prF b (te b c) (N 1) (nP T) 0).toNat) = prF b (te b (te b (te b c))) (N 1) (nP T) 0 := prF_r2 (by omega) (by rw [Nat.testBit_two_pow]; intro z; have z := of_decide_eq_true z; omega)
            have hs1 := hP6.sT (k := 11) (v := prF b (te b c) (N 1) (nP T) 0) (by omega) (by unfold twB; omega)
            have hs2 := hs1.sT (k := 12) (v := prF b (te b (te b (te b c))) (N 1) (nP T) 0) (by omega) (by unfold twB; omega)
            rw [(setN_n (T := T) (k := 11) (j := nP T) (v := prF b (te b c) (N 1) (nP T) 0) (by decide)).1] at hs2
            refine h1 _ _ (by unfold parF; (repeat (first | rw [if_pos (by omega)] | rw [if_neg (by omega)])); rw [er]) _ _ ((((((((Fn.refl.wr (Or.inr ⟨by decide, by unfold rnCell; omega⟩)).wr (Or.inr ⟨by decide, by unfold rnCell; omega⟩)).trans hFb1.n).wr (Or.inr ⟨by decide, by unfold rnCell; omega⟩)).trans hFb3.n).trans hFb4.n).wr (Or.inr ⟨by decide, by unfold rnCell; omega⟩)).trans hFb6.n) ((((Lb.refl.trans hLb1).trans hLb3).trans hLb4).trans hLb6) hs2 ⟨?_, ?_⟩ (fun a g1 g2 => ?_)
            · rw [setT_k (by decide), setT_s]; exact (by rw [nt6_1])
            · rw [setT_s]; exact (by rw [nt6_0])
            · exact (hFb6.1 a g1).trans ((funext fun k => up_c g2).trans ((hFb4.1 a g1).trans ((hFb3.1 a g1).trans ((funext fun k => up_c g2).trans ((hFb1.1 a g1).trans ((funext fun k => up_c g2).trans ((funext fun k => up_c g2))))))))
          · refine wp_aload_n (pc := 89) 0 dX11_readParents_89 rfl rfl ?_
            refine wp_iconst (pc := 90) dX11_readParents_90 ?_
            refine wp_callV (pc := 91) (st := []) (nf' := 153) [vI 3] [some (vR 111), some (vI 3)] dX11_readParents_91 rfl c_X11_238 rfl kd_111 (by decide) rfl la_111 rfl (Nat.le_of_ble_eq_true rfl) rfl (Nat.le_of_ble_eq_true rfl) (by omega) (Nat.le_refl _) (Nat.le_refl _) ?_
            have hz7 : RD (J4) (M4) b g n (te b (te b (te b c))) T N mo := hP4
            refine rs_wrong hz7.2.2.1 hz7.2.2.2.1.1 (by omega) (by omega) ?_
            refine wp_gen (fun J => Fe (J4) J ∧ RE J (bad b (te b (te b (te b c))) 3)) ⟨Fe.bad, RD.bad (by omega)⟩ (fun J7 hJ7 => ?_)
            have x2_7 : J7 111 2 = (bad b (te b (te b (te b c))) 3).1 := hJ7.2.1
            have xp_7 : 0 < (bad b (te b (te b (te b c))) 3).1 ∧ (bad b (te b (te b (te b c))) 3).1 ≤ 5 := hJ7.2.2.2
            have x42_7 : J7 111 42 = T 0 11 := (hJ7.1.2 42 (by decide) (by decide) (by decide) (by decide) (by decide) (by decide)).trans (by rw [hP4.f42])
            have x43_7 : J7 111 43 = T 0 12 := (hJ7.1.2 43 (by decide) (by decide) (by decide) (by decide) (by decide) (by decide)).trans (by rw [hP4.f43])
            have x44_7 : J7 111 44 = T 0 13 := (hJ7.1.2 44 (by decide) (by decide) (by decide) (by decide) (by decide) (by decide)).trans (by rw [hP4.f44])
            refine wp_eqst (st' := []) rfl ?_
            refine wp_aload_n (pc := 94) 0 dX11_readParents_94 rfl rfl ?_
            refine wp_getr (pc := 95) dX11_readParents_95 rfl f_X11_45 kd_111 la_111 rfl (r_111_26 D) ?_
            refine wp_iconst (pc := 98) dX11_readParents_98 ?_
            refine wp_iload_n (pc := 99) 1 dX11_readParents_99 rfl rfl ?_
            refine wp_imul (pc := 100) dX11_readParents_100 ?_
            refine wp_iconst (pc := 101) dX11_readParents_101 ?_
            refine wp_iadd (pc := 102) dX11_readParents_102 ?_
            refine wp_iload_n (pc := 103) 2 dX11_readParents_103 rfl rfl ?_
            refine wq_iast (pc := 104) ((2 * (nP T)) + 1) dX11_readParents_104 kd_122 la_122 (by omega) (by omega) ?_
            refine wp_aload_n (pc := 105) 0 dX11_readParents_105 rfl rfl ?_
            refine wp_geti (pc := 106) dX11_readParents_106 rfl f_X11_185 kd_111 la_111 (Or.inl rfl) ?_
            refine wp_eqst (st' := [vI ((bad b (te b (te b (te b c))) 3).1)]) (by rw [up_c (by omega), x2_7]) ?_
            refine wp_if_ne (pc := 109) 116 dX11_readParents_109 (by decide) (by omega) (fun _ => ?_) (fun hh => absurd hh (by omega))
            refine wp_vret (pc := 116) dX11_readParents_116 rfl rfl ?_
            have er : prF b (te b (te b (te b c))) (N 1) (nP T) (2 ^ (prF b (te b c) (N 1) (nP T) 0).toNat) = -3 := prF_r1 (by omega) (by rw [show (prF b (te b (te b (te b c))) (N 1) (nP T) 0) = prF b (te b c) (N 1) (nP T) 0 by omega]; exact Nat.testBit_two_pow_self)
            exact h0 _ (by unfold parF; (repeat (first | rw [if_pos (by omega)] | rw [if_neg (by omega)])); rw [er]; first | done | rfl) _ _ ((((((((Fn.refl.wr (Or.inr ⟨by decide, by unfold rnCell; omega⟩)).wr (Or.inr ⟨by decide, by unfold rnCell; omega⟩)).trans hFb1.n).wr (Or.inr ⟨by decide, by unfold rnCell; omega⟩)).trans hFb3.n).trans hFb4.n).trans hJ7.1.n).wr (Or.inr ⟨by decide, by unfold rnCell; omega⟩)) (((Ln.refl.trans hLb1.n).trans hLb3.n).trans hLb4.n) (hJ7.2.wr (by omega))
        · replace h_4 : prF b (te b (te b (te b c))) (N 1) (nP T) 0 < 0 := h_4
          have x2_5 : J5 111 2 = (bad b (te b (te b (te b c))) (-prF b (te b (te b (te b c))) (N 1) (nP T) 0)).1 := hE5.1
          have xp_5 : 0 < (bad b (te b (te b (te b c))) (-prF b (te b (te b (te b c))) (N 1) (nP T) 0)).1 ∧ (bad b (te b (te b (te b c))) (-prF b (te b (te b (te b c))) (N 1) (nP T) 0)).1 ≤ 5 := hE5.2.2
          have x42_5 : J5 111 42 = T 0 11 := (hF5.2 42 (by decide) (by decide) (by decide) (by decide) (by decide) (by decide)).trans (by rw [hP4.f42])
          have x43_5 : J5 111 43 = T 0 12 := (hF5.2 43 (by decide) (by decide) (by decide) (by decide) (by decide) (by decide)).trans (by rw [hP4.f43])
          have x44_5 : J5 111 44 = T 0 13 := (hF5.2 44 (by decide) (by decide) (by decide) (by decide) (by decide) (by decide)).trans (by rw [hP4.f44])
          refine wp_eqst (st' := [vI 0]) rfl ?_
          refine wp_iret (pc := 9) dX11_oldPerson_9 rfl rfl ?_
          refine wp_eqst (st' := [vI 0]) rfl ?_
          refine wq_istore_n (pc := 69) 2 [some (vR 111), some (vI ((nP T : Nat) : Int)), some (vI 0)] dX11_readParents_69 rfl rfl (by decide) rfl ?_
          refine wp_aload_n (pc := 70) 0 dX11_readParents_70 rfl rfl ?_
          refine wp_geti (pc := 71) dX11_readParents_71 rfl f_X11_185 kd_111 la_111 (Or.inl rfl) ?_
          refine wp_eqst (st' := [vI ((bad b (te b (te b (te b c))) (-prF b (te b (te b (te b c))) (N 1) (nP T) 0)).1)]) (by rw [x2_5]) ?_
          refine wp_if_ne (pc := 74) 94 dX11_readParents_74 (by decide) (by omega) (fun _ => ?_) (fun hh => absurd hh (by omega))
          refine wp_aload_n (pc := 94) 0 dX11_readParents_94 rfl rfl ?_
          refine wp_getr (pc := 95) dX11_readParents_95 rfl f_X11_45 kd_111 la_111 rfl (r_111_26 D) ?_
          refine wp_iconst (pc := 98) dX11_readParents_98 ?_
          refine wp_iload_n (pc := 99) 1 dX11_readParents_99 rfl rfl ?_
          refine wp_imul (pc := 100) dX11_readParents_100 ?_
          refine wp_iconst (pc := 101) dX11_readParents_101 ?_
          refine wp_iadd (pc := 102) dX11_readParents_102 ?_
          refine wp_iload_n (pc := 103) 2 dX11_readParents_103 rfl rfl ?_
          refine wq_iast (pc := 104) ((2 * (nP T)) + 1) dX11_readParents_104 kd_122 la_122 (by omega) (by omega) ?_
          refine wp_aload_n (pc := 105) 0 dX11_readParents_105 rfl rfl ?_
          refine wp_geti (pc := 106) dX11_readParents_106 rfl f_X11_185 kd_111 la_111 (Or.inl rfl) ?_
          refine wp_eqst (st' := [vI ((bad b (te b (te b (te b c))) (-prF b (te b (te b (te b c))) (N 1) (nP T) 0)).1)]) (by rw [up_c (by omega), x2_5]) ?_
          refine wp_if_ne (pc := 109) 116 dX11_readParents_109 (by decide) (by omega) (fun _ => ?_) (fun hh => absurd hh (by omega))
          refine wp_vret (pc := 116) dX11_readParents_116 rfl rfl ?_
          have er : prF b (te b (te b (te b c))) (N 1) (nP T) (2 ^ (prF b (te b c) (N 1) (nP T) 0).toNat) = prF b (te b (te b (te b c))) (N 1) (nP T) 0 := prF_r0 (by omega)
          exact h0 _ (by unfold parF; (repeat (first | rw [if_pos (by omega)] | rw [if_neg (by omega)])); rw [er]; first | done | rfl) _ _ ((((((((Fn.refl.wr (Or.inr ⟨by decide, by unfold rnCell; omega⟩)).wr (Or.inr ⟨by decide, by unfold rnCell; omega⟩)).trans hFb1.n).wr (Or.inr ⟨by decide, by unfold rnCell; omega⟩)).trans hFb3.n).trans hFb4.n).trans hF5.n).wr (Or.inr ⟨by decide, by unfold rnCell; omega⟩)) ((((Ln.refl.trans hLb1.n).trans hLb3.n).trans hLb4.n).trans hL5) (hE5.wr (by omega))
      · refine wp_eqst (st' := [vI 0]) rfl ?_
        refine wp_if_ne (pc := 61) 65 dX11_readParents_61 (by decide) (by decide) (fun hh => absurd hh (by decide)) (fun _ => ?_)
        refine wp_vret (pc := 64) dX11_readParents_64 rfl rfl ?_
        have hs1 := hP3.sT (k := 11) (v := prF b (te b c) (N 1) (nP T) 0) (by omega) (by unfold twB; omega)
        refine h1 _ _ (by unfold parF; (repeat (first | rw [if_pos (by omega)] | rw [if_neg (by omega)])); first | done | rfl) _ _ (((((Fn.refl.wr (Or.inr ⟨by decide, by unfold rnCell; omega⟩)).wr (Or.inr ⟨by decide, by unfold rnCell; omega⟩)).trans hFb1.n).wr (Or.inr ⟨by decide, by unfold rnCell; omega⟩)).trans hFb3.n) ((Lb.refl.trans hLb1).trans hLb3) hs1 ⟨?_, ?_⟩ (fun a g1 g2 => ?_)
        · rw [setT_s]; exact (by rw [nt3_0])
        · rw [setT_k (by decide), hT2]; exact (by rw [nt3_1])
        · exact (hFb3.1 a g1).trans ((funext fun k => up_c g2).trans ((hFb1.1 a g1).trans ((funext fun k => up_c g2).trans ((funext fun k => up_c g2)))))
    · replace h_2 : prF b (te b c) (N 1) (nP T) 0 < 0 := h_2
      have x2_2 : J2 111 2 = (bad b (te b c) (-prF b (te b c) (N 1) (nP T) 0)).1 := hE2.1
      have xp_2 : 0 < (bad b (te b c) (-prF b (te b c) (N 1) (nP T) 0)).1 ∧ (bad b (te b c) (-prF b (te b c) (N 1) (nP T) 0)).1 ≤ 5 := hE2.2.2
      have x42_2 : J2 111 42 = T 0 11 := (hF2.2 42 (by decide) (by decide) (by decide) (by decide) (by decide) (by decide)).trans (by rw [hP1.f42])
      have x43_2 : J2 111 43 = T 0 12 := (hF2.2 43 (by decide) (by decide) (by decide) (by decide) (by decide) (by decide)).trans (by rw [hP1.f43])
      have x44_2 : J2 111 44 = T 0 13 := (hF2.2 44 (by decide) (by decide) (by decide) (by decide) (by decide) (by decide)).trans (by rw [hP1.f44])
      refine wp_eqst (st' := [vI 0]) rfl ?_
      refine wp_iret (pc := 9) dX11_oldPerson_9 rfl rfl ?_
      refine wp_eqst (st' := [vI 0, vI (2 * ((nP T : Nat) : Int)), vR 122]) rfl ?_
      refine wq_iast (pc := 42) (2 * (nP T)) dX11_readParents_42 kd_122 la_122 (by omega) (by omega) ?_
      refine wp_aload_n (pc := 43) 0 dX11_readParents_43 rfl rfl ?_
      refine wp_geti (pc := 44) dX11_readParents_44 rfl f_X11_185 kd_111 la_111 (Or.inl rfl) ?_
      refine wp_eqst (st' := [vI ((bad b (te b c) (-prF b (te b c) (N 1) (nP T) 0)).1)]) (by rw [up_c (by omega), x2_2]) ?_
      refine wp_if_ne (pc := 47) 54 dX11_readParents_47 (by decide) (by omega) (fun _ => ?_) (fun hh => absurd hh (by omega))
      refine wp_aload_n (pc := 54) 0 dX11_readParents_54 rfl rfl ?_
      refine wp_ldc2 (pc := 55) (z := 6385252) dX11_readParents_55 rfl k_X11_196 rfl ?_
      refine wp_callV (pc := 58) (st := []) (nf' := 153) [vJ 6385252] [some (vR 111), some (vJ 6385252), none, none] dX11_readParents_58 rfl c_X11_334 rfl kd_111 (by decide) rfl la_111 rfl (Nat.le_of_ble_eq_true rfl) rfl (Nat.le_of_ble_eq_true rfl) (by omega) (Nat.le_refl _) (Nat.le_refl _) ?_
      refine rz_takes (hE2.wr (by omega)) (by omega) ?_
      refine wp_eqst (st' := [vI 0]) rfl ?_
      refine wp_if_ne (pc := 61) 65 dX11_readParents_61 (by decide) (by decide) (fun hh => absurd hh (by decide)) (fun _ => ?_)
      refine wp_vret (pc := 64) dX11_readParents_64 rfl rfl ?_
      exact h0 _ (by unfold parF; (repeat (first | rw [if_pos (by omega)] | rw [if_neg (by omega)])); first | done | rfl) _ _ (((((Fn.refl.wr (Or.inr ⟨by decide, by unfold rnCell; omega⟩)).wr (Or.inr ⟨by decide, by unfold rnCell; omega⟩)).trans hFb1.n).trans hF2.n).wr (Or.inr ⟨by decide, by unfold rnCell; omega⟩)) ((Ln.refl.trans hLb1.n).trans hL2) (hE2.wr (by omega))
  · refine wp_eqst (st' := [vI 0]) rfl ?_
    refine wp_if_ne (pc := 27) 31 dX11_readParents_27 (by decide) (by decide) (fun hh => absurd hh (by decide)) (fun _ => ?_)
    refine wp_vret (pc := 30) dX11_readParents_30 rfl rfl ?_
    refine h1 _ _ (by unfold parF; (repeat (first | rw [if_pos (by omega)] | rw [if_neg (by omega)])); first | done | rfl) _ _ ((Fn.refl.wr (Or.inr ⟨by decide, by unfold rnCell; omega⟩)).wr (Or.inr ⟨by decide, by unfold rnCell; omega⟩)) Lb.refl ((hP.w (by unfold rnFree; omega)).w (by unfold rnFree; omega)) ⟨?_, ?_⟩ (fun a g1 g2 => ?_)
    · rw [hT1]; exact (by rw [up_j (by omega), up_s])
    · rw [hT2]; exact (by rw [up_s])
    · exact (funext fun k => up_c g2).trans ((funext fun k => up_c g2))

theorem rz_readParents {l : Launch} {G : mG} {d : Nat} {I : mI} {L : Nat → Nat → Int} {D : Nat → Nat} {Q : mQ} {e : Int × Int} (p : Nat) {p_ : Int} (hp_ : p_ = (p : Int)) (hE : RE I e) (h8 : p < 8) (hd : 4 ≤ d) (hQ : ∀ J, Fn I J → RE J e → Q none J (XX L D)) : WP l G m_X11_readParents d 153 I (XX L D) 0 [some (vR 111), some (vI p_), none] [] Q := by
  subst hp_
  have x2 : I 111 2 = (e).1 := hE.1
  have xp : 0 < (e).1 ∧ (e).1 ≤ 5 := hE.2.2
  refine wp_aload_n (pc := 0) 0 dX11_readParents_0 rfl rfl ?_
  refine wp_getr (pc := 1) dX11_readParents_1 rfl f_X11_45 kd_111 la_111 rfl (r_111_26 D) ?_
  refine wp_iconst (pc := 4) dX11_readParents_4 ?_
  refine wp_iload_n (pc := 5) 1 dX11_readParents_5 rfl rfl ?_
  refine wp_imul (pc := 6) dX11_readParents_6 ?_
  refine wp_iconst (pc := 7) dX11_readParents_7 ?_
  refine wq_iast (pc := 8) (2 * p) dX11_readParents_8 kd_122 la_122 (by omega) (by omega) ?_
  refine wp_aload_n (pc := 9) 0 dX11_readParents_9 rfl rfl ?_
  refine wp_getr (pc := 10) dX11_readParents_10 rfl f_X11_45 kd_111 la_111 rfl (r_111_26 D) ?_
  refine wp_iconst (pc := 13) dX11_readParents_13 ?_
  refine wp_iload_n (pc := 14) 1 dX11_readParents_14 rfl rfl ?_
  refine wp_imul (pc := 15) dX11_readParents_15 ?_
  refine wp_iconst (pc := 16) dX11_readParents_16 ?_
  refine wp_iadd (pc := 17) dX11_readParents_17 ?_
  refine wp_iconst (pc := 18) dX11_readParents_18 ?_
  refine wq_iast (pc := 19) ((2 * p) + 1) dX11_readParents_19 kd_122 la_122 (by omega) (by omega) ?_
  refine wp_aload_n (pc := 20) 0 dX11_readParents_20 rfl rfl ?_
  refine wp_ldc2 (pc := 21) (z := 28518) dX11_readParents_21 rfl k_X11_194 rfl ?_
  refine wp_callV (pc := 24) (st := []) (nf' := 153) [vJ 28518] [some (vR 111), some (vJ 28518), none, none] dX11_readParents_24 rfl c_X11_334 rfl kd_111 (by decide) rfl la_111 rfl (Nat.le_of_ble_eq_true rfl) rfl (Nat.le_of_ble_eq_true rfl) (by omega) (Nat.le_refl _) (Nat.le_refl _) ?_
  refine rz_takes ((hE.wr (by omega)).wr (by omega)) (by omega) ?_
  refine wp_eqst (st' := [vI 0]) rfl ?_
  refine wp_if_ne (pc := 27) 31 dX11_readParents_27 (by decide) (by decide) (fun hh => absurd hh (by decide)) (fun _ => ?_)
  refine wp_vret (pc := 30) dX11_readParents_30 rfl rfl ?_
  exact hQ _ ((Fn.refl.wr (Or.inr ⟨by decide, by unfold rnCell; omega⟩)).wr (Or.inr ⟨by decide, by unfold rnCell; omega⟩)) ((hE.wr (by omega)).wr (by omega))
