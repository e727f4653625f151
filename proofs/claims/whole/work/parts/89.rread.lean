/-! THE REFERENCE's reading, token by token -/
theorem rs_wrong {l : Launch} {G : mG} {d : Nat} {I : mI} {L : Nat → Nat → Int} {D : Nat → Nat} {Q : mQ} {b : Nat → Int} {c : Nat} {f : Int}  (hT : TKR I L b c) (h2 : I 111 2 = 0) (hf : inR f) (hd : 0 ≤ d) (hQ : Q none (up (up I 111 2 (bad b c f).1) 111 3 (bad b c f).2) (XX L D)) : WP l G m_X11_wrong d 153 I (XX L D) 0 [some (vR 111), some (vI f)] [] Q := by
  have tr := ts_rng b c
  refine wp_aload_n (pc := 0) 0 dX11_wrong_0 rfl rfl ?_
  refine wp_geti (pc := 1) dX11_wrong_1 rfl f_X11_185 kd_111 la_111 (Or.inl rfl) ?_
  refine wp_eqst (st' := [vI 0]) (by rw [h2]) ?_
  refine wp_if_le (pc := 4) 8 dX11_wrong_4 (by decide) (by decide) (fun _ => ?_) (fun hh => absurd hh (by decide))
  refine wp_aload_n (pc := 8) 0 dX11_wrong_8 rfl rfl ?_
  refine wp_aload_n (pc := 9) 0 dX11_wrong_9 rfl rfl ?_
  refine wp_geti (pc := 10) dX11_wrong_10 rfl f_X11_172 kd_111 la_111 (Or.inl rfl) ?_
  refine wp_eqst (st' := [vI (ts b c), vR 111]) (by rw [hT.1]) ?_
  refine wp_iconst (pc := 13) dX11_wrong_13 ?_
  refine wp_icmp_ne (pc := 14) 21 dX11_wrong_14 (by decide) (by omega) (by decide) (fun h_1 => ?_) (fun h_1 => ?_)
  · refine wp_iload_n (pc := 21) 1 dX11_wrong_21 rfl rfl ?_
    refine wp_puti (pc := 22) dX11_wrong_22 rfl f_X11_185 kd_111 la_111 (fun _ h => by cases h; rfl) rfl ?_
    refine wp_aload_n (pc := 25) 0 dX11_wrong_25 rfl rfl ?_
    refine wp_aload_n (pc := 26) 0 dX11_wrong_26 rfl rfl ?_
    refine wp_geti (pc := 27) dX11_wrong_27 rfl f_X11_162 kd_111 la_111 (Or.inl rfl) ?_
    refine wp_eqst (st' := [vI ((tp b c : Nat) : Int), vR 111]) (by rw [up_j (by omega), hT.2.1]) ?_
    refine wp_puti (pc := 30) dX11_wrong_30 rfl f_X11_13 kd_111 la_111 (fun _ h => by cases h; rfl) rfl ?_
    refine wp_vret (pc := 33) dX11_wrong_33 rfl rfl ?_
    rw [show (bad b c f).1 = f from if_neg (by omega)] at hQ; exact hQ
  · refine wp_iconst (pc := 17) dX11_wrong_17 ?_
    refine wp_goto (pc := 18) 22 dX11_wrong_18 (by decide) ?_
    refine wp_puti (pc := 22) dX11_wrong_22 rfl f_X11_185 kd_111 la_111 (fun _ h => by cases h; rfl) rfl ?_
    refine wp_aload_n (pc := 25) 0 dX11_wrong_25 rfl rfl ?_
    refine wp_aload_n (pc := 26) 0 dX11_wrong_26 rfl rfl ?_
    refine wp_geti (pc := 27) dX11_wrong_27 rfl f_X11_162 kd_111 la_111 (Or.inl rfl) ?_
    refine wp_eqst (st' := [vI ((tp b c : Nat) : Int), vR 111]) (by rw [up_j (by omega), hT.2.1]) ?_
    refine wp_puti (pc := 30) dX11_wrong_30 rfl f_X11_13 kd_111 la_111 (fun _ h => by cases h; rfl) rfl ?_
    refine wp_vret (pc := 33) dX11_wrong_33 rfl rfl ?_
    rw [show (bad b c f).1 = 1 from if_pos (by omega)] at hQ; exact hQ

theorem rs_want {l : Launch} {G : mG} {d : Nat} {I : mI} {L : Nat → Nat → Int} {D : Nat → Nat} {Q : mQ} {b g : Nat → Int} {n c : Nat} {T N : mT} {mo : Nat} {w : Int} {k : Nat}  (hP : RD I L b g n c T N mo) (hk : k < 21) (hw8 : w = W8 k) (hd : 2 ≤ d) (h1 : wi b c = k → ∀ J M, Fb I J → Lb L M → RD J M b g n (te b c) T N mo → Q none J (XX M D)) (h0 : ¬ wi b c = k → ∀ J M, Fe I J → Ln L M → RE J (bad b c 2) → Q none J (XX M D)) : WP l G m_X11_want d 153 I (XX L D) 0 [some (vR 111), some (vJ w), none] [] Q := by
  have kw := wi_in b c
  have tr := ts_rng b c
  have i8 := hP.2.2.1.2.2.1.1
  have l9 := hP.2.2.1.2.2.2.2.1
  have hw := hP.tw
  have hb := hP.1.1
  have b_c := tw_c hw
  have b_p := tw_p hw
  have b_q := tw_q hw
  have b_v := tw_vows hw
  have eC : nC T = (T 0 11).toNat := rfl
  have eP : nP T = (T 0 12).toNat := rfl
  have eQ : nQ T = (T 0 13).toNat := rfl
  refine wp_aload_n (pc := 0) 0 dX11_want_0 rfl rfl ?_
  refine wp_geti (pc := 1) dX11_want_1 rfl f_X11_185 kd_111 la_111 (Or.inl rfl) ?_
  refine wp_eqst (st' := [vI 0]) (by rw [hP.2.2.2.1.1]) ?_
  refine wp_if_le (pc := 4) 8 dX11_want_4 (by decide) (by decide) (fun _ => ?_) (fun hh => absurd hh (by decide))
  refine wp_aload_n (pc := 8) 0 dX11_want_8 rfl rfl ?_
  refine wp_lload_n (pc := 9) 1 dX11_want_9 rfl rfl ?_
  refine wp_callV (pc := 10) (st := []) (nf' := 153) [vJ w] [some (vR 111), some (vJ w), none] dX11_want_10 rfl c_X11_234 rfl kd_111 (by decide) rfl la_111 rfl (Nat.le_of_ble_eq_true rfl) rfl (Nat.le_of_ble_eq_true rfl) (by omega) (Nat.le_refl _) (Nat.le_refl _) ?_
  have hz1 : RD (I) (L) b g n c T N mo := hP
  refine rs_isWord (k := k) hz1.1.1 hz1.2.1 hz1.2.2.1 hk hw8 (by omega) (fun h_1 => ?_) (fun h_1 => ?_)
  · refine wp_eqst (st' := [vI 1]) rfl ?_
    refine wp_if_ne (pc := 13) 24 dX11_want_13 (by decide) (by decide) (fun _ => ?_) (fun hh => absurd hh (by decide))
    refine wp_aload_n (pc := 24) 0 dX11_want_24 rfl rfl ?_
    refine wp_callV (pc := 25) (st := []) (nf' := 153) [] [some (vR 111), none, none] dX11_want_25 rfl c_X11_241 rfl kd_111 (by decide) rfl la_111 rfl (Nat.le_of_ble_eq_true rfl) rfl (Nat.le_of_ble_eq_true rfl) (by omega) (Nat.le_refl _) (Nat.le_refl _) ?_
    have n32 : ts b c ≠ 3 := (by first | exact n3_k (by omega) | exact n3_4 (by omega) | exact n3_w (by omega) | exact n3_s (by omega) | omega)
    have hz2 : RD (I) (L) b g n c T N mo := hP
    refine rs_token hz2.1 hz2.nx (hz2.q4 n32) (by omega) (fun J2 M2 hFb2 hLb2 hTk2 => ?_)
    have hP2 := hz2.adv hz2.nx hFb2 hLb2 hTk2
    have kw_2 := wi_in b (te b c)
    have tr_2 := ts_rng b (te b c)
    have i8_2 := hP2.2.2.1.2.2.1.1
    have l9_2 := hP2.2.2.1.2.2.2.2.1
    refine wp_eqst (st' := []) rfl ?_
    refine wp_vret (pc := 28) dX11_want_28 rfl rfl ?_
    exact h1 (by omega) _ _ (Fb.refl.trans hFb2) (Lb.refl.trans hLb2) hP2
  · refine wp_eqst (st' := [vI 0]) rfl ?_
    refine wp_if_ne (pc := 13) 24 dX11_want_13 (by decide) (by decide) (fun hh => absurd hh (by decide)) (fun _ => ?_)
    refine wp_aload_n (pc := 16) 0 dX11_want_16 rfl rfl ?_
    refine wp_iconst (pc := 17) dX11_want_17 ?_
    refine wp_callV (pc := 18) (st := []) (nf' := 153) [vI 2] [some (vR 111), some (vI 2)] dX11_want_18 rfl c_X11_238 rfl kd_111 (by decide) rfl la_111 rfl (Nat.le_of_ble_eq_true rfl) rfl (Nat.le_of_ble_eq_true rfl) (by omega) (Nat.le_refl _) (Nat.le_refl _) ?_
    have hz3 : RD (I) (L) b g n c T N mo := hP
    refine rs_wrong hz3.2.2.1 hz3.2.2.2.1.1 (by omega) (by omega) ?_
    refine wp_gen (fun J => Fe (I) J ∧ RE J (bad b c 2)) ⟨Fe.bad, RD.bad (by omega)⟩ (fun J3 hJ3 => ?_)
    have x2_3 : J3 111 2 = (bad b c 2).1 := hJ3.2.1
    have xp_3 : 0 < (bad b c 2).1 ∧ (bad b c 2).1 ≤ 5 := hJ3.2.2.2
    have x42_3 : J3 111 42 = T 0 11 := (hJ3.1.2 42 (by decide) (by decide) (by decide) (by decide) (by decide) (by decide)).trans (by rw [hP.f42])
    have x43_3 : J3 111 43 = T 0 12 := (hJ3.1.2 43 (by decide) (by decide) (by decide) (by decide) (by decide) (by decide)).trans (by rw [hP.f43])
    have x44_3 : J3 111 44 = T 0 13 := (hJ3.1.2 44 (by decide) (by decide) (by decide) (by decide) (by decide) (by decide)).trans (by rw [hP.f44])
    refine wp_eqst (st' := []) rfl ?_
    refine wp_goto (pc := 21) 28 dX11_want_21 (by decide) ?_
    refine wp_vret (pc := 28) dX11_want_28 rfl rfl ?_
    exact h0 (by omega) _ _ (Fb.refl.te hJ3.1) Ln.refl hJ3.2

theorem rz_want {l : Launch} {G : mG} {d : Nat} {I : mI} {L : Nat → Nat → Int} {D : Nat → Nat} {Q : mQ} {e : Int × Int} {w : Int}  (hE : RE I e)  (hd : 2 ≤ d) (hQ : Q none I (XX L D)) : WP l G m_X11_want d 153 I (XX L D) 0 [some (vR 111), some (vJ w), none] [] Q := by
  have x2 : I 111 2 = (e).1 := hE.1
  have xp : 0 < (e).1 ∧ (e).1 ≤ 5 := hE.2.2
  refine wp_aload_n (pc := 0) 0 dX11_want_0 rfl rfl ?_
  refine wp_geti (pc := 1) dX11_want_1 rfl f_X11_185 kd_111 la_111 (Or.inl rfl) ?_
  refine wp_eqst (st' := [vI e.1]) (by rw [x2]) ?_
  refine wp_if_le (pc := 4) 8 dX11_want_4 (by decide) (by omega) (fun hh => absurd hh (by omega)) (fun _ => ?_)
  refine wp_vret (pc := 7) dX11_want_7 rfl rfl ?_
  exact hQ

theorem rs_toldNumber {l : Launch} {G : mG} {d : Nat} {I : mI} {L : Nat → Nat → Int} {D : Nat → Nat} {Q : mQ} {b g : Nat → Int} {n c : Nat} {T N : mT} {mo : Nat} {lo hi : Int}  (hP : RD I L b g n c T N mo) (hlo : 0 ≤ lo ∧ lo ≤ 1000) (hhi : 0 ≤ hi ∧ hi ≤ 1000) (hd : 2 ≤ d) (h1 : 0 ≤ nbF b c lo hi → ∀ J M, Fb I J → Lb L M → RD J M b g n (te b c) T N mo → Q (some (vI (nbF b c lo hi))) J (XX M D)) (h0 : nbF b c lo hi < 0 → ∀ J M, Fe I J → Ln L M → RE J (bad b c (-nbF b c lo hi)) → ∀ v, Q (some (vI v)) J (XX M D)) : WP l G m_X11_toldNumber d 153 I (XX L D) 0 [some (vR 111), some (vI lo), some (vI hi), none] [] Q := by
  have kw := wi_in b c
  have tr := ts_rng b c
  have i8 := hP.2.2.1.2.2.1.1
  have l9 := hP.2.2.1.2.2.2.2.1
  have hw := hP.tw
  have hb := hP.1.1
  have b_c := tw_c hw
  have b_p := tw_p hw
  have b_q := tw_q hw
  have b_v := tw_vows hw
  have eC : nC T = (T 0 11).toNat := rfl
  have eP : nP T = (T 0 12).toNat := rfl
  have eQ : nQ T = (T 0 13).toNat := rfl
  have e8 : ts b c = 2 → I 111 8 = tn b c := hP.2.2.1.2.2.1.2
  have e8_ : ¬ ts b c = 2 ∨ I 111 8 = tn b c := by by_cases z : ts b c = 2; exact Or.inr (e8 z); exact Or.inl z
  refine wp_aload_n (pc := 0) 0 dX11_toldNumber_0 rfl rfl ?_
  refine wp_geti (pc := 1) dX11_toldNumber_1 rfl f_X11_185 kd_111 la_111 (Or.inl rfl) ?_
  refine wp_eqst (st' := [vI 0]) (by rw [hP.2.2.2.1.1]) ?_
  refine wp_if_le (pc := 4) 9 dX11_toldNumber_4 (by decide) (by decide) (fun _ => ?_) (fun hh => absurd hh (by decide))
  refine wp_aload_n (pc := 9) 0 dX11_toldNumber_9 rfl rfl ?_
  refine wp_geti (pc := 10) dX11_toldNumber_10 rfl f_X11_172 kd_111 la_111 (Or.inl rfl) ?_
  refine wp_eqst (st' := [vI (ts b c)]) (by rw [hP.2.2.1.1]) ?_
  refine wp_iconst (pc := 13) dX11_toldNumber_13 ?_
  refine wp_icmp_eq (pc := 14) 25 dX11_toldNumber_14 (by decide) (by omega) (by decide) (fun h_1 => ?_) (fun h_1 => ?_)
  · refine wp_aload_n (pc := 25) 0 dX11_toldNumber_25 rfl rfl ?_
    refine wp_geti (pc := 26) dX11_toldNumber_26 rfl f_X11_169 kd_111 la_111 (Or.inl rfl) ?_
    refine wp_iload_n (pc := 29) 1 dX11_toldNumber_29 rfl rfl ?_
    refine wp_icmp_lt (pc := 30) 41 dX11_toldNumber_30 (by decide) (by omega) (by omega) (fun h_2 => ?_) (fun h_2 => ?_)
    · refine wp_aload_n (pc := 41) 0 dX11_toldNumber_41 rfl rfl ?_
      refine wp_iconst (pc := 42) dX11_toldNumber_42 ?_
      refine wp_callV (pc := 43) (st := []) (nf' := 153) [vI 4] [some (vR 111), some (vI 4)] dX11_toldNumber_43 rfl c_X11_238 rfl kd_111 (by decide) rfl la_111 rfl (Nat.le_of_ble_eq_true rfl) rfl (Nat.le_of_ble_eq_true rfl) (by omega) (Nat.le_refl _) (Nat.le_refl _) ?_
      have hz1 : RD (I) (L) b g n c T N mo := hP
      refine rs_wrong hz1.2.2.1 hz1.2.2.2.1.1 (by omega) (by omega) ?_
      refine wp_gen (fun J => Fe (I) J ∧ RE J (bad b c 4)) ⟨Fe.bad, RD.bad (by omega)⟩ (fun J1 hJ1 => ?_)
      have x2_1 : J1 111 2 = (bad b c 4).1 := hJ1.2.1
      have xp_1 : 0 < (bad b c 4).1 ∧ (bad b c 4).1 ≤ 5 := hJ1.2.2.2
      have x42_1 : J1 111 42 = T 0 11 := (hJ1.1.2 42 (by decide) (by decide) (by decide) (by decide) (by decide) (by decide)).trans (by rw [hP.f42])
      have x43_1 : J1 111 43 = T 0 12 := (hJ1.1.2 43 (by decide) (by decide) (by decide) (by decide) (by decide) (by decide)).trans (by rw [hP.f43])
      have x44_1 : J1 111 44 = T 0 13 := (hJ1.1.2 44 (by decide) (by decide) (by decide) (by decide) (by decide) (by decide)).trans (by rw [hP.f44])
      refine wp_eqst (st' := []) rfl ?_
      refine wp_aload_n (pc := 46) 0 dX11_toldNumber_46 rfl rfl ?_
      refine wp_geti (pc := 47) dX11_toldNumber_47 rfl f_X11_169 kd_111 la_111 (Or.inl rfl) ?_
      refine wq_istore_n (pc := 50) 3 [some (vR 111), some (vI lo), some (vI hi), some (vI (J1 111 8))] dX11_toldNumber_50 rfl rfl (by decide) rfl ?_
      refine wp_aload_n (pc := 51) 0 dX11_toldNumber_51 rfl rfl ?_
      refine wp_geti (pc := 52) dX11_toldNumber_52 rfl f_X11_185 kd_111 la_111 (Or.inl rfl) ?_
      refine wp_eqst (st' := [vI ((bad b c 4).1)]) (by rw [x2_1]) ?_
      refine wp_if_ne (pc := 55) 62 dX11_toldNumber_55 (by decide) (by omega) (fun _ => ?_) (fun hh => absurd hh (by omega))
      refine wp_iload_n (pc := 62) 3 dX11_toldNumber_62 rfl rfl ?_
      refine wp_iret (pc := 63) dX11_toldNumber_63 rfl rfl ?_
      have en : nbF b c lo hi = -4 := nbF_4 (by have kt := (kC_ts b c).2.2.1; omega) (by omega)
      rw [en] at h0; exact h0 (by decide) _ _ (Fb.refl.te hJ1.1) Ln.refl hJ1.2 _
    · refine wp_aload_n (pc := 33) 0 dX11_toldNumber_33 rfl rfl ?_
      refine wp_geti (pc := 34) dX11_toldNumber_34 rfl f_X11_169 kd_111 la_111 (Or.inl rfl) ?_
      refine wp_iload_n (pc := 37) 2 dX11_toldNumber_37 rfl rfl ?_
      refine wp_icmp_le (pc := 38) 46 dX11_toldNumber_38 (by decide) (by omega) (by omega) (fun h_3 => ?_) (fun h_3 => ?_)
      · refine wp_aload_n (pc := 46) 0 dX11_toldNumber_46 rfl rfl ?_
        refine wp_geti (pc := 47) dX11_toldNumber_47 rfl f_X11_169 kd_111 la_111 (Or.inl rfl) ?_
        refine wq_istore_n (pc := 50) 3 [some (vR 111), some (vI lo), some (vI hi), some (vI (I 111 8))] dX11_toldNumber_50 rfl rfl (by decide) rfl ?_
        refine wp_aload_n (pc := 51) 0 dX11_toldNumber_51 rfl rfl ?_
        refine wp_geti (pc := 52) dX11_toldNumber_52 rfl f_X11_185 kd_111 la_111 (Or.inl rfl) ?_
        refine wp_eqst (st' := [vI 0]) (by rw [hP.2.2.2.1.1]) ?_
        refine wp_if_ne (pc := 55) 62 dX11_toldNumber_55 (by decide) (by decide) (fun hh => absurd hh (by decide)) (fun _ => ?_)
        refine wp_aload_n (pc := 58) 0 dX11_toldNumber_58 rfl rfl ?_
        refine wp_callV (pc := 59) (st := []) (nf' := 153) [] [some (vR 111), none, none] dX11_toldNumber_59 rfl c_X11_241 rfl kd_111 (by decide) rfl la_111 rfl (Nat.le_of_ble_eq_true rfl) rfl (Nat.le_of_ble_eq_true rfl) (by omega) (Nat.le_refl _) (Nat.le_refl _) ?_
        have n32 : ts b c ≠ 3 := (by first | exact n3_k (by omega) | exact n3_4 (by omega) | exact n3_w (by omega) | exact n3_s (by omega) | omega)
        have hz2 : RD (I) (L) b g n c T N mo := hP
        refine rs_token hz2.1 hz2.nx (hz2.q4 n32) (by omega) (fun J2 M2 hFb2 hLb2 hTk2 => ?_)
        have hP2 := hz2.adv hz2.nx hFb2 hLb2 hTk2
        have kw_2 := wi_in b (te b c)
        have tr_2 := ts_rng b (te b c)
        have i8_2 := hP2.2.2.1.2.2.1.1
        have l9_2 := hP2.2.2.1.2.2.2.2.1
        refine wp_eqst (st' := []) rfl ?_
        refine wp_iload_n (pc := 62) 3 dX11_toldNumber_62 rfl rfl ?_
        refine wp_iret (pc := 63) dX11_toldNumber_63 rfl rfl ?_
        have en : nbF b c lo hi = tn b c := nbF_y (by have kt := (kC_ts b c).2.2.1; omega) (by omega)
        rw [en] at h1; rw [e8 (by omega)]; exact h1 (by omega) _ _ (Fb.refl.trans hFb2) (Lb.refl.trans hLb2) hP2
      · refine wp_aload_n (pc := 41) 0 dX11_toldNumber_41 rfl rfl ?_
        refine wp_iconst (pc := 42) dX11_toldNumber_42 ?_
        refine wp_callV (pc := 43) (st := []) (nf' := 153) [vI 4] [some (vR 111), some (vI 4)] dX11_toldNumber_43 rfl c_X11_238 rfl kd_111 (by decide) rfl la_111 rfl (Nat.le_of_ble_eq_true rfl) rfl (Nat.le_of_ble_eq_true rfl) (by omega) (Nat.le_refl _) (Nat.le_refl _) ?_
        have hz3 : RD (I) (L) b g n c T N mo := hP
        refine rs_wrong hz3.2.2.1 hz3.2.2.2.1.1 (by omega) (by omega) ?_
        refine wp_gen (fun J => Fe (I) J ∧ RE J (bad b c 4)) ⟨Fe.bad, RD.bad (by omega)⟩ (fun J3 hJ3 => ?_)
        have x2_3 : J3 111 2 = (bad b c 4).1 := hJ3.2.1
        have xp_3 : 0 < (bad b c 4).1 ∧ (bad b c 4).1 ≤ 5 := hJ3.2.2.2
        have x42_3 : J3 111 42 = T 0 11 := (hJ3.1.2 42 (by decide) (by decide) (by decide) (by decide) (by decide) (by decide)).trans (by rw [hP.f42])
        have x43_3 : J3 111 43 = T 0 12 := (hJ3.1.2 43 (by decide) (by decide) (by decide) (by decide) (by decide) (by decide)).trans (by rw [hP.f43])
        have x44_3 : J3 111 44 = T 0 13 := (hJ3.1.2 44 (by decide) (by decide) (by decide) (by decide) (by decide) (by decide)).trans (by rw [hP.f44])
        refine wp_eqst (st' := []) rfl ?_
        refine wp_aload_n (pc := 46) 0 dX11_toldNumber_46 rfl rfl ?_
        refine wp_geti (pc := 47) dX11_toldNumber_47 rfl f_X11_169 kd_111 la_111 (Or.inl rfl) ?_
        refine wq_istore_n (pc := 50) 3 [some (vR 111), some (vI lo), some (vI hi), some (vI (J3 111 8))] dX11_toldNumber_50 rfl rfl (by decide) rfl ?_
        refine wp_aload_n (pc := 51) 0 dX11_toldNumber_51 rfl rfl ?_
        refine wp_geti (pc := 52) dX11_toldNumber_52 rfl f_X11_185 kd_111 la_111 (Or.inl rfl) ?_
        refine wp_eqst (st' := [vI ((bad b c 4).1)]) (by rw [x2_3]) ?_
        refine wp_if_ne (pc := 55) 62 dX11_toldNumber_55 (by decide) (by omega) (fun _ => ?_) (fun hh => absurd hh (by omega))
        refine wp_iload_n (pc := 62) 3 dX11_toldNumber_62 rfl rfl ?_
        refine wp_iret (pc := 63) dX11_toldNumber_63 rfl rfl ?_
        have en : nbF b c lo hi = -4 := nbF_4 (by have kt := (kC_ts b c).2.2.1; omega) (by omega)
        rw [en] at h0; exact h0 (by decide) _ _ (Fb.refl.te hJ3.1) Ln.refl hJ3.2 _
  · refine wp_aload_n (pc := 17) 0 dX11_toldNumber_17 rfl rfl ?_
    refine wp_iconst (pc := 18) dX11_toldNumber_18 ?_
    refine wp_callV (pc := 19) (st := []) (nf' := 153) [vI 2] [some (vR 111), some (vI 2)] dX11_toldNumber_19 rfl c_X11_238 rfl kd_111 (by decide) rfl la_111 rfl (Nat.le_of_ble_eq_true rfl) rfl (Nat.le_of_ble_eq_true rfl) (by omega) (Nat.le_refl _) (Nat.le_refl _) ?_
    have hz4 : RD (I) (L) b g n c T N mo := hP
    refine rs_wrong hz4.2.2.1 hz4.2.2.2.1.1 (by omega) (by omega) ?_
    refine wp_gen (fun J => Fe (I) J ∧ RE J (bad b c 2)) ⟨Fe.bad, RD.bad (by omega)⟩ (fun J4 hJ4 => ?_)
    have x2_4 : J4 111 2 = (bad b c 2).1 := hJ4.2.1
    have xp_4 : 0 < (bad b c 2).1 ∧ (bad b c 2).1 ≤ 5 := hJ4.2.2.2
    have x42_4 : J4 111 42 = T 0 11 := (hJ4.1.2 42 (by decide) (by decide) (by decide) (by decide) (by decide) (by decide)).trans (by rw [hP.f42])
    have x43_4 : J4 111 43 = T 0 12 := (hJ4.1.2 43 (by decide) (by decide) (by decide) (by decide) (by decide) (by decide)).trans (by rw [hP.f43])
    have x44_4 : J4 111 44 = T 0 13 := (hJ4.1.2 44 (by decide) (by decide) (by decide) (by decide) (by decide) (by decide)).trans (by rw [hP.f44])
    refine wp_eqst (st' := []) rfl ?_
    refine wp_goto (pc := 22) 46 dX11_toldNumber_22 (by decide) ?_
    refine wp_aload_n (pc := 46) 0 dX11_toldNumber_46 rfl rfl ?_
    refine wp_geti (pc := 47) dX11_toldNumber_47 rfl f_X11_169 kd_111 la_111 (Or.inl rfl) ?_
    refine wq_istore_n (pc := 50) 3 [some (vR 111), some (vI lo), some (vI hi), some (vI (J4 111 8))] dX11_toldNumber_50 rfl rfl (by decide) rfl ?_
    refine wp_aload_n (pc := 51) 0 dX11_toldNumber_51 rfl rfl ?_
    refine wp_geti (pc := 52) dX11_toldNumber_52 rfl f_X11_185 kd_111 la_111 (Or.inl rfl) ?_
    refine wp_eqst (st' := [vI ((bad b c 2).1)]) (by rw [x2_4]) ?_
    refine wp_if_ne (pc := 55) 62 dX11_toldNumber_55 (by decide) (by omega) (fun _ => ?_) (fun hh => absurd hh (by omega))
    refine wp_iload_n (pc := 62) 3 dX11_toldNumber_62 rfl rfl ?_
    refine wp_iret (pc := 63) dX11_toldNumber_63 rfl rfl ?_
    have en : nbF b c lo hi = -2 := nbF_2 (by have kt := (kC_ts b c).2.2.1; omega)
    rw [en] at h0; exact h0 (by decide) _ _ (Fb.refl.te hJ4.1) Ln.refl hJ4.2 _

theorem rz_toldNumber {l : Launch} {G : mG} {d : Nat} {I : mI} {L : Nat → Nat → Int} {D : Nat → Nat} {Q : mQ} {e : Int × Int} {lo hi : Int}  (hE : RE I e)  (hd : 2 ≤ d) (hQ : Q (some (vI 0)) I (XX L D)) : WP l G m_X11_toldNumber d 153 I (XX L D) 0 [some (vR 111), some (vI lo), some (vI hi), none] [] Q := by
  have x2 : I 111 2 = (e).1 := hE.1
  have xp : 0 < (e).1 ∧ (e).1 ≤ 5 := hE.2.2
  refine wp_aload_n (pc := 0) 0 dX11_toldNumber_0 rfl rfl ?_
  refine wp_geti (pc := 1) dX11_toldNumber_1 rfl f_X11_185 kd_111 la_111 (Or.inl rfl) ?_
  refine wp_eqst (st' := [vI e.1]) (by rw [x2]) ?_
  refine wp_if_le (pc := 4) 9 dX11_toldNumber_4 (by decide) (by omega) (fun hh => absurd hh (by omega)) (fun _ => ?_)
  refine wp_iconst (pc := 7) dX11_toldNumber_7 ?_
  refine wp_iret (pc := 8) dX11_toldNumber_8 rfl rfl ?_
  exact hQ

theorem rs_told {l : Launch} {G : mG} {d : Nat} {I : mI} {L : Nat → Nat → Int} {D : Nat → Nat} {Q : mQ} {b g : Nat → Int} {n c : Nat} {T N : mT} {mo : Nat} {w : Int} {k : Nat} {lo hi : Int}  (hP : RD I L b g n c T N mo) (hk : k < 21) (hw8 : w = W8 k) (hwi : wi b c = k) (hlo : 0 ≤ lo ∧ lo ≤ 1000) (hhi : 0 ≤ hi ∧ hi ≤ 1000) (hd : 3 ≤ d) (h1 : 0 ≤ nbF b (te b c) lo hi → ∀ J M, Fb I J → Lb L M → RD J M b g n (te b (te b c)) T N mo → Q (some (vI (nbF b (te b c) lo hi))) J (XX M D)) (h0 : nbF b (te b c) lo hi < 0 → ∀ J M, Fe I J → Ln L M → RE J (bad b (te b c) (-nbF b (te b c) lo hi)) → ∀ v, Q (some (vI v)) J (XX M D)) : WP l G m_X11_told d 153 I (XX L D) 0 [some (vR 111), some (vJ w), none, some (vI lo), some (vI hi)] [] Q := by
  have kw := wi_in b c
  have tr := ts_rng b c
  have i8 := hP.2.2.1.2.2.1.1
  have l9 := hP.2.2.1.2.2.2.2.1
  have hw := hP.tw
  have hb := hP.1.1
  have b_c := tw_c hw
  have b_p := tw_p hw
  have b_q := tw_q hw
  have b_v := tw_vows hw
  have eC : nC T = (T 0 11).toNat := rfl
  have eP : nP T = (T 0 12).toNat := rfl
  have eQ : nQ T = (T 0 13).toNat := rfl
  refine wp_aload_n (pc := 0) 0 dX11_told_0 rfl rfl ?_
  refine wp_lload_n (pc := 1) 1 dX11_told_1 rfl rfl ?_
  refine wp_callV (pc := 2) (st := []) (nf' := 153) [vJ w] [some (vR 111), some (vJ w), none] dX11_told_2 rfl c_X11_244 rfl kd_111 (by decide) rfl la_111 rfl (Nat.le_of_ble_eq_true rfl) rfl (Nat.le_of_ble_eq_true rfl) (by omega) (Nat.le_refl _) (Nat.le_refl _) ?_
  have hz1 : RD (I) (L) b g n c T N mo := hP
  refine rs_want (k := k) hz1 hk hw8 (by omega) (fun h_1 J1 M1 hFb1 hLb1 hP1 => ?_) (fun h_1 J1 M1 hF1 hL1 hE1 => ?_)
  · have kw_1 := wi_in b (te b c)
    have tr_1 := ts_rng b (te b c)
    have i8_1 := hP1.2.2.1.2.2.1.1
    have l9_1 := hP1.2.2.1.2.2.2.2.1
    refine wp_eqst (st' := []) rfl ?_
    refine wp_aload_n (pc := 5) 0 dX11_told_5 rfl rfl ?_
    refine wp_iload_n (pc := 6) 3 dX11_told_6 rfl rfl ?_
    refine wp_iload (pc := 7) dX11_told_7 rfl ?_
    refine wp_callV (pc := 9) (st := []) (nf' := 153) [vI lo, vI hi] [some (vR 111), some (vI lo), some (vI hi), none] dX11_told_9 rfl c_X11_248 rfl kd_111 (by decide) rfl la_111 rfl (Nat.le_of_ble_eq_true rfl) rfl (Nat.le_of_ble_eq_true rfl) (by omega) (Nat.le_refl _) (Nat.le_refl _) ?_
    have hz2 : RD (J1) (M1) b g n (te b c) T N mo := hP1
    refine rs_toldNumber hz2 (by omega) (by omega) (by omega) (fun h_2 J2 M2 hFb2 hLb2 hP2 => ?_) (fun h_2 J2 M2 hF2 hL2 hE2 v2 => ?_)
    · have kw_2 := wi_in b (te b (te b c))
      have tr_2 := ts_rng b (te b (te b c))
      have i8_2 := hP2.2.2.1.2.2.1.1
      have l9_2 := hP2.2.2.1.2.2.2.2.1
      refine wp_eqst (st' := [vI (nbF b (te b c) lo hi)]) rfl ?_
      refine wp_iret (pc := 12) dX11_told_12 rfl rfl ?_
      exact h1 (by omega) _ _ ((Fb.refl.trans hFb1).trans hFb2) ((Lb.refl.trans hLb1).trans hLb2) hP2
    · have x2_2 : J2 111 2 = (bad b (te b c) (-nbF b (te b c) lo hi)).1 := hE2.1
      have xp_2 : 0 < (bad b (te b c) (-nbF b (te b c) lo hi)).1 ∧ (bad b (te b c) (-nbF b (te b c) lo hi)).1 ≤ 5 := hE2.2.2
      have x42_2 : J2 111 42 = T 0 11 := (hF2.2 42 (by decide) (by decide) (by decide) (by decide) (by decide) (by decide)).trans (by rw [hP1.f42])
      have x43_2 : J2 111 43 = T 0 12 := (hF2.2 43 (by decide) (by decide) (by decide) (by decide) (by decide) (by decide)).trans (by rw [hP1.f43])
      have x44_2 : J2 111 44 = T 0 13 := (hF2.2 44 (by decide) (by decide) (by decide) (by decide) (by decide) (by decide)).trans (by rw [hP1.f44])
      refine wp_eqst (st' := [vI v2]) rfl ?_
      refine wp_iret (pc := 12) dX11_told_12 rfl rfl ?_
      exact h0 (by omega) _ _ ((Fb.refl.trans hFb1).te hF2) ((Ln.refl.trans hLb1.n).trans hL2) hE2 _
  · have x2_1 : J1 111 2 = (bad b c 2).1 := hE1.1
    have xp_1 : 0 < (bad b c 2).1 ∧ (bad b c 2).1 ≤ 5 := hE1.2.2
    have x42_1 : J1 111 42 = T 0 11 := (hF1.2 42 (by decide) (by decide) (by decide) (by decide) (by decide) (by decide)).trans (by rw [hP.f42])
    have x43_1 : J1 111 43 = T 0 12 := (hF1.2 43 (by decide) (by decide) (by decide) (by decide) (by decide) (by decide)).trans (by rw [hP.f43])
    have x44_1 : J1 111 44 = T 0 13 := (hF1.2 44 (by decide) (by decide) (by decide) (by decide) (by decide) (by decide)).trans (by rw [hP.f44])
    refine wp_eqst (st' := []) rfl ?_
    refine wp_aload_n (pc := 5) 0 dX11_told_5 rfl rfl ?_
    refine wp_iload_n (pc := 6) 3 dX11_told_6 rfl rfl ?_
    refine wp_iload (pc := 7) dX11_told_7 rfl ?_
    refine wp_callV (pc := 9) (st := []) (nf' := 153) [vI lo, vI hi] [some (vR 111), some (vI lo), some (vI hi), none] dX11_told_9 rfl c_X11_248 rfl kd_111 (by decide) rfl la_111 rfl (Nat.le_of_ble_eq_true rfl) rfl (Nat.le_of_ble_eq_true rfl) (by omega) (Nat.le_refl _) (Nat.le_refl _) ?_
    refine rz_toldNumber hE1 (by omega) ?_
    refine wp_eqst (st' := [vI 0]) rfl ?_
    refine wp_iret (pc := 12) dX11_told_12 rfl rfl ?_
    exfalso; omega

theorem rs_takes {l : Launch} {G : mG} {d : Nat} {I : mI} {L : Nat → Nat → Int} {D : Nat → Nat} {Q : mQ} {b g : Nat → Int} {n c : Nat} {T N : mT} {mo : Nat} {w : Int} {k : Nat}  (hP : RD I L b g n c T N mo) (hk : k < 21) (hw8 : w = W8 k) (hd : 2 ≤ d) (h1 : wi b c = k → ∀ J M, Fb I J → Lb L M → RD J M b g n (te b c) T N mo → Q (some (vI 1)) J (XX M D)) (h0 : ¬ wi b c = k → Q (some (vI 0)) I (XX L D)) : WP l G m_X11_takes d 153 I (XX L D) 0 [some (vR 111), some (vJ w), none, none] [] Q := by
  have kw := wi_in b c
  have tr := ts_rng b c
  have i8 := hP.2.2.1.2.2.1.1
  have l9 := hP.2.2.1.2.2.2.2.1
  have hw := hP.tw
  have hb := hP.1.1
  have b_c := tw_c hw
  have b_p := tw_p hw
  have b_q := tw_q hw
  have b_v := tw_vows hw
  have eC : nC T = (T 0 11).toNat := rfl
  have eP : nP T = (T 0 12).toNat := rfl
  have eQ : nQ T = (T 0 13).toNat := rfl
  refine wp_aload_n (pc := 0) 0 dX11_takes_0 rfl rfl ?_
  refine wp_geti (pc := 1) dX11_takes_1 rfl f_X11_185 kd_111 la_111 (Or.inl rfl) ?_
  refine wp_eqst (st' := [vI 0]) (by rw [hP.2.2.2.1.1]) ?_
  refine wp_if_ne (pc := 4) 19 dX11_takes_4 (by decide) (by decide) (fun hh => absurd hh (by decide)) (fun _ => ?_)
  refine wp_aload_n (pc := 7) 0 dX11_takes_7 rfl rfl ?_
  refine wp_lload_n (pc := 8) 1 dX11_takes_8 rfl rfl ?_
  refine wp_callV (pc := 9) (st := []) (nf' := 153) [vJ w] [some (vR 111), some (vJ w), none] dX11_takes_9 rfl c_X11_234 rfl kd_111 (by decide) rfl la_111 rfl (Nat.le_of_ble_eq_true rfl) rfl (Nat.le_of_ble_eq_true rfl) (by omega) (Nat.le_refl _) (Nat.le_refl _) ?_
  have hz1 : RD (I) (L) b g n c T N mo := hP
  refine rs_isWord (k := k) hz1.1.1 hz1.2.1 hz1.2.2.1 hk hw8 (by omega) (fun h_1 => ?_) (fun h_1 => ?_)
  · refine wp_eqst (st' := [vI 1]) rfl ?_
    refine wp_if_eq (pc := 12) 19 dX11_takes_12 (by decide) (by decide) (fun hh => absurd hh (by decide)) (fun _ => ?_)
    refine wp_iconst (pc := 15) dX11_takes_15 ?_
    refine wp_goto (pc := 16) 20 dX11_takes_16 (by decide) ?_
    refine wq_istore_n (pc := 20) 3 [some (vR 111), some (vJ w), none, some (vI 1)] dX11_takes_20 rfl rfl (by decide) rfl ?_
    refine wp_iload_n (pc := 21) 3 dX11_takes_21 rfl rfl ?_
    refine wp_if_eq (pc := 22) 29 dX11_takes_22 (by decide) (by decide) (fun hh => absurd hh (by decide)) (fun _ => ?_)
    refine wp_aload_n (pc := 25) 0 dX11_takes_25 rfl rfl ?_
    refine wp_callV (pc := 26) (st := []) (nf' := 153) [] [some (vR 111), none, none] dX11_takes_26 rfl c_X11_241 rfl kd_111 (by decide) rfl la_111 rfl (Nat.le_of_ble_eq_true rfl) rfl (Nat.le_of_ble_eq_true rfl) (by omega) (Nat.le_refl _) (Nat.le_refl _) ?_
    have n32 : ts b c ≠ 3 := (by first | exact n3_k (by omega) | exact n3_4 (by omega) | exact n3_w (by omega) | exact n3_s (by omega) | omega)
    have hz2 : RD (I) (L) b g n c T N mo := hP
    refine rs_token hz2.1 hz2.nx (hz2.q4 n32) (by omega) (fun J2 M2 hFb2 hLb2 hTk2 => ?_)
    have hP2 := hz2.adv hz2.nx hFb2 hLb2 hTk2
    have kw_2 := wi_in b (te b c)
    have tr_2 := ts_rng b (te b c)
    have i8_2 := hP2.2.2.1.2.2.1.1
    have l9_2 := hP2.2.2.1.2.2.2.2.1
    refine wp_eqst (st' := []) rfl ?_
    refine wp_iload_n (pc := 29) 3 dX11_takes_29 rfl rfl ?_
    refine wp_zret (pc := 30) dX11_takes_30 rfl rfl (by decide) ?_
    exact h1 (by omega) _ _ (Fb.refl.trans hFb2) (Lb.refl.trans hLb2) hP2
  · refine wp_eqst (st' := [vI 0]) rfl ?_
    refine wp_if_eq (pc := 12) 19 dX11_takes_12 (by decide) (by decide) (fun _ => ?_) (fun hh => absurd hh (by decide))
    refine wp_iconst (pc := 19) dX11_takes_19 ?_
    refine wq_istore_n (pc := 20) 3 [some (vR 111), some (vJ w), none, some (vI 0)] dX11_takes_20 rfl rfl (by decide) rfl ?_
    refine wp_iload_n (pc := 21) 3 dX11_takes_21 rfl rfl ?_
    refine wp_if_eq (pc := 22) 29 dX11_takes_22 (by decide) (by decide) (fun _ => ?_) (fun hh => absurd hh (by decide))
    refine wp_iload_n (pc := 29) 3 dX11_takes_29 rfl rfl ?_
    refine wp_zret (pc := 30) dX11_takes_30 rfl rfl (by decide) ?_
    exact h0 (by omega)

theorem rz_takes {l : Launch} {G : mG} {d : Nat} {I : mI} {L : Nat → Nat → Int} {D : Nat → Nat} {Q : mQ} {e : Int × Int} {w : Int}  (hE : RE I e)  (hd : 2 ≤ d) (hQ : Q (some (vI 0)) I (XX L D)) : WP l G m_X11_takes d 153 I (XX L D) 0 [some (vR 111), some (vJ w), none, none] [] Q := by
  have x2 : I 111 2 = (e).1 := hE.1
  have xp : 0 < (e).1 ∧ (e).1 ≤ 5 := hE.2.2
  refine wp_aload_n (pc := 0) 0 dX11_takes_0 rfl rfl ?_
  refine wp_geti (pc := 1) dX11_takes_1 rfl f_X11_185 kd_111 la_111 (Or.inl rfl) ?_
  refine wp_eqst (st' := [vI e.1]) (by rw [x2]) ?_
  refine wp_if_ne (pc := 4) 19 dX11_takes_4 (by decide) (by omega) (fun _ => ?_) (fun hh => absurd hh (by omega))
  refine wp_iconst (pc := 19) dX11_takes_19 ?_
  refine wq_istore_n (pc := 20) 3 [some (vR 111), some (vJ w), none, some (vI 0)] dX11_takes_20 rfl rfl (by decide) rfl ?_
  refine wp_iload_n (pc := 21) 3 dX11_takes_21 rfl rfl ?_
  refine wp_if_eq (pc := 22) 29 dX11_takes_22 (by decide) (by decide) (fun _ => ?_) (fun hh => absurd hh (by decide))
  refine wp_iload_n (pc := 29) 3 dX11_takes_29 rfl rfl ?_
  refine wp_zret (pc := 30) dX11_takes_30 rfl rfl (by decide) ?_
  exact hQ

theorem lp_rfind0 {l : Launch} {G : mG} {d : Nat} {I : mI} {L : Nat → Nat → Int} {D : Nat → Nat} {Q : mQ} {b g : Nat → Int} {n c : Nat} {T N : mT} {mo : Nat} {m : Nat} (hP : RD I L b g n c T N mo) (hm : m ≤ nC T) (ht1 : ts b c = 1) (hd : 0 ≤ d) (hQ : Q (some (vI (fnd (N 0) (w5 b c) m))) I (XX L D)) : ∀ i : Nat, i ≤ m → WP l G m_X11_find d 153 I (XX L D) 5 [some (vR 111), some (vI 0), some (vI (m : Int)), some (vI (fnd (N 0) (w5 b c) i)), some (vI (i : Int))] [] Q := by
  have hw := hP.tw
  have b_c := tw_c hw
  have b_p := tw_p hw
  have l9 := hP.2.2.1.2.2.2.2.1
  have eC : nC T = (T 0 11).toNat := rfl
  have eP : nP T = (T 0 12).toNat := rfl
  refine loop_dn (fun i => WP l G m_X11_find d 153 I (XX L D) 5 [some (vR 111), some (vI 0), some (vI (m : Int)), some (vI (fnd (N 0) (w5 b c) i)), some (vI (i : Int))] [] Q) m ?_ (fun i hi ih => ?_)
  · refine wp_iload (pc := 5) dX11_find_5 rfl ?_
    refine wp_iload_n (pc := 7) 2 dX11_find_7 rfl rfl ?_
    refine wp_icmp_ge (pc := 8) 41 dX11_find_8 (by decide) (by first | exact cmpR _ _ | omega) (by first | exact cmpR _ _ | omega) (fun h_1 => ?_) (fun h_1 => ?_)
    · refine wp_iload_n (pc := 41) 3 dX11_find_41 rfl rfl ?_
      refine wp_iret (pc := 42) dX11_find_42 rfl rfl ?_
      exact hQ
    · exfalso; omega
  · have fi := fnd_in (N 0) (w5 b c) i
    have li := hP.nn.1 i
    have hnm : nmR (w5 b c) (w8 b c) := by have z := nmR_w (g := g) hP.2.1 (by rw [← hP.1.1]; exact ht1); rw [← hP.1.1] at z; exact z
    have hx : N 0 i = w5 b c ↔ L 113 i = L 111 9 := by rw [hP.2.2.1.2.2.2.2.2 ht1]; exact nmR_eq (hP.nn.2.1 i (by omega)) hnm
    refine wp_iload (pc := 5) dX11_find_5 rfl ?_
    refine wp_iload_n (pc := 7) 2 dX11_find_7 rfl rfl ?_
    refine wp_icmp_ge (pc := 8) 41 dX11_find_8 (by decide) (by first | exact cmpR _ _ | omega) (by first | exact cmpR _ _ | omega) (fun h_1 => ?_) (fun h_1 => ?_)
    · exfalso; omega
    · refine wp_aload_n (pc := 11) 0 dX11_find_11 rfl rfl ?_
      refine wp_getr (pc := 12) dX11_find_12 rfl f_X11_17 kd_111 la_111 rfl (r_111_10 D) ?_
      refine wp_iload_n (pc := 15) 1 dX11_find_15 rfl rfl ?_
      refine wp_iload (pc := 16) dX11_find_16 rfl ?_
      refine wp_iadd (pc := 18) dX11_find_18 ?_
      refine wq_lald (pc := 19) i dX11_find_19 kd_113 la_113 (by first | exact cmpR _ _ | omega) (by first | exact cmpR _ _ | omega) ?_
      refine wp_eqst (st' := [vJ (L 113 i)]) rfl ?_
      refine wp_aload_n (pc := 20) 0 dX11_find_20 rfl rfl ?_
      refine wp_getl (pc := 21) dX11_find_21 rfl f_X11_165 kd_111 la_111 rfl ?_
      refine wp_eqst (st' := [vJ (L 111 9), vJ (L 113 i)]) rfl ?_
      refine wq_lcmp (pc := 24) dX11_find_24 (by first | exact cmpR _ _ | omega) (by first | exact cmpR _ _ | omega) ?_
      refine wp_if_ne (pc := 25) 33 dX11_find_25 (by decide) (by first | exact cmpR _ _ | omega) (fun h_2 => ?_) (fun h_2 => ?_)
      · refine wp_iload_n (pc := 33) 3 dX11_find_33 rfl rfl ?_
        refine wq_istore_n (pc := 34) 3 [some (vR 111), some (vI 0), some (vI (m : Int)), some (vI (fnd (N 0) (w5 b c) i)), some (vI (i : Int))] dX11_find_34 rfl rfl (by decide) rfl ?_
        refine wq_iinc (pc := 35) [some (vR 111), some (vI 0), some (vI (m : Int)), some (vI (fnd (N 0) (w5 b c) i)), some (vI ((i : Int) + 1))] dX11_find_35 rfl rfl (by decide) rfl ?_
        refine wp_goto (pc := 38) 5 dX11_find_38 (by decide) ?_
        refine wp_eqls (ls' := [some (vR 111), some (vI 0), some (vI (m : Int)), some (vI (fnd (N 0) (w5 b c) (i + 1))), some (vI ((i + 1 : Nat) : Int))]) (by rw [show fnd (N 0) (w5 b c) (i + 1) = fnd (N 0) (w5 b c) i from if_neg (fun z => h_2 (cmpL_0.mpr (hx.mp z)))] <;> rfl) ih
      · refine wp_iload (pc := 28) dX11_find_28 rfl ?_
        refine wp_goto (pc := 30) 34 dX11_find_30 (by decide) ?_
        refine wq_istore_n (pc := 34) 3 [some (vR 111), some (vI 0), some (vI (m : Int)), some (vI (i : Int)), some (vI (i : Int))] dX11_find_34 rfl rfl (by decide) rfl ?_
        refine wq_iinc (pc := 35) [some (vR 111), some (vI 0), some (vI (m : Int)), some (vI (i : Int)), some (vI ((i : Int) + 1))] dX11_find_35 rfl rfl (by decide) rfl ?_
        refine wp_goto (pc := 38) 5 dX11_find_38 (by decide) ?_
        refine wp_eqls (ls' := [some (vR 111), some (vI 0), some (vI (m : Int)), some (vI (fnd (N 0) (w5 b c) (i + 1))), some (vI ((i + 1 : Nat) : Int))]) (by rw [show fnd (N 0) (w5 b c) (i + 1) = (i : Int) from if_pos (hx.mpr (cmpL_0.mp h_2))] <;> rfl) ih

theorem rs_find0 {l : Launch} {G : mG} {d : Nat} {I : mI} {L : Nat → Nat → Int} {D : Nat → Nat} {Q : mQ} {b g : Nat → Int} {n c : Nat} {T N : mT} {mo : Nat} (m : Nat) {m_ : Int} (hm_ : m_ = (m : Int)) (hP : RD I L b g n c T N mo) (hm : m ≤ nC T) (ht1 : ts b c = 1) (hd : 0 ≤ d) (hQ : Q (some (vI (fnd (N 0) (w5 b c) m))) I (XX L D)) : WP l G m_X11_find d 153 I (XX L D) 0 [some (vR 111), some (vI 0), some (vI m_), none, none] [] Q := by
  subst hm_
  refine wp_iconst (pc := 0) dX11_find_0 ?_
  refine wq_istore_n (pc := 1) 3 [some (vR 111), some (vI 0), some (vI (m : Int)), some (vI (-1)), none] dX11_find_1 rfl rfl (by decide) rfl ?_
  refine wp_iconst (pc := 2) dX11_find_2 ?_
  refine wq_istore (pc := 3) [some (vR 111), some (vI 0), some (vI (m : Int)), some (vI (-1)), some (vI 0)] dX11_find_3 rfl (by decide) rfl ?_
  exact lp_rfind0 hP hm ht1 hd hQ 0 (Nat.zero_le _)

theorem lp_rfind1 {l : Launch} {G : mG} {d : Nat} {I : mI} {L : Nat → Nat → Int} {D : Nat → Nat} {Q : mQ} {b g : Nat → Int} {n c : Nat} {T N : mT} {mo : Nat} {m : Nat} (hP : RD I L b g n c T N mo) (hm : m ≤ nP T) (ht1 : ts b c = 1) (hd : 0 ≤ d) (hQ : Q (some (vI (fnd (N 1) (w5 b c) m))) I (XX L D)) : ∀ i : Nat, i ≤ m → WP l G m_X11_find d 153 I (XX L D) 5 [some (vR 111), some (vI 4), some (vI (m : Int)), some (vI (fnd (N 1) (w5 b c) i)), some (vI (i : Int))] [] Q := by
  have hw := hP.tw
  have b_c := tw_c hw
  have b_p := tw_p hw
  have l9 := hP.2.2.1.2.2.2.2.1
  have eC : nC T = (T 0 11).toNat := rfl
  have eP : nP T = (T 0 12).toNat := rfl
  refine loop_dn (fun i => WP l G m_X11_find d 153 I (XX L D) 5 [some (vR 111), some (vI 4), some (vI (m : Int)), some (vI (fnd (N 1) (w5 b c) i)), some (vI (i : Int))] [] Q) m ?_ (fun i hi ih => ?_)
  · refine wp_iload (pc := 5) dX11_find_5 rfl ?_
    refine wp_iload_n (pc := 7) 2 dX11_find_7 rfl rfl ?_
    refine wp_icmp_ge (pc := 8) 41 dX11_find_8 (by decide) (by first | exact cmpR _ _ | omega) (by first | exact cmpR _ _ | omega) (fun h_1 => ?_) (fun h_1 => ?_)
    · refine wp_iload_n (pc := 41) 3 dX11_find_41 rfl rfl ?_
      refine wp_iret (pc := 42) dX11_find_42 rfl rfl ?_
      exact hQ
    · exfalso; omega
  · have fi := fnd_in (N 1) (w5 b c) i
    have li := hP.nn.1 (4 + i)
    have hnm : nmR (w5 b c) (w8 b c) := by have z := nmR_w (g := g) hP.2.1 (by rw [← hP.1.1]; exact ht1); rw [← hP.1.1] at z; exact z
    have hx : N 1 i = w5 b c ↔ L 113 (4 + i) = L 111 9 := by rw [hP.2.2.1.2.2.2.2.2 ht1]; exact nmR_eq (hP.nn.2.2 i (by omega)) hnm
    refine wp_iload (pc := 5) dX11_find_5 rfl ?_
    refine wp_iload_n (pc := 7) 2 dX11_find_7 rfl rfl ?_
    refine wp_icmp_ge (pc := 8) 41 dX11_find_8 (by decide) (by first | exact cmpR _ _ | omega) (by first | exact cmpR _ _ | omega) (fun h_1 => ?_) (fun h_1 => ?_)
    · exfalso; omega
    · refine wp_aload_n (pc := 11) 0 dX11_find_11 rfl rfl ?_
      refine wp_getr (pc := 12) dX11_find_12 rfl f_X11_17 kd_111 la_111 rfl (r_111_10 D) ?_
      refine wp_iload_n (pc := 15) 1 dX11_find_15 rfl rfl ?_
      refine wp_iload (pc := 16) dX11_find_16 rfl ?_
      refine wp_iadd (pc := 18) dX11_find_18 ?_
      refine wq_lald (pc := 19) (4 + i) dX11_find_19 kd_113 la_113 (by first | exact cmpR _ _ | omega) (by first | exact cmpR _ _ | omega) ?_
      refine wp_eqst (st' := [vJ (L 113 (4 + i))]) rfl ?_
      refine wp_aload_n (pc := 20) 0 dX11_find_20 rfl rfl ?_
      refine wp_getl (pc := 21) dX11_find_21 rfl f_X11_165 kd_111 la_111 rfl ?_
      refine wp_eqst (st' := [vJ (L 111 9), vJ (L 113 (4 + i))]) rfl ?_
      refine wq_lcmp (pc := 24) dX11_find_24 (by first | exact cmpR _ _ | omega) (by first | exact cmpR _ _ | omega) ?_
      refine wp_if_ne (pc := 25) 33 dX11_find_25 (by decide) (by first | exact cmpR _ _ | omega) (fun h_2 => ?_) (fun h_2 => ?_)
      · refine wp_iload_n (pc := 33) 3 dX11_find_33 rfl rfl ?_
        refine wq_istore_n (pc := 34) 3 [some (vR 111), some (vI 4), some (vI (m : Int)), some (vI (fnd (N 1) (w5 b c) i)), some (vI (i : Int))] dX11_find_34 rfl rfl (by decide) rfl ?_
        refine wq_iinc (pc := 35) [some (vR 111), some (vI 4), some (vI (m : Int)), some (vI (fnd (N 1) (w5 b c) i)), some (vI ((i : Int) + 1))] dX11_find_35 rfl rfl (by decide) rfl ?_
        refine wp_goto (pc := 38) 5 dX11_find_38 (by decide) ?_
        refine wp_eqls (ls' := [some (vR 111), some (vI 4), some (vI (m : Int)), some (vI (fnd (N 1) (w5 b c) (i + 1))), some (vI ((i + 1 : Nat) : Int))]) (by rw [show fnd (N 1) (w5 b c) (i + 1) = fnd (N 1) (w5 b c) i from if_neg (fun z => h_2 (cmpL_0.mpr (hx.mp z)))] <;> rfl) ih
      · refine wp_iload (pc := 28) dX11_find_28 rfl ?_
        refine wp_goto (pc := 30) 34 dX11_find_30 (by decide) ?_
        refine wq_istore_n (pc := 34) 3 [some (vR 111), some (vI 4), some (vI (m : Int)), some (vI (i : Int)), some (vI (i : Int))] dX11_find_34 rfl rfl (by decide) rfl ?_
        refine wq_iinc (pc := 35) [some (vR 111), some (vI 4), some (vI (m : Int)), some (vI (i : Int)), some (vI ((i : Int) + 1))] dX11_find_35 rfl rfl (by decide) rfl ?_
        refine wp_goto (pc := 38) 5 dX11_find_38 (by decide) ?_
        refine wp_eqls (ls' := [some (vR 111), some (vI 4), some (vI (m : Int)), some (vI (fnd (N 1) (w5 b c) (i + 1))), some (vI ((i + 1 : Nat) : Int))]) (by rw [show fnd (N 1) (w5 b c) (i + 1) = (i : Int) from if_pos (hx.mpr (cmpL_0.mp h_2))] <;> rfl) ih

theorem rs_find1 {l : Launch} {G : mG} {d : Nat} {I : mI} {L : Nat → Nat → Int} {D : Nat → Nat} {Q : mQ} {b g : Nat → Int} {n c : Nat} {T N : mT} {mo : Nat} (m : Nat) {m_ : Int} (hm_ : m_ = (m : Int)) (hP : RD I L b g n c T N mo) (hm : m ≤ nP T) (ht1 : ts b c = 1) (hd : 0 ≤ d) (hQ : Q (some (vI (fnd (N 1) (w5 b c) m))) I (XX L D)) : WP l G m_X11_find d 153 I (XX L D) 0 [some (vR 111), some (vI 4), some (vI m_), none, none] [] Q := by
  subst hm_
  refine wp_iconst (pc := 0) dX11_find_0 ?_
  refine wq_istore_n (pc := 1) 3 [some (vR 111), some (vI 4), some (vI (m : Int)), some (vI (-1)), none] dX11_find_1 rfl rfl (by decide) rfl ?_
  refine wp_iconst (pc := 2) dX11_find_2 ?_
  refine wq_istore (pc := 3) [some (vR 111), some (vI 4), some (vI (m : Int)), some (vI (-1)), some (vI 0)] dX11_find_3 rfl (by decide) rfl ?_
  exact lp_rfind1 hP hm ht1 hd hQ 0 (Nat.zero_le _)

theorem rs_oldName0 {l : Launch} {G : mG} {d : Nat} {I : mI} {L : Nat → Nat → Int} {D : Nat → Nat} {Q : mQ} {b g : Nat → Int} {n c : Nat} {T N : mT} {mo : Nat}  (m : Nat) {m_ : Int} (hm_ : m_ = (m : Int)) (hP : RD I L b g n c T N mo) (hm : m = nC T) (hd : 2 ≤ d) (h1 : 0 ≤ prF b c (N 0) (nC T) 0 → Q (some (vI (prF b c (N 0) (nC T) 0))) I (XX L D)) (h0 : prF b c (N 0) (nC T) 0 < 0 → ∀ J M, Fe I J → Ln L M → RE J (bad b c (-prF b c (N 0) (nC T) 0)) → Q (some (vI 0)) J (XX M D)) : WP l G m_X11_oldName d 153 I (XX L D) 0 [some (vR 111), some (vI 0), some (vI m_)] [] Q := by
  subst hm_
  have kw := wi_in b c
  have tr := ts_rng b c
  have i8 := hP.2.2.1.2.2.1.1
  have l9 := hP.2.2.1.2.2.2.2.1
  have hw := hP.tw
  have hb := hP.1.1
  have b_c := tw_c hw
  have b_p := tw_p hw
  have b_q := tw_q hw
  have b_v := tw_vows hw
  have eC : nC T = (T 0 11).toNat := rfl
  have eP : nP T = (T 0 12).toNat := rfl
  have eQ : nQ T = (T 0 13).toNat := rfl
  refine wp_aload_n (pc := 0) 0 dX11_oldName_0 rfl rfl ?_
  refine wp_geti (pc := 1) dX11_oldName_1 rfl f_X11_185 kd_111 la_111 (Or.inl rfl) ?_
  refine wp_eqst (st' := [vI 0]) (by rw [hP.2.2.2.1.1]) ?_
  refine wp_if_le (pc := 4) 9 dX11_oldName_4 (by decide) (by decide) (fun _ => ?_) (fun hh => absurd hh (by decide))
  refine wp_aload_n (pc := 9) 0 dX11_oldName_9 rfl rfl ?_
  refine wp_callV (pc := 10) (st := []) (nf' := 153) [] [some (vR 111)] dX11_oldName_10 rfl c_X11_252 rfl kd_111 (by decide) rfl la_111 rfl (Nat.le_of_ble_eq_true rfl) rfl (Nat.le_of_ble_eq_true rfl) (by omega) (Nat.le_refl _) (Nat.le_refl _) ?_
  refine rs_isName hP.1.1 hP.2.1 hP.2.2.1 (by omega) (fun h_1 => ?_) (fun h_1 => ?_)
  · refine wp_eqst (st' := [vI 1]) rfl ?_
    refine wp_if_ne (pc := 13) 24 dX11_oldName_13 (by decide) (by decide) (fun _ => ?_) (fun hh => absurd hh (by decide))
    refine wp_aload_n (pc := 24) 0 dX11_oldName_24 rfl rfl ?_
    refine wp_iload_n (pc := 25) 1 dX11_oldName_25 rfl rfl ?_
    refine wp_iload_n (pc := 26) 2 dX11_oldName_26 rfl rfl ?_
    refine wp_callV (pc := 27) (st := []) (nf' := 153) [vI 0, vI (m : Int)] [some (vR 111), some (vI 0), some (vI (m : Int)), none, none] dX11_oldName_27 rfl c_X11_255 rfl kd_111 (by decide) rfl la_111 rfl (Nat.le_of_ble_eq_true rfl) rfl (Nat.le_of_ble_eq_true rfl) (by omega) (Nat.le_refl _) (Nat.le_refl _) ?_
    refine rs_find0 m rfl hP (by omega) (k2_w (by omega)) (by omega) ?_
    have fi1 := fnd_in (N 0) (w5 b c) m
    refine wp_eqst (st' := [vI (fnd (N 0) (w5 b c) m)]) rfl ?_
    refine wp_if_ge (pc := 30) 38 dX11_oldName_30 (by decide) (by omega) (fun h_2 => ?_) (fun h_2 => ?_)
    · refine wp_aload_n (pc := 38) 0 dX11_oldName_38 rfl rfl ?_
      refine wp_geti (pc := 39) dX11_oldName_39 rfl f_X11_185 kd_111 la_111 (Or.inl rfl) ?_
      refine wp_eqst (st' := [vI 0]) (by rw [hP.2.2.2.1.1]) ?_
      refine wp_if_le (pc := 42) 49 dX11_oldName_42 (by decide) (by decide) (fun _ => ?_) (fun hh => absurd hh (by decide))
      refine wp_aload_n (pc := 49) 0 dX11_oldName_49 rfl rfl ?_
      refine wp_iload_n (pc := 50) 1 dX11_oldName_50 rfl rfl ?_
      refine wp_iload_n (pc := 51) 2 dX11_oldName_51 rfl rfl ?_
      refine wp_callV (pc := 52) (st := []) (nf' := 153) [vI 0, vI (m : Int)] [some (vR 111), some (vI 0), some (vI (m : Int)), none, none] dX11_oldName_52 rfl c_X11_255 rfl kd_111 (by decide) rfl la_111 rfl (Nat.le_of_ble_eq_true rfl) rfl (Nat.le_of_ble_eq_true rfl) (by omega) (Nat.le_refl _) (Nat.le_refl _) ?_
      refine rs_find0 m rfl hP (by omega) (k2_w (by omega)) (by omega) ?_
      have fi2 := fnd_in (N 0) (w5 b c) m
      refine wp_eqst (st' := [vI (fnd (N 0) (w5 b c) m)]) rfl ?_
      refine wp_iret (pc := 55) dX11_oldName_55 rfl rfl ?_
      subst hm
      have en : prF b c (N 0) (nC T) 0 = fnd (N 0) (w5 b c) (nC T) := prF_y (by omega) (by omega) (by rw [Nat.zero_testBit]; decide)
      rw [en] at h1; exact h1 (by omega)
    · refine wp_aload_n (pc := 33) 0 dX11_oldName_33 rfl rfl ?_
      refine wp_iconst (pc := 34) dX11_oldName_34 ?_
      refine wp_callV (pc := 35) (st := []) (nf' := 153) [vI 5] [some (vR 111), some (vI 5)] dX11_oldName_35 rfl c_X11_238 rfl kd_111 (by decide) rfl la_111 rfl (Nat.le_of_ble_eq_true rfl) rfl (Nat.le_of_ble_eq_true rfl) (by omega) (Nat.le_refl _) (Nat.le_refl _) ?_
      have hz3 : RD (I) (L) b g n c T N mo := hP
      refine rs_wrong hz3.2.2.1 hz3.2.2.2.1.1 (by omega) (by omega) ?_
      refine wp_gen (fun J => Fe (I) J ∧ RE J (bad b c 5)) ⟨Fe.bad, RD.bad (by omega)⟩ (fun J3 hJ3 => ?_)
      have x2_3 : J3 111 2 = (bad b c 5).1 := hJ3.2.1
      have xp_3 : 0 < (bad b c 5).1 ∧ (bad b c 5).1 ≤ 5 := hJ3.2.2.2
      have x42_3 : J3 111 42 = T 0 11 := (hJ3.1.2 42 (by decide) (by decide) (by decide) (by decide) (by decide) (by decide)).trans (by rw [hP.f42])
      have x43_3 : J3 111 43 = T 0 12 := (hJ3.1.2 43 (by decide) (by decide) (by decide) (by decide) (by decide) (by decide)).trans (by rw [hP.f43])
      have x44_3 : J3 111 44 = T 0 13 := (hJ3.1.2 44 (by decide) (by decide) (by decide) (by decide) (by decide) (by decide)).trans (by rw [hP.f44])
      refine wp_eqst (st' := []) rfl ?_
      refine wp_aload_n (pc := 38) 0 dX11_oldName_38 rfl rfl ?_
      refine wp_geti (pc := 39) dX11_oldName_39 rfl f_X11_185 kd_111 la_111 (Or.inl rfl) ?_
      refine wp_eqst (st' := [vI ((bad b c 5).1)]) (by rw [x2_3]) ?_
      refine wp_if_le (pc := 42) 49 dX11_oldName_42 (by decide) (by omega) (fun hh => absurd hh (by omega)) (fun _ => ?_)
      refine wp_iconst (pc := 45) dX11_oldName_45 ?_
      refine wp_goto (pc := 46) 55 dX11_oldName_46 (by decide) ?_
      refine wp_iret (pc := 55) dX11_oldName_55 rfl rfl ?_
      subst hm
      have en : prF b c (N 0) (nC T) 0 = -5 := prF_5 (by omega) (by omega)
      rw [en] at h0; exact h0 (by decide) _ _ (Fb.refl.te hJ3.1) Ln.refl hJ3.2
  · refine wp_eqst (st' := [vI 0]) rfl ?_
    refine wp_if_ne (pc := 13) 24 dX11_oldName_13 (by decide) (by decide) (fun hh => absurd hh (by decide)) (fun _ => ?_)
    refine wp_aload_n (pc := 16) 0 dX11_oldName_16 rfl rfl ?_
    refine wp_iconst (pc := 17) dX11_oldName_17 ?_
    refine wp_callV (pc := 18) (st := []) (nf' := 153) [vI 2] [some (vR 111), some (vI 2)] dX11_oldName_18 rfl c_X11_238 rfl kd_111 (by decide) rfl la_111 rfl (Nat.le_of_ble_eq_true rfl) rfl (Nat.le_of_ble_eq_true rfl) (by omega) (Nat.le_refl _) (Nat.le_refl _) ?_
    have hz4 : RD (I) (L) b g n c T N mo := hP
    refine rs_wrong hz4.2.2.1 hz4.2.2.2.1.1 (by omega) (by omega) ?_
    refine wp_gen (fun J => Fe (I) J ∧ RE J (bad b c 2)) ⟨Fe.bad, RD.bad (by omega)⟩ (fun J4 hJ4 => ?_)
    have x2_4 : J4 111 2 = (bad b c 2).1 := hJ4.2.1
    have xp_4 : 0 < (bad b c 2).1 ∧ (bad b c 2).1 ≤ 5 := hJ4.2.2.2
    have x42_4 : J4 111 42 = T 0 11 := (hJ4.1.2 42 (by decide) (by decide) (by decide) (by decide) (by decide) (by decide)).trans (by rw [hP.f42])
    have x43_4 : J4 111 43 = T 0 12 := (hJ4.1.2 43 (by decide) (by decide) (by decide) (by decide) (by decide) (by decide)).trans (by rw [hP.f43])
    have x44_4 : J4 111 44 = T 0 13 := (hJ4.1.2 44 (by decide) (by decide) (by decide) (by decide) (by decide) (by decide)).trans (by rw [hP.f44])
    refine wp_eqst (st' := []) rfl ?_
    refine wp_goto (pc := 21) 38 dX11_oldName_21 (by decide) ?_
    refine wp_aload_n (pc := 38) 0 dX11_oldName_38 rfl rfl ?_
    refine wp_geti (pc := 39) dX11_oldName_39 rfl f_X11_185 kd_111 la_111 (Or.inl rfl) ?_
    refine wp_eqst (st' := [vI ((bad b c 2).1)]) (by rw [x2_4]) ?_
    refine wp_if_le (pc := 42) 49 dX11_oldName_42 (by decide) (by omega) (fun hh => absurd hh (by omega)) (fun _ => ?_)
    refine wp_iconst (pc := 45) dX11_oldName_45 ?_
    refine wp_goto (pc := 46) 55 dX11_oldName_46 (by decide) ?_
    refine wp_iret (pc := 55) dX11_oldName_55 rfl rfl ?_
    subst hm
    have en : prF b c (N 0) (nC T) 0 = -2 := prF_2 (by omega)
    rw [en] at h0; exact h0 (by decide) _ _ (Fb.refl.te hJ4.1) Ln.refl hJ4.2

theorem rz_oldName0 {l : Launch} {G : mG} {d : Nat} {I : mI} {L : Nat → Nat → Int} {D : Nat → Nat} {Q : mQ} {e : Int × Int} {m : Int}  (hE : RE I e)  (hd : 2 ≤ d) (hQ : Q (some (vI 0)) I (XX L D)) : WP l G m_X11_oldName d 153 I (XX L D) 0 [some (vR 111), some (vI 0), some (vI m)] [] Q := by
  have x2 : I 111 2 = (e).1 := hE.1
  have xp : 0 < (e).1 ∧ (e).1 ≤ 5 := hE.2.2
  refine wp_aload_n (pc := 0) 0 dX11_oldName_0 rfl rfl ?_
  refine wp_geti (pc := 1) dX11_oldName_1 rfl f_X11_185 kd_111 la_111 (Or.inl rfl) ?_
  refine wp_eqst (st' := [vI e.1]) (by rw [x2]) ?_
  refine wp_if_le (pc := 4) 9 dX11_oldName_4 (by decide) (by omega) (fun hh => absurd hh (by omega)) (fun _ => ?_)
  refine wp_iconst (pc := 7) dX11_oldName_7 ?_
  refine wp_iret (pc := 8) dX11_oldName_8 rfl rfl ?_
  exact hQ

theorem rs_oldName1 {l : Launch} {G : mG} {d : Nat} {I : mI} {L : Nat → Nat → Int} {D : Nat → Nat} {Q : mQ} {b g : Nat → Int} {n c : Nat} {T N : mT} {mo : Nat}  (m : Nat) {m_ : Int} (hm_ : m_ = (m : Int)) (hP : RD I L b g n c T N mo) (hm : m = nP T) (hd : 2 ≤ d) (h1 : 0 ≤ prF b c (N 1) (nP T) 0 → Q (some (vI (prF b c (N 1) (nP T) 0))) I (XX L D)) (h0 : prF b c (N 1) (nP T) 0 < 0 → ∀ J M, Fe I J → Ln L M → RE J (bad b c (-prF b c (N 1) (nP T) 0)) → Q (some (vI 0)) J (XX M D)) : WP l G m_X11_oldName d 153 I (XX L D) 0 [some (vR 111), some (vI 4), some (vI m_)] [] Q := by
  subst hm_
  have kw := wi_in b c
  have tr := ts_rng b c
  have i8 := hP.2.2.1.2.2.1.1
  have l9 := hP.2.2.1.2.2.2.2.1
  have hw := hP.tw
  have hb := hP.1.1
  have b_c := tw_c hw
  have b_p := tw_p hw
  have b_q := tw_q hw
  have b_v := tw_vows hw
  have eC : nC T = (T 0 11).toNat := rfl
  have eP : nP T = (T 0 12).toNat := rfl
  have eQ : nQ T = (T 0 13).toNat := rfl
  refine wp_aload_n (pc := 0) 0 dX11_oldName_0 rfl rfl ?_
  refine wp_geti (pc := 1) dX11_oldName_1 rfl f_X11_185 kd_111 la_111 (Or.inl rfl) ?_
  refine wp_eqst (st' := [vI 0]) (by rw [hP.2.2.2.1.1]) ?_
  refine wp_if_le (pc := 4) 9 dX11_oldName_4 (by decide) (by decide) (fun _ => ?_) (fun hh => absurd hh (by decide))
  refine wp_aload_n (pc := 9) 0 dX11_oldName_9 rfl rfl ?_
  refine wp_callV (pc := 10) (st := []) (nf' := 153) [] [some (vR 111)] dX11_oldName_10 rfl c_X11_252 rfl kd_111 (by decide) rfl la_111 rfl (Nat.le_of_ble_eq_true rfl) rfl (Nat.le_of_ble_eq_true rfl) (by omega) (Nat.le_refl _) (Nat.le_refl _) ?_
  refine rs_isName hP.1.1 hP.2.1 hP.2.2.1 (by omega) (fun h_1 => ?_) (fun h_1 => ?_)
  · refine wp_eqst (st' := [vI 1]) rfl ?_
    refine wp_if_ne (pc := 13) 24 dX11_oldName_13 (by decide) (by decide) (fun _ => ?_) (fun hh => absurd hh (by decide))
    refine wp_aload_n (pc := 24) 0 dX11_oldName_24 rfl rfl ?_
    refine wp_iload_n (pc := 25) 1 dX11_oldName_25 rfl rfl ?_
    refine wp_iload_n (pc := 26) 2 dX11_oldName_26 rfl rfl ?_
    refine wp_callV (pc := 27) (st := []) (nf' := 153) [vI 4, vI (m : Int)] [some (vR 111), some (vI 4), some (vI (m : Int)), none, none] dX11_oldName_27 rfl c_X11_255 rfl kd_111 (by decide) rfl la_111 rfl (Nat.le_of_ble_eq_true rfl) rfl (Nat.le_of_ble_eq_true rfl) (by omega) (Nat.le_refl _) (Nat.le_refl _) ?_
    refine rs_find1 m rfl hP (by omega) (k2_w (by omega)) (by omega) ?_
    have fi1 := fnd_in (N 1) (w5 b c) m
    refine wp_eqst (st' := [vI (fnd (N 1) (w5 b c) m)]) rfl ?_
    refine wp_if_ge (pc := 30) 38 dX11_oldName_30 (by decide) (by omega) (fun h_2 => ?_) (fun h_2 => ?_)
    · refine wp_aload_n (pc := 38) 0 dX11_oldName_38 rfl rfl ?_
      refine wp_geti (pc := 39) dX11_oldName_39 rfl f_X11_185 kd_111 la_111 (Or.inl rfl) ?_
      refine wp_eqst (st' := [vI 0]) (by rw [hP.2.2.2.1.1]) ?_
      refine wp_if_le (pc := 42) 49 dX11_oldName_42 (by decide) (by decide) (fun _ => ?_) (fun hh => absurd hh (by decide))
      refine wp_aload_n (pc := 49) 0 dX11_oldName_49 rfl rfl ?_
      refine wp_iload_n (pc := 50) 1 dX11_oldName_50 rfl rfl ?_
      refine wp_iload_n (pc := 51) 2 dX11_oldName_51 rfl rfl ?_
      refine wp_callV (pc := 52) (st := []) (nf' := 153) [vI 4, vI (m : Int)] [some (vR 111), some (vI 4), some (vI (m : Int)), none, none] dX11_oldName_52 rfl c_X11_255 rfl kd_111 (by decide) rfl la_111 rfl (Nat.le_of_ble_eq_true rfl) rfl (Nat.le_of_ble_eq_true rfl) (by omega) (Nat.le_refl _) (Nat.le_refl _) ?_
      refine rs_find1 m rfl hP (by omega) (k2_w (by omega)) (by omega) ?_
      have fi2 := fnd_in (N 1) (w5 b c) m
      refine wp_eqst (st' := [vI (fnd (N 1) (w5 b c) m)]) rfl ?_
      refine wp_iret (pc := 55) dX11_oldName_55 rfl rfl ?_
      subst hm
      have en : prF b c (N 1) (nP T) 0 = fnd (N 1) (w5 b c) (nP T) := prF_y (by omega) (by omega) (by rw [Nat.zero_testBit]; decide)
      rw [en] at h1; exact h1 (by omega)
    · refine wp_aload_n (pc := 33) 0 dX11_oldName_33 rfl rfl ?_
      refine wp_iconst (pc := 34) dX11_oldName_34 ?_
      refine wp_callV (pc := 35) (st := []) (nf' := 153) [vI 5] [some (vR 111), some (vI 5)] dX11_oldName_35 rfl c_X11_238 rfl kd_111 (by decide) rfl la_111 rfl (Nat.le_of_ble_eq_true rfl) rfl (Nat.le_of_ble_eq_true rfl) (by omega) (Nat.le_refl _) (Nat.le_refl _) ?_
      have hz3 : RD (I) (L) b g n c T N mo := hP
      refine rs_wrong hz3.2.2.1 hz3.2.2.2.1.1 (by omega) (by omega) ?_
      refine wp_gen (fun J => Fe (I) J ∧ RE J (bad b c 5)) ⟨Fe.bad, RD.bad (by omega)⟩ (fun J3 hJ3 => ?_)
      have x2_3 : J3 111 2 = (bad b c 5).1 := hJ3.2.1
      have xp_3 : 0 < (bad b c 5).1 ∧ (bad b c 5).1 ≤ 5 := hJ3.2.2.2
      have x42_3 : J3 111 42 = T 0 11 := (hJ3.1.2 42 (by decide) (by decide) (by decide) (by decide) (by decide) (by decide)).trans (by rw [hP.f42])
      have x43_3 : J3 111 43 = T 0 12 := (hJ3.1.2 43 (by decide) (by decide) (by decide) (by decide) (by decide) (by decide)).trans (by rw [hP.f43])
      have x44_3 : J3 111 44 = T 0 13 := (hJ3.1.2 44 (by decide) (by decide) (by decide) (by decide) (by decide) (by decide)).trans (by rw [hP.f44])
      refine wp_eqst (st' := []) rfl ?_
      refine wp_aload_n (pc := 38) 0 dX11_oldName_38 rfl rfl ?_
      refine wp_geti (pc := 39) dX11_oldName_39 rfl f_X11_185 kd_111 la_111 (Or.inl rfl) ?_
      refine wp_eqst (st' := [vI ((bad b c 5).1)]) (by rw [x2_3]) ?_
      refine wp_if_le (pc := 42) 49 dX11_oldName_42 (by decide) (by omega) (fun hh => absurd hh (by omega)) (fun _ => ?_)
      refine wp_iconst (pc := 45) dX11_oldName_45 ?_
      refine wp_goto (pc := 46) 55 dX11_oldName_46 (by decide) ?_
      refine wp_iret (pc := 55) dX11_oldName_55 rfl rfl ?_
      subst hm
      have en : prF b c (N 1) (nP T) 0 = -5 := prF_5 (by omega) (by omega)
      rw [en] at h0; exact h0 (by decide) _ _ (Fb.refl.te hJ3.1) Ln.refl hJ3.2
  · refine wp_eqst (st' := [vI 0]) rfl ?_
    refine wp_if_ne (pc := 13) 24 dX11_oldName_13 (by decide) (by decide) (fun hh => absurd hh (by decide)) (fun _ => ?_)
    refine wp_aload_n (pc := 16) 0 dX11_oldName_16 rfl rfl ?_
    refine wp_iconst (pc := 17) dX11_oldName_17 ?_
    refine wp_callV (pc := 18) (st := []) (nf' := 153) [vI 2] [some (vR 111), some (vI 2)] dX11_oldName_18 rfl c_X11_238 rfl kd_111 (by decide) rfl la_111 rfl (Nat.le_of_ble_eq_true rfl) rfl (Nat.le_of_ble_eq_true rfl) (by omega) (Nat.le_refl _) (Nat.le_refl _) ?_
    have hz4 : RD (I) (L) b g n c T N mo := hP
    refine rs_wrong hz4.2.2.1 hz4.2.2.2.1.1 (by omega) (by omega) ?_
    refine wp_gen (fun J => Fe (I) J ∧ RE J (bad b c 2)) ⟨Fe.bad, RD.bad (by omega)⟩ (fun J4 hJ4 => ?_)
    have x2_4 : J4 111 2 = (bad b c 2).1 := hJ4.2.1
    have xp_4 : 0 < (bad b c 2).1 ∧ (bad b c 2).1 ≤ 5 := hJ4.2.2.2
    have x42_4 : J4 111 42 = T 0 11 := (hJ4.1.2 42 (by decide) (by decide) (by decide) (by decide) (by decide) (by decide)).trans (by rw [hP.f42])
    have x43_4 : J4 111 43 = T 0 12 := (hJ4.1.2 43 (by decide) (by decide) (by decide) (by decide) (by decide) (by decide)).trans (by rw [hP.f43])
    have x44_4 : J4 111 44 = T 0 13 := (hJ4.1.2 44 (by decide) (by decide) (by decide) (by decide) (by decide) (by decide)).trans (by rw [hP.f44])
    refine wp_eqst (st' := []) rfl ?_
    refine wp_goto (pc := 21) 38 dX11_oldName_21 (by decide) ?_
    refine wp_aload_n (pc := 38) 0 dX11_oldName_38 rfl rfl ?_
    refine wp_geti (pc := 39) dX11_oldName_39 rfl f_X11_185 kd_111 la_111 (Or.inl rfl) ?_
    refine wp_eqst (st' := [vI ((bad b c 2).1)]) (by rw [x2_4]) ?_
    refine wp_if_le (pc := 42) 49 dX11_oldName_42 (by decide) (by omega) (fun hh => absurd hh (by omega)) (fun _ => ?_)
    refine wp_iconst (pc := 45) dX11_oldName_45 ?_
    refine wp_goto (pc := 46) 55 dX11_oldName_46 (by decide) ?_
    refine wp_iret (pc := 55) dX11_oldName_55 rfl rfl ?_
    subst hm
    have en : prF b c (N 1) (nP T) 0 = -2 := prF_2 (by omega)
    rw [en] at h0; exact h0 (by decide) _ _ (Fb.refl.te hJ4.1) Ln.refl hJ4.2

theorem rz_oldName1 {l : Launch} {G : mG} {d : Nat} {I : mI} {L : Nat → Nat → Int} {D : Nat → Nat} {Q : mQ} {e : Int × Int} {m : Int}  (hE : RE I e)  (hd : 2 ≤ d) (hQ : Q (some (vI 0)) I (XX L D)) : WP l G m_X11_oldName d 153 I (XX L D) 0 [some (vR 111), some (vI 4), some (vI m)] [] Q := by
  have x2 : I 111 2 = (e).1 := hE.1
  have xp : 0 < (e).1 ∧ (e).1 ≤ 5 := hE.2.2
  refine wp_aload_n (pc := 0) 0 dX11_oldName_0 rfl rfl ?_
  refine wp_geti (pc := 1) dX11_oldName_1 rfl f_X11_185 kd_111 la_111 (Or.inl rfl) ?_
  refine wp_eqst (st' := [vI e.1]) (by rw [x2]) ?_
  refine wp_if_le (pc := 4) 9 dX11_oldName_4 (by decide) (by omega) (fun hh => absurd hh (by omega)) (fun _ => ?_)
  refine wp_iconst (pc := 7) dX11_oldName_7 ?_
  refine wp_iret (pc := 8) dX11_oldName_8 rfl rfl ?_
  exact hQ

theorem rs_rchurch {l : Launch} {G : mG} {d : Nat} {I : mI} {L : Nat → Nat → Int} {D : Nat → Nat} {Q : mQ} {b g : Nat → Int} {n c : Nat} {T N : mT} {mo : Nat}   (hP : RD I L b g n c T N mo)  (hd : 3 ≤ d) (h1 : 0 ≤ prF b c (N 0) (nC T) 0 → ∀ J M, Fb I J → Lb L M → RD J M b g n (te b c) T N mo → Q (some (vI (prF b c (N 0) (nC T) 0))) J (XX M D)) (h0 : prF b c (N 0) (nC T) 0 < 0 → ∀ J M, Fe I J → Ln L M → RE J (bad b c (-prF b c (N 0) (nC T) 0)) → Q (some (vI 0)) J (XX M D)) : WP l G m_X11_church d 153 I (XX L D) 0 [some (vR 111), none] [] Q := by
  have kw := wi_in b c
  have tr := ts_rng b c
  have i8 := hP.2.2.1.2.2.1.1
  have l9 := hP.2.2.1.2.2.2.2.1
  have hw := hP.tw
  have hb := hP.1.1
  have b_c := tw_c hw
  have b_p := tw_p hw
  have b_q := tw_q hw
  have b_v := tw_vows hw
  have eC : nC T = (T 0 11).toNat := rfl
  have eP : nP T = (T 0 12).toNat := rfl
  have eQ : nQ T = (T 0 13).toNat := rfl
  refine wp_aload_n (pc := 0) 0 dX11_church_0 rfl rfl ?_
  refine wp_iconst (pc := 1) dX11_church_1 ?_
  refine wp_aload_n (pc := 2) 0 dX11_church_2 rfl rfl ?_
  refine wp_geti (pc := 3) dX11_church_3 rfl f_X11_264 kd_111 la_111 (Or.inl rfl) ?_
  refine wp_eqst (st' := [vI (T 0 11), vI 0, vR 111]) (by rw [hP.f42]) ?_
  refine wp_callV (pc := 6) (st := []) (nf' := 153) [vI 0, vI (T 0 11)] [some (vR 111), some (vI 0), some (vI (T 0 11))] dX11_church_6 rfl c_X11_261 rfl kd_111 (by decide) rfl la_111 rfl (Nat.le_of_ble_eq_true rfl) rfl (Nat.le_of_ble_eq_true rfl) (by omega) (Nat.le_refl _) (Nat.le_refl _) ?_
  have hz1 : RD (I) (L) b g n c T N mo := hP
  have ez1 : T 0 11 = ((nC T : Nat) : Int) := by have z1 := tw_c hz1.tw; have z2 : nC T = (T 0 11).toNat := rfl; omega
  refine rs_oldName0 (nC T) ez1 hz1 rfl (by omega) (fun h_1 => ?_) (fun h_1 J1 M1 hF1 hL1 hE1 => ?_)
  · replace h_1 : 0 ≤ prF b c (N 0) (nC T) 0 := h_1
    have pk1 := prF_ok h_1
    have pi1 := prF_in (b := b) (c := c) (N := N 0) (n := nC T) (rep := 0)
    refine wp_eqst (st' := [vI (prF b c (N 0) (nC T) 0)]) rfl ?_
    refine wq_istore_n (pc := 9) 1 [some (vR 111), some (vI (prF b c (N 0) (nC T) 0))] dX11_church_9 rfl rfl (by decide) rfl ?_
    refine wp_aload_n (pc := 10) 0 dX11_church_10 rfl rfl ?_
    refine wp_geti (pc := 11) dX11_church_11 rfl f_X11_185 kd_111 la_111 (Or.inl rfl) ?_
    refine wp_eqst (st' := [vI 0]) (by rw [hP.2.2.2.1.1]) ?_
    refine wp_if_ne (pc := 14) 21 dX11_church_14 (by decide) (by decide) (fun hh => absurd hh (by decide)) (fun _ => ?_)
    refine wp_aload_n (pc := 17) 0 dX11_church_17 rfl rfl ?_
    refine wp_callV (pc := 18) (st := []) (nf' := 153) [] [some (vR 111), none, none] dX11_church_18 rfl c_X11_241 rfl kd_111 (by decide) rfl la_111 rfl (Nat.le_of_ble_eq_true rfl) rfl (Nat.le_of_ble_eq_true rfl) (by omega) (Nat.le_refl _) (Nat.le_refl _) ?_
    have n32 : ts b c ≠ 3 := (by first | exact n3_k (by omega) | exact n3_4 (by omega) | exact n3_w (by omega) | exact n3_s (by omega) | omega)
    have hz2 : RD (I) (L) b g n c T N mo := hP
    refine rs_token hz2.1 hz2.nx (hz2.q4 n32) (by omega) (fun J2 M2 hFb2 hLb2 hTk2 => ?_)
    have hP2 := hz2.adv hz2.nx hFb2 hLb2 hTk2
    have kw_2 := wi_in b (te b c)
    have tr_2 := ts_rng b (te b c)
    have i8_2 := hP2.2.2.1.2.2.1.1
    have l9_2 := hP2.2.2.1.2.2.2.2.1
    refine wp_eqst (st' := []) rfl ?_
    refine wp_iload_n (pc := 21) 1 dX11_church_21 rfl rfl ?_
    refine wp_iret (pc := 22) dX11_church_22 rfl rfl ?_
    exact h1 (by omega) _ _ (Fb.refl.trans hFb2) (Lb.refl.trans hLb2) hP2
  · replace h_1 : prF b c (N 0) (nC T) 0 < 0 := h_1
    have x2_1 : J1 111 2 = (bad b c (-prF b c (N 0) (nC T) 0)).1 := hE1.1
    have xp_1 : 0 < (bad b c (-prF b c (N 0) (nC T) 0)).1 ∧ (bad b c (-prF b c (N 0) (nC T) 0)).1 ≤ 5 := hE1.2.2
    have x42_1 : J1 111 42 = T 0 11 := (hF1.2 42 (by decide) (by decide) (by decide) (by decide) (by decide) (by decide)).trans (by rw [hP.f42])
    have x43_1 : J1 111 43 = T 0 12 := (hF1.2 43 (by decide) (by decide) (by decide) (by decide) (by decide) (by decide)).trans (by rw [hP.f43])
    have x44_1 : J1 111 44 = T 0 13 := (hF1.2 44 (by decide) (by decide) (by decide) (by decide) (by decide) (by decide)).trans (by rw [hP.f44])
    refine wp_eqst (st' := [vI 0]) rfl ?_
    refine wq_istore_n (pc := 9) 1 [some (vR 111), some (vI 0)] dX11_church_9 rfl rfl (by decide) rfl ?_
    refine wp_aload_n (pc := 10) 0 dX11_church_10 rfl rfl ?_
    refine wp_geti (pc := 11) dX11_church_11 rfl f_X11_185 kd_111 la_111 (Or.inl rfl) ?_
    refine wp_eqst (st' := [vI ((bad b c (-prF b c (N 0) (nC T) 0)).1)]) (by rw [x2_1]) ?_
    refine wp_if_ne (pc := 14) 21 dX11_church_14 (by decide) (by omega) (fun _ => ?_) (fun hh => absurd hh (by omega))
    refine wp_iload_n (pc := 21) 1 dX11_church_21 rfl rfl ?_
    refine wp_iret (pc := 22) dX11_church_22 rfl rfl ?_
    exact h0 (by omega) _ _ (Fb.refl.te hF1) (Ln.refl.trans hL1) hE1

theorem rz_rchurch {l : Launch} {G : mG} {d : Nat} {I : mI} {L : Nat → Nat → Int} {D : Nat → Nat} {Q : mQ} {e : Int × Int}   (hE : RE I e)  (hd : 3 ≤ d) (hQ : Q (some (vI 0)) I (XX L D)) : WP l G m_X11_church d 153 I (XX L D) 0 [some (vR 111), none] [] Q := by
  have x2 : I 111 2 = (e).1 := hE.1
  have xp : 0 < (e).1 ∧ (e).1 ≤ 5 := hE.2.2
  refine wp_aload_n (pc := 0) 0 dX11_church_0 rfl rfl ?_
  refine wp_iconst (pc := 1) dX11_church_1 ?_
  refine wp_aload_n (pc := 2) 0 dX11_church_2 rfl rfl ?_
  refine wp_geti (pc := 3) dX11_church_3 rfl f_X11_264 kd_111 la_111 (Or.inl rfl) ?_
  refine wp_callV (pc := 6) (st := []) (nf' := 153) [vI 0, vI (I 111 42)] [some (vR 111), some (vI 0), some (vI (I 111 42))] dX11_church_6 rfl c_X11_261 rfl kd_111 (by decide) rfl la_111 rfl (Nat.le_of_ble_eq_true rfl) rfl (Nat.le_of_ble_eq_true rfl) (by omega) (Nat.le_refl _) (Nat.le_refl _) ?_
  refine rz_oldName0 hE (by omega) ?_
  refine wp_eqst (st' := [vI 0]) rfl ?_
  refine wq_istore_n (pc := 9) 1 [some (vR 111), some (vI 0)] dX11_church_9 rfl rfl (by decide) rfl ?_
  refine wp_aload_n (pc := 10) 0 dX11_church_10 rfl rfl ?_
  refine wp_geti (pc := 11) dX11_church_11 rfl f_X11_185 kd_111 la_111 (Or.inl rfl) ?_
  refine wp_eqst (st' := [vI e.1]) (by rw [x2]) ?_
  refine wp_if_ne (pc := 14) 21 dX11_church_14 (by decide) (by omega) (fun _ => ?_) (fun hh => absurd hh (by omega))
  refine wp_iload_n (pc := 21) 1 dX11_church_21 rfl rfl ?_
  refine wp_iret (pc := 22) dX11_church_22 rfl rfl ?_
  exact hQ
