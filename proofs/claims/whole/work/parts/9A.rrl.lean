/-! THE REFERENCE's readLine -/
theorem rl_tailok {l : Launch} {G : mG} {d : Nat} {I : mI} {L : Nat → Nat → Int} {D : Nat → Nat} {Q : mQ} {b g : Nat → Int} {n c : Nat} {T N : mT} {mo : Nat} (hP : RD I L b g n c T N mo) (hd : 2 ≤ d) (h1 : ts b c = 59 → ∀ J M, Fn I J → Ln L M → RD J M b g n (te b c) T N mo → Q none J (XX M D)) (h2 : ¬ ts b c = 59 → ∀ J M, Fn I J → Ln L M → RE J (bad b c 2) → Q none J (XX M D)) : WP l G m_X11_readLine d 153 I (XX L D) 279 [some (vR 111)] [] Q := by
  have kw := wi_in b c
  have tr := ts_rng b c
  have i8 := hP.2.2.1.2.2.1.1
  have l9 := hP.2.2.1.2.2.2.2.1
  have hw := hP.tw
  have hb := hP.1.1
  have b_c := tw_c hw
  have b_p := tw_p hw
  have b_q := tw_q hw
  have b_v := tw_vows hw
  have eC : nC T = (T 0 11).toNat := rfl
  have eP : nP T = (T 0 12).toNat := rfl
  have eQ : nQ T = (T 0 13).toNat := rfl
  refine wp_aload_n (pc := 279) 0 dX11_readLine_279 rfl rfl ?_
  refine wp_geti (pc := 280) dX11_readLine_280 rfl f_X11_185 kd_111 la_111 (Or.inl rfl) ?_
  refine wp_eqst (st' := [vI 0]) (by rw [hP.2.2.2.1.1]) ?_
  refine wp_if_ne (pc := 283) 300 dX11_readLine_283 (by decide) (by decide) (fun hh => absurd hh (by decide)) (fun _ => ?_)
  refine wp_aload_n (pc := 286) 0 dX11_readLine_286 rfl rfl ?_
  refine wp_geti (pc := 287) dX11_readLine_287 rfl f_X11_172 kd_111 la_111 (Or.inl rfl) ?_
  refine wp_eqst (st' := [vI (ts b c)]) (by rw [hP.2.2.1.1]) ?_
  refine wp_bipush (pc := 290) dX11_readLine_290 (by decide) ?_
  refine wp_icmp_eq (pc := 292) 300 dX11_readLine_292 (by decide) (by omega) (by decide) (fun h_1 => ?_) (fun h_1 => ?_)
  · refine wp_aload_n (pc := 300) 0 dX11_readLine_300 rfl rfl ?_
    refine wp_geti (pc := 301) dX11_readLine_301 rfl f_X11_185 kd_111 la_111 (Or.inl rfl) ?_
    refine wp_eqst (st' := [vI 0]) (by rw [hP.2.2.2.1.1]) ?_
    refine wp_if_ne (pc := 304) 311 dX11_readLine_304 (by decide) (by decide) (fun hh => absurd hh (by decide)) (fun _ => ?_)
    refine wp_aload_n (pc := 307) 0 dX11_readLine_307 rfl rfl ?_
    refine wp_callV (pc := 308) (st := []) (nf' := 153) [] [some (vR 111), none, none] dX11_readLine_308 rfl c_X11_241 rfl kd_111 (by decide) rfl la_111 rfl (Nat.le_of_ble_eq_true rfl) rfl (Nat.le_of_ble_eq_true rfl) (by omega) (Nat.le_refl _) (Nat.le_refl _) ?_
    have n31 : ts b c ≠ 3 := (by first | exact n3_k (by omega) | exact n3_4 (by omega) | exact n3_w (by omega) | exact n3_s (by omega) | omega)
    have hz1 : RD (I) (L) b g n c T N mo := hP
    refine rs_token hz1.1 hz1.nx (hz1.q4 n31) (by omega) (fun J1 M1 hFb1 hLb1 hTk1 => ?_)
    have hP1 := hz1.adv hz1.nx hFb1 hLb1 hTk1
    have kw_1 := wi_in b (te b c)
    have tr_1 := ts_rng b (te b c)
    have i8_1 := hP1.2.2.1.2.2.1.1
    have l9_1 := hP1.2.2.1.2.2.2.2.1
    refine wp_eqst (st' := []) rfl ?_
    refine wp_vret (pc := 311) dX11_readLine_311 rfl rfl ?_
    exact h1 (by omega) _ _ (Fn.refl.trans hFb1.n) (Ln.refl.trans hLb1.n) hP1
  · refine wp_aload_n (pc := 295) 0 dX11_readLine_295 rfl rfl ?_
    refine wp_iconst (pc := 296) dX11_readLine_296 ?_
    refine wp_callV (pc := 297) (st := []) (nf' := 153) [vI 2] [some (vR 111), some (vI 2)] dX11_readLine_297 rfl c_X11_238 rfl kd_111 (by decide) rfl la_111 rfl (Nat.le_of_ble_eq_true rfl) rfl (Nat.le_of_ble_eq_true rfl) (by omega) (Nat.le_refl _) (Nat.le_refl _) ?_
    have hz2 : RD (I) (L) b g n c T N mo := hP
    refine rs_wrong hz2.2.2.1 hz2.2.2.2.1.1 (by omega) (by omega) ?_
    refine wp_gen (fun J => Fe (I) J ∧ RE J (bad b c 2)) ⟨Fe.bad, RD.bad (by omega)⟩ (fun J2 hJ2 => ?_)
    have x2_2 : J2 111 2 = (bad b c 2).1 := hJ2.2.1
    have xp_2 : 0 < (bad b c 2).1 ∧ (bad b c 2).1 ≤ 5 := hJ2.2.2.2
    have x42_2 : J2 111 42 = T 0 11 := (hJ2.1.2 42 (by decide) (by decide) (by decide) (by decide) (by decide) (by decide)).trans (by rw [hP.f42])
    have x43_2 : J2 111 43 = T 0 12 := (hJ2.1.2 43 (by decide) (by decide) (by decide) (by decide) (by decide) (by decide)).trans (by rw [hP.f43])
    have x44_2 : J2 111 44 = T 0 13 := (hJ2.1.2 44 (by decide) (by decide) (by decide) (by decide) (by decide) (by decide)).trans (by rw [hP.f44])
    refine wp_eqst (st' := []) rfl ?_
    refine wp_aload_n (pc := 300) 0 dX11_readLine_300 rfl rfl ?_
    refine wp_geti (pc := 301) dX11_readLine_301 rfl f_X11_185 kd_111 la_111 (Or.inl rfl) ?_
    refine wp_eqst (st' := [vI ((bad b c 2).1)]) (by rw [x2_2]) ?_
    refine wp_if_ne (pc := 304) 311 dX11_readLine_304 (by decide) (by omega) (fun _ => ?_) (fun hh => absurd hh (by omega))
    refine wp_vret (pc := 311) dX11_readLine_311 rfl rfl ?_
    exact h2 (by omega) _ _ (Fn.refl.trans hJ2.1.n) Ln.refl hJ2.2

theorem rl_tailbad {l : Launch} {G : mG} {d : Nat} {I : mI} {L : Nat → Nat → Int} {D : Nat → Nat} {Q : mQ} {e : Int × Int} (hE : RE I e) (hd : 2 ≤ d) (hQ : Q none I (XX L D)) : WP l G m_X11_readLine d 153 I (XX L D) 279 [some (vR 111)] [] Q := by
  have x2 : I 111 2 = (e).1 := hE.1
  have xp : 0 < (e).1 ∧ (e).1 ≤ 5 := hE.2.2
  refine wp_aload_n (pc := 279) 0 dX11_readLine_279 rfl rfl ?_
  refine wp_geti (pc := 280) dX11_readLine_280 rfl f_X11_185 kd_111 la_111 (Or.inl rfl) ?_
  refine wp_eqst (st' := [vI e.1]) (by rw [x2]) ?_
  refine wp_if_ne (pc := 283) 300 dX11_readLine_283 (by decide) (by omega) (fun _ => ?_) (fun hh => absurd hh (by omega))
  refine wp_aload_n (pc := 300) 0 dX11_readLine_300 rfl rfl ?_
  refine wp_geti (pc := 301) dX11_readLine_301 rfl f_X11_185 kd_111 la_111 (Or.inl rfl) ?_
  refine wp_eqst (st' := [vI e.1]) (by rw [x2]) ?_
  refine wp_if_ne (pc := 304) 311 dX11_readLine_304 (by decide) (by omega) (fun _ => ?_) (fun hh => absurd hh (by omega))
  refine wp_vret (pc := 311) dX11_readLine_311 rfl rfl ?_
  exact hQ

theorem rs_readLine {l : Launch} {G : mG} {d : Nat} {I : mI} {L : Nat → Nat → Int} {D : Nat → Nat} {Q : mQ} {b g : Nat → Int} {n c : Nat} {T N : mT} {mo : Nat} {r : mP} {mo' : Nat} (hP : RD I L b g n c T N mo) (hG : GT T mo) (hr : lnR b c T N mo r mo') (hd : 8 ≤ d) (h1 : ∀ c1 T' N', r = .inr (c1, T', N') → ts b c1 = 59 → ∀ J M, Fn I J → Ln L M → RD J M b g n (te b c1) T' N' mo' → Q none J (XX M D)) (h2 : ∀ c1 T' N', r = .inr (c1, T', N') → ¬ ts b c1 = 59 → ∀ J M, Fn I J → Ln L M → RE J (bad b c1 2) → Q none J (XX M D)) (h3 : ∀ er, r = .inl er → ∀ J M, Fn I J → Ln L M → RE J er → Q none J (XX M D)) : WP l G m_X11_readLine d 153 I (XX L D) 0 [some (vR 111)] [] Q := by
  have kw := wi_in b c
  have tr := ts_rng b c
  have i8 := hP.2.2.1.2.2.1.1
  have l9 := hP.2.2.1.2.2.2.2.1
  have hw := hP.tw
  have hb := hP.1.1
  have b_c := tw_c hw
  have b_p := tw_p hw
  have b_q := tw_q hw
  have b_v := tw_vows hw
  have eC : nC T = (T 0 11).toNat := rfl
  have eP : nP T = (T 0 12).toNat := rfl
  have eQ : nQ T = (T 0 13).toNat := rfl
  have bk := kcN_le (T 13) 8
  have bs := kcN_le (T 5) 8
  have bb11 := bitI_in mo 11
  have bb12 := bitI_in mo 12
  have bb13 := bitI_in mo 13
  have bb14 := bitI_in mo 14
  refine wp_aload_n (pc := 0) 0 dX11_readLine_0 rfl rfl ?_
  refine wp_ldc2 (pc := 1) (z := 109300298179432) dX11_readLine_1 rfl k_X11_188 rfl ?_
  refine wp_callV (pc := 4) (st := []) (nf' := 153) [vJ 109300298179432] [some (vR 111), some (vJ 109300298179432), none] dX11_readLine_4 rfl c_X11_234 rfl kd_111 (by decide) rfl la_111 rfl (Nat.le_of_ble_eq_true rfl) rfl (Nat.le_of_ble_eq_true rfl) (by omega) (Nat.le_refl _) (Nat.le_refl _) ?_
  have hz1 : RD (I) (L) b g n c T N mo := hP
  refine rs_isWord (k := 0) hz1.1.1 hz1.2.1 hz1.2.2.1 (by decide) rfl (by omega) (fun h_2 => ?_) (fun h_2 => ?_)
  · refine wp_eqst (st' := [vI 1]) rfl ?_
    refine wp_if_eq (pc := 7) 25 dX11_readLine_7 (by decide) (by decide) (fun hh => absurd hh (by decide)) (fun _ => ?_)
    refine wp_aload_n (pc := 10) 0 dX11_readLine_10 rfl rfl ?_
    refine wp_geti (pc := 11) dX11_readLine_11 rfl f_X11_264 kd_111 la_111 (Or.inl rfl) ?_
    refine wp_eqst (st' := [vI (T 0 11)]) (by rw [hP.f42]) ?_
    refine wp_iconst (pc := 14) dX11_readLine_14 ?_
    refine wp_icmp_ge (pc := 15) 25 dX11_readLine_15 (by decide) (by omega) (by decide) (fun h_3 => ?_) (fun h_3 => ?_)
    · refine wp_aload_n (pc := 25) 0 dX11_readLine_25 rfl rfl ?_
      refine wp_ldc2 (pc := 26) (z := 123581014175598) dX11_readLine_26 rfl k_X11_190 rfl ?_
      refine wp_callV (pc := 29) (st := []) (nf' := 153) [vJ 123581014175598] [some (vR 111), some (vJ 123581014175598), none] dX11_readLine_29 rfl c_X11_234 rfl kd_111 (by decide) rfl la_111 rfl (Nat.le_of_ble_eq_true rfl) rfl (Nat.le_of_ble_eq_true rfl) (by omega) (Nat.le_refl _) (Nat.le_refl _) ?_
      refine rs_isWord (k := 1) hP.1.1 hP.2.1 hP.2.2.1 (by decide) rfl (by omega) (fun h_4 => absurd h_4 (by omega)) (fun h_4 => ?_)
      refine wp_eqst (st' := [vI 0]) rfl ?_
      refine wp_if_eq (pc := 32) 51 dX11_readLine_32 (by decide) (by decide) (fun _ => ?_) (fun hh => absurd hh (by decide))
      refine wp_aload_n (pc := 51) 0 dX11_readLine_51 rfl rfl ?_
      refine wp_ldc2 (pc := 52) (z := 461414299507) dX11_readLine_52 rfl k_X11_202 rfl ?_
      refine wp_callV (pc := 55) (st := []) (nf' := 153) [vJ 461414299507] [some (vR 111), some (vJ 461414299507), none] dX11_readLine_55 rfl c_X11_234 rfl kd_111 (by decide) rfl la_111 rfl (Nat.le_of_ble_eq_true rfl) rfl (Nat.le_of_ble_eq_true rfl) (by omega) (Nat.le_refl _) (Nat.le_refl _) ?_
      refine rs_isWord (k := 7) hP.1.1 hP.2.1 hP.2.2.1 (by decide) rfl (by omega) (fun h_5 => absurd h_5 (by omega)) (fun h_5 => ?_)
      refine wp_eqst (st' := [vI 0]) rfl ?_
      refine wp_if_eq (pc := 58) 77 dX11_readLine_58 (by decide) (by decide) (fun _ => ?_) (fun hh => absurd hh (by decide))
      refine wp_aload_n (pc := 77) 0 dX11_readLine_77 rfl rfl ?_
      refine wp_ldc2 (pc := 78) (z := 126926642767219) dX11_readLine_78 rfl k_X11_204 rfl ?_
      refine wp_callV (pc := 81) (st := []) (nf' := 153) [vJ 126926642767219] [some (vR 111), some (vJ 126926642767219), none] dX11_readLine_81 rfl c_X11_234 rfl kd_111 (by decide) rfl la_111 rfl (Nat.le_of_ble_eq_true rfl) rfl (Nat.le_of_ble_eq_true rfl) (by omega) (Nat.le_refl _) (Nat.le_refl _) ?_
      refine rs_isWord (k := 8) hP.1.1 hP.2.1 hP.2.2.1 (by decide) rfl (by omega) (fun h_6 => absurd h_6 (by omega)) (fun h_6 => ?_)
      refine wp_eqst (st' := [vI 0]) rfl ?_
      refine wp_if_eq (pc := 84) 103 dX11_readLine_84 (by decide) (by decide) (fun _ => ?_) (fun hh => absurd hh (by decide))
      refine wp_aload_n (pc := 103) 0 dX11_readLine_103 rfl rfl ?_
      refine wp_ldc2 (pc := 104) (z := 1885432178) dX11_readLine_104 rfl k_X11_206 rfl ?_
      refine wp_callV (pc := 107) (st := []) (nf' := 153) [vJ 1885432178] [some (vR 111), some (vJ 1885432178), none] dX11_readLine_107 rfl c_X11_234 rfl kd_111 (by decide) rfl la_111 rfl (Nat.le_of_ble_eq_true rfl) rfl (Nat.le_of_ble_eq_true rfl) (by omega) (Nat.le_refl _) (Nat.le_refl _) ?_
      refine rs_isWord (k := 9) hP.1.1 hP.2.1 hP.2.2.1 (by decide) rfl (by omega) (fun h_7 => absurd h_7 (by omega)) (fun h_7 => ?_)
      refine wp_eqst (st' := [vI 0]) rfl ?_
      refine wp_if_eq (pc := 110) 128 dX11_readLine_110 (by decide) (by decide) (fun _ => ?_) (fun hh => absurd hh (by decide))
      refine wp_aload_n (pc := 128) 0 dX11_readLine_128 rfl rfl ?_
      refine wp_ldc2 (pc := 129) (z := 448377483891) dX11_readLine_129 rfl k_X11_210 rfl ?_
      refine wp_callV (pc := 132) (st := []) (nf' := 153) [vJ 448377483891] [some (vR 111), some (vJ 448377483891), none] dX11_readLine_132 rfl c_X11_234 rfl kd_111 (by decide) rfl la_111 rfl (Nat.le_of_ble_eq_true rfl) rfl (Nat.le_of_ble_eq_true rfl) (by omega) (Nat.le_refl _) (Nat.le_refl _) ?_
      refine rs_isWord (k := 11) hP.1.1 hP.2.1 hP.2.2.1 (by decide) rfl (by omega) (fun h_8 => absurd h_8 (by omega)) (fun h_8 => ?_)
      refine wp_eqst (st' := [vI 0]) rfl ?_
      refine wp_if_eq (pc := 135) 157 dX11_readLine_135 (by decide) (by decide) (fun _ => ?_) (fun hh => absurd hh (by decide))
      refine wp_aload_n (pc := 157) 0 dX11_readLine_157 rfl rfl ?_
      refine wp_ldc2 (pc := 158) (z := 110386690024805) dX11_readLine_158 rfl k_X11_212 rfl ?_
      refine wp_callV (pc := 161) (st := []) (nf' := 153) [vJ 110386690024805] [some (vR 111), some (vJ 110386690024805), none] dX11_readLine_161 rfl c_X11_234 rfl kd_111 (by decide) rfl la_111 rfl (Nat.le_of_ble_eq_true rfl) rfl (Nat.le_of_ble_eq_true rfl) (by omega) (Nat.le_refl _) (Nat.le_refl _) ?_
      refine rs_isWord (k := 12) hP.1.1 hP.2.1 hP.2.2.1 (by decide) rfl (by omega) (fun h_9 => absurd h_9 (by omega)) (fun h_9 => ?_)
      refine wp_eqst (st' := [vI 0]) rfl ?_
      refine wp_if_eq (pc := 164) 196 dX11_readLine_164 (by decide) (by decide) (fun _ => ?_) (fun hh => absurd hh (by decide))
      refine wp_aload_n (pc := 196) 0 dX11_readLine_196 rfl rfl ?_
      refine wp_ldc2 (pc := 197) (z := 426836257907) dX11_readLine_197 rfl k_X11_214 rfl ?_
      refine wp_callV (pc := 200) (st := []) (nf' := 153) [vJ 426836257907] [some (vR 111), some (vJ 426836257907), none] dX11_readLine_200 rfl c_X11_234 rfl kd_111 (by decide) rfl la_111 rfl (Nat.le_of_ble_eq_true rfl) rfl (Nat.le_of_ble_eq_true rfl) (by omega) (Nat.le_refl _) (Nat.le_refl _) ?_
      refine rs_isWord (k := 13) hP.1.1 hP.2.1 hP.2.2.1 (by decide) rfl (by omega) (fun h_10 => absurd h_10 (by omega)) (fun h_10 => ?_)
      refine wp_eqst (st' := [vI 0]) rfl ?_
      refine wp_if_eq (pc := 203) 234 dX11_readLine_203 (by decide) (by decide) (fun _ => ?_) (fun hh => absurd hh (by decide))
      refine wp_aload_n (pc := 234) 0 dX11_readLine_234 rfl rfl ?_
      refine wp_ldc2 (pc := 235) (z := 1685217655) dX11_readLine_235 rfl k_X11_216 rfl ?_
      refine wp_callV (pc := 238) (st := []) (nf' := 153) [vJ 1685217655] [some (vR 111), some (vJ 1685217655), none] dX11_readLine_238 rfl c_X11_234 rfl kd_111 (by decide) rfl la_111 rfl (Nat.le_of_ble_eq_true rfl) rfl (Nat.le_of_ble_eq_true rfl) (by omega) (Nat.le_refl _) (Nat.le_refl _) ?_
      refine rs_isWord (k := 14) hP.1.1 hP.2.1 hP.2.2.1 (by decide) rfl (by omega) (fun h_11 => absurd h_11 (by omega)) (fun h_11 => ?_)
      refine wp_eqst (st' := [vI 0]) rfl ?_
      refine wp_if_eq (pc := 241) 274 dX11_readLine_241 (by decide) (by decide) (fun _ => ?_) (fun hh => absurd hh (by decide))
      refine wp_aload_n (pc := 274) 0 dX11_readLine_274 rfl rfl ?_
      refine wp_iconst (pc := 275) dX11_readLine_275 ?_
      refine wp_callV (pc := 276) (st := []) (nf' := 153) [vI 2] [some (vR 111), some (vI 2)] dX11_readLine_276 rfl c_X11_238 rfl kd_111 (by decide) rfl la_111 rfl (Nat.le_of_ble_eq_true rfl) rfl (Nat.le_of_ble_eq_true rfl) (by omega) (Nat.le_refl _) (Nat.le_refl _) ?_
      unfold lnR at hr
      (repeat (first | rw [if_pos (by omega)] at hr | rw [if_neg (by omega)] at hr))
      have hr1 : r = .inl (bad b c 2) := by rw [hr.1]; unfold churchF; rw [if_pos (by omega)]
      refine rs_wrong hP.2.2.1 hP.2.2.2.1.1 (by decide) (by omega) ?_
      refine wp_gen (fun J => Fe I J ∧ RE J (bad b c 2)) ⟨Fe.bad, RD.bad (by decide)⟩ (fun J2 hJ2 => ?_)
      have hF2 := hJ2.1.n
      have hL2 := Ln.refl (L := L)
      have hE2 := hJ2.2
      refine wp_eqst (st' := []) rfl ?_
      exact rl_tailbad hE2 (by omega) (h3 _ hr1 _ _ hF2 hL2 hE2)
    · refine wp_aload_n (pc := 18) 0 dX11_readLine_18 rfl rfl ?_
      refine wp_callV (pc := 19) (st := []) (nf' := 153) [] [some (vR 111)] dX11_readLine_19 rfl c_X11_363 rfl kd_111 (by decide) rfl la_111 rfl (Nat.le_of_ble_eq_true rfl) rfl (Nat.le_of_ble_eq_true rfl) (by omega) (Nat.le_refl _) (Nat.le_refl _) ?_
      unfold lnR at hr
      (repeat (first | rw [if_pos (by omega)] at hr | rw [if_neg (by omega)] at hr))
      refine rs_readChurch hP (by omega) (n3_w (by omega)) (by omega) (fun c3 T3 N3 hv J3 M3 hF3 hL3 hP3 => ?_) (fun er3 hv J3 M3 hF3 hL3 hE3 => ?_)
      · have hr1 := hr.1.trans hv
        rw [← hr.2] at hP3
        refine wp_eqst (st' := []) rfl ?_
        refine wp_goto (pc := 22) 279 dX11_readLine_22 (by decide) ?_
        refine rl_tailok hP3 (by omega) (fun z J M hF hL hR => h1 _ _ _ hr1 z J M (hF3.trans hF) (hL3.trans hL) hR) (fun z J M hF hL hR => h2 _ _ _ hr1 z J M (hF3.trans hF) (hL3.trans hL) hR)
      · have hr1 := hr.1.trans hv
        refine wp_eqst (st' := []) rfl ?_
        refine wp_goto (pc := 22) 279 dX11_readLine_22 (by decide) ?_
        exact rl_tailbad hE3 (by omega) (h3 _ hr1 _ _ hF3 hL3 hE3)
  · refine wp_eqst (st' := [vI 0]) rfl ?_
    refine wp_if_eq (pc := 7) 25 dX11_readLine_7 (by decide) (by decide) (fun _ => ?_) (fun hh => absurd hh (by decide))
    refine wp_aload_n (pc := 25) 0 dX11_readLine_25 rfl rfl ?_
    refine wp_ldc2 (pc := 26) (z := 123581014175598) dX11_readLine_26 rfl k_X11_190 rfl ?_
    refine wp_callV (pc := 29) (st := []) (nf' := 153) [vJ 123581014175598] [some (vR 111), some (vJ 123581014175598), none] dX11_readLine_29 rfl c_X11_234 rfl kd_111 (by decide) rfl la_111 rfl (Nat.le_of_ble_eq_true rfl) rfl (Nat.le_of_ble_eq_true rfl) (by omega) (Nat.le_refl _) (Nat.le_refl _) ?_
    have hz4 : RD (I) (L) b g n c T N mo := hP
    refine rs_isWord (k := 1) hz4.1.1 hz4.2.1 hz4.2.2.1 (by decide) rfl (by omega) (fun h_13 => ?_) (fun h_13 => ?_)
    · refine wp_eqst (st' := [vI 1]) rfl ?_
      refine wp_if_eq (pc := 32) 51 dX11_readLine_32 (by decide) (by decide) (fun hh => absurd hh (by decide)) (fun _ => ?_)
      refine wp_aload_n (pc := 35) 0 dX11_readLine_35 rfl rfl ?_
      refine wp_geti (pc := 36) dX11_readLine_36 rfl f_X11_258 kd_111 la_111 (Or.inl rfl) ?_
      refine wp_eqst (st' := [vI (T 0 12)]) (by rw [hP.f43]) ?_
      refine wp_bipush (pc := 39) dX11_readLine_39 (by decide) ?_
      refine wp_icmp_ge (pc := 41) 51 dX11_readLine_41 (by decide) (by omega) (by decide) (fun h_14 => ?_) (fun h_14 => ?_)
      · refine wp_aload_n (pc := 51) 0 dX11_readLine_51 rfl rfl ?_
        refine wp_ldc2 (pc := 52) (z := 461414299507) dX11_readLine_52 rfl k_X11_202 rfl ?_
        refine wp_callV (pc := 55) (st := []) (nf' := 153) [vJ 461414299507] [some (vR 111), some (vJ 461414299507), none] dX11_readLine_55 rfl c_X11_234 rfl kd_111 (by decide) rfl la_111 rfl (Nat.le_of_ble_eq_true rfl) rfl (Nat.le_of_ble_eq_true rfl) (by omega) (Nat.le_refl _) (Nat.le_refl _) ?_
        refine rs_isWord (k := 7) hP.1.1 hP.2.1 hP.2.2.1 (by decide) rfl (by omega) (fun h_15 => absurd h_15 (by omega)) (fun h_15 => ?_)
        refine wp_eqst (st' := [vI 0]) rfl ?_
        refine wp_if_eq (pc := 58) 77 dX11_readLine_58 (by decide) (by decide) (fun _ => ?_) (fun hh => absurd hh (by decide))
        refine wp_aload_n (pc := 77) 0 dX11_readLine_77 rfl rfl ?_
        refine wp_ldc2 (pc := 78) (z := 126926642767219) dX11_readLine_78 rfl k_X11_204 rfl ?_
        refine wp_callV (pc := 81) (st := []) (nf' := 153) [vJ 126926642767219] [some (vR 111), some (vJ 126926642767219), none] dX11_readLine_81 rfl c_X11_234 rfl kd_111 (by decide) rfl la_111 rfl (Nat.le_of_ble_eq_true rfl) rfl (Nat.le_of_ble_eq_true rfl) (by omega) (Nat.le_refl _) (Nat.le_refl _) ?_
        refine rs_isWord (k := 8) hP.1.1 hP.2.1 hP.2.2.1 (by decide) rfl (by omega) (fun h_16 => absurd h_16 (by omega)) (fun h_16 => ?_)
        refine wp_eqst (st' := [vI 0]) rfl ?_
        refine wp_if_eq (pc := 84) 103 dX11_readLine_84 (by decide) (by decide) (fun _ => ?_) (fun hh => absurd hh (by decide))
        refine wp_aload_n (pc := 103) 0 dX11_readLine_103 rfl rfl ?_
        refine wp_ldc2 (pc := 104) (z := 1885432178) dX11_readLine_104 rfl k_X11_206 rfl ?_
        refine wp_callV (pc := 107) (st := []) (nf' := 153) [vJ 1885432178] [some (vR 111), some (vJ 1885432178), none] dX11_readLine_107 rfl c_X11_234 rfl kd_111 (by decide) rfl la_111 rfl (Nat.le_of_ble_eq_true rfl) rfl (Nat.le_of_ble_eq_true rfl) (by omega) (Nat.le_refl _) (Nat.le_refl _) ?_
        refine rs_isWord (k := 9) hP.1.1 hP.2.1 hP.2.2.1 (by decide) rfl (by omega) (fun h_17 => absurd h_17 (by omega)) (fun h_17 => ?_)
        refine wp_eqst (st' := [vI 0]) rfl ?_
        refine wp_if_eq (pc := 110) 128 dX11_readLine_110 (by decide) (by decide) (fun _ => ?_) (fun hh => absurd hh (by decide))
        refine wp_aload_n (pc := 128) 0 dX11_readLine_128 rfl rfl ?_
        refine wp_ldc2 (pc := 129) (z := 448377483891) dX11_readLine_129 rfl k_X11_210 rfl ?_
        refine wp_callV (pc := 132) (st := []) (nf' := 153) [vJ 448377483891] [some (vR 111), some (vJ 448377483891), none] dX11_readLine_132 rfl c_X11_234 rfl kd_111 (by decide) rfl la_111 rfl (Nat.le_of_ble_eq_true rfl) rfl (Nat.le_of_ble_eq_true rfl) (by omega) (Nat.le_refl _) (Nat.le_refl _) ?_
        refine rs_isWord (k := 11) hP.1.1 hP.2.1 hP.2.2.1 (by decide) rfl (by omega) (fun h_18 => absurd h_18 (by omega)) (fun h_18 => ?_)
        refine wp_eqst (st' := [vI 0]) rfl ?_
        refine wp_if_eq (pc := 135) 157 dX11_readLine_135 (by decide) (by decide) (fun _ => ?_) (fun hh => absurd hh (by decide))
        refine wp_aload_n (pc := 157) 0 dX11_readLine_157 rfl rfl ?_
        refine wp_ldc2 (pc := 158) (z := 110386690024805) dX11_readLine_158 rfl k_X11_212 rfl ?_
        refine wp_callV (pc := 161) (st := []) (nf' := 153) [vJ 110386690024805] [some (vR 111), some (vJ 110386690024805), none] dX11_readLine_161 rfl c_X11_234 rfl kd_111 (by decide) rfl la_111 rfl (Nat.le_of_ble_eq_true rfl) rfl (Nat.le_of_ble_eq_true rfl) (by omega) (Nat.le_refl _) (Nat.le_refl _) ?_
        refine rs_isWord (k := 12) hP.1.1 hP.2.1 hP.2.2.1 (by decide) rfl (by omega) (fun h_19 => absurd h_19 (by omega)) (fun h_19 => ?_)
        refine wp_eqst (st' := [vI 0]) rfl ?_
        refine wp_if_eq (pc := 164) 196 dX11_readLine_164 (by decide) (by decide) (fun _ => ?_) (fun hh => absurd hh (by decide))
        refine wp_aload_n (pc := 196) 0 dX11_readLine_196 rfl rfl ?_
        refine wp_ldc2 (pc := 197) (z := 426836257907) dX11_readLine_197 rfl k_X11_214 rfl ?_
        refine wp_callV (pc := 200) (st := []) (nf' := 153) [vJ 426836257907] [some (vR 111), some (vJ 426836257907), none] dX11_readLine_200 rfl c_X11_234 rfl kd_111 (by decide) rfl la_111 rfl (Nat.le_of_ble_eq_true rfl) rfl (Nat.le_of_ble_eq_true rfl) (by omega) (Nat.le_refl _) (Nat.le_refl _) ?_
        refine rs_isWord (k := 13) hP.1.1 hP.2.1 hP.2.2.1 (by decide) rfl (by omega) (fun h_20 => absurd h_20 (by omega)) (fun h_20 => ?_)
        refine wp_eqst (st' := [vI 0]) rfl ?_
        refine wp_if_eq (pc := 203) 234 dX11_readLine_203 (by decide) (by decide) (fun _ => ?_) (fun hh => absurd hh (by decide))
        refine wp_aload_n (pc := 234) 0 dX11_readLine_234 rfl rfl ?_
        refine wp_ldc2 (pc := 235) (z := 1685217655) dX11_readLine_235 rfl k_X11_216 rfl ?_
        refine wp_callV (pc := 238) (st := []) (nf' := 153) [vJ 1685217655] [some (vR 111), some (vJ 1685217655), none] dX11_readLine_238 rfl c_X11_234 rfl kd_111 (by decide) rfl la_111 rfl (Nat.le_of_ble_eq_true rfl) rfl (Nat.le_of_ble_eq_true rfl) (by omega) (Nat.le_refl _) (Nat.le_refl _) ?_
        refine rs_isWord (k := 14) hP.1.1 hP.2.1 hP.2.2.1 (by decide) rfl (by omega) (fun h_21 => absurd h_21 (by omega)) (fun h_21 => ?_)
        refine wp_eqst (st' := [vI 0]) rfl ?_
        refine wp_if_eq (pc := 241) 274 dX11_readLine_241 (by decide) (by decide) (fun _ => ?_) (fun hh => absurd hh (by decide))
        refine wp_aload_n (pc := 274) 0 dX11_readLine_274 rfl rfl ?_
        refine wp_iconst (pc := 275) dX11_readLine_275 ?_
        refine wp_callV (pc := 276) (st := []) (nf' := 153) [vI 2] [some (vR 111), some (vI 2)] dX11_readLine_276 rfl c_X11_238 rfl kd_111 (by decide) rfl la_111 rfl (Nat.le_of_ble_eq_true rfl) rfl (Nat.le_of_ble_eq_true rfl) (by omega) (Nat.le_refl _) (Nat.le_refl _) ?_
        unfold lnR at hr
        (repeat (first | rw [if_pos (by omega)] at hr | rw [if_neg (by omega)] at hr))
        have hr1 : r = .inl (bad b c 2) := by rw [hr.1]; unfold personF; rw [if_pos (by omega)]
        refine rs_wrong hP.2.2.1 hP.2.2.2.1.1 (by decide) (by omega) ?_
        refine wp_gen (fun J => Fe I J ∧ RE J (bad b c 2)) ⟨Fe.bad, RD.bad (by decide)⟩ (fun J5 hJ5 => ?_)
        have hF5 := hJ5.1.n
        have hL5 := Ln.refl (L := L)
        have hE5 := hJ5.2
        refine wp_eqst (st' := []) rfl ?_
        exact rl_tailbad hE5 (by omega) (h3 _ hr1 _ _ hF5 hL5 hE5)
      · refine wp_aload_n (pc := 44) 0 dX11_readLine_44 rfl rfl ?_
        refine wp_callV (pc := 45) (st := []) (nf' := 153) [] [some (vR 111), none] dX11_readLine_45 rfl c_X11_366 rfl kd_111 (by decide) rfl la_111 rfl (Nat.le_of_ble_eq_true rfl) rfl (Nat.le_of_ble_eq_true rfl) (by omega) (Nat.le_refl _) (Nat.le_refl _) ?_
        unfold lnR at hr
        (repeat (first | rw [if_pos (by omega)] at hr | rw [if_neg (by omega)] at hr))
        refine rs_readPerson hP (by omega) (n3_w (by omega)) (hG.2.2.1 (nP T) (Nat.le_refl _) (by omega)) hG.2.2.2.2.2.2 (by omega) (fun c6 T6 N6 hv J6 M6 hF6 hL6 hP6 => ?_) (fun er6 hv J6 M6 hF6 hL6 hE6 => ?_)
        · have hr1 := hr.1.trans hv
          rw [← hr.2] at hP6
          refine wp_eqst (st' := []) rfl ?_
          refine wp_goto (pc := 48) 279 dX11_readLine_48 (by decide) ?_
          refine rl_tailok hP6 (by omega) (fun z J M hF hL hR => h1 _ _ _ hr1 z J M (hF6.trans hF) (hL6.trans hL) hR) (fun z J M hF hL hR => h2 _ _ _ hr1 z J M (hF6.trans hF) (hL6.trans hL) hR)
        · have hr1 := hr.1.trans hv
          refine wp_eqst (st' := []) rfl ?_
          refine wp_goto (pc := 48) 279 dX11_readLine_48 (by decide) ?_
          exact rl_tailbad hE6 (by omega) (h3 _ hr1 _ _ hF6 hL6 hE6)
    · refine wp_eqst (st' := [vI 0]) rfl ?_
      refine wp_if_eq (pc := 32) 51 dX11_readLine_32 (by decide) (by decide) (fun _ => ?_) (fun hh => absurd hh (by decide))
      refine wp_aload_n (pc := 51) 0 dX11_readLine_51 rfl rfl ?_
      refine wp_ldc2 (pc := 52) (z := 461414299507) dX11_readLine_52 rfl k_X11_202 rfl ?_
      refine wp_callV (pc := 55) (st := []) (nf' := 153) [vJ 461414299507] [some (vR 111), some (vJ 461414299507), none] dX11_readLine_55 rfl c_X11_234 rfl kd_111 (by decide) rfl la_111 rfl (Nat.le_of_ble_eq_true rfl) rfl (Nat.le_of_ble_eq_true rfl) (by omega) (Nat.le_refl _) (Nat.le_refl _) ?_
      have hz7 : RD (I) (L) b g n c T N mo := hP
      refine rs_isWord (k := 7) hz7.1.1 hz7.2.1 hz7.2.2.1 (by decide) rfl (by omega) (fun h_23 => ?_) (fun h_23 => ?_)
      · refine wp_eqst (st' := [vI 1]) rfl ?_
        refine wp_if_eq (pc := 58) 77 dX11_readLine_58 (by decide) (by decide) (fun hh => absurd hh (by decide)) (fun _ => ?_)
        refine wp_aload_n (pc := 61) 0 dX11_readLine_61 rfl rfl ?_
        refine wp_geti (pc := 62) dX11_readLine_62 rfl f_X11_350 kd_111 la_111 (Or.inl rfl) ?_
        refine wp_eqst (st' := [vI ((kcN (T 13) 8 : Nat) : Int)]) (by rw [hP.f45]) ?_
        refine wp_bipush (pc := 65) dX11_readLine_65 (by decide) ?_
        refine wp_icmp_ge (pc := 67) 77 dX11_readLine_67 (by decide) (by omega) (by decide) (fun h_24 => ?_) (fun h_24 => ?_)
        · refine wp_aload_n (pc := 77) 0 dX11_readLine_77 rfl rfl ?_
          refine wp_ldc2 (pc := 78) (z := 126926642767219) dX11_readLine_78 rfl k_X11_204 rfl ?_
          refine wp_callV (pc := 81) (st := []) (nf' := 153) [vJ 126926642767219] [some (vR 111), some (vJ 126926642767219), none] dX11_readLine_81 rfl c_X11_234 rfl kd_111 (by decide) rfl la_111 rfl (Nat.le_of_ble_eq_true rfl) rfl (Nat.le_of_ble_eq_true rfl) (by omega) (Nat.le_refl _) (Nat.le_refl _) ?_
          refine rs_isWord (k := 8) hP.1.1 hP.2.1 hP.2.2.1 (by decide) rfl (by omega) (fun h_25 => absurd h_25 (by omega)) (fun h_25 => ?_)
          refine wp_eqst (st' := [vI 0]) rfl ?_
          refine wp_if_eq (pc := 84) 103 dX11_readLine_84 (by decide) (by decide) (fun _ => ?_) (fun hh => absurd hh (by decide))
          refine wp_aload_n (pc := 103) 0 dX11_readLine_103 rfl rfl ?_
          refine wp_ldc2 (pc := 104) (z := 1885432178) dX11_readLine_104 rfl k_X11_206 rfl ?_
          refine wp_callV (pc := 107) (st := []) (nf' := 153) [vJ 1885432178] [some (vR 111), some (vJ 1885432178), none] dX11_readLine_107 rfl c_X11_234 rfl kd_111 (by decide) rfl la_111 rfl (Nat.le_of_ble_eq_true rfl) rfl (Nat.le_of_ble_eq_true rfl) (by omega) (Nat.le_refl _) (Nat.le_refl _) ?_
          refine rs_isWord (k := 9) hP.1.1 hP.2.1 hP.2.2.1 (by decide) rfl (by omega) (fun h_26 => absurd h_26 (by omega)) (fun h_26 => ?_)
          refine wp_eqst (st' := [vI 0]) rfl ?_
          refine wp_if_eq (pc := 110) 128 dX11_readLine_110 (by decide) (by decide) (fun _ => ?_) (fun hh => absurd hh (by decide))
          refine wp_aload_n (pc := 128) 0 dX11_readLine_128 rfl rfl ?_
          refine wp_ldc2 (pc := 129) (z := 448377483891) dX11_readLine_129 rfl k_X11_210 rfl ?_
          refine wp_callV (pc := 132) (st := []) (nf' := 153) [vJ 448377483891] [some (vR 111), some (vJ 448377483891), none] dX11_readLine_132 rfl c_X11_234 rfl kd_111 (by decide) rfl la_111 rfl (Nat.le_of_ble_eq_true rfl) rfl (Nat.le_of_ble_eq_true rfl) (by omega) (Nat.le_refl _) (Nat.le_refl _) ?_
          refine rs_isWord (k := 11) hP.1.1 hP.2.1 hP.2.2.1 (by decide) rfl (by omega) (fun h_27 => absurd h_27 (by omega)) (fun h_27 => ?_)
          refine wp_eqst (st' := [vI 0]) rfl ?_
          refine wp_if_eq (pc := 135) 157 dX11_readLine_135 (by decide) (by decide) (fun _ => ?_) (fun hh => absurd hh (by decide))
          refine wp_aload_n (pc := 157) 0 dX11_readLine_157 rfl rfl ?_
          refine wp_ldc2 (pc := 158) (z := 110386690024805) dX11_readLine_158 rfl k_X11_212 rfl ?_
          refine wp_callV (pc := 161) (st := []) (nf' := 153) [vJ 110386690024805] [some (vR 111), some (vJ 110386690024805), none] dX11_readLine_161 rfl c_X11_234 rfl kd_111 (by decide) rfl la_111 rfl (Nat.le_of_ble_eq_true rfl) rfl (Nat.le_of_ble_eq_true rfl) (by omega) (Nat.le_refl _) (Nat.le_refl _) ?_
          refine rs_isWord (k := 12) hP.1.1 hP.2.1 hP.2.2.1 (by decide) rfl (by omega) (fun h_28 => absurd h_28 (by omega)) (fun h_28 => ?_)
          refine wp_eqst (st' := [vI 0]) rfl ?_
          refine wp_if_eq (pc := 164) 196 dX11_readLine_164 (by decide) (by decide) (fun _ => ?_) (fun hh => absurd hh (by decide))
          refine wp_aload_n (pc := 196) 0 dX11_readLine_196 rfl rfl ?_
          refine wp_ldc2 (pc := 197) (z := 426836257907) dX11_readLine_197 rfl k_X11_214 rfl ?_
          refine wp_callV (pc := 200) (st := []) (nf' := 153) [vJ 426836257907] [some (vR 111), some (vJ 426836257907), none] dX11_readLine_200 rfl c_X11_234 rfl kd_111 (by decide) rfl la_111 rfl (Nat.le_of_ble_eq_true rfl) rfl (Nat.le_of_ble_eq_true rfl) (by omega) (Nat.le_refl _) (Nat.le_refl _) ?_
          refine rs_isWord (k := 13) hP.1.1 hP.2.1 hP.2.2.1 (by decide) rfl (by omega) (fun h_29 => absurd h_29 (by omega)) (fun h_29 => ?_)
          refine wp_eqst (st' := [vI 0]) rfl ?_
          refine wp_if_eq (pc := 203) 234 dX11_readLine_203 (by decide) (by decide) (fun _ => ?_) (fun hh => absurd hh (by decide))
          refine wp_aload_n (pc := 234) 0 dX11_readLine_234 rfl rfl ?_
          refine wp_ldc2 (pc := 235) (z := 1685217655) dX11_readLine_235 rfl k_X11_216 rfl ?_
          refine wp_callV (pc := 238) (st := []) (nf' := 153) [vJ 1685217655] [some (vR 111), some (vJ 1685217655), none] dX11_readLine_238 rfl c_X11_234 rfl kd_111 (by decide) rfl la_111 rfl (Nat.le_of_ble_eq_true rfl) rfl (Nat.le_of_ble_eq_true rfl) (by omega) (Nat.le_refl _) (Nat.le_refl _) ?_
          refine rs_isWord (k := 14) hP.1.1 hP.2.1 hP.2.2.1 (by decide) rfl (by omega) (fun h_30 => absurd h_30 (by omega)) (fun h_30 => ?_)
          refine wp_eqst (st' := [vI 0]) rfl ?_
          refine wp_if_eq (pc := 241) 274 dX11_readLine_241 (by decide) (by decide) (fun _ => ?_) (fun hh => absurd hh (by decide))
          refine wp_aload_n (pc := 274) 0 dX11_readLine_274 rfl rfl ?_
          refine wp_iconst (pc := 275) dX11_readLine_275 ?_
          refine wp_callV (pc := 276) (st := []) (nf' := 153) [vI 2] [some (vR 111), some (vI 2)] dX11_readLine_276 rfl c_X11_238 rfl kd_111 (by decide) rfl la_111 rfl (Nat.le_of_ble_eq_true rfl) rfl (Nat.le_of_ble_eq_true rfl) (by omega) (Nat.le_refl _) (Nat.le_refl _) ?_
          unfold lnR at hr
          (repeat (first | rw [if_pos (by omega)] at hr | rw [if_neg (by omega)] at hr))
          have hr1 : r = .inl (bad b c 2) := by rw [hr.1]; unfold linkF; rw [if_pos (by omega)]
          refine rs_wrong hP.2.2.1 hP.2.2.2.1.1 (by decide) (by omega) ?_
          refine wp_gen (fun J => Fe I J ∧ RE J (bad b c 2)) ⟨Fe.bad, RD.bad (by decide)⟩ (fun J8 hJ8 => ?_)
          have hF8 := hJ8.1.n
          have hL8 := Ln.refl (L := L)
          have hE8 := hJ8.2
          refine wp_eqst (st' := []) rfl ?_
          exact rl_tailbad hE8 (by omega) (h3 _ hr1 _ _ hF8 hL8 hE8)
        · refine wp_aload_n (pc := 70) 0 dX11_readLine_70 rfl rfl ?_
          refine wp_callV (pc := 71) (st := []) (nf' := 153) [] [some (vR 111), none, none] dX11_readLine_71 rfl c_X11_369 rfl kd_111 (by decide) rfl la_111 rfl (Nat.le_of_ble_eq_true rfl) rfl (Nat.le_of_ble_eq_true rfl) (by omega) (Nat.le_refl _) (Nat.le_refl _) ?_
          unfold lnR at hr
          (repeat (first | rw [if_pos (by omega)] at hr | rw [if_neg (by omega)] at hr))
          refine rs_readKnows hP (n3_w (by omega)) (by omega) (by omega) (fun c9 T9 N9 hv J9 M9 hF9 hL9 hP9 => ?_) (fun er9 hv J9 M9 hF9 hL9 hE9 => ?_)
          · have hr1 := hr.1.trans hv
            rw [← hr.2] at hP9
            refine wp_eqst (st' := []) rfl ?_
            refine wp_goto (pc := 74) 279 dX11_readLine_74 (by decide) ?_
            refine rl_tailok hP9 (by omega) (fun z J M hF hL hR => h1 _ _ _ hr1 z J M (hF9.trans hF) (hL9.trans hL) hR) (fun z J M hF hL hR => h2 _ _ _ hr1 z J M (hF9.trans hF) (hL9.trans hL) hR)
          · have hr1 := hr.1.trans hv
            refine wp_eqst (st' := []) rfl ?_
            refine wp_goto (pc := 74) 279 dX11_readLine_74 (by decide) ?_
            exact rl_tailbad hE9 (by omega) (h3 _ hr1 _ _ hF9 hL9 hE9)
      · refine wp_eqst (st' := [vI 0]) rfl ?_
        refine wp_if_eq (pc := 58) 77 dX11_readLine_58 (by decide) (by decide) (fun _ => ?_) (fun hh => absurd hh (by decide))
        refine wp_aload_n (pc := 77) 0 dX11_readLine_77 rfl rfl ?_
        refine wp_ldc2 (pc := 78) (z := 126926642767219) dX11_readLine_78 rfl k_X11_204 rfl ?_
        refine wp_callV (pc := 81) (st := []) (nf' := 153) [vJ 126926642767219] [some (vR 111), some (vJ 126926642767219), none] dX11_readLine_81 rfl c_X11_234 rfl kd_111 (by decide) rfl la_111 rfl (Nat.le_of_ble_eq_true rfl) rfl (Nat.le_of_ble_eq_true rfl) (by omega) (Nat.le_refl _) (Nat.le_refl _) ?_
        have hz10 : RD (I) (L) b g n c T N mo := hP
        refine rs_isWord (k := 8) hz10.1.1 hz10.2.1 hz10.2.2.1 (by decide) rfl (by omega) (fun h_32 => ?_) (fun h_32 => ?_)
        · refine wp_eqst (st' := [vI 1]) rfl ?_
          refine wp_if_eq (pc := 84) 103 dX11_readLine_84 (by decide) (by decide) (fun hh => absurd hh (by decide)) (fun _ => ?_)
          refine wp_aload_n (pc := 87) 0 dX11_readLine_87 rfl rfl ?_
          refine wp_geti (pc := 88) dX11_readLine_88 rfl f_X11_353 kd_111 la_111 (Or.inl rfl) ?_
          refine wp_eqst (st' := [vI ((kcN (T 5) 8 : Nat) : Int)]) (by rw [hP.f46]) ?_
          refine wp_bipush (pc := 91) dX11_readLine_91 (by decide) ?_
          refine wp_icmp_ge (pc := 93) 103 dX11_readLine_93 (by decide) (by omega) (by decide) (fun h_33 => ?_) (fun h_33 => ?_)
          · refine wp_aload_n (pc := 103) 0 dX11_readLine_103 rfl rfl ?_
            refine wp_ldc2 (pc := 104) (z := 1885432178) dX11_readLine_104 rfl k_X11_206 rfl ?_
            refine wp_callV (pc := 107) (st := []) (nf' := 153) [vJ 1885432178] [some (vR 111), some (vJ 1885432178), none] dX11_readLine_107 rfl c_X11_234 rfl kd_111 (by decide) rfl la_111 rfl (Nat.le_of_ble_eq_true rfl) rfl (Nat.le_of_ble_eq_true rfl) (by omega) (Nat.le_refl _) (Nat.le_refl _) ?_
            refine rs_isWord (k := 9) hP.1.1 hP.2.1 hP.2.2.1 (by decide) rfl (by omega) (fun h_34 => absurd h_34 (by omega)) (fun h_34 => ?_)
            refine wp_eqst (st' := [vI 0]) rfl ?_
            refine wp_if_eq (pc := 110) 128 dX11_readLine_110 (by decide) (by decide) (fun _ => ?_) (fun hh => absurd hh (by decide))
            refine wp_aload_n (pc := 128) 0 dX11_readLine_128 rfl rfl ?_
            refine wp_ldc2 (pc := 129) (z := 448377483891) dX11_readLine_129 rfl k_X11_210 rfl ?_
            refine wp_callV (pc := 132) (st := []) (nf' := 153) [vJ 448377483891] [some (vR 111), some (vJ 448377483891), none] dX11_readLine_132 rfl c_X11_234 rfl kd_111 (by decide) rfl la_111 rfl (Nat.le_of_ble_eq_true rfl) rfl (Nat.le_of_ble_eq_true rfl) (by omega) (Nat.le_refl _) (Nat.le_refl _) ?_
            refine rs_isWord (k := 11) hP.1.1 hP.2.1 hP.2.2.1 (by decide) rfl (by omega) (fun h_35 => absurd h_35 (by omega)) (fun h_35 => ?_)
            refine wp_eqst (st' := [vI 0]) rfl ?_
            refine wp_if_eq (pc := 135) 157 dX11_readLine_135 (by decide) (by decide) (fun _ => ?_) (fun hh => absurd hh (by decide))
            refine wp_aload_n (pc := 157) 0 dX11_readLine_157 rfl rfl ?_
            refine wp_ldc2 (pc := 158) (z := 110386690024805) dX11_readLine_158 rfl k_X11_212 rfl ?_
            refine wp_callV (pc := 161) (st := []) (nf' := 153) [vJ 110386690024805] [some (vR 111), some (vJ 110386690024805), none] dX11_readLine_161 rfl c_X11_234 rfl kd_111 (by decide) rfl la_111 rfl (Nat.le_of_ble_eq_true rfl) rfl (Nat.le_of_ble_eq_true rfl) (by omega) (Nat.le_refl _) (Nat.le_refl _) ?_
            refine rs_isWord (k := 12) hP.1.1 hP.2.1 hP.2.2.1 (by decide) rfl (by omega) (fun h_36 => absurd h_36 (by omega)) (fun h_36 => ?_)
            refine wp_eqst (st' := [vI 0]) rfl ?_
            refine wp_if_eq (pc := 164) 196 dX11_readLine_164 (by decide) (by decide) (fun _ => ?_) (fun hh => absurd hh (by decide))
            refine wp_aload_n (pc := 196) 0 dX11_readLine_196 rfl rfl ?_
            refine wp_ldc2 (pc := 197) (z := 426836257907) dX11_readLine_197 rfl k_X11_214 rfl ?_
            refine wp_callV (pc := 200) (st := []) (nf' := 153) [vJ 426836257907] [some (vR 111), some (vJ 426836257907), none] dX11_readLine_200 rfl c_X11_234 rfl kd_111 (by decide) rfl la_111 rfl (Nat.le_of_ble_eq_true rfl) rfl (Nat.le_of_ble_eq_true rfl) (by omega) (Nat.le_refl _) (Nat.le_refl _) ?_
            refine rs_isWord (k := 13) hP.1.1 hP.2.1 hP.2.2.1 (by decide) rfl (by omega) (fun h_37 => absurd h_37 (by omega)) (fun h_37 => ?_)
            refine wp_eqst (st' := [vI 0]) rfl ?_
            refine wp_if_eq (pc := 203) 234 dX11_readLine_203 (by decide) (by decide) (fun _ => ?_) (fun hh => absurd hh (by decide))
            refine wp_aload_n (pc := 234) 0 dX11_readLine_234 rfl rfl ?_
            refine wp_ldc2 (pc := 235) (z := 1685217655) dX11_readLine_235 rfl k_X11_216 rfl ?_
            refine wp_callV (pc := 238) (st := []) (nf' := 153) [vJ 1685217655] [some (vR 111), some (vJ 1685217655), none] dX11_readLine_238 rfl c_X11_234 rfl kd_111 (by decide) rfl la_111 rfl (Nat.le_of_ble_eq_true rfl) rfl (Nat.le_of_ble_eq_true rfl) (by omega) (Nat.le_refl _) (Nat.le_refl _) ?_
            refine rs_isWord (k := 14) hP.1.1 hP.2.1 hP.2.2.1 (by decide) rfl (by omega) (fun h_38 => absurd h_38 (by omega)) (fun h_38 => ?_)
            refine wp_eqst (st' := [vI 0]) rfl ?_
            refine wp_if_eq (pc := 241) 274 dX11_readLine_241 (by decide) (by decide) (fun _ => ?_) (fun hh => absurd hh (by decide))
            refine wp_aload_n (pc := 274) 0 dX11_readLine_274 rfl rfl ?_
            refine wp_iconst (pc := 275) dX11_readLine_275 ?_
            refine wp_callV (pc := 276) (st := []) (nf' := 153) [vI 2] [some (vR 111), some (vI 2)] dX11_readLine_276 rfl c_X11_238 rfl kd_111 (by decide) rfl la_111 rfl (Nat.le_of_ble_eq_true rfl) rfl (Nat.le_of_ble_eq_true rfl) (by omega) (Nat.le_refl _) (Nat.le_refl _) ?_
            unfold lnR at hr
            (repeat (first | rw [if_pos (by omega)] at hr | rw [if_neg (by omega)] at hr))
            have hr1 : r = .inl (bad b c 2) := by rw [hr.1]; unfold linkF; rw [if_pos (by omega)]
            refine rs_wrong hP.2.2.1 hP.2.2.2.1.1 (by decide) (by omega) ?_
            refine wp_gen (fun J => Fe I J ∧ RE J (bad b c 2)) ⟨Fe.bad, RD.bad (by decide)⟩ (fun J11 hJ11 => ?_)
            have hF11 := hJ11.1.n
            have hL11 := Ln.refl (L := L)
            have hE11 := hJ11.2
            refine wp_eqst (st' := []) rfl ?_
            exact rl_tailbad hE11 (by omega) (h3 _ hr1 _ _ hF11 hL11 hE11)
          · refine wp_aload_n (pc := 96) 0 dX11_readLine_96 rfl rfl ?_
            refine wp_callV (pc := 97) (st := []) (nf' := 153) [] [some (vR 111), none, none] dX11_readLine_97 rfl c_X11_372 rfl kd_111 (by decide) rfl la_111 rfl (Nat.le_of_ble_eq_true rfl) rfl (Nat.le_of_ble_eq_true rfl) (by omega) (Nat.le_refl _) (Nat.le_refl _) ?_
            unfold lnR at hr
            (repeat (first | rw [if_pos (by omega)] at hr | rw [if_neg (by omega)] at hr))
            refine rs_readSpites hP (n3_w (by omega)) (by omega) (by omega) (fun c12 T12 N12 hv J12 M12 hF12 hL12 hP12 => ?_) (fun er12 hv J12 M12 hF12 hL12 hE12 => ?_)
            · have hr1 := hr.1.trans hv
              rw [← hr.2] at hP12
              refine wp_eqst (st' := []) rfl ?_
              refine wp_goto (pc := 100) 279 dX11_readLine_100 (by decide) ?_
              refine rl_tailok hP12 (by omega) (fun z J M hF hL hR => h1 _ _ _ hr1 z J M (hF12.trans hF) (hL12.trans hL) hR) (fun z J M hF hL hR => h2 _ _ _ hr1 z J M (hF12.trans hF) (hL12.trans hL) hR)
            · have hr1 := hr.1.trans hv
              refine wp_eqst (st' := []) rfl ?_
              refine wp_goto (pc := 100) 279 dX11_readLine_100 (by decide) ?_
              exact rl_tailbad hE12 (by omega) (h3 _ hr1 _ _ hF12 hL12 hE12)
        · refine wp_eqst (st' := [vI 0]) rfl ?_
          refine wp_if_eq (pc := 84) 103 dX11_readLine_84 (by decide) (by decide) (fun _ => ?_) (fun hh => absurd hh (by decide))
          refine wp_aload_n (pc := 103) 0 dX11_readLine_103 rfl rfl ?_
          refine wp_ldc2 (pc := 104) (z := 1885432178) dX11_readLine_104 rfl k_X11_206 rfl ?_
          refine wp_callV (pc := 107) (st := []) (nf' := 153) [vJ 1885432178] [some (vR 111), some (vJ 1885432178), none] dX11_readLine_107 rfl c_X11_234 rfl kd_111 (by decide) rfl la_111 rfl (Nat.le_of_ble_eq_true rfl) rfl (Nat.le_of_ble_eq_true rfl) (by omega) (Nat.le_refl _) (Nat.le_refl _) ?_
          have hz13 : RD (I) (L) b g n c T N mo := hP
          refine rs_isWord (k := 9) hz13.1.1 hz13.2.1 hz13.2.2.1 (by decide) rfl (by omega) (fun h_40 => ?_) (fun h_40 => ?_)
          · refine wp_eqst (st' := [vI 1]) rfl ?_
            refine wp_if_eq (pc := 110) 128 dX11_readLine_110 (by decide) (by decide) (fun hh => absurd hh (by decide)) (fun _ => ?_)
            refine wp_aload_n (pc := 113) 0 dX11_readLine_113 rfl rfl ?_
            refine wp_geti (pc := 114) dX11_readLine_114 rfl f_X11_356 kd_111 la_111 (Or.inl rfl) ?_
            refine wp_eqst (st' := [vI (T 0 13)]) (by rw [hP.f44]) ?_
            refine wp_iconst (pc := 117) dX11_readLine_117 ?_
            refine wp_icmp_ge (pc := 118) 128 dX11_readLine_118 (by decide) (by omega) (by decide) (fun h_41 => ?_) (fun h_41 => ?_)
            · refine wp_aload_n (pc := 128) 0 dX11_readLine_128 rfl rfl ?_
              refine wp_ldc2 (pc := 129) (z := 448377483891) dX11_readLine_129 rfl k_X11_210 rfl ?_
              refine wp_callV (pc := 132) (st := []) (nf' := 153) [vJ 448377483891] [some (vR 111), some (vJ 448377483891), none] dX11_readLine_132 rfl c_X11_234 rfl kd_111 (by decide) rfl la_111 rfl (Nat.le_of_ble_eq_true rfl) rfl (Nat.le_of_ble_eq_true rfl) (by omega) (Nat.le_refl _) (Nat.le_refl _) ?_
              refine rs_isWord (k := 11) hP.1.1 hP.2.1 hP.2.2.1 (by decide) rfl (by omega) (fun h_42 => absurd h_42 (by omega)) (fun h_42 => ?_)
              refine wp_eqst (st' := [vI 0]) rfl ?_
              refine wp_if_eq (pc := 135) 157 dX11_readLine_135 (by decide) (by decide) (fun _ => ?_) (fun hh => absurd hh (by decide))
              refine wp_aload_n (pc := 157) 0 dX11_readLine_157 rfl rfl ?_
              refine wp_ldc2 (pc := 158) (z := 110386690024805) dX11_readLine_158 rfl k_X11_212 rfl ?_
              refine wp_callV (pc := 161) (st := []) (nf' := 153) [vJ 110386690024805] [some (vR 111), some (vJ 110386690024805), none] dX11_readLine_161 rfl c_X11_234 rfl kd_111 (by decide) rfl la_111 rfl (Nat.le_of_ble_eq_true rfl) rfl (Nat.le_of_ble_eq_true rfl) (by omega) (Nat.le_refl _) (Nat.le_refl _) ?_
              refine rs_isWord (k := 12) hP.1.1 hP.2.1 hP.2.2.1 (by decide) rfl (by omega) (fun h_43 => absurd h_43 (by omega)) (fun h_43 => ?_)
              refine wp_eqst (st' := [vI 0]) rfl ?_
              refine wp_if_eq (pc := 164) 196 dX11_readLine_164 (by decide) (by decide) (fun _ => ?_) (fun hh => absurd hh (by decide))
              refine wp_aload_n (pc := 196) 0 dX11_readLine_196 rfl rfl ?_
              refine wp_ldc2 (pc := 197) (z := 426836257907) dX11_readLine_197 rfl k_X11_214 rfl ?_
              refine wp_callV (pc := 200) (st := []) (nf' := 153) [vJ 426836257907] [some (vR 111), some (vJ 426836257907), none] dX11_readLine_200 rfl c_X11_234 rfl kd_111 (by decide) rfl la_111 rfl (Nat.le_of_ble_eq_true rfl) rfl (Nat.le_of_ble_eq_true rfl) (by omega) (Nat.le_refl _) (Nat.le_refl _) ?_
              refine rs_isWord (k := 13) hP.1.1 hP.2.1 hP.2.2.1 (by decide) rfl (by omega) (fun h_44 => absurd h_44 (by omega)) (fun h_44 => ?_)
              refine wp_eqst (st' := [vI 0]) rfl ?_
              refine wp_if_eq (pc := 203) 234 dX11_readLine_203 (by decide) (by decide) (fun _ => ?_) (fun hh => absurd hh (by decide))
              refine wp_aload_n (pc := 234) 0 dX11_readLine_234 rfl rfl ?_
              refine wp_ldc2 (pc := 235) (z := 1685217655) dX11_readLine_235 rfl k_X11_216 rfl ?_
              refine wp_callV (pc := 238) (st := []) (nf' := 153) [vJ 1685217655] [some (vR 111), some (vJ 1685217655), none] dX11_readLine_238 rfl c_X11_234 rfl kd_111 (by decide) rfl la_111 rfl (Nat.le_of_ble_eq_true rfl) rfl (Nat.le_of_ble_eq_true rfl) (by omega) (Nat.le_refl _) (Nat.le_refl _) ?_
              refine rs_isWord (k := 14) hP.1.1 hP.2.1 hP.2.2.1 (by decide) rfl (by omega) (fun h_45 => absurd h_45 (by omega)) (fun h_45 => ?_)
              refine wp_eqst (st' := [vI 0]) rfl ?_
              refine wp_if_eq (pc := 241) 274 dX11_readLine_241 (by decide) (by decide) (fun _ => ?_) (fun hh => absurd hh (by decide))
              refine wp_aload_n (pc := 274) 0 dX11_readLine_274 rfl rfl ?_
              refine wp_iconst (pc := 275) dX11_readLine_275 ?_
              refine wp_callV (pc := 276) (st := []) (nf' := 153) [vI 2] [some (vR 111), some (vI 2)] dX11_readLine_276 rfl c_X11_238 rfl kd_111 (by decide) rfl la_111 rfl (Nat.le_of_ble_eq_true rfl) rfl (Nat.le_of_ble_eq_true rfl) (by omega) (Nat.le_refl _) (Nat.le_refl _) ?_
              unfold lnR at hr
              (repeat (first | rw [if_pos (by omega)] at hr | rw [if_neg (by omega)] at hr))
              have hr1 : r = .inl (bad b c 2) := by rw [hr.1]; unfold pairF; rw [if_pos (by omega)]
              refine rs_wrong hP.2.2.1 hP.2.2.2.1.1 (by decide) (by omega) ?_
              refine wp_gen (fun J => Fe I J ∧ RE J (bad b c 2)) ⟨Fe.bad, RD.bad (by decide)⟩ (fun J14 hJ14 => ?_)
              have hF14 := hJ14.1.n
              have hL14 := Ln.refl (L := L)
              have hE14 := hJ14.2
              refine wp_eqst (st' := []) rfl ?_
              exact rl_tailbad hE14 (by omega) (h3 _ hr1 _ _ hF14 hL14 hE14)
            · refine wp_aload_n (pc := 121) 0 dX11_readLine_121 rfl rfl ?_
              refine wp_callV (pc := 122) (st := []) (nf' := 153) [] [some (vR 111), none, none, none] dX11_readLine_122 rfl c_X11_375 rfl kd_111 (by decide) rfl la_111 rfl (Nat.le_of_ble_eq_true rfl) rfl (Nat.le_of_ble_eq_true rfl) (by omega) (Nat.le_refl _) (Nat.le_refl _) ?_
              unfold lnR at hr
              (repeat (first | rw [if_pos (by omega)] at hr | rw [if_neg (by omega)] at hr))
              refine rs_readPair hP (n3_w (by omega)) (by omega) (by omega) (fun c15 T15 N15 hv J15 M15 hF15 hL15 hP15 => ?_) (fun er15 hv J15 M15 hF15 hL15 hE15 => ?_)
              · have hr1 := hr.1.trans hv
                rw [← hr.2] at hP15
                refine wp_eqst (st' := []) rfl ?_
                refine wp_goto (pc := 125) 279 dX11_readLine_125 (by decide) ?_
                refine rl_tailok hP15 (by omega) (fun z J M hF hL hR => h1 _ _ _ hr1 z J M (hF15.trans hF) (hL15.trans hL) hR) (fun z J M hF hL hR => h2 _ _ _ hr1 z J M (hF15.trans hF) (hL15.trans hL) hR)
              · have hr1 := hr.1.trans hv
                refine wp_eqst (st' := []) rfl ?_
                refine wp_goto (pc := 125) 279 dX11_readLine_125 (by decide) ?_
                exact rl_tailbad hE15 (by omega) (h3 _ hr1 _ _ hF15 hL15 hE15)
          · refine wp_eqst (st' := [vI 0]) rfl ?_
            refine wp_if_eq (pc := 110) 128 dX11_readLine_110 (by decide) (by decide) (fun _ => ?_) (fun hh => absurd hh (by decide))
            refine wp_aload_n (pc := 128) 0 dX11_readLine_128 rfl rfl ?_
            refine wp_ldc2 (pc := 129) (z := 448377483891) dX11_readLine_129 rfl k_X11_210 rfl ?_
            refine wp_callV (pc := 132) (st := []) (nf' := 153) [vJ 448377483891] [some (vR 111), some (vJ 448377483891), none] dX11_readLine_132 rfl c_X11_234 rfl kd_111 (by decide) rfl la_111 rfl (Nat.le_of_ble_eq_true rfl) rfl (Nat.le_of_ble_eq_true rfl) (by omega) (Nat.le_refl _) (Nat.le_refl _) ?_
            have hz16 : RD (I) (L) b g n c T N mo := hP
            refine rs_isWord (k := 11) hz16.1.1 hz16.2.1 hz16.2.2.1 (by decide) rfl (by omega) (fun h_47 => ?_) (fun h_47 => ?_)
            · refine wp_eqst (st' := [vI 1]) rfl ?_
              refine wp_if_eq (pc := 135) 157 dX11_readLine_135 (by decide) (by decide) (fun hh => absurd hh (by decide)) (fun _ => ?_)
              refine wp_aload_n (pc := 138) 0 dX11_readLine_138 rfl rfl ?_
              refine wp_geti (pc := 139) dX11_readLine_139 rfl f_X11_378 kd_111 la_111 (Or.inr rfl) ?_
              refine wp_eqst (st' := [vI (bitI mo 11)]) (by rw [hP.f55]) ?_
              refine wp_if_ne (pc := 142) 157 dX11_readLine_142 (by decide) (by omega) (fun h_48 => ?_) (fun h_48 => ?_)
              · refine wp_aload_n (pc := 157) 0 dX11_readLine_157 rfl rfl ?_
                refine wp_ldc2 (pc := 158) (z := 110386690024805) dX11_readLine_158 rfl k_X11_212 rfl ?_
                refine wp_callV (pc := 161) (st := []) (nf' := 153) [vJ 110386690024805] [some (vR 111), some (vJ 110386690024805), none] dX11_readLine_161 rfl c_X11_234 rfl kd_111 (by decide) rfl la_111 rfl (Nat.le_of_ble_eq_true rfl) rfl (Nat.le_of_ble_eq_true rfl) (by omega) (Nat.le_refl _) (Nat.le_refl _) ?_
                refine rs_isWord (k := 12) hP.1.1 hP.2.1 hP.2.2.1 (by decide) rfl (by omega) (fun h_49 => absurd h_49 (by omega)) (fun h_49 => ?_)
                refine wp_eqst (st' := [vI 0]) rfl ?_
                refine wp_if_eq (pc := 164) 196 dX11_readLine_164 (by decide) (by decide) (fun _ => ?_) (fun hh => absurd hh (by decide))
                refine wp_aload_n (pc := 196) 0 dX11_readLine_196 rfl rfl ?_
                refine wp_ldc2 (pc := 197) (z := 426836257907) dX11_readLine_197 rfl k_X11_214 rfl ?_
                refine wp_callV (pc := 200) (st := []) (nf' := 153) [vJ 426836257907] [some (vR 111), some (vJ 426836257907), none] dX11_readLine_200 rfl c_X11_234 rfl kd_111 (by decide) rfl la_111 rfl (Nat.le_of_ble_eq_true rfl) rfl (Nat.le_of_ble_eq_true rfl) (by omega) (Nat.le_refl _) (Nat.le_refl _) ?_
                refine rs_isWord (k := 13) hP.1.1 hP.2.1 hP.2.2.1 (by decide) rfl (by omega) (fun h_50 => absurd h_50 (by omega)) (fun h_50 => ?_)
                refine wp_eqst (st' := [vI 0]) rfl ?_
                refine wp_if_eq (pc := 203) 234 dX11_readLine_203 (by decide) (by decide) (fun _ => ?_) (fun hh => absurd hh (by decide))
                refine wp_aload_n (pc := 234) 0 dX11_readLine_234 rfl rfl ?_
                refine wp_ldc2 (pc := 235) (z := 1685217655) dX11_readLine_235 rfl k_X11_216 rfl ?_
                refine wp_callV (pc := 238) (st := []) (nf' := 153) [vJ 1685217655] [some (vR 111), some (vJ 1685217655), none] dX11_readLine_238 rfl c_X11_234 rfl kd_111 (by decide) rfl la_111 rfl (Nat.le_of_ble_eq_true rfl) rfl (Nat.le_of_ble_eq_true rfl) (by omega) (Nat.le_refl _) (Nat.le_refl _) ?_
                refine rs_isWord (k := 14) hP.1.1 hP.2.1 hP.2.2.1 (by decide) rfl (by omega) (fun h_51 => absurd h_51 (by omega)) (fun h_51 => ?_)
                refine wp_eqst (st' := [vI 0]) rfl ?_
                refine wp_if_eq (pc := 241) 274 dX11_readLine_241 (by decide) (by decide) (fun _ => ?_) (fun hh => absurd hh (by decide))
                refine wp_aload_n (pc := 274) 0 dX11_readLine_274 rfl rfl ?_
                refine wp_iconst (pc := 275) dX11_readLine_275 ?_
                refine wp_callV (pc := 276) (st := []) (nf' := 153) [vI 2] [some (vR 111), some (vI 2)] dX11_readLine_276 rfl c_X11_238 rfl kd_111 (by decide) rfl la_111 rfl (Nat.le_of_ble_eq_true rfl) rfl (Nat.le_of_ble_eq_true rfl) (by omega) (Nat.le_refl _) (Nat.le_refl _) ?_
                unfold lnR at hr
                (repeat (first | rw [if_pos (by omega)] at hr | rw [if_neg (by omega)] at hr))
                have hb11 : mo.testBit 11 = true := Classical.byContradiction (fun z => absurd (bitI_0.mpr z) (by omega))
                rw [if_pos hb11] at hr
                have hr1 : r = .inl (bad b c 2) := hr.1
                refine rs_wrong hP.2.2.1 hP.2.2.2.1.1 (by decide) (by omega) ?_
                refine wp_gen (fun J => Fe I J ∧ RE J (bad b c 2)) ⟨Fe.bad, RD.bad (by decide)⟩ (fun J17 hJ17 => ?_)
                have hF17 := hJ17.1.n
                have hL17 := Ln.refl (L := L)
                have hE17 := hJ17.2
                refine wp_eqst (st' := []) rfl ?_
                exact rl_tailbad hE17 (by omega) (h3 _ hr1 _ _ hF17 hL17 hE17)
              · refine wp_aload_n (pc := 145) 0 dX11_readLine_145 rfl rfl ?_
                refine wp_iconst (pc := 146) dX11_readLine_146 ?_
                refine wp_putz (pc := 147) dX11_readLine_147 rfl f_X11_378 kd_111 la_111 (fun _ h => by cases h; rfl) rfl (by decide) ?_
                refine wp_aload_n (pc := 150) 0 dX11_readLine_150 rfl rfl ?_
                refine wp_callV (pc := 151) (st := []) (nf' := 153) [] [some (vR 111), none, none] dX11_readLine_151 rfl c_X11_382 rfl kd_111 (by decide) rfl la_111 rfl (Nat.le_of_ble_eq_true rfl) rfl (Nat.le_of_ble_eq_true rfl) (by omega) (Nat.le_refl _) (Nat.le_refl _) ?_
                unfold lnR at hr
                (repeat (first | rw [if_pos (by omega)] at hr | rw [if_neg (by omega)] at hr))
                have hb11 : ¬ mo.testBit 11 = true := bitI_0.mp (by omega)
                rw [if_neg hb11] at hr
                have hl := hG.2.1.1 hb11
                have h20 : up I 111 55 1 111 20 = 0 := by rw [up_j (by decide), hP.f20]; exact hl.2
                rcases hr with ⟨hmo, ⟨c1, T1, ⟨out1, un1, ⟨k1, hk1⟩, hO, hTF, hg1, hg2, hg3, hg4, hg5, hg6⟩, hr1⟩ | ⟨c1, ⟨st1, out1, un1, dp1, k1, hk1⟩, hr1⟩⟩
                · have hGT : GT T1 mo' := by rw [hmo]; exact hears_GT hb11 ⟨out1, un1, ⟨k1, hk1⟩, hO, hTF, hg1, hg2, hg3, hg4, hg5, hg6⟩ hG
                  refine rs_readHears hP.b0 h20 (n3_w (by omega)) hk1 (Or.inl rfl) (by omega) (fun cx outx unx hfx J18 M18 hF18_ hL18_ hB18 ho18 hu18 => ?_) (fun cx hfx _ J18 M18 _ _ _ => absurd (show (2 : Nat) = 3 from hfx) (by decide))
                  cases hfx
                  have hP18 := rd_hears hP hB18 hF18_ hL18_ ho18 hu18 hO hTF hGT.1
                  rw [← hmo] at hP18
                  have hF18 := hF18_.fn
                  have hL18 := hL18_.n
                  refine wp_eqst (st' := []) rfl ?_
                  refine wp_goto (pc := 154) 279 dX11_readLine_154 (by decide) ?_
                  refine rl_tailok hP18 (by omega) (fun z J M hF hL hR => h1 _ _ _ hr1 z J M (hF18.trans hF) (hL18.trans hL) hR) (fun z J M hF hL hR => h2 _ _ _ hr1 z J M (hF18.trans hF) (hL18.trans hL) hR)
                · refine rs_readHears hP.b0 h20 (n3_w (by omega)) hk1 (Or.inr rfl) (by omega) (fun cx outx unx hfx J18 M18 _ _ _ _ _ => nomatch hfx) (fun cx hfx hfc J18 M18 hF18_ hL18_ hE18 => ?_)
                  have hfc2 : c1 = cx := hfc
                  rw [← hfc2] at hE18
                  have hF18 := hF18_.fn
                  have hL18 := hL18_.n
                  refine wp_eqst (st' := []) rfl ?_
                  refine wp_goto (pc := 154) 279 dX11_readLine_154 (by decide) ?_
                  exact rl_tailbad hE18 (by omega) (h3 _ hr1 _ _ hF18 hL18 hE18)
            · refine wp_eqst (st' := [vI 0]) rfl ?_
              refine wp_if_eq (pc := 135) 157 dX11_readLine_135 (by decide) (by decide) (fun _ => ?_) (fun hh => absurd hh (by decide))
              refine wp_aload_n (pc := 157) 0 dX11_readLine_157 rfl rfl ?_
              refine wp_ldc2 (pc := 158) (z := 110386690024805) dX11_readLine_158 rfl k_X11_212 rfl ?_
              refine wp_callV (pc := 161) (st := []) (nf' := 153) [vJ 110386690024805] [some (vR 111), some (vJ 110386690024805), none] dX11_readLine_161 rfl c_X11_234 rfl kd_111 (by decide) rfl la_111 rfl (Nat.le_of_ble_eq_true rfl) rfl (Nat.le_of_ble_eq_true rfl) (by omega) (Nat.le_refl _) (Nat.le_refl _) ?_
              have hz19 : RD (I) (L) b g n c T N mo := hP
              refine rs_isWord (k := 12) hz19.1.1 hz19.2.1 hz19.2.2.1 (by decide) rfl (by omega) (fun h_53 => ?_) (fun h_53 => ?_)
              · refine wp_eqst (st' := [vI 1]) rfl ?_
                refine wp_if_eq (pc := 164) 196 dX11_readLine_164 (by decide) (by decide) (fun hh => absurd hh (by decide)) (fun _ => ?_)
                refine wp_aload_n (pc := 167) 0 dX11_readLine_167 rfl rfl ?_
                refine wp_geti (pc := 168) dX11_readLine_168 rfl f_X11_385 kd_111 la_111 (Or.inr rfl) ?_
                refine wp_eqst (st' := [vI (bitI mo 12)]) (by rw [hP.f56]) ?_
                refine wp_if_ne (pc := 171) 196 dX11_readLine_171 (by decide) (by omega) (fun h_54 => ?_) (fun h_54 => ?_)
                · refine wp_aload_n (pc := 196) 0 dX11_readLine_196 rfl rfl ?_
                  refine wp_ldc2 (pc := 197) (z := 426836257907) dX11_readLine_197 rfl k_X11_214 rfl ?_
                  refine wp_callV (pc := 200) (st := []) (nf' := 153) [vJ 426836257907] [some (vR 111), some (vJ 426836257907), none] dX11_readLine_200 rfl c_X11_234 rfl kd_111 (by decide) rfl la_111 rfl (Nat.le_of_ble_eq_true rfl) rfl (Nat.le_of_ble_eq_true rfl) (by omega) (Nat.le_refl _) (Nat.le_refl _) ?_
                  refine rs_isWord (k := 13) hP.1.1 hP.2.1 hP.2.2.1 (by decide) rfl (by omega) (fun h_55 => absurd h_55 (by omega)) (fun h_55 => ?_)
                  refine wp_eqst (st' := [vI 0]) rfl ?_
                  refine wp_if_eq (pc := 203) 234 dX11_readLine_203 (by decide) (by decide) (fun _ => ?_) (fun hh => absurd hh (by decide))
                  refine wp_aload_n (pc := 234) 0 dX11_readLine_234 rfl rfl ?_
                  refine wp_ldc2 (pc := 235) (z := 1685217655) dX11_readLine_235 rfl k_X11_216 rfl ?_
                  refine wp_callV (pc := 238) (st := []) (nf' := 153) [vJ 1685217655] [some (vR 111), some (vJ 1685217655), none] dX11_readLine_238 rfl c_X11_234 rfl kd_111 (by decide) rfl la_111 rfl (Nat.le_of_ble_eq_true rfl) rfl (Nat.le_of_ble_eq_true rfl) (by omega) (Nat.le_refl _) (Nat.le_refl _) ?_
                  refine rs_isWord (k := 14) hP.1.1 hP.2.1 hP.2.2.1 (by decide) rfl (by omega) (fun h_56 => absurd h_56 (by omega)) (fun h_56 => ?_)
                  refine wp_eqst (st' := [vI 0]) rfl ?_
                  refine wp_if_eq (pc := 241) 274 dX11_readLine_241 (by decide) (by decide) (fun _ => ?_) (fun hh => absurd hh (by decide))
                  refine wp_aload_n (pc := 274) 0 dX11_readLine_274 rfl rfl ?_
                  refine wp_iconst (pc := 275) dX11_readLine_275 ?_
                  refine wp_callV (pc := 276) (st := []) (nf' := 153) [vI 2] [some (vR 111), some (vI 2)] dX11_readLine_276 rfl c_X11_238 rfl kd_111 (by decide) rfl la_111 rfl (Nat.le_of_ble_eq_true rfl) rfl (Nat.le_of_ble_eq_true rfl) (by omega) (Nat.le_refl _) (Nat.le_refl _) ?_
                  unfold lnR at hr
                  (repeat (first | rw [if_pos (by omega)] at hr | rw [if_neg (by omega)] at hr))
                  have hb : mo.testBit 12 = true := Classical.byContradiction (fun z => absurd (bitI_0.mpr z) (by omega))
                  have hr1 : r = .inl (bad b c 2) := by rw [hr.1]; unfold settF; rw [if_pos hb]
                  refine rs_wrong hP.2.2.1 hP.2.2.2.1.1 (by decide) (by omega) ?_
                  refine wp_gen (fun J => Fe I J ∧ RE J (bad b c 2)) ⟨Fe.bad, RD.bad (by decide)⟩ (fun J20 hJ20 => ?_)
                  have hF20 := hJ20.1.n
                  have hL20 := Ln.refl (L := L)
                  have hE20 := hJ20.2
                  refine wp_eqst (st' := []) rfl ?_
                  exact rl_tailbad hE20 (by omega) (h3 _ hr1 _ _ hF20 hL20 hE20)
                · refine wp_aload_n (pc := 174) 0 dX11_readLine_174 rfl rfl ?_
                  refine wp_iconst (pc := 175) dX11_readLine_175 ?_
                  refine wp_putz (pc := 176) dX11_readLine_176 rfl f_X11_385 kd_111 la_111 (fun _ h => by cases h; rfl) rfl (by decide) ?_
                  refine wp_aload_n (pc := 179) 0 dX11_readLine_179 rfl rfl ?_
                  refine wp_aload_n (pc := 180) 0 dX11_readLine_180 rfl rfl ?_
                  refine wp_ldc2 (pc := 181) (z := 110386690024805) dX11_readLine_181 rfl k_X11_212 rfl ?_
                  refine wp_iconst (pc := 184) dX11_readLine_184 ?_
                  refine wp_bipush (pc := 185) dX11_readLine_185 (by decide) ?_
                  refine wp_callV (pc := 187) (st := [vR 111]) (nf' := 153) [vJ 110386690024805, vI 0, vI 8] [some (vR 111), some (vJ 110386690024805), none, some (vI 0), some (vI 8)] dX11_readLine_187 rfl c_X11_346 rfl kd_111 (by decide) rfl la_111 rfl (Nat.le_of_ble_eq_true rfl) rfl (Nat.le_of_ble_eq_true rfl) (by omega) (Nat.le_refl _) (Nat.le_refl _) ?_
                  unfold lnR at hr
                  (repeat (first | rw [if_pos (by omega)] at hr | rw [if_neg (by omega)] at hr))
                  have hb : ¬ mo.testBit 12 = true := bitI_0.mp (by omega)
                  have hz21 := hP.fl12
                  refine rs_told (k := 12) hz21 (by decide) rfl (by omega) (by omega) (by omega) (by omega) (fun hn21 J21 M21 hFb21 hLb21 hP21_ => ?_) (fun hn21 J21 M21 hF21_ hL21 hE21_ v21 => ?_)
                  · have qn := nbF_ok (b := b) (c := te b c) (lo := 0) (hi := 8) (by decide) (by omega)
                    have hr1 : r = .inr (te b (te b c), setT T 0 15 (nbF b (te b c) 0 8), N) := by rw [hr.1]; unfold settF; rw [if_neg hb, if_neg (by omega)]; rfl
                    refine wp_eqst (st' := [vI (nbF b (te b c) 0 8), vR 111]) rfl ?_
                    refine wp_puti (pc := 190) dX11_readLine_190 rfl f_X11_388 kd_111 la_111 (fun _ h => by cases h; rfl) rfl ?_
                    refine wp_goto (pc := 193) 279 dX11_readLine_193 (by decide) ?_
                    have hP21 := hP21_.st15 (v := nbF b (te b c) 0 8) (by omega)
                    rw [← hr.2] at hP21
                    have hF21 : Fn I _ := ((Fn.refl.wr (Or.inl ⟨rfl, by unfold rnSlot; omega⟩)).trans hFb21.n).wr (a := 111) (j := 47) (v := nbF b (te b c) 0 8) (Or.inl ⟨rfl, by unfold rnSlot; omega⟩)
                    have hL21 := hLb21.n
                    refine rl_tailok hP21 (by omega) (fun z J M hF hL hR => h1 _ _ _ hr1 z J M (hF21.trans hF) (hL21.trans hL) hR) (fun z J M hF hL hR => h2 _ _ _ hr1 z J M (hF21.trans hF) (hL21.trans hL) hR)
                  · have hr1 : r = .inl (bad b (te b c) (-nbF b (te b c) 0 8)) := by rw [hr.1]; unfold settF; rw [if_neg hb, if_pos (by omega)]
                    refine wp_eqst (st' := [vI v21, vR 111]) rfl ?_
                    refine wp_puti (pc := 190) dX11_readLine_190 rfl f_X11_388 kd_111 la_111 (fun _ h => by cases h; rfl) rfl ?_
                    refine wp_goto (pc := 193) 279 dX11_readLine_193 (by decide) ?_
                    have hE21 := hE21_.wr (a := 111) (j := 47) (v := v21) (by omega)
                    have hF21 : Fn I _ := ((Fn.refl.wr (Or.inl ⟨rfl, by unfold rnSlot; omega⟩)).trans hF21_.n).wr (a := 111) (j := 47) (v := v21) (Or.inl ⟨rfl, by unfold rnSlot; omega⟩)
                    exact rl_tailbad hE21 (by omega) (h3 _ hr1 _ _ hF21 hL21 hE21)
              · refine wp_eqst (st' := [vI 0]) rfl ?_
                refine wp_if_eq (pc := 164) 196 dX11_readLine_164 (by decide) (by decide) (fun _ => ?_) (fun hh => absurd hh (by decide))
                refine wp_aload_n (pc := 196) 0 dX11_readLine_196 rfl rfl ?_
                refine wp_ldc2 (pc := 197) (z := 426836257907) dX11_readLine_197 rfl k_X11_214 rfl ?_
                refine wp_callV (pc := 200) (st := []) (nf' := 153) [vJ 426836257907] [some (vR 111), some (vJ 426836257907), none] dX11_readLine_200 rfl c_X11_234 rfl kd_111 (by decide) rfl la_111 rfl (Nat.le_of_ble_eq_true rfl) rfl (Nat.le_of_ble_eq_true rfl) (by omega) (Nat.le_refl _) (Nat.le_refl _) ?_
                have hz22 : RD (I) (L) b g n c T N mo := hP
                refine rs_isWord (k := 13) hz22.1.1 hz22.2.1 hz22.2.2.1 (by decide) rfl (by omega) (fun h_58 => ?_) (fun h_58 => ?_)
                · refine wp_eqst (st' := [vI 1]) rfl ?_
                  refine wp_if_eq (pc := 203) 234 dX11_readLine_203 (by decide) (by decide) (fun hh => absurd hh (by decide)) (fun _ => ?_)
                  refine wp_aload_n (pc := 206) 0 dX11_readLine_206 rfl rfl ?_
                  refine wp_geti (pc := 207) dX11_readLine_207 rfl f_X11_391 kd_111 la_111 (Or.inr rfl) ?_
                  refine wp_eqst (st' := [vI (bitI mo 13)]) (by rw [hP.f57]) ?_
                  refine wp_if_ne (pc := 210) 234 dX11_readLine_210 (by decide) (by omega) (fun h_59 => ?_) (fun h_59 => ?_)
                  · refine wp_aload_n (pc := 234) 0 dX11_readLine_234 rfl rfl ?_
                    refine wp_ldc2 (pc := 235) (z := 1685217655) dX11_readLine_235 rfl k_X11_216 rfl ?_
                    refine wp_callV (pc := 238) (st := []) (nf' := 153) [vJ 1685217655] [some (vR 111), some (vJ 1685217655), none] dX11_readLine_238 rfl c_X11_234 rfl kd_111 (by decide) rfl la_111 rfl (Nat.le_of_ble_eq_true rfl) rfl (Nat.le_of_ble_eq_true rfl) (by omega) (Nat.le_refl _) (Nat.le_refl _) ?_
                    refine rs_isWord (k := 14) hP.1.1 hP.2.1 hP.2.2.1 (by decide) rfl (by omega) (fun h_60 => absurd h_60 (by omega)) (fun h_60 => ?_)
                    refine wp_eqst (st' := [vI 0]) rfl ?_
                    refine wp_if_eq (pc := 241) 274 dX11_readLine_241 (by decide) (by decide) (fun _ => ?_) (fun hh => absurd hh (by decide))
                    refine wp_aload_n (pc := 274) 0 dX11_readLine_274 rfl rfl ?_
                    refine wp_iconst (pc := 275) dX11_readLine_275 ?_
                    refine wp_callV (pc := 276) (st := []) (nf' := 153) [vI 2] [some (vR 111), some (vI 2)] dX11_readLine_276 rfl c_X11_238 rfl kd_111 (by decide) rfl la_111 rfl (Nat.le_of_ble_eq_true rfl) rfl (Nat.le_of_ble_eq_true rfl) (by omega) (Nat.le_refl _) (Nat.le_refl _) ?_
                    unfold lnR at hr
                    (repeat (first | rw [if_pos (by omega)] at hr | rw [if_neg (by omega)] at hr))
                    have hb : mo.testBit 13 = true := Classical.byContradiction (fun z => absurd (bitI_0.mpr z) (by omega))
                    have hr1 : r = .inl (bad b c 2) := by rw [hr.1]; unfold settF; rw [if_pos hb]
                    refine rs_wrong hP.2.2.1 hP.2.2.2.1.1 (by decide) (by omega) ?_
                    refine wp_gen (fun J => Fe I J ∧ RE J (bad b c 2)) ⟨Fe.bad, RD.bad (by decide)⟩ (fun J23 hJ23 => ?_)
                    have hF23 := hJ23.1.n
                    have hL23 := Ln.refl (L := L)
                    have hE23 := hJ23.2
                    refine wp_eqst (st' := []) rfl ?_
                    exact rl_tailbad hE23 (by omega) (h3 _ hr1 _ _ hF23 hL23 hE23)
                  · refine wp_aload_n (pc := 213) 0 dX11_readLine_213 rfl rfl ?_
                    refine wp_iconst (pc := 214) dX11_readLine_214 ?_
                    refine wp_putz (pc := 215) dX11_readLine_215 rfl f_X11_391 kd_111 la_111 (fun _ h => by cases h; rfl) rfl (by decide) ?_
                    refine wp_aload_n (pc := 218) 0 dX11_readLine_218 rfl rfl ?_
                    refine wp_aload_n (pc := 219) 0 dX11_readLine_219 rfl rfl ?_
                    refine wp_ldc2 (pc := 220) (z := 426836257907) dX11_readLine_220 rfl k_X11_214 rfl ?_
                    refine wp_iconst (pc := 223) dX11_readLine_223 ?_
                    refine wp_iconst (pc := 224) dX11_readLine_224 ?_
                    refine wp_callV (pc := 225) (st := [vR 111]) (nf' := 153) [vJ 426836257907, vI 1, vI 5] [some (vR 111), some (vJ 426836257907), none, some (vI 1), some (vI 5)] dX11_readLine_225 rfl c_X11_346 rfl kd_111 (by decide) rfl la_111 rfl (Nat.le_of_ble_eq_true rfl) rfl (Nat.le_of_ble_eq_true rfl) (by omega) (Nat.le_refl _) (Nat.le_refl _) ?_
                    unfold lnR at hr
                    (repeat (first | rw [if_pos (by omega)] at hr | rw [if_neg (by omega)] at hr))
                    have hb : ¬ mo.testBit 13 = true := bitI_0.mp (by omega)
                    have hz24 := hP.fl13
                    refine rs_told (k := 13) hz24 (by decide) rfl (by omega) (by omega) (by omega) (by omega) (fun hn24 J24 M24 hFb24 hLb24 hP24_ => ?_) (fun hn24 J24 M24 hF24_ hL24 hE24_ v24 => ?_)
                    · have qn := nbF_ok (b := b) (c := te b c) (lo := 1) (hi := 5) (by decide) (by omega)
                      have hr1 : r = .inr (te b (te b c), setT T 0 16 (nbF b (te b c) 1 5), N) := by rw [hr.1]; unfold settF; rw [if_neg hb, if_neg (by omega)]; rfl
                      refine wp_eqst (st' := [vI (nbF b (te b c) 1 5), vR 111]) rfl ?_
                      refine wp_puti (pc := 228) dX11_readLine_228 rfl f_X11_394 kd_111 la_111 (fun _ h => by cases h; rfl) rfl ?_
                      refine wp_goto (pc := 231) 279 dX11_readLine_231 (by decide) ?_
                      have hP24 := hP24_.st16 (v := nbF b (te b c) 1 5) (by omega)
                      rw [← hr.2] at hP24
                      have hF24 : Fn I _ := ((Fn.refl.wr (Or.inl ⟨rfl, by unfold rnSlot; omega⟩)).trans hFb24.n).wr (a := 111) (j := 48) (v := nbF b (te b c) 1 5) (Or.inl ⟨rfl, by unfold rnSlot; omega⟩)
                      have hL24 := hLb24.n
                      refine rl_tailok hP24 (by omega) (fun z J M hF hL hR => h1 _ _ _ hr1 z J M (hF24.trans hF) (hL24.trans hL) hR) (fun z J M hF hL hR => h2 _ _ _ hr1 z J M (hF24.trans hF) (hL24.trans hL) hR)
                    · have hr1 : r = .inl (bad b (te b c) (-nbF b (te b c) 1 5)) := by rw [hr.1]; unfold settF; rw [if_neg hb, if_pos (by omega)]
                      refine wp_eqst (st' := [vI v24, vR 111]) rfl ?_
                      refine wp_puti (pc := 228) dX11_readLine_228 rfl f_X11_394 kd_111 la_111 (fun _ h => by cases h; rfl) rfl ?_
                      refine wp_goto (pc := 231) 279 dX11_readLine_231 (by decide) ?_
                      have hE24 := hE24_.wr (a := 111) (j := 48) (v := v24) (by omega)
                      have hF24 : Fn I _ := ((Fn.refl.wr (Or.inl ⟨rfl, by unfold rnSlot; omega⟩)).trans hF24_.n).wr (a := 111) (j := 48) (v := v24) (Or.inl ⟨rfl, by unfold rnSlot; omega⟩)
                      exact rl_tailbad hE24 (by omega) (h3 _ hr1 _ _ hF24 hL24 hE24)
                · refine wp_eqst (st' := [vI 0]) rfl ?_
                  refine wp_if_eq (pc := 203) 234 dX11_readLine_203 (by decide) (by decide) (fun _ => ?_) (fun hh => absurd hh (by decide))
                  refine wp_aload_n (pc := 234) 0 dX11_readLine_234 rfl rfl ?_
                  refine wp_ldc2 (pc := 235) (z := 1685217655) dX11_readLine_235 rfl k_X11_216 rfl ?_
                  refine wp_callV (pc := 238) (st := []) (nf' := 153) [vJ 1685217655] [some (vR 111), some (vJ 1685217655), none] dX11_readLine_238 rfl c_X11_234 rfl kd_111 (by decide) rfl la_111 rfl (Nat.le_of_ble_eq_true rfl) rfl (Nat.le_of_ble_eq_true rfl) (by omega) (Nat.le_refl _) (Nat.le_refl _) ?_
                  have hz25 : RD (I) (L) b g n c T N mo := hP
                  refine rs_isWord (k := 14) hz25.1.1 hz25.2.1 hz25.2.2.1 (by decide) rfl (by omega) (fun h_62 => ?_) (fun h_62 => ?_)
                  · refine wp_eqst (st' := [vI 1]) rfl ?_
                    refine wp_if_eq (pc := 241) 274 dX11_readLine_241 (by decide) (by decide) (fun hh => absurd hh (by decide)) (fun _ => ?_)
                    refine wp_aload_n (pc := 244) 0 dX11_readLine_244 rfl rfl ?_
                    refine wp_geti (pc := 245) dX11_readLine_245 rfl f_X11_397 kd_111 la_111 (Or.inr rfl) ?_
                    refine wp_eqst (st' := [vI (bitI mo 14)]) (by rw [hP.f58]) ?_
                    refine wp_if_ne (pc := 248) 274 dX11_readLine_248 (by decide) (by omega) (fun h_63 => ?_) (fun h_63 => ?_)
                    · refine wp_aload_n (pc := 274) 0 dX11_readLine_274 rfl rfl ?_
                      refine wp_iconst (pc := 275) dX11_readLine_275 ?_
                      refine wp_callV (pc := 276) (st := []) (nf' := 153) [vI 2] [some (vR 111), some (vI 2)] dX11_readLine_276 rfl c_X11_238 rfl kd_111 (by decide) rfl la_111 rfl (Nat.le_of_ble_eq_true rfl) rfl (Nat.le_of_ble_eq_true rfl) (by omega) (Nat.le_refl _) (Nat.le_refl _) ?_
                      unfold lnR at hr
                      (repeat (first | rw [if_pos (by omega)] at hr | rw [if_neg (by omega)] at hr))
                      have hb : mo.testBit 14 = true := Classical.byContradiction (fun z => absurd (bitI_0.mpr z) (by omega))
                      have hr1 : r = .inl (bad b c 2) := by rw [hr.1]; unfold settF; rw [if_pos hb]
                      refine rs_wrong hP.2.2.1 hP.2.2.2.1.1 (by decide) (by omega) ?_
                      refine wp_gen (fun J => Fe I J ∧ RE J (bad b c 2)) ⟨Fe.bad, RD.bad (by decide)⟩ (fun J26 hJ26 => ?_)
                      have hF26 := hJ26.1.n
                      have hL26 := Ln.refl (L := L)
                      have hE26 := hJ26.2
                      refine wp_eqst (st' := []) rfl ?_
                      exact rl_tailbad hE26 (by omega) (h3 _ hr1 _ _ hF26 hL26 hE26)
                    · refine wp_aload_n (pc := 251) 0 dX11_readLine_251 rfl rfl ?_
                      refine wp_iconst (pc := 252) dX11_readLine_252 ?_
                      refine wp_putz (pc := 253) dX11_readLine_253 rfl f_X11_397 kd_111 la_111 (fun _ h => by cases h; rfl) rfl (by decide) ?_
                      refine wp_aload_n (pc := 256) 0 dX11_readLine_256 rfl rfl ?_
                      refine wp_aload_n (pc := 257) 0 dX11_readLine_257 rfl rfl ?_
                      refine wp_ldc2 (pc := 258) (z := 1685217655) dX11_readLine_258 rfl k_X11_216 rfl ?_
                      refine wp_iconst (pc := 261) dX11_readLine_261 ?_
                      refine wp_sipush (pc := 262) dX11_readLine_262 (by decide) ?_
                      refine wp_callV (pc := 265) (st := [vR 111]) (nf' := 153) [vJ 1685217655, vI 0, vI 999] [some (vR 111), some (vJ 1685217655), none, some (vI 0), some (vI 999)] dX11_readLine_265 rfl c_X11_346 rfl kd_111 (by decide) rfl la_111 rfl (Nat.le_of_ble_eq_true rfl) rfl (Nat.le_of_ble_eq_true rfl) (by omega) (Nat.le_refl _) (Nat.le_refl _) ?_
                      unfold lnR at hr
                      (repeat (first | rw [if_pos (by omega)] at hr | rw [if_neg (by omega)] at hr))
                      have hb : ¬ mo.testBit 14 = true := bitI_0.mp (by omega)
                      have hz27 := hP.fl14
                      refine rs_told (k := 14) hz27 (by decide) rfl (by omega) (by omega) (by omega) (by omega) (fun hn27 J27 M27 hFb27 hLb27 hP27_ => ?_) (fun hn27 J27 M27 hF27_ hL27 hE27_ v27 => ?_)
                      · have qn := nbF_ok (b := b) (c := te b c) (lo := 0) (hi := 999) (by decide) (by omega)
                        have hr1 : r = .inr (te b (te b c), setT T 0 17 (nbF b (te b c) 0 999), N) := by rw [hr.1]; unfold settF; rw [if_neg hb, if_neg (by omega)]; rfl
                        refine wp_eqst (st' := [vI (nbF b (te b c) 0 999), vR 111]) rfl ?_
                        refine wp_puti (pc := 268) dX11_readLine_268 rfl f_X11_400 kd_111 la_111 (fun _ h => by cases h; rfl) rfl ?_
                        refine wp_goto (pc := 271) 279 dX11_readLine_271 (by decide) ?_
                        have hP27 := hP27_.st17 (v := nbF b (te b c) 0 999) (by omega)
                        rw [← hr.2] at hP27
                        have hF27 : Fn I _ := ((Fn.refl.wr (Or.inl ⟨rfl, by unfold rnSlot; omega⟩)).trans hFb27.n).wr (a := 111) (j := 49) (v := nbF b (te b c) 0 999) (Or.inl ⟨rfl, by unfold rnSlot; omega⟩)
                        have hL27 := hLb27.n
                        refine rl_tailok hP27 (by omega) (fun z J M hF hL hR => h1 _ _ _ hr1 z J M (hF27.trans hF) (hL27.trans hL) hR) (fun z J M hF hL hR => h2 _ _ _ hr1 z J M (hF27.trans hF) (hL27.trans hL) hR)
                      · have hr1 : r = .inl (bad b (te b c) (-nbF b (te b c) 0 999)) := by rw [hr.1]; unfold settF; rw [if_neg hb, if_pos (by omega)]
                        refine wp_eqst (st' := [vI v27, vR 111]) rfl ?_
                        refine wp_puti (pc := 268) dX11_readLine_268 rfl f_X11_400 kd_111 la_111 (fun _ h => by cases h; rfl) rfl ?_
                        refine wp_goto (pc := 271) 279 dX11_readLine_271 (by decide) ?_
                        have hE27 := hE27_.wr (a := 111) (j := 49) (v := v27) (by omega)
                        have hF27 : Fn I _ := ((Fn.refl.wr (Or.inl ⟨rfl, by unfold rnSlot; omega⟩)).trans hF27_.n).wr (a := 111) (j := 49) (v := v27) (Or.inl ⟨rfl, by unfold rnSlot; omega⟩)
                        exact rl_tailbad hE27 (by omega) (h3 _ hr1 _ _ hF27 hL27 hE27)
                  · refine wp_eqst (st' := [vI 0]) rfl ?_
                    refine wp_if_eq (pc := 241) 274 dX11_readLine_241 (by decide) (by decide) (fun _ => ?_) (fun hh => absurd hh (by decide))
                    refine wp_aload_n (pc := 274) 0 dX11_readLine_274 rfl rfl ?_
                    refine wp_iconst (pc := 275) dX11_readLine_275 ?_
                    refine wp_callV (pc := 276) (st := []) (nf' := 153) [vI 2] [some (vR 111), some (vI 2)] dX11_readLine_276 rfl c_X11_238 rfl kd_111 (by decide) rfl la_111 rfl (Nat.le_of_ble_eq_true rfl) rfl (Nat.le_of_ble_eq_true rfl) (by omega) (Nat.le_refl _) (Nat.le_refl _) ?_
                    unfold lnR at hr
                    (repeat (first | rw [if_pos (by omega)] at hr | rw [if_neg (by omega)] at hr))
                    have hr1 : r = .inl (bad b c 2) := hr.1
                    refine rs_wrong hP.2.2.1 hP.2.2.2.1.1 (by decide) (by omega) ?_
                    refine wp_gen (fun J => Fe I J ∧ RE J (bad b c 2)) ⟨Fe.bad, RD.bad (by decide)⟩ (fun J28 hJ28 => ?_)
                    have hF28 := hJ28.1.n
                    have hL28 := Ln.refl (L := L)
                    have hE28 := hJ28.2
                    refine wp_eqst (st' := []) rfl ?_
                    exact rl_tailbad hE28 (by omega) (h3 _ hr1 _ _ hF28 hL28 hE28)
