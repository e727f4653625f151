/-! THE REFERENCE's readAll -/
theorem lp_rallok {l : Launch} {G : mG} {d : Nat} {I : mI} {L : Nat → Nat → Int} {D : Nat → Nat} {Q : mQ} {b g : Nat → Int} {n : Nat} {s0 : mL} {m : Nat} {q : Nat → mL} (hTR : TR b s0 m q) (hend : ts b (q m).1 = 0) (hG0 : GT s0.2.1 s0.2.2.2) (hd : 9 ≤ d) (hQ : ∀ J M, Fn I J → Ln L M → RD J M b g n (q m).1 (q m).2.1 (q m).2.2.1 (q m).2.2.2 → Q none J (XX M D)) : ∀ i, i ≤ m → ∀ J M, Fn I J → Ln L M → RD J M b g n (q i).1 (q i).2.1 (q i).2.2.1 (q i).2.2.2 → WP l G m_X11_readAll d 153 J (XX M D) 97 [some (vR 111)] [] Q := by
  refine loop_dn (fun i => ∀ J M, Fn I J → Ln L M → RD J M b g n (q i).1 (q i).2.1 (q i).2.2.1 (q i).2.2.2 → WP l G m_X11_readAll d 153 J (XX M D) 97 [some (vR 111)] [] Q) m ?_ (fun i hi ih => ?_)
  · intro J M hF hL hP
    refine wp_aload_n (pc := 97) 0 dX11_readAll_97 rfl rfl ?_
    refine wp_geti (pc := 98) dX11_readAll_98 rfl f_X11_185 kd_111 la_111 (Or.inl rfl) ?_
    refine wp_eqst (st' := [vI 0]) (by rw [hP.2.2.2.1.1]) ?_
    refine wp_if_ne (pc := 101) 118 dX11_readAll_101 (by decide) (by decide) (fun hh => absurd hh (by decide)) (fun _ => ?_)
    refine wp_aload_n (pc := 104) 0 dX11_readAll_104 rfl rfl ?_
    refine wp_geti (pc := 105) dX11_readAll_105 rfl f_X11_172 kd_111 la_111 (Or.inl rfl) ?_
    refine wp_eqst (st' := [vI (ts b (q m).1)]) (by rw [hP.2.2.1.1]) ?_
    refine wp_if_eq (pc := 108) 118 dX11_readAll_108 (by decide) (by omega) (fun h_1 => ?_) (fun h_1 => ?_)
    · refine wp_vret (pc := 118) dX11_readAll_118 rfl rfl ?_
      exact hQ J M hF hL hP
    · exfalso; omega
  · intro J M hF hL hP
    have hx := hTR.2 i hi
    have hx1 := hx.1
    have tr := ts_rng b (q i).1
    refine wp_aload_n (pc := 97) 0 dX11_readAll_97 rfl rfl ?_
    refine wp_geti (pc := 98) dX11_readAll_98 rfl f_X11_185 kd_111 la_111 (Or.inl rfl) ?_
    refine wp_eqst (st' := [vI 0]) (by rw [hP.2.2.2.1.1]) ?_
    refine wp_if_ne (pc := 101) 118 dX11_readAll_101 (by decide) (by decide) (fun hh => absurd hh (by decide)) (fun _ => ?_)
    refine wp_aload_n (pc := 104) 0 dX11_readAll_104 rfl rfl ?_
    refine wp_geti (pc := 105) dX11_readAll_105 rfl f_X11_172 kd_111 la_111 (Or.inl rfl) ?_
    refine wp_eqst (st' := [vI (ts b (q i).1)]) (by rw [hP.2.2.1.1]) ?_
    refine wp_if_eq (pc := 108) 118 dX11_readAll_108 (by decide) (by omega) (fun h_1 => ?_) (fun h_1 => ?_)
    · exfalso; omega
    · refine wp_aload_n (pc := 111) 0 dX11_readAll_111 rfl rfl ?_
      refine wp_callV (pc := 112) (st := []) (nf' := 153) [] [some (vR 111)] dX11_readAll_112 rfl c_X11_403 rfl kd_111 (by decide) rfl la_111 rfl (Nat.le_of_ble_eq_true rfl) rfl (Nat.le_of_ble_eq_true rfl) (by omega) (Nat.le_refl _) (Nat.le_refl _) ?_
      obtain ⟨c1, hl, h59, hc⟩ := hx.2
      refine rs_readLine hP (hTR.GT hG0 i (by omega)) hl (by omega) (fun c2 T2 N2 e z J2 M2 hF2 hL2 hR => ?_) (fun c2 T2 N2 e z J2 M2 _ _ _ => by cases e; exact absurd h59 z) (fun er e => nomatch e)
      cases e
      rw [← hc] at hR
      refine wp_eqst (st' := []) rfl ?_
      refine wp_goto (pc := 115) 97 dX11_readAll_115 (by decide) ?_
      exact ih J2 M2 (hF.trans hF2) (hL.trans hL2) hR

theorem lp_rallbad {l : Launch} {G : mG} {d : Nat} {I : mI} {L : Nat → Nat → Int} {D : Nat → Nat} {Q : mQ} {b g : Nat → Int} {n : Nat} {s0 : mL} {m : Nat} {q : Nat → mL} {e : Int × Int} (hTR : TR b s0 m q) (hne : ¬ ts b (q m).1 = 0) (hE : lnE b (q m).1 (q m).2.1 (q m).2.2.1 (q m).2.2.2 e) (hG0 : GT s0.2.1 s0.2.2.2) (hd : 9 ≤ d) (hQ : ∀ J M, Fn I J → Ln L M → RE J e → Q none J (XX M D)) : ∀ i, i ≤ m → ∀ J M, Fn I J → Ln L M → RD J M b g n (q i).1 (q i).2.1 (q i).2.2.1 (q i).2.2.2 → WP l G m_X11_readAll d 153 J (XX M D) 97 [some (vR 111)] [] Q := by
  refine loop_dn (fun i => ∀ J M, Fn I J → Ln L M → RD J M b g n (q i).1 (q i).2.1 (q i).2.2.1 (q i).2.2.2 → WP l G m_X11_readAll d 153 J (XX M D) 97 [some (vR 111)] [] Q) m ?_ (fun i hi ih => ?_)
  · intro J M hF hL hP
    have tr := ts_rng b (q m).1
    refine wp_aload_n (pc := 97) 0 dX11_readAll_97 rfl rfl ?_
    refine wp_geti (pc := 98) dX11_readAll_98 rfl f_X11_185 kd_111 la_111 (Or.inl rfl) ?_
    refine wp_eqst (st' := [vI 0]) (by rw [hP.2.2.2.1.1]) ?_
    refine wp_if_ne (pc := 101) 118 dX11_readAll_101 (by decide) (by decide) (fun hh => absurd hh (by decide)) (fun _ => ?_)
    refine wp_aload_n (pc := 104) 0 dX11_readAll_104 rfl rfl ?_
    refine wp_geti (pc := 105) dX11_readAll_105 rfl f_X11_172 kd_111 la_111 (Or.inl rfl) ?_
    refine wp_eqst (st' := [vI (ts b (q m).1)]) (by rw [hP.2.2.1.1]) ?_
    refine wp_if_eq (pc := 108) 118 dX11_readAll_108 (by decide) (by omega) (fun h_1 => ?_) (fun h_1 => ?_)
    · exfalso; omega
    · refine wp_aload_n (pc := 111) 0 dX11_readAll_111 rfl rfl ?_
      refine wp_callV (pc := 112) (st := []) (nf' := 153) [] [some (vR 111)] dX11_readAll_112 rfl c_X11_403 rfl kd_111 (by decide) rfl la_111 rfl (Nat.le_of_ble_eq_true rfl) rfl (Nat.le_of_ble_eq_true rfl) (by omega) (Nat.le_refl _) (Nat.le_refl _) ?_
      have key : ∀ J2 M2, Fn I J2 → Ln L M2 → RE J2 e → WP l G m_X11_readAll d 153 J2 (XX M2 D) 115 [some (vR 111)] [] Q := by
        intro J2 M2 hF2 hL2 hE2
        have x2 := hE2.1
        have xp := hE2.2.2
        refine wp_goto (pc := 115) 97 dX11_readAll_115 (by decide) ?_
        refine wp_aload_n (pc := 97) 0 dX11_readAll_97 rfl rfl ?_
        refine wp_geti (pc := 98) dX11_readAll_98 rfl f_X11_185 kd_111 la_111 (Or.inl rfl) ?_
        refine wp_eqst (st' := [vI e.1]) (by rw [x2]) ?_
        refine wp_if_ne (pc := 101) 118 dX11_readAll_101 (by decide) (by omega) (fun _ => ?_) (fun hh => absurd hh (by omega))
        refine wp_vret (pc := 118) dX11_readAll_118 rfl rfl ?_
        exact hQ J2 M2 hF2 hL2 hE2
      rcases hE with ⟨mo1, hl⟩ | ⟨c1, T1, N1, mo1, hl, h59, he⟩
      · refine rs_readLine hP (hTR.GT hG0 m (Nat.le_refl _)) hl (by omega) (fun c2 T2 N2 e _ _ _ _ _ _ => nomatch e) (fun c2 T2 N2 e _ _ _ _ _ _ => nomatch e) (fun er ee J2 M2 hF2 hL2 hR => ?_)
        cases ee
        refine wp_eqst (st' := []) rfl ?_
        exact key J2 M2 (hF.trans hF2) (hL.trans hL2) hR
      · refine rs_readLine hP (hTR.GT hG0 m (Nat.le_refl _)) hl (by omega) (fun c2 T2 N2 ee z _ _ _ _ _ => by cases ee; exact absurd z h59) (fun c2 T2 N2 ee z J2 M2 hF2 hL2 hR => ?_) (fun er ee => nomatch ee)
        cases ee
        rw [← he] at hR
        refine wp_eqst (st' := []) rfl ?_
        exact key J2 M2 (hF.trans hF2) (hL.trans hL2) hR
  · intro J M hF hL hP
    have hx := hTR.2 i hi
    have hx1 := hx.1
    have tr := ts_rng b (q i).1
    refine wp_aload_n (pc := 97) 0 dX11_readAll_97 rfl rfl ?_
    refine wp_geti (pc := 98) dX11_readAll_98 rfl f_X11_185 kd_111 la_111 (Or.inl rfl) ?_
    refine wp_eqst (st' := [vI 0]) (by rw [hP.2.2.2.1.1]) ?_
    refine wp_if_ne (pc := 101) 118 dX11_readAll_101 (by decide) (by decide) (fun hh => absurd hh (by decide)) (fun _ => ?_)
    refine wp_aload_n (pc := 104) 0 dX11_readAll_104 rfl rfl ?_
    refine wp_geti (pc := 105) dX11_readAll_105 rfl f_X11_172 kd_111 la_111 (Or.inl rfl) ?_
    refine wp_eqst (st' := [vI (ts b (q i).1)]) (by rw [hP.2.2.1.1]) ?_
    refine wp_if_eq (pc := 108) 118 dX11_readAll_108 (by decide) (by omega) (fun h_1 => ?_) (fun h_1 => ?_)
    · exfalso; omega
    · refine wp_aload_n (pc := 111) 0 dX11_readAll_111 rfl rfl ?_
      refine wp_callV (pc := 112) (st := []) (nf' := 153) [] [some (vR 111)] dX11_readAll_112 rfl c_X11_403 rfl kd_111 (by decide) rfl la_111 rfl (Nat.le_of_ble_eq_true rfl) rfl (Nat.le_of_ble_eq_true rfl) (by omega) (Nat.le_refl _) (Nat.le_refl _) ?_
      obtain ⟨c1, hl, h59, hc⟩ := hx.2
      refine rs_readLine hP (hTR.GT hG0 i (by omega)) hl (by omega) (fun c2 T2 N2 e z J2 M2 hF2 hL2 hR => ?_) (fun c2 T2 N2 e z J2 M2 _ _ _ => by cases e; exact absurd h59 z) (fun er e => nomatch e)
      cases e
      rw [← hc] at hR
      refine wp_eqst (st' := []) rfl ?_
      refine wp_goto (pc := 115) 97 dX11_readAll_115 (by decide) ?_
      exact ih J2 M2 (hF.trans hF2) (hL.trans hL2) hR
