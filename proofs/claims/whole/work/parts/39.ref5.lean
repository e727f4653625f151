/-- all but values and asks is as it was -/
def Ra (I J : mI) : Prop := ∀ b, b ≠ 120 → b ≠ 119 → J b = I b
theorem Ra.refl {I : mI} : Ra I I := fun _ _ _ => rfl
theorem Ra.trans {I J K : mI} (h : Ra I J) (h2 : Ra J K) : Ra I K := fun b g1 g2 => (h2 b g1 g2).trans (h b g1 g2)
theorem Ra.rc {I J : mI} (h : Ra I J) : Rc I J := ⟨fun b g1 g2 g3 g4 => h b g3 g4, fun j _ _ _ => by rw [h 111 (by decide) (by decide)]⟩
theorem Ra.fx {I J : mI} {T : mT} (h : Ra I J) (hX : FX I T) : FX J T := by
  unfold FX
  rw [h 111 (by decide) (by decide), h 116 (by decide) (by decide), h 117 (by decide) (by decide)]
  exact hX
theorem heard_ear {T : mT} (hw : tw T) (S : mS) (p cl : Nat) : heardF T (envF (S 28 + 1) (pc8 (readIn T S (S p) cl)) (pc8 (present T S (S p) (S p))) (truthF (S p = T 3 p))) = ear T S p cl := by
  have h := tw_len hw
  unfold heardF ear
  by_cases e : T 17 2 = 0
  · rw [if_neg (by omega), if_pos e]
  · rw [if_pos (by omega), if_neg e]

theorem rs_hearingOf {l : Launch} {G : mG} {d : Nat} {I : mI} {L : Nat → Nat → Int} {D : Nat → Nat} {Q : mQ} {T : mT} {S : mS} {B : Int} {cl : Nat} (p : Nat) {p_ : Int} (hp_ : p_ = (p : Int)) (hR : RT I T) (hA : I 140 = pS S) (hw : tw T) (hv : sw S B) (hX : FX I T) (hcd : ∀ j, inR (T 18 j)) (hB : B ≤ 100000) (hp : p < nP T) (hk : ∀ c, c < 4 → I 141 c = ((pc8 (readIn T S (c : Int) cl) : Nat) : Int)) (hd : 3 ≤ d) (hQ : ∀ J, Ra I J → Q (some (vI (ear T S p cl))) J (XX L D)) : WP l G m_X11_hearingOf d 153 I (XX L D) 0 [some (vR 111), some (vI p_)] [] Q := by
  subst hp_
  have b_p := tw_p hw
  have b_q := tw_q hw
  have b_c := tw_c hw
  have eP : nP T = (T 0 12).toNat := rfl
  have eQ : nQ T = (T 0 13).toNat := rfl
  have eC : nC T = (T 0 11).toNat := rfl
  have b1 := sw_seat hv (j := p) (by omega)
  have b2 := tw_home hw p
  have b3 := sw_sun hv
  have hk1 := hk (S p).toNat (by omega)
  rw [show (((S p).toNat : Nat) : Int) = S p from by omega] at hk1
  have b7 : pc8 (readIn T S (S p) cl) ≤ 8 := cnt_le _ 8
  have b8 : pc8 (present T S (S p) (S p)) ≤ 8 := cnt_le _ 8
  refine wp_aload_n (pc := 0) 0 dX11_hearingOf_0 rfl rfl ?_
  refine wp_getr (pc := 1) dX11_hearingOf_1 rfl f_X11_39 kd_111 la_111 rfl (r_111_24 D) ?_
  refine wp_iconst (pc := 4) dX11_hearingOf_4 ?_
  refine wp_aload_n (pc := 5) 0 dX11_hearingOf_5 rfl rfl ?_
  refine wp_callV (pc := 6) (st := [vI 0, vR 120]) (nf' := 153) [] [some (vR 111)] dX11_hearingOf_6 rfl c_X11_467 rfl kd_111 (by decide) rfl la_111 rfl (Nat.le_of_ble_eq_true rfl) rfl (Nat.le_of_ble_eq_true rfl) (by omega) (Nat.le_refl _) (Nat.le_refl _) ?_
  refine wp_aload_n (pc := 0) 0 dX11_nextSunday_0 rfl rfl ?_
  refine wp_getr (pc := 1) dX11_nextSunday_1 rfl f_X11_106 kd_111 la_111 rfl (r_111_61 D) ?_
  refine wp_bipush (pc := 4) dX11_nextSunday_4 (by decide) ?_
  refine wq_iald (pc := 6) 28 dX11_nextSunday_6 kd_140 la_140 rfl (by decide) ?_
  refine wp_eqst (st' := [vI (S 28)]) (by rw [hA, pS_28]) ?_
  refine wp_iconst (pc := 7) dX11_nextSunday_7 ?_
  refine wp_iadd (pc := 8) dX11_nextSunday_8 ?_
  refine wp_iret (pc := 9) dX11_nextSunday_9 rfl rfl ?_
  refine wp_eqst (st' := [vI ((S 28) + 1), vI 0, vR 120]) rfl ?_
  refine wq_iast (pc := 9) 0 dX11_hearingOf_9 kd_120 la_120 rfl (by decide) ?_
  refine wp_aload_n (pc := 10) 0 dX11_hearingOf_10 rfl rfl ?_
  refine wp_getr (pc := 11) dX11_hearingOf_11 rfl f_X11_39 kd_111 la_111 rfl (r_111_24 D) ?_
  refine wp_iconst (pc := 14) dX11_hearingOf_14 ?_
  refine wp_aload_n (pc := 15) 0 dX11_hearingOf_15 rfl rfl ?_
  refine wp_getr (pc := 16) dX11_hearingOf_16 rfl f_X11_109 kd_111 la_111 rfl (r_111_62 D) ?_
  refine wp_aload_n (pc := 19) 0 dX11_hearingOf_19 rfl rfl ?_
  refine wp_getr (pc := 20) dX11_hearingOf_20 rfl f_X11_106 kd_111 la_111 rfl (r_111_61 D) ?_
  refine wp_iload_n (pc := 23) 1 dX11_hearingOf_23 rfl rfl ?_
  refine wq_iald (pc := 24) p dX11_hearingOf_24 kd_140 la_140 rfl (by omega) ?_
  refine wp_eqst (st' := [vI (S p), vR 141, vI 1, vR 120]) (by rw [up_c (by omega), hA, pS_s (by omega)]) ?_
  refine wq_iald (pc := 25) (Int.toNat (S p)) dX11_hearingOf_25 kd_141 la_141 (by omega) (by omega) ?_
  refine wp_eqst (st' := [vI (I 141 (Int.toNat (S p))), vI 1, vR 120]) (by rw [up_c (by omega)]) ?_
  refine wq_iast (pc := 26) 1 dX11_hearingOf_26 kd_120 la_120 rfl (by decide) ?_
  refine wp_aload_n (pc := 27) 0 dX11_hearingOf_27 rfl rfl ?_
  refine wp_getr (pc := 28) dX11_hearingOf_28 rfl f_X11_39 kd_111 la_111 rfl (r_111_24 D) ?_
  refine wp_iconst (pc := 31) dX11_hearingOf_31 ?_
  refine wp_aload_n (pc := 32) 0 dX11_hearingOf_32 rfl rfl ?_
  refine wp_aload_n (pc := 33) 0 dX11_hearingOf_33 rfl rfl ?_
  refine wp_getr (pc := 34) dX11_hearingOf_34 rfl f_X11_106 kd_111 la_111 rfl (r_111_61 D) ?_
  refine wp_iload_n (pc := 37) 1 dX11_hearingOf_37 rfl rfl ?_
  refine wq_iald (pc := 38) p dX11_hearingOf_38 kd_140 la_140 rfl (by omega) ?_
  refine wp_eqst (st' := [vI (S p), vR 111, vI 2, vR 120]) (by rw [up_c (by omega), up_c (by omega), hA, pS_s (by omega)]) ?_
  refine wp_callV (pc := 39) (st := [vI 2, vR 120]) (nf' := 153) [vI (S p)] [some (vR 111), some (vI (S p)), none, none] dX11_hearingOf_39 rfl c_X11_479 rfl kd_111 (by decide) rfl la_111 rfl (Nat.le_of_ble_eq_true rfl) rfl (Nat.le_of_ble_eq_true rfl) (by omega) (Nat.le_refl _) (Nat.le_refl _) ?_
  have hc1 : Ra I (up (up I 120 0 ((S 28) + 1)) 120 1 (I 141 (Int.toNat (S p)))) := (fun b h1 h2 => funext fun j => by rw [up_c (by omega), up_c (by omega)])
  refine rs_seatedIn (hc1.rc.rt hR) (hc1.rc.air hA) hw hv hB (by omega) (by omega) ?_
  refine wp_eqst (st' := [vI ((pc8 (present T S (S p) (S p)) : Nat) : Int), vI 2, vR 120]) rfl ?_
  refine wq_iast (pc := 42) 2 dX11_hearingOf_42 kd_120 la_120 rfl (by decide) ?_
  refine wp_aload_n (pc := 43) 0 dX11_hearingOf_43 rfl rfl ?_
  refine wp_getr (pc := 44) dX11_hearingOf_44 rfl f_X11_39 kd_111 la_111 rfl (r_111_24 D) ?_
  refine wp_iconst (pc := 47) dX11_hearingOf_47 ?_
  refine wp_aload_n (pc := 48) 0 dX11_hearingOf_48 rfl rfl ?_
  refine wp_getr (pc := 49) dX11_hearingOf_49 rfl f_X11_106 kd_111 la_111 rfl (r_111_61 D) ?_
  refine wp_iload_n (pc := 52) 1 dX11_hearingOf_52 rfl rfl ?_
  refine wq_iald (pc := 53) p dX11_hearingOf_53 kd_140 la_140 rfl (by omega) ?_
  refine wp_eqst (st' := [vI (S p), vI 3, vR 120]) (by rw [up_c (by omega), up_c (by omega), up_c (by omega), hA, pS_s (by omega)]) ?_
  refine wp_aload_n (pc := 54) 0 dX11_hearingOf_54 rfl rfl ?_
  refine wp_getr (pc := 55) dX11_hearingOf_55 rfl f_X11_66 kd_111 la_111 rfl (r_111_33 D) ?_
  refine wp_iload_n (pc := 58) 1 dX11_hearingOf_58 rfl rfl ?_
  refine wq_iald (pc := 59) p dX11_hearingOf_59 kd_129 la_129 rfl (by omega) ?_
  refine wp_eqst (st' := [vI (T 3 p), vI (S p), vI 3, vR 120]) (by rw [up_c (by omega), up_c (by omega), up_c (by omega), rt_home hR (by omega)]) ?_
  refine wp_icmp_ne (pc := 60) 67 dX11_hearingOf_60 (by decide) (by omega) (by omega) (fun h_1 => ?_) (fun h_1 => ?_)
  · refine wp_iconst (pc := 67) dX11_hearingOf_67 ?_
    refine wp_callS (pc := 68) (st := [vI 3, vR 120]) (nf' := 153) [vI 0] [some (vI 0)] dX11_hearingOf_68 rfl c_X11_320 rfl rfl (Nat.le_of_ble_eq_true rfl) rfl (Nat.le_of_ble_eq_true rfl) (by omega) (Nat.le_refl _) (Nat.le_refl _) ?_
    refine wp_iload_n (pc := 0) 0 dX11_truth_0 rfl rfl ?_
    refine wp_if_eq (pc := 1) 8 dX11_truth_1 (by decide) (by decide) (fun _ => ?_) (fun hh => absurd hh (by decide))
    refine wp_iconst (pc := 8) dX11_truth_8 ?_
    refine wp_iret (pc := 9) dX11_truth_9 rfl rfl ?_
    refine wp_eqst (st' := [vI 0, vI 3, vR 120]) rfl ?_
    refine wq_iast (pc := 71) 3 dX11_hearingOf_71 kd_120 la_120 rfl (by decide) ?_
    refine wp_aload_n (pc := 72) 0 dX11_hearingOf_72 rfl rfl ?_
    refine wp_callV (pc := 73) (st := []) (nf' := 153) [] [some (vR 111), none, none] dX11_hearingOf_73 rfl c_X11_482 rfl kd_111 (by decide) rfl la_111 rfl (Nat.le_of_ble_eq_true rfl) rfl (Nat.le_of_ble_eq_true rfl) (by omega) (Nat.le_refl _) (Nat.le_refl _) ?_
    have hc2 : Ra I (up (up (up (up I 120 0 ((S 28) + 1)) 120 1 (I 141 (Int.toNat (S p)))) 120 2 ((pc8 (present T S (S p) (S p)) : Nat) : Int)) 120 3 0) := (fun b h1 h2 => funext fun j => by rw [up_c (by omega), up_c (by omega), up_c (by omega), up_c (by omega)])
    have hk3 : truthF (S p = T 3 p) = 0 := if_neg h_1
    refine rs_heard (env := (envF (S 28 + 1) (pc8 (readIn T S (S p) cl)) (pc8 (present T S (S p) (S p))) (truthF (S p = T 3 p)))) (hc2.fx hX) hw hcd (envF_in (by omega) (by omega) (by omega) (truthF_in _)) (fun j hj => ?_) (by omega) (fun g => ?_)
    · have e4 : j = 0 ∨ j = 1 ∨ j = 2 ∨ j = 3 := by omega
      rw [hk3, ← hk1]
      rcases e4 with rfl | rfl | rfl | rfl <;> rfl
    · refine wp_eqst (st' := [vI (heardF T (envF (S 28 + 1) (pc8 (readIn T S (S p) cl)) (pc8 (present T S (S p) (S p))) (truthF (S p = T 3 p))))]) rfl ?_
      refine wp_iret (pc := 76) dX11_hearingOf_76 rfl rfl ?_
      rw [heard_ear hw]
      exact hQ _ (fun b h1 h2 => funext fun j => by rw [upc_c (by omega), up_c (by omega), up_c (by omega), up_c (by omega), up_c (by omega)])
  · refine wp_iconst (pc := 63) dX11_hearingOf_63 ?_
    refine wp_goto (pc := 64) 68 dX11_hearingOf_64 (by decide) ?_
    refine wp_callS (pc := 68) (st := [vI 3, vR 120]) (nf' := 153) [vI 1] [some (vI 1)] dX11_hearingOf_68 rfl c_X11_320 rfl rfl (Nat.le_of_ble_eq_true rfl) rfl (Nat.le_of_ble_eq_true rfl) (by omega) (Nat.le_refl _) (Nat.le_refl _) ?_
    refine wp_iload_n (pc := 0) 0 dX11_truth_0 rfl rfl ?_
    refine wp_if_eq (pc := 1) 8 dX11_truth_1 (by decide) (by decide) (fun hh => absurd hh (by decide)) (fun _ => ?_)
    refine wp_iconst (pc := 4) dX11_truth_4 ?_
    refine wp_goto (pc := 5) 9 dX11_truth_5 (by decide) ?_
    refine wp_iret (pc := 9) dX11_truth_9 rfl rfl ?_
    refine wp_eqst (st' := [vI 1, vI 3, vR 120]) rfl ?_
    refine wq_iast (pc := 71) 3 dX11_hearingOf_71 kd_120 la_120 rfl (by decide) ?_
    refine wp_aload_n (pc := 72) 0 dX11_hearingOf_72 rfl rfl ?_
    refine wp_callV (pc := 73) (st := []) (nf' := 153) [] [some (vR 111), none, none] dX11_hearingOf_73 rfl c_X11_482 rfl kd_111 (by decide) rfl la_111 rfl (Nat.le_of_ble_eq_true rfl) rfl (Nat.le_of_ble_eq_true rfl) (by omega) (Nat.le_refl _) (Nat.le_refl _) ?_
    have hc2 : Ra I (up (up (up (up I 120 0 ((S 28) + 1)) 120 1 (I 141 (Int.toNat (S p)))) 120 2 ((pc8 (present T S (S p) (S p)) : Nat) : Int)) 120 3 1) := (fun b h1 h2 => funext fun j => by rw [up_c (by omega), up_c (by omega), up_c (by omega), up_c (by omega)])
    have hk3 : truthF (S p = T 3 p) = 1 := if_pos h_1
    refine rs_heard (env := (envF (S 28 + 1) (pc8 (readIn T S (S p) cl)) (pc8 (present T S (S p) (S p))) (truthF (S p = T 3 p)))) (hc2.fx hX) hw hcd (envF_in (by omega) (by omega) (by omega) (truthF_in _)) (fun j hj => ?_) (by omega) (fun g => ?_)
    · have e4 : j = 0 ∨ j = 1 ∨ j = 2 ∨ j = 3 := by omega
      rw [hk3, ← hk1]
      rcases e4 with rfl | rfl | rfl | rfl <;> rfl
    · refine wp_eqst (st' := [vI (heardF T (envF (S 28 + 1) (pc8 (readIn T S (S p) cl)) (pc8 (present T S (S p) (S p))) (truthF (S p = T 3 p))))]) rfl ?_
      refine wp_iret (pc := 76) dX11_hearingOf_76 rfl rfl ?_
      rw [heard_ear hw]
      exact hQ _ (fun b h1 h2 => funext fun j => by rw [upc_c (by omega), up_c (by omega), up_c (by omega), up_c (by omega), up_c (by omega)])
