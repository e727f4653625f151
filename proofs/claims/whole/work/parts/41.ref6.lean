/-- what holds of the reference between calls, of what no parse, act or box needs -/
def RI (I : mI) (T : mT) (S : mS) : Prop := RT I T ∧ I 139 = pS S ∧ FX I T ∧ tw T ∧ sw S 999 ∧ rdOk S ∧ TC T ∧ ∀ j, inR (T 18 j)
/-- all but the reference's scratch is as it was -/
def Rq (I J : mI) : Prop := (∀ b, b ≠ 111 → b ≠ 140 → b ≠ 141 → b ≠ 120 → b ≠ 119 → b ≠ 143 → b ≠ 144 → J b = I b) ∧ ∀ j, j ≠ 63 → j ≠ 67 → j ≠ 68 → J 111 j = I 111 j
theorem Rq.refl {I : mI} : Rq I I := ⟨fun _ _ _ _ _ _ _ _ => rfl, fun _ _ _ _ => rfl⟩
theorem Rq.ld {I J : mI} (h : ∀ b, b ≠ 140 → J b = I b) : Rq I J := ⟨fun b _ g _ _ _ _ _ => h b g, fun j _ _ _ => by rw [h 111 (by decide)]⟩
theorem Rq.rc {I J K : mI} (h : Rq I J) (h2 : Rc J K) : Rq I K := ⟨fun b g1 g2 g3 g4 g5 g6 g7 => (h2.1 b g1 g3 g4 g5).trans (h.1 b g1 g2 g3 g4 g5 g6 g7), fun j g1 g2 g3 => (h2.2 j g1 g2 g3).trans (h.2 j g1 g2 g3)⟩
theorem ld_rt {I J : mI} {T : mT} (h : ∀ b, b ≠ 140 → J b = I b) (hR : RT I T) : RT J T := hR.fr (fun b g1 g2 => h b (by omega)) (fun j g1 g2 => by rw [h 111 (by decide)])
theorem ld_fx {I J : mI} {T : mT} (h : ∀ b, b ≠ 140 → J b = I b) (hX : FX I T) : FX J T := by
  unfold FX
  rw [h 111 (by decide), h 116 (by decide), h 117 (by decide)]
  exact hX
theorem Rc.fx {I J : mI} {T : mT} (h : Rc I J) (hX : FX I T) : FX J T := by
  unfold FX
  rw [h.2 18 (by decide) (by decide) (by decide), h.1 116 (by decide) (by decide) (by decide) (by decide), h.1 117 (by decide) (by decide) (by decide) (by decide)]
  exact hX

theorem rs_person {l : Launch} {G : mG} {d : Nat} {I : mI} {L : Nat → Nat → Int} {D : Nat → Nat} {Q : mQ} {T : mT} {S : mS} {a w : Int}  (hI : RI I T S) (hww : wwF T S a (-1) (nQ T) = spF T S a (nQ T) 0) (h_a : inR a) (h_w : inR w) (hd : 2 ≤ d) (hQ : ∀ J, Rq I J → Q (some (vI (personA T S a w))) J (XX L D)) : WP l G m_X11_person d 153 I (XX L D) 0 [some (vR 111), some (vI a), some (vI w)] [] Q := by
  obtain ⟨hR, hN, hX, hw, hv, hrd, hC, hcd⟩ := hI
  have b_p := tw_p hw
  have b_q := tw_q hw
  have b_c := tw_c hw
  have eP : nP T = (T 0 12).toNat := rfl
  have eQ : nQ T = (T 0 13).toNat := rfl
  have eC : nC T = (T 0 11).toNat := rfl
  have b_s := sw_sun hv
  have b_v := vowB_in T a.toNat
  refine wp_aload_n (pc := 0) 0 dX11_person_0 rfl rfl ?_
  refine wp_iload_n (pc := 1) 1 dX11_person_1 rfl rfl ?_
  refine wp_callV (pc := 2) (st := []) (nf' := 153) [vI a] [some (vR 111), some (vI a)] dX11_person_2 rfl c_X11_437 rfl kd_111 (by decide) rfl la_111 rfl (Nat.le_of_ble_eq_true rfl) rfl (Nat.le_of_ble_eq_true rfl) (by omega) (Nat.le_refl _) (Nat.le_refl _) ?_
  refine rs_isPerson hR hw (by omega) (by omega) (fun h_1 => ?_) (fun h_1 => ?_)
  · refine wp_eqst (st' := [vI 1]) rfl ?_
    refine wp_if_ne (pc := 5) 11 dX11_person_5 (by decide) (by decide) (fun _ => ?_) (fun hh => absurd hh (by decide))
    refine wp_aload_n (pc := 11) 0 dX11_person_11 rfl rfl ?_
    refine wp_callV (pc := 12) (st := []) (nf' := 153) [] [some (vR 111), none] dX11_person_12 rfl c_X11_485 rfl kd_111 (by decide) rfl la_111 rfl (Nat.le_of_ble_eq_true rfl) rfl (Nat.le_of_ble_eq_true rfl) (by omega) (Nat.le_refl _) (Nat.le_refl _) ?_
    refine rs_load (by omega) ?_
    generalize hJe : upc I 140 (I 139) = J
    have hJ : ∀ b, b ≠ 140 → J b = I b := fun b g => by rw [← hJe]; exact funext fun j => upc_c g
    have hAJ : J 140 = pS S := by rw [← hJe, ← hN]; exact funext fun j => upc_s
    have hRJ := ld_rt hJ hR
    have hXJ := ld_fx hJ hX
    refine wp_eqst (st' := []) rfl ?_
    refine wp_iload_n (pc := 15) 2 dX11_person_15 rfl rfl ?_
    by_cases h_2 : w = 0
    · refine wp_tin (pc := 16) 0 72 dX11_person_16 (by omega) (by rw [h_2]; decide) (by decide) rfl (by decide) ?_
      refine wp_aload_n (pc := 72) 0 dX11_person_72 rfl rfl ?_
      refine wp_getr (pc := 73) dX11_person_73 rfl f_X11_106 kd_111 la_111 rfl (r_111_61 D) ?_
      refine wp_iload_n (pc := 76) 1 dX11_person_76 rfl rfl ?_
      refine wq_iald (pc := 77) a.toNat dX11_person_77 kd_140 la_140 (by omega) (by omega) ?_
      refine wp_eqst (st' := [vI (S a.toNat)]) (by rw [hAJ, pS_s (by omega)]) ?_
      refine wp_iret (pc := 78) dX11_person_78 rfl rfl ?_
      have hq := hQ _ (Rq.ld hJ)
      have e1 : personA T S a w = S a.toNat := by
        unfold personA
        rw [if_pos (by omega)]; rw [h_2]
        first | rfl | (show S _ = S _; congr 1; omega)
      rw [e1] at hq; exact hq
    by_cases h_3 : w = 1
    · refine wp_tin (pc := 16) 1 79 dX11_person_16 (by omega) (by rw [h_3]; decide) (by decide) rfl (by decide) ?_
      refine wp_aload_n (pc := 79) 0 dX11_person_79 rfl rfl ?_
      refine wp_getr (pc := 80) dX11_person_80 rfl f_X11_66 kd_111 la_111 rfl (r_111_33 D) ?_
      refine wp_iload_n (pc := 83) 1 dX11_person_83 rfl rfl ?_
      refine wq_iald (pc := 84) a.toNat dX11_person_84 kd_129 la_129 (by omega) (by omega) ?_
      refine wp_eqst (st' := [vI (T 3 a.toNat)]) (by rw [rt_home hRJ (by omega)]) ?_
      refine wp_iret (pc := 85) dX11_person_85 rfl rfl ?_
      have hq := hQ _ (Rq.ld hJ)
      have e1 : personA T S a w = T 3 a.toNat := by
        unfold personA
        rw [if_pos (by omega)]; rw [h_3]
        first | rfl | (show S _ = S _; congr 1; omega)
      rw [e1] at hq; exact hq
    by_cases h_4 : w = 2
    · refine wp_tin (pc := 16) 2 86 dX11_person_16 (by omega) (by rw [h_4]; decide) (by decide) rfl (by decide) ?_
      refine wp_aload_n (pc := 86) 0 dX11_person_86 rfl rfl ?_
      refine wp_getr (pc := 87) dX11_person_87 rfl f_X11_69 kd_111 la_111 rfl (r_111_34 D) ?_
      refine wp_iconst (pc := 90) dX11_person_90 ?_
      refine wp_iload_n (pc := 91) 1 dX11_person_91 rfl rfl ?_
      refine wp_imul (pc := 92) dX11_person_92 ?_
      refine wq_iald (pc := 93) (2 * a.toNat) dX11_person_93 kd_130 la_130 (by omega) (by omega) ?_
      refine wp_eqst (st' := [vI (T 11 a.toNat)]) (by rw [rt_par1 hRJ (by omega)]) ?_
      refine wp_iret (pc := 94) dX11_person_94 rfl rfl ?_
      have hq := hQ _ (Rq.ld hJ)
      have e1 : personA T S a w = T 11 a.toNat := by
        unfold personA
        rw [if_pos (by omega)]; rw [h_4]
        first | rfl | (show S _ = S _; congr 1; omega)
      rw [e1] at hq; exact hq
    by_cases h_5 : w = 3
    · refine wp_tin (pc := 16) 3 95 dX11_person_16 (by omega) (by rw [h_5]; decide) (by decide) rfl (by decide) ?_
      refine wp_aload_n (pc := 95) 0 dX11_person_95 rfl rfl ?_
      refine wp_getr (pc := 96) dX11_person_96 rfl f_X11_69 kd_111 la_111 rfl (r_111_34 D) ?_
      refine wp_iconst (pc := 99) dX11_person_99 ?_
      refine wp_iload_n (pc := 100) 1 dX11_person_100 rfl rfl ?_
      refine wp_imul (pc := 101) dX11_person_101 ?_
      refine wp_iconst (pc := 102) dX11_person_102 ?_
      refine wp_iadd (pc := 103) dX11_person_103 ?_
      refine wq_iald (pc := 104) ((2 * a.toNat) + 1) dX11_person_104 kd_130 la_130 (by omega) (by omega) ?_
      refine wp_eqst (st' := [vI (T 12 a.toNat)]) (by rw [rt_par2 hRJ (by omega)]) ?_
      refine wp_iret (pc := 105) dX11_person_105 rfl rfl ?_
      have hq := hQ _ (Rq.ld hJ)
      have e1 : personA T S a w = T 12 a.toNat := by
        unfold personA
        rw [if_pos (by omega)]; rw [h_5]
        first | rfl | (show S _ = S _; congr 1; omega)
      rw [e1] at hq; exact hq
    by_cases h_6 : w = 4
    · refine wp_tin (pc := 16) 4 106 dX11_person_16 (by omega) (by rw [h_6]; decide) (by decide) rfl (by decide) ?_
      refine wp_aload_n (pc := 106) 0 dX11_person_106 rfl rfl ?_
      refine wp_getr (pc := 107) dX11_person_107 rfl f_X11_91 kd_111 la_111 rfl (r_111_41 D) ?_
      refine wp_iload_n (pc := 110) 1 dX11_person_110 rfl rfl ?_
      refine wq_zald (pc := 111) a.toNat dX11_person_111 kd_137 la_137 (by omega) (by omega) ?_
      refine wp_eqst (st' := [vI (vowB T a.toNat)]) (by rw [rt_vow hRJ (by omega)]) ?_
      refine wp_callS (pc := 112) (st := []) (nf' := 153) [vI (vowB T a.toNat)] [some (vI (vowB T a.toNat))] dX11_person_112 rfl c_X11_320 rfl rfl (Nat.le_of_ble_eq_true rfl) rfl (Nat.le_of_ble_eq_true rfl) (by omega) (Nat.le_refl _) (Nat.le_refl _) ?_
      refine wp_iload_n (pc := 0) 0 dX11_truth_0 rfl rfl ?_
      refine wp_if_eq (pc := 1) 8 dX11_truth_1 (by decide) (by omega) (fun h_7 => ?_) (fun h_7 => ?_)
      · refine wp_iconst (pc := 8) dX11_truth_8 ?_
        refine wp_iret (pc := 9) dX11_truth_9 rfl rfl ?_
        refine wp_eqst (st' := [vI 0]) rfl ?_
        refine wp_iret (pc := 115) dX11_person_115 rfl rfl ?_
        have hq := hQ _ (Rq.ld hJ)
        have e1 : personA T S a w = 0 := by
          unfold personA
          rw [if_pos (by omega)]; rw [h_6]
          show vowB T a.toNat = _; omega
        rw [e1] at hq; exact hq
      · refine wp_iconst (pc := 4) dX11_truth_4 ?_
        refine wp_goto (pc := 5) 9 dX11_truth_5 (by decide) ?_
        refine wp_iret (pc := 9) dX11_truth_9 rfl rfl ?_
        refine wp_eqst (st' := [vI 1]) rfl ?_
        refine wp_iret (pc := 115) dX11_person_115 rfl rfl ?_
        have hq := hQ _ (Rq.ld hJ)
        have e1 : personA T S a w = 1 := by
          unfold personA
          rw [if_pos (by omega)]; rw [h_6]
          show vowB T a.toNat = _; omega
        rw [e1] at hq; exact hq
    by_cases h_8 : w = 5
    · refine wp_tin (pc := 16) 5 116 dX11_person_16 (by omega) (by rw [h_8]; decide) (by decide) rfl (by decide) ?_
      refine wp_aload_n (pc := 116) 0 dX11_person_116 rfl rfl ?_
      refine wp_getr (pc := 117) dX11_person_117 rfl f_X11_72 kd_111 la_111 rfl (r_111_35 D) ?_
      refine wp_iload_n (pc := 120) 1 dX11_person_120 rfl rfl ?_
      refine wq_iald (pc := 121) a.toNat dX11_person_121 kd_131 la_131 (by omega) (by omega) ?_
      refine wp_eqst (st' := [vI (T 4 a.toNat)]) (by rw [rt_sails hRJ (by omega)]) ?_
      refine wp_iret (pc := 122) dX11_person_122 rfl rfl ?_
      have hq := hQ _ (Rq.ld hJ)
      have e1 : personA T S a w = T 4 a.toNat := by
        unfold personA
        rw [if_pos (by omega)]; rw [h_8]
        first | rfl | (show S _ = S _; congr 1; omega)
      rw [e1] at hq; exact hq
    by_cases h_9 : w = 6
    · refine wp_tin (pc := 16) 6 123 dX11_person_16 (by omega) (by rw [h_9]; decide) (by decide) rfl (by decide) ?_
      refine wp_aload_n (pc := 123) 0 dX11_person_123 rfl rfl ?_
      refine wp_iload_n (pc := 124) 1 dX11_person_124 rfl rfl ?_
      refine wp_callV (pc := 125) (st := []) (nf' := 153) [vI a] [some (vR 111), some (vI a)] dX11_person_125 rfl c_X11_476 rfl kd_111 (by decide) rfl la_111 rfl (Nat.le_of_ble_eq_true rfl) rfl (Nat.le_of_ble_eq_true rfl) (by omega) (Nat.le_refl _) (Nat.le_refl _) ?_
      refine rs_isAway a.toNat (by omega) hRJ hAJ hw hv (by omega) (by omega) (by omega) (fun h_10 => ?_) (fun h_10 => ?_)
      · refine wp_eqst (st' := [vI 1]) rfl ?_
        refine wp_callS (pc := 128) (st := []) (nf' := 153) [vI 1] [some (vI 1)] dX11_person_128 rfl c_X11_320 rfl rfl (Nat.le_of_ble_eq_true rfl) rfl (Nat.le_of_ble_eq_true rfl) (by omega) (Nat.le_refl _) (Nat.le_refl _) ?_
        refine wp_iload_n (pc := 0) 0 dX11_truth_0 rfl rfl ?_
        refine wp_if_eq (pc := 1) 8 dX11_truth_1 (by decide) (by decide) (fun hh => absurd hh (by decide)) (fun _ => ?_)
        refine wp_iconst (pc := 4) dX11_truth_4 ?_
        refine wp_goto (pc := 5) 9 dX11_truth_5 (by decide) ?_
        refine wp_iret (pc := 9) dX11_truth_9 rfl rfl ?_
        refine wp_eqst (st' := [vI 1]) rfl ?_
        refine wp_iret (pc := 131) dX11_person_131 rfl rfl ?_
        have hq := hQ _ (Rq.ld hJ)
        have e1 : personA T S a w = 1 := by
          unfold personA
          rw [if_pos (by omega)]; rw [h_9]
          show truthF (away T _ _) = _; exact if_pos h_10
        rw [e1] at hq; exact hq
      · refine wp_eqst (st' := [vI 0]) rfl ?_
        refine wp_callS (pc := 128) (st := []) (nf' := 153) [vI 0] [some (vI 0)] dX11_person_128 rfl c_X11_320 rfl rfl (Nat.le_of_ble_eq_true rfl) rfl (Nat.le_of_ble_eq_true rfl) (by omega) (Nat.le_refl _) (Nat.le_refl _) ?_
        refine wp_iload_n (pc := 0) 0 dX11_truth_0 rfl rfl ?_
        refine wp_if_eq (pc := 1) 8 dX11_truth_1 (by decide) (by decide) (fun _ => ?_) (fun hh => absurd hh (by decide))
        refine wp_iconst (pc := 8) dX11_truth_8 ?_
        refine wp_iret (pc := 9) dX11_truth_9 rfl rfl ?_
        refine wp_eqst (st' := [vI 0]) rfl ?_
        refine wp_iret (pc := 131) dX11_person_131 rfl rfl ?_
        have hq := hQ _ (Rq.ld hJ)
        have e1 : personA T S a w = 0 := by
          unfold personA
          rw [if_pos (by omega)]; rw [h_9]
          show truthF (away T _ _) = _; exact if_neg h_10
        rw [e1] at hq; exact hq
    by_cases h_11 : w = 7
    · refine wp_tin (pc := 16) 7 132 dX11_person_16 (by omega) (by rw [h_11]; decide) (by decide) rfl (by decide) ?_
      refine wp_aload_n (pc := 132) 0 dX11_person_132 rfl rfl ?_
      refine wp_iload_n (pc := 133) 1 dX11_person_133 rfl rfl ?_
      refine wp_iconst (pc := 134) dX11_person_134 ?_
      refine wp_callV (pc := 135) (st := []) (nf' := 153) [vI a, vI (-1)] [some (vR 111), some (vI a), some (vI (-1)), none, none] dX11_person_135 rfl c_X11_455 rfl kd_111 (by decide) rfl la_111 rfl (Nat.le_of_ble_eq_true rfl) rfl (Nat.le_of_ble_eq_true rfl) (by omega) (Nat.le_refl _) (Nat.le_refl _) ?_
      refine rs_wedWith hRJ hAJ hw hv (by omega) (by omega) (by omega) ?_
      refine wp_eqst (st' := [vI (wwF T S a (-1) (nQ T))]) rfl ?_
      refine wp_iret (pc := 138) dX11_person_138 rfl rfl ?_
      have hq := hQ _ (Rq.ld hJ)
      have e1 : personA T S a w = wwF T S a (-1) (nQ T) := by
        unfold personA
        rw [if_pos (by omega)]; rw [h_11]
        show spF T S a (nQ T) 0 = _; exact hww.symm
      rw [e1] at hq; exact hq
    by_cases h_12 : w = 8
    · refine wp_tin (pc := 16) 8 139 dX11_person_16 (by omega) (by rw [h_12]; decide) (by decide) rfl (by decide) ?_
      refine wp_aload_n (pc := 139) 0 dX11_person_139 rfl rfl ?_
      refine wp_iload_n (pc := 140) 1 dX11_person_140 rfl rfl ?_
      refine wp_callV (pc := 141) (st := []) (nf' := 153) [vI a] [some (vR 111), some (vI a), none, none] dX11_person_141 rfl c_X11_461 rfl kd_111 (by decide) rfl la_111 rfl (Nat.le_of_ble_eq_true rfl) rfl (Nat.le_of_ble_eq_true rfl) (by omega) (Nat.le_refl _) (Nat.le_refl _) ?_
      refine rs_knownTo a.toNat (by omega) hRJ hw hC (by omega) (by omega) ?_
      refine wp_eqst (st' := [vI (T 14 a.toNat)]) rfl ?_
      refine wp_iret (pc := 144) dX11_person_144 rfl rfl ?_
      have hq := hQ _ (Rq.ld hJ)
      have e1 : personA T S a w = T 14 a.toNat := by
        unfold personA
        rw [if_pos (by omega)]; rw [h_12]
        first | rfl | (show S _ = S _; congr 1; omega)
      rw [e1] at hq; exact hq
    by_cases h_13 : w = 9
    · refine wp_tin (pc := 16) 9 145 dX11_person_16 (by omega) (by rw [h_13]; decide) (by decide) rfl (by decide) ?_
      refine wp_aload_n (pc := 145) 0 dX11_person_145 rfl rfl ?_
      refine wp_getr (pc := 146) dX11_person_146 rfl f_X11_78 kd_111 la_111 rfl (r_111_37 D) ?_
      refine wp_iload_n (pc := 149) 1 dX11_person_149 rfl rfl ?_
      refine wq_iald (pc := 150) a.toNat dX11_person_150 kd_133 la_133 (by omega) (by omega) ?_
      refine wp_eqst (st' := [vI (T 5 a.toNat)]) (by rw [rt_spites hRJ (by omega)]) ?_
      refine wp_iret (pc := 151) dX11_person_151 rfl rfl ?_
      have hq := hQ _ (Rq.ld hJ)
      have e1 : personA T S a w = T 5 a.toNat := by
        unfold personA
        rw [if_pos (by omega)]; rw [h_13]
        first | rfl | (show S _ = S _; congr 1; omega)
      rw [e1] at hq; exact hq
    refine wp_tout (pc := 16) 152 dX11_person_16 (by omega) (by omega) (by decide) ?_
    refine wp_bipush (pc := 152) dX11_person_152 (by decide) ?_
    refine wp_iret (pc := 154) dX11_person_154 rfl rfl ?_
    have hq := hQ _ (Rq.ld hJ)
    have e1 : personA T S a w = (-2) := by
      unfold personA
      rw [if_pos (by omega)]; repeat rw [if_neg (by omega)]
    rw [e1] at hq; exact hq
  · refine wp_eqst (st' := [vI 0]) rfl ?_
    refine wp_if_ne (pc := 5) 11 dX11_person_5 (by decide) (by decide) (fun hh => absurd hh (by decide)) (fun _ => ?_)
    refine wp_bipush (pc := 8) dX11_person_8 (by decide) ?_
    refine wp_iret (pc := 10) dX11_person_10 rfl rfl ?_
    have hq := hQ _ Rq.refl
    have e1 : personA T S a w = (-2) := by
      unfold personA
      rw [if_neg (by omega)]
    rw [e1] at hq; exact hq

theorem rs_degree {l : Launch} {G : mG} {d : Nat} {I : mI} {L : Nat → Nat → Int} {D : Nat → Nat} {Q : mQ} {T : mT} {S : mS} {a b : Int}  (hI : RI I T S) (h_a : inR a) (h_b : inR b) (hd : 2 ≤ d) (hQ : ∀ J, Rq I J → Q (some (vI (degreeA T a b))) J (XX L D)) : WP l G m_X11_degree d 153 I (XX L D) 0 [some (vR 111), some (vI a), some (vI b)] [] Q := by
  obtain ⟨hR, hN, hX, hw, hv, hrd, hC, hcd⟩ := hI
  have b_p := tw_p hw
  have b_q := tw_q hw
  have b_c := tw_c hw
  have eP : nP T = (T 0 12).toNat := rfl
  have eQ : nQ T = (T 0 13).toNat := rfl
  have eC : nC T = (T 0 11).toNat := rfl
  have b_s := sw_sun hv
  refine wp_aload_n (pc := 0) 0 dX11_degree_0 rfl rfl ?_
  refine wp_iload_n (pc := 1) 1 dX11_degree_1 rfl rfl ?_
  refine wp_callV (pc := 2) (st := []) (nf' := 153) [vI a] [some (vR 111), some (vI a)] dX11_degree_2 rfl c_X11_437 rfl kd_111 (by decide) rfl la_111 rfl (Nat.le_of_ble_eq_true rfl) rfl (Nat.le_of_ble_eq_true rfl) (by omega) (Nat.le_refl _) (Nat.le_refl _) ?_
  refine rs_isPerson hR hw (by omega) (by omega) (fun h_1 => ?_) (fun h_1 => ?_)
  · refine wp_eqst (st' := [vI 1]) rfl ?_
    refine wp_if_eq (pc := 5) 25 dX11_degree_5 (by decide) (by decide) (fun hh => absurd hh (by decide)) (fun _ => ?_)
    refine wp_aload_n (pc := 8) 0 dX11_degree_8 rfl rfl ?_
    refine wp_iload_n (pc := 9) 2 dX11_degree_9 rfl rfl ?_
    refine wp_callV (pc := 10) (st := []) (nf' := 153) [vI b] [some (vR 111), some (vI b)] dX11_degree_10 rfl c_X11_437 rfl kd_111 (by decide) rfl la_111 rfl (Nat.le_of_ble_eq_true rfl) rfl (Nat.le_of_ble_eq_true rfl) (by omega) (Nat.le_refl _) (Nat.le_refl _) ?_
    refine rs_isPerson hR hw (by omega) (by omega) (fun h_2 => ?_) (fun h_2 => ?_)
    · refine wp_eqst (st' := [vI 1]) rfl ?_
      refine wp_if_eq (pc := 13) 25 dX11_degree_13 (by decide) (by decide) (fun hh => absurd hh (by decide)) (fun _ => ?_)
      refine wp_aload_n (pc := 16) 0 dX11_degree_16 rfl rfl ?_
      refine wp_iload_n (pc := 17) 1 dX11_degree_17 rfl rfl ?_
      refine wp_iload_n (pc := 18) 2 dX11_degree_18 rfl rfl ?_
      refine wp_callV (pc := 19) (st := []) (nf' := 153) [vI a, vI b] [some (vR 111), some (vI a), some (vI b), none, none, none, none] dX11_degree_19 rfl c_X11_440 rfl kd_111 (by decide) rfl la_111 rfl (Nat.le_of_ble_eq_true rfl) rfl (Nat.le_of_ble_eq_true rfl) (by omega) (Nat.le_refl _) (Nat.le_refl _) ?_
      refine rs_degreeOf a.toNat (by omega) b.toNat (by omega) hR hw hC (by omega) (by omega) (by omega) ?_
      refine wp_eqst (st' := [vI (T 16 (a.toNat * 8 + b.toNat))]) rfl ?_
      refine wp_goto (pc := 22) 26 dX11_degree_22 (by decide) ?_
      refine wp_iret (pc := 26) dX11_degree_26 rfl rfl ?_
      have hq := hQ _ Rq.refl
      have e1 : degreeA T a b = T 16 (a.toNat * 8 + b.toNat) := by unfold degreeA; first | (rw [if_neg (by omega)]; done) | (rw [if_pos (by omega)])
      rw [e1] at hq; exact hq
    · refine wp_eqst (st' := [vI 0]) rfl ?_
      refine wp_if_eq (pc := 13) 25 dX11_degree_13 (by decide) (by decide) (fun _ => ?_) (fun hh => absurd hh (by decide))
      refine wp_iconst (pc := 25) dX11_degree_25 ?_
      refine wp_iret (pc := 26) dX11_degree_26 rfl rfl ?_
      have hq := hQ _ Rq.refl
      have e1 : degreeA T a b = (-1) := by unfold degreeA; first | (rw [if_neg (by omega)]; done) | (rw [if_pos (by omega)])
      rw [e1] at hq; exact hq
  · refine wp_eqst (st' := [vI 0]) rfl ?_
    refine wp_if_eq (pc := 5) 25 dX11_degree_5 (by decide) (by decide) (fun _ => ?_) (fun hh => absurd hh (by decide))
    refine wp_iconst (pc := 25) dX11_degree_25 ?_
    refine wp_iret (pc := 26) dX11_degree_26 rfl rfl ?_
    have hq := hQ _ Rq.refl
    have e1 : degreeA T a b = (-1) := by unfold degreeA; first | (rw [if_neg (by omega)]; done) | (rw [if_pos (by omega)])
    rw [e1] at hq; exact hq

theorem rs_hearing {l : Launch} {G : mG} {d : Nat} {I : mI} {L : Nat → Nat → Int} {D : Nat → Nat} {Q : mQ} {T : mT} {S : mS} {a : Int}  (hI : RI I T S) (h_a : inR a) (hd : 4 ≤ d) (hQ : ∀ J, Rq I J → Q (some (vI (hearingA T S a))) J (XX L D)) : WP l G m_X11_hearing d 153 I (XX L D) 0 [some (vR 111), some (vI a)] [] Q := by
  obtain ⟨hR, hN, hX, hw, hv, hrd, hC, hcd⟩ := hI
  have b_p := tw_p hw
  have b_q := tw_q hw
  have b_c := tw_c hw
  have eP : nP T = (T 0 12).toNat := rfl
  have eQ : nQ T = (T 0 13).toNat := rfl
  have eC : nC T = (T 0 11).toNat := rfl
  have b_s := sw_sun hv
  refine wp_aload_n (pc := 0) 0 dX11_hearing_0 rfl rfl ?_
  refine wp_iload_n (pc := 1) 1 dX11_hearing_1 rfl rfl ?_
  refine wp_callV (pc := 2) (st := []) (nf' := 153) [vI a] [some (vR 111), some (vI a)] dX11_hearing_2 rfl c_X11_437 rfl kd_111 (by decide) rfl la_111 rfl (Nat.le_of_ble_eq_true rfl) rfl (Nat.le_of_ble_eq_true rfl) (by omega) (Nat.le_refl _) (Nat.le_refl _) ?_
  refine rs_isPerson hR hw (by omega) (by omega) (fun h_1 => ?_) (fun h_1 => ?_)
  · refine wp_eqst (st' := [vI 1]) rfl ?_
    refine wp_if_ne (pc := 5) 10 dX11_hearing_5 (by decide) (by decide) (fun _ => ?_) (fun hh => absurd hh (by decide))
    refine wp_aload_n (pc := 10) 0 dX11_hearing_10 rfl rfl ?_
    refine wp_callV (pc := 11) (st := []) (nf' := 153) [] [some (vR 111)] dX11_hearing_11 rfl c_X11_509 rfl kd_111 (by decide) rfl la_111 rfl (Nat.le_of_ble_eq_true rfl) rfl (Nat.le_of_ble_eq_true rfl) (by omega) (Nat.le_refl _) (Nat.le_refl _) ?_
    refine wp_aload_n (pc := 0) 0 dX11_loadRead_0 rfl rfl ?_
    refine wp_callV (pc := 1) (st := []) (nf' := 153) [] [some (vR 111), none] dX11_loadRead_1 rfl c_X11_485 rfl kd_111 (by decide) rfl la_111 rfl (Nat.le_of_ble_eq_true rfl) rfl (Nat.le_of_ble_eq_true rfl) (by omega) (Nat.le_refl _) (Nat.le_refl _) ?_
    refine rs_load (by omega) ?_
    generalize hJe : upc I 140 (I 139) = J
    have hJ : ∀ b, b ≠ 140 → J b = I b := fun b g => by rw [← hJe]; exact funext fun j => upc_c g
    have hAJ : J 140 = pS S := by rw [← hJe, ← hN]; exact funext fun j => upc_s
    have hRJ := ld_rt hJ hR
    have hXJ := ld_fx hJ hX
    refine wp_eqst (st' := []) rfl ?_
    refine wp_aload_n (pc := 4) 0 dX11_loadRead_4 rfl rfl ?_
    refine wp_callV (pc := 5) (st := []) (nf' := 153) [] [some (vR 111), none, none, none] dX11_loadRead_5 rfl c_X11_488 rfl kd_111 (by decide) rfl la_111 rfl (Nat.le_of_ble_eq_true rfl) rfl (Nat.le_of_ble_eq_true rfl) (by omega) (Nat.le_refl _) (Nat.le_refl _) ?_
    refine rs_layRead hRJ hAJ hw hv hC (by omega) (by omega) (fun K hK hK63 hK141 => ?_)
    have hRK := hK.rt hRJ
    have hAK := hK.air hAJ
    have hXK := hK.fx hXJ
    have hkK : ∀ c, c < 4 → K 141 c = ((pc8 (readIn T S (c : Int) (called T S)) : Nat) : Int) := fun c hc => (hK141 c hc).trans (calls_read hw hv c)
    refine wp_eqst (st' := []) rfl ?_
    refine wp_vret (pc := 8) dX11_loadRead_8 rfl rfl ?_
    refine wp_eqst (st' := []) rfl ?_
    refine wp_aload_n (pc := 14) 0 dX11_hearing_14 rfl rfl ?_
    refine wp_iload_n (pc := 15) 1 dX11_hearing_15 rfl rfl ?_
    refine wp_callV (pc := 16) (st := []) (nf' := 153) [vI a] [some (vR 111), some (vI a)] dX11_hearing_16 rfl c_X11_500 rfl kd_111 (by decide) rfl la_111 rfl (Nat.le_of_ble_eq_true rfl) rfl (Nat.le_of_ble_eq_true rfl) (by omega) (Nat.le_refl _) (Nat.le_refl _) ?_
    refine rs_hearingOf (cl := called T S) a.toNat (by omega) hRK hAK hw hv hXK hcd (by omega) (by omega) hkK (by omega) (fun N hN2 => ?_)
    refine wp_eqst (st' := [vI (ear T S a.toNat (called T S))]) rfl ?_
    refine wp_iret (pc := 19) dX11_hearing_19 rfl rfl ?_
    have hq := hQ _ (((Rq.ld hJ).rc hK).rc hN2.rc)
    have e1 : hearingA T S a = ear T S a.toNat (called T S) := by unfold hearingA; rw [if_pos (by omega)]
    rw [e1] at hq; exact hq
  · refine wp_eqst (st' := [vI 0]) rfl ?_
    refine wp_if_ne (pc := 5) 10 dX11_hearing_5 (by decide) (by decide) (fun hh => absurd hh (by decide)) (fun _ => ?_)
    refine wp_iconst (pc := 8) dX11_hearing_8 ?_
    refine wp_iret (pc := 9) dX11_hearing_9 rfl rfl ?_
    have hq := hQ _ Rq.refl
    have e1 : hearingA T S a = (-1) := by unfold hearingA; rw [if_neg (by omega)]
    rw [e1] at hq; exact hq

theorem rs_pair {l : Launch} {G : mG} {d : Nat} {I : mI} {L : Nat → Nat → Int} {D : Nat → Nat} {Q : mQ} {T : mT} {S : mS} {a w : Int}  (hI : RI I T S) (h_a : inR a) (h_w : inR w) (hd : 5 ≤ d) (hQ : ∀ J, Rq I J → Q (some (vI (pairA T S a w))) J (XX L D)) : WP l G m_X11_pair d 153 I (XX L D) 0 [some (vR 111), some (vI a), some (vI w)] [] Q := by
  obtain ⟨hR, hN, hX, hw, hv, hrd, hC, hcd⟩ := hI
  have b_p := tw_p hw
  have b_q := tw_q hw
  have b_c := tw_c hw
  have eP : nP T = (T 0 12).toNat := rfl
  have eQ : nQ T = (T 0 13).toNat := rfl
  have eC : nC T = (T 0 11).toNat := rfl
  have b_s := sw_sun hv
  have b_cl := called_lt hw S
  have b_i : 0 ≤ a → a < T 0 13 → a.toNat < 5 := fun x y => by omega
  refine wp_aload_n (pc := 0) 0 dX11_pair_0 rfl rfl ?_
  refine wp_iload_n (pc := 1) 1 dX11_pair_1 rfl rfl ?_
  refine wp_callV (pc := 2) (st := []) (nf' := 153) [vI a] [some (vR 111), some (vI a)] dX11_pair_2 rfl c_X11_506 rfl kd_111 (by decide) rfl la_111 rfl (Nat.le_of_ble_eq_true rfl) rfl (Nat.le_of_ble_eq_true rfl) (by omega) (Nat.le_refl _) (Nat.le_refl _) ?_
  refine rs_isPair hR hw (by omega) (by omega) (fun h_1 => ?_) (fun h_1 => ?_)
  · refine wp_eqst (st' := [vI 1]) rfl ?_
    refine wp_if_ne (pc := 5) 10 dX11_pair_5 (by decide) (by decide) (fun _ => ?_) (fun hh => absurd hh (by decide))
    refine wp_aload_n (pc := 10) 0 dX11_pair_10 rfl rfl ?_
    refine wp_callV (pc := 11) (st := []) (nf' := 153) [] [some (vR 111)] dX11_pair_11 rfl c_X11_509 rfl kd_111 (by decide) rfl la_111 rfl (Nat.le_of_ble_eq_true rfl) rfl (Nat.le_of_ble_eq_true rfl) (by omega) (Nat.le_refl _) (Nat.le_refl _) ?_
    refine wp_aload_n (pc := 0) 0 dX11_loadRead_0 rfl rfl ?_
    refine wp_callV (pc := 1) (st := []) (nf' := 153) [] [some (vR 111), none] dX11_loadRead_1 rfl c_X11_485 rfl kd_111 (by decide) rfl la_111 rfl (Nat.le_of_ble_eq_true rfl) rfl (Nat.le_of_ble_eq_true rfl) (by omega) (Nat.le_refl _) (Nat.le_refl _) ?_
    refine rs_load (by omega) ?_
    generalize hJe : upc I 140 (I 139) = J
    have hJ : ∀ b, b ≠ 140 → J b = I b := fun b g => by rw [← hJe]; exact funext fun j => upc_c g
    have hAJ : J 140 = pS S := by rw [← hJe, ← hN]; exact funext fun j => upc_s
    have hRJ := ld_rt hJ hR
    have hXJ := ld_fx hJ hX
    refine wp_eqst (st' := []) rfl ?_
    refine wp_aload_n (pc := 4) 0 dX11_loadRead_4 rfl rfl ?_
    refine wp_callV (pc := 5) (st := []) (nf' := 153) [] [some (vR 111), none, none, none] dX11_loadRead_5 rfl c_X11_488 rfl kd_111 (by decide) rfl la_111 rfl (Nat.le_of_ble_eq_true rfl) rfl (Nat.le_of_ble_eq_true rfl) (by omega) (Nat.le_refl _) (Nat.le_refl _) ?_
    refine rs_layRead hRJ hAJ hw hv hC (by omega) (by omega) (fun K hK hK63 hK141 => ?_)
    have hRK := hK.rt hRJ
    have hAK := hK.air hAJ
    have hXK := hK.fx hXJ
    have hkK : ∀ c, c < 4 → K 141 c = ((pc8 (readIn T S (c : Int) (called T S)) : Nat) : Int) := fun c hc => (hK141 c hc).trans (calls_read hw hv c)
    refine wp_eqst (st' := []) rfl ?_
    refine wp_vret (pc := 8) dX11_loadRead_8 rfl rfl ?_
    refine wp_eqst (st' := []) rfl ?_
    refine wp_iload_n (pc := 14) 2 dX11_pair_14 rfl rfl ?_
    by_cases h_2 : w = 0
    · refine wp_tin (pc := 15) 0 64 dX11_pair_15 (by omega) (by rw [h_2]; decide) (by decide) rfl (by decide) ?_
      refine wp_aload_n (pc := 64) 0 dX11_pair_64 rfl rfl ?_
      refine wp_getr (pc := 65) dX11_pair_65 rfl f_X11_81 kd_111 la_111 rfl (r_111_38 D) ?_
      refine wp_iload_n (pc := 68) 1 dX11_pair_68 rfl rfl ?_
      refine wq_iald (pc := 69) a.toNat dX11_pair_69 kd_134 la_134 (by omega) (by omega) ?_
      refine wp_eqst (st' := [vI (T 6 a.toNat)]) (by rw [rt_one hRK (by omega)]) ?_
      refine wp_iret (pc := 70) dX11_pair_70 rfl rfl ?_
      have hq := hQ _ ((Rq.ld hJ).rc hK)
      have e1 : pairA T S a w = T 6 a.toNat := by
        unfold pairA
        rw [if_pos (by omega)]; rw [h_2]
        first | rfl | (show S _ = S _; congr 1; omega)
      rw [e1] at hq; exact hq
    by_cases h_3 : w = 1
    · refine wp_tin (pc := 15) 1 71 dX11_pair_15 (by omega) (by rw [h_3]; decide) (by decide) rfl (by decide) ?_
      refine wp_aload_n (pc := 71) 0 dX11_pair_71 rfl rfl ?_
      refine wp_getr (pc := 72) dX11_pair_72 rfl f_X11_84 kd_111 la_111 rfl (r_111_39 D) ?_
      refine wp_iload_n (pc := 75) 1 dX11_pair_75 rfl rfl ?_
      refine wq_iald (pc := 76) a.toNat dX11_pair_76 kd_135 la_135 (by omega) (by omega) ?_
      refine wp_eqst (st' := [vI (T 7 a.toNat)]) (by rw [rt_other hRK (by omega)]) ?_
      refine wp_iret (pc := 77) dX11_pair_77 rfl rfl ?_
      have hq := hQ _ ((Rq.ld hJ).rc hK)
      have e1 : pairA T S a w = T 7 a.toNat := by
        unfold pairA
        rw [if_pos (by omega)]; rw [h_3]
        first | rfl | (show S _ = S _; congr 1; omega)
      rw [e1] at hq; exact hq
    by_cases h_4 : w = 2
    · refine wp_tin (pc := 15) 2 78 dX11_pair_15 (by omega) (by rw [h_4]; decide) (by decide) rfl (by decide) ?_
      refine wp_aload_n (pc := 78) 0 dX11_pair_78 rfl rfl ?_
      refine wp_getr (pc := 79) dX11_pair_79 rfl f_X11_106 kd_111 la_111 rfl (r_111_61 D) ?_
      refine wp_bipush (pc := 82) dX11_pair_82 (by decide) ?_
      refine wp_iload_n (pc := 84) 1 dX11_pair_84 rfl rfl ?_
      refine wp_iadd (pc := 85) dX11_pair_85 ?_
      refine wq_iald (pc := 86) (18 + a.toNat) dX11_pair_86 kd_140 la_140 (by omega) (by omega) ?_
      refine wp_eqst (st' := [vI (S (13 + a.toNat))]) (by rw [hAK, pS_18 (by omega)]) ?_
      refine wp_iret (pc := 87) dX11_pair_87 rfl rfl ?_
      have hq := hQ _ ((Rq.ld hJ).rc hK)
      have e1 : pairA T S a w = S (13 + a.toNat) := by
        unfold pairA
        rw [if_pos (by omega)]; rw [h_4]
        first | rfl | (show S _ = S _; congr 1; omega)
      rw [e1] at hq; exact hq
    by_cases h_5 : w = 3
    · refine wp_tin (pc := 15) 3 88 dX11_pair_15 (by omega) (by rw [h_5]; decide) (by decide) rfl (by decide) ?_
      refine wp_aload_n (pc := 88) 0 dX11_pair_88 rfl rfl ?_
      refine wp_getr (pc := 89) dX11_pair_89 rfl f_X11_106 kd_111 la_111 rfl (r_111_61 D) ?_
      refine wp_bipush (pc := 92) dX11_pair_92 (by decide) ?_
      refine wp_iload_n (pc := 94) 1 dX11_pair_94 rfl rfl ?_
      refine wp_iadd (pc := 95) dX11_pair_95 ?_
      refine wq_iald (pc := 96) (23 + a.toNat) dX11_pair_96 kd_140 la_140 (by omega) (by omega) ?_
      refine wp_eqst (st' := [vI (S (18 + a.toNat))]) (by rw [hAK, pS_23 (by omega)]) ?_
      refine wp_iret (pc := 97) dX11_pair_97 rfl rfl ?_
      have hq := hQ _ ((Rq.ld hJ).rc hK)
      have e1 : pairA T S a w = S (18 + a.toNat) := by
        unfold pairA
        rw [if_pos (by omega)]; rw [h_5]
        first | rfl | (show S _ = S _; congr 1; omega)
      rw [e1] at hq; exact hq
    by_cases h_6 : w = 4
    · refine wp_tin (pc := 15) 4 98 dX11_pair_15 (by omega) (by rw [h_6]; decide) (by decide) rfl (by decide) ?_
      refine wp_aload_n (pc := 98) 0 dX11_pair_98 rfl rfl ?_
      refine wp_getr (pc := 99) dX11_pair_99 rfl f_X11_106 kd_111 la_111 rfl (r_111_61 D) ?_
      refine wp_bipush (pc := 102) dX11_pair_102 (by decide) ?_
      refine wp_iload_n (pc := 104) 1 dX11_pair_104 rfl rfl ?_
      refine wp_iadd (pc := 105) dX11_pair_105 ?_
      refine wq_iald (pc := 106) (13 + a.toNat) dX11_pair_106 kd_140 la_140 (by omega) (by omega) ?_
      refine wp_eqst (st' := [vI (S (23 + a.toNat))]) (by rw [hAK, pS_13 (by omega)]) ?_
      refine wp_iret (pc := 107) dX11_pair_107 rfl rfl ?_
      have hq := hQ _ ((Rq.ld hJ).rc hK)
      have e1 : pairA T S a w = S (23 + a.toNat) := by
        unfold pairA
        rw [if_pos (by omega)]; rw [h_6]
        first | rfl | (show S _ = S _; congr 1; omega)
      rw [e1] at hq; exact hq
    by_cases h_7 : w = 5
    · refine wp_tin (pc := 15) 5 108 dX11_pair_15 (by omega) (by rw [h_7]; decide) (by decide) rfl (by decide) ?_
      refine wp_aload_n (pc := 108) 0 dX11_pair_108 rfl rfl ?_
      refine wp_iload_n (pc := 109) 1 dX11_pair_109 rfl rfl ?_
      refine wp_callV (pc := 110) (st := []) (nf' := 153) [vI a] [some (vR 111), some (vI a)] dX11_pair_110 rfl c_X11_446 rfl kd_111 (by decide) rfl la_111 rfl (Nat.le_of_ble_eq_true rfl) rfl (Nat.le_of_ble_eq_true rfl) (by omega) (Nat.le_refl _) (Nat.le_refl _) ?_
      refine wp_aload_n (pc := 0) 0 dX11_stateOf_0 rfl rfl ?_
      refine wp_getr (pc := 1) dX11_stateOf_1 rfl f_X11_106 kd_111 la_111 rfl (r_111_61 D) ?_
      refine wp_bipush (pc := 4) dX11_stateOf_4 (by decide) ?_
      refine wp_iload_n (pc := 6) 1 dX11_stateOf_6 rfl rfl ?_
      refine wp_iadd (pc := 7) dX11_stateOf_7 ?_
      refine wq_iald (pc := 8) (8 + a.toNat) dX11_stateOf_8 kd_140 la_140 (by omega) (by omega) ?_
      refine wp_eqst (st' := [vI (S (8 + a.toNat))]) (by rw [hAK, pS_8 (by omega)]) ?_
      refine wp_iret (pc := 9) dX11_stateOf_9 rfl rfl ?_
      refine wp_eqst (st' := [vI (S (8 + a.toNat))]) rfl ?_
      refine wp_iret (pc := 113) dX11_pair_113 rfl rfl ?_
      have hq := hQ _ ((Rq.ld hJ).rc hK)
      have e1 : pairA T S a w = S (8 + a.toNat) := by
        unfold pairA
        rw [if_pos (by omega)]; rw [h_7]
        first | rfl | (show S _ = S _; congr 1; omega)
      rw [e1] at hq; exact hq
    by_cases h_8 : w = 6
    · refine wp_tin (pc := 15) 6 114 dX11_pair_15 (by omega) (by rw [h_8]; decide) (by decide) rfl (by decide) ?_
      refine wp_aload_n (pc := 114) 0 dX11_pair_114 rfl rfl ?_
      refine wp_iload_n (pc := 115) 1 dX11_pair_115 rfl rfl ?_
      refine wp_callV (pc := 116) (st := []) (nf' := 153) [vI a] [some (vR 111), some (vI a), none, none] dX11_pair_116 rfl c_X11_458 rfl kd_111 (by decide) rfl la_111 rfl (Nat.le_of_ble_eq_true rfl) rfl (Nat.le_of_ble_eq_true rfl) (by omega) (Nat.le_refl _) (Nat.le_refl _) ?_
      refine rs_barOf a.toNat (by omega) hRK hAK hw hv hC (by omega) (by omega) ?_
      refine wp_eqst (st' := [vI (barQ T S a.toNat)]) rfl ?_
      refine wp_iret (pc := 119) dX11_pair_119 rfl rfl ?_
      have hq := hQ _ ((Rq.ld hJ).rc hK)
      have e1 : pairA T S a w = barQ T S a.toNat := by
        unfold pairA
        rw [if_pos (by omega)]; rw [h_8]
        first | rfl | (show S _ = S _; congr 1; omega)
      rw [e1] at hq; exact hq
    by_cases h_9 : w = 7
    · refine wp_tin (pc := 15) 7 120 dX11_pair_15 (by omega) (by rw [h_9]; decide) (by decide) rfl (by decide) ?_
      refine wp_aload_n (pc := 120) 0 dX11_pair_120 rfl rfl ?_
      refine wp_iload_n (pc := 121) 1 dX11_pair_121 rfl rfl ?_
      refine wp_callV (pc := 122) (st := []) (nf' := 153) [vI a] [some (vR 111), some (vI a), none, none] dX11_pair_122 rfl c_X11_491 rfl kd_111 (by decide) rfl la_111 rfl (Nat.le_of_ble_eq_true rfl) rfl (Nat.le_of_ble_eq_true rfl) (by omega) (Nat.le_refl _) (Nat.le_refl _) ?_
      refine rs_risersOf a.toNat (by omega) hRK hAK hw hv hC (by omega) (by omega) ?_
      refine wp_eqst (st' := [vI ((risers T S a.toNat : Nat) : Int)]) rfl ?_
      refine wp_iret (pc := 125) dX11_pair_125 rfl rfl ?_
      have hq := hQ _ ((Rq.ld hJ).rc hK)
      have e1 : pairA T S a w = ((risers T S a.toNat : Nat) : Int) := by
        unfold pairA
        rw [if_pos (by omega)]; rw [h_9]
        first | rfl | (show S _ = S _; congr 1; omega)
      rw [e1] at hq; exact hq
    by_cases h_10 : w = 8
    · refine wp_tin (pc := 15) 8 126 dX11_pair_15 (by omega) (by rw [h_10]; decide) (by decide) rfl (by decide) ?_
      refine wp_aload_n (pc := 126) 0 dX11_pair_126 rfl rfl ?_
      refine wp_geti (pc := 127) dX11_pair_127 rfl f_X11_473 kd_111 la_111 (Or.inl rfl) ?_
      refine wp_eqst (st' := [vI ((called T S : Nat) : Int)]) (by rw [hK63]) ?_
      refine wp_iload_n (pc := 130) 1 dX11_pair_130 rfl rfl ?_
      refine wn_shr (pc := 131) (Int.toNat ((called T S : Nat) : Int)) a.toNat dX11_pair_131 (by omega) (by omega) (by omega) (by omega) ?_
      refine wp_iconst (pc := 132) dX11_pair_132 ?_
      refine wn_mask (pc := 133) ((Int.toNat ((called T S : Nat) : Int)) / 2 ^ a.toNat) 1 dX11_pair_133 rfl rfl (by decide) ?_
      refine wp_iret (pc := 134) dX11_pair_134 rfl rfl ?_
      have hq := hQ _ ((Rq.ld hJ).rc hK)
      have e1 : pairA T S a w = ((((Int.toNat ((called T S : Nat) : Int)) / 2 ^ a.toNat) % 2 ^ 1 : Nat) : Int) := by
        unfold pairA
        rw [if_pos (by omega)]; rw [h_10]
        first | rfl | (show S _ = S _; congr 1; omega)
      rw [e1] at hq; exact hq
    refine wp_tout (pc := 15) 135 dX11_pair_15 (by omega) (by omega) (by decide) ?_
    refine wp_iconst (pc := 135) dX11_pair_135 ?_
    refine wp_iret (pc := 136) dX11_pair_136 rfl rfl ?_
    have hq := hQ _ ((Rq.ld hJ).rc hK)
    have e1 : pairA T S a w = (-1) := by
      unfold pairA
      rw [if_pos (by omega)]; repeat rw [if_neg (by omega)]
    rw [e1] at hq; exact hq
  · refine wp_eqst (st' := [vI 0]) rfl ?_
    refine wp_if_ne (pc := 5) 10 dX11_pair_5 (by decide) (by decide) (fun hh => absurd hh (by decide)) (fun _ => ?_)
    refine wp_iconst (pc := 8) dX11_pair_8 ?_
    refine wp_iret (pc := 9) dX11_pair_9 rfl rfl ?_
    have hq := hQ _ Rq.refl
    have e1 : pairA T S a w = (-1) := by
      unfold pairA
      rw [if_neg (by omega)]
    rw [e1] at hq; exact hq

theorem rl_kinPairs {l : Launch} {G : mG} {d : Nat} {I : mI} {L : Nat → Nat → Int} {D : Nat → Nat} {Q : mQ} {T : mT} {S : mS} {a : Int} (hR : RT I T) (hN : I 139 = pS S) (hw : tw T) (hv : sw S 999) (hC : TC T) (h_a : inR a) (hd : 2 ≤ d) (hQ : Q (some (vI ((owN T S a : Int)))) I (XX L D)) : ∀ i : Nat, i ≤ nQ T → WP l G m_X11_kinPairs d 153 I (XX L D) 4 [some (vR 111), some (vI a), some (vI ((cntF (owF T S a) i : Nat) : Int)), some (vI (i : Int))] [] Q := by
  have b_p := tw_p hw
  have b_q := tw_q hw
  have b_c := tw_c hw
  have eP : nP T = (T 0 12).toNat := rfl
  have eQ : nQ T = (T 0 13).toNat := rfl
  have eC : nC T = (T 0 11).toNat := rfl
  refine loop_dn (fun i => WP l G m_X11_kinPairs d 153 I (XX L D) 4 [some (vR 111), some (vI a), some (vI ((cntF (owF T S a) i : Nat) : Int)), some (vI (i : Int))] [] Q) (nQ T) ?_ (fun i hi ih => ?_)
  · refine wp_iload_n (pc := 4) 3 dX11_kinPairs_4 rfl rfl ?_
    refine wp_aload_n (pc := 5) 0 dX11_kinPairs_5 rfl rfl ?_
    refine wp_geti (pc := 6) dX11_kinPairs_6 rfl f_X11_415 kd_111 la_111 (Or.inl rfl) ?_
    refine wp_eqst (st' := [vI (T 0 13), vI (((nQ T) : Nat) : Int)]) (by rw [rt_q hR]) ?_
    refine wp_icmp_ge (pc := 9) 61 dX11_kinPairs_9 (by decide) (by omega) (by omega) (fun h_1 => ?_) (fun h_1 => ?_)
    · refine wp_iload_n (pc := 61) 2 dX11_kinPairs_61 rfl rfl ?_
      refine wp_iret (pc := 62) dX11_kinPairs_62 rfl rfl ?_
      exact hQ
    · exfalso; omega
  · have b1 := tw_one hw i
    have b2 := tw_other hw i
    have b3 := sw_stat hv (j := i) (by omega)
    have b4 := hC.2.2.2 i hi
    have e4 : pa T i = (T 6 i).toNat := rfl
    have e5 : pb T i = (T 7 i).toNat := rfl
    have b5 := cntF_le (owF T S a) i
    refine wp_iload_n (pc := 4) 3 dX11_kinPairs_4 rfl rfl ?_
    refine wp_aload_n (pc := 5) 0 dX11_kinPairs_5 rfl rfl ?_
    refine wp_geti (pc := 6) dX11_kinPairs_6 rfl f_X11_415 kd_111 la_111 (Or.inl rfl) ?_
    refine wp_eqst (st' := [vI (T 0 13), vI (i : Int)]) (by rw [rt_q hR]) ?_
    refine wp_icmp_ge (pc := 9) 61 dX11_kinPairs_9 (by decide) (by omega) (by omega) (fun h_1 => ?_) (fun h_1 => ?_)
    · exfalso; omega
    · refine wp_iload_n (pc := 12) 2 dX11_kinPairs_12 rfl rfl ?_
      refine wp_aload_n (pc := 13) 0 dX11_kinPairs_13 rfl rfl ?_
      refine wp_getr (pc := 14) dX11_kinPairs_14 rfl f_X11_103 kd_111 la_111 rfl (r_111_60 D) ?_
      refine wp_bipush (pc := 17) dX11_kinPairs_17 (by decide) ?_
      refine wp_iload_n (pc := 19) 3 dX11_kinPairs_19 rfl rfl ?_
      refine wp_iadd (pc := 20) dX11_kinPairs_20 ?_
      refine wq_iald (pc := 21) (8 + i) dX11_kinPairs_21 kd_139 la_139 (by omega) (by omega) ?_
      refine wp_eqst (st' := [vI (S (8 + i)), vI ((cntF (owF T S a) i : Nat) : Int)]) (by rw [hN, pS_8 (by omega)]) ?_
      refine wp_if_ne (pc := 22) 49 dX11_kinPairs_22 (by decide) (by omega) (fun h_2 => ?_) (fun h_2 => ?_)
      · refine wp_iconst (pc := 49) dX11_kinPairs_49 ?_
        refine wp_callS (pc := 50) (st := [vI ((cntF (owF T S a) i : Nat) : Int)]) (nf' := 153) [vI 0] [some (vI 0)] dX11_kinPairs_50 rfl c_X11_320 rfl rfl (Nat.le_of_ble_eq_true rfl) rfl (Nat.le_of_ble_eq_true rfl) (by omega) (Nat.le_refl _) (Nat.le_refl _) ?_
        refine wp_iload_n (pc := 0) 0 dX11_truth_0 rfl rfl ?_
        refine wp_if_eq (pc := 1) 8 dX11_truth_1 (by decide) (by decide) (fun _ => ?_) (fun hh => absurd hh (by decide))
        refine wp_iconst (pc := 8) dX11_truth_8 ?_
        refine wp_iret (pc := 9) dX11_truth_9 rfl rfl ?_
        refine wp_eqst (st' := [vI 0, vI ((cntF (owF T S a) i : Nat) : Int)]) rfl ?_
        refine wp_iadd (pc := 53) dX11_kinPairs_53 ?_
        refine wq_istore_n (pc := 54) 2 [some (vR 111), some (vI a), some (vI (((cntF (owF T S a) i : Nat) : Int) + 0)), some (vI (i : Int))] dX11_kinPairs_54 rfl rfl (by decide) rfl ?_
        refine wq_iinc (pc := 55) [some (vR 111), some (vI a), some (vI (((cntF (owF T S a) i : Nat) : Int) + 0)), some (vI ((i : Int) + 1))] dX11_kinPairs_55 rfl rfl (by decide) rfl ?_
        refine wp_goto (pc := 58) 4 dX11_kinPairs_58 (by decide) ?_
        refine wp_eqls (ls' := [some (vR 111), some (vI a), some (vI ((cntF (owF T S a) (i + 1) : Nat) : Int)), some (vI (((i + 1) : Nat) : Int))]) (by rw [cntF_n (f := owF T S a) (n := i) (decide_eq_false (fun z => by have z1 := z.1; omega))]; rfl) ih
      · refine wp_aload_n (pc := 25) 0 dX11_kinPairs_25 rfl rfl ?_
        refine wp_aload_n (pc := 26) 0 dX11_kinPairs_26 rfl rfl ?_
        refine wp_getr (pc := 27) dX11_kinPairs_27 rfl f_X11_81 kd_111 la_111 rfl (r_111_38 D) ?_
        refine wp_iload_n (pc := 30) 3 dX11_kinPairs_30 rfl rfl ?_
        refine wq_iald (pc := 31) i dX11_kinPairs_31 kd_134 la_134 rfl (by omega) ?_
        refine wp_eqst (st' := [vI (T 6 i), vR 111, vI ((cntF (owF T S a) i : Nat) : Int)]) (by rw [rt_one hR (by omega)]) ?_
        refine wp_aload_n (pc := 32) 0 dX11_kinPairs_32 rfl rfl ?_
        refine wp_getr (pc := 33) dX11_kinPairs_33 rfl f_X11_84 kd_111 la_111 rfl (r_111_39 D) ?_
        refine wp_iload_n (pc := 36) 3 dX11_kinPairs_36 rfl rfl ?_
        refine wq_iald (pc := 37) i dX11_kinPairs_37 kd_135 la_135 rfl (by omega) ?_
        refine wp_eqst (st' := [vI (T 7 i), vI (T 6 i), vR 111, vI ((cntF (owF T S a) i : Nat) : Int)]) (by rw [rt_other hR (by omega)]) ?_
        refine wp_iload_n (pc := 38) 1 dX11_kinPairs_38 rfl rfl ?_
        refine wp_callV (pc := 39) (st := [vI ((cntF (owF T S a) i : Nat) : Int)]) (nf' := 153) [vI (T 6 i), vI (T 7 i), vI a] [some (vR 111), some (vI (T 6 i)), some (vI (T 7 i)), some (vI a)] dX11_kinPairs_39 rfl c_X11_452 rfl kd_111 (by decide) rfl la_111 rfl (Nat.le_of_ble_eq_true rfl) rfl (Nat.le_of_ble_eq_true rfl) (by omega) (Nat.le_refl _) (Nat.le_refl _) ?_
        refine rs_areKin (Int.toNat (T 6 i)) (by omega) (Int.toNat (T 7 i)) (by omega) hR hw hC (by omega) (by omega) (by omega) (by omega) (fun h_3 => ?_) (fun h_3 => ?_)
        · refine wp_eqst (st' := [vI 1, vI ((cntF (owF T S a) i : Nat) : Int)]) rfl ?_
          refine wp_if_eq (pc := 42) 49 dX11_kinPairs_42 (by decide) (by decide) (fun hh => absurd hh (by decide)) (fun _ => ?_)
          refine wp_iconst (pc := 45) dX11_kinPairs_45 ?_
          refine wp_goto (pc := 46) 50 dX11_kinPairs_46 (by decide) ?_
          refine wp_callS (pc := 50) (st := [vI ((cntF (owF T S a) i : Nat) : Int)]) (nf' := 153) [vI 1] [some (vI 1)] dX11_kinPairs_50 rfl c_X11_320 rfl rfl (Nat.le_of_ble_eq_true rfl) rfl (Nat.le_of_ble_eq_true rfl) (by omega) (Nat.le_refl _) (Nat.le_refl _) ?_
          refine wp_iload_n (pc := 0) 0 dX11_truth_0 rfl rfl ?_
          refine wp_if_eq (pc := 1) 8 dX11_truth_1 (by decide) (by decide) (fun hh => absurd hh (by decide)) (fun _ => ?_)
          refine wp_iconst (pc := 4) dX11_truth_4 ?_
          refine wp_goto (pc := 5) 9 dX11_truth_5 (by decide) ?_
          refine wp_iret (pc := 9) dX11_truth_9 rfl rfl ?_
          refine wp_eqst (st' := [vI 1, vI ((cntF (owF T S a) i : Nat) : Int)]) rfl ?_
          refine wp_iadd (pc := 53) dX11_kinPairs_53 ?_
          refine wq_istore_n (pc := 54) 2 [some (vR 111), some (vI a), some (vI (((cntF (owF T S a) i : Nat) : Int) + 1)), some (vI (i : Int))] dX11_kinPairs_54 rfl rfl (by decide) rfl ?_
          refine wq_iinc (pc := 55) [some (vR 111), some (vI a), some (vI (((cntF (owF T S a) i : Nat) : Int) + 1)), some (vI ((i : Int) + 1))] dX11_kinPairs_55 rfl rfl (by decide) rfl ?_
          refine wp_goto (pc := 58) 4 dX11_kinPairs_58 (by decide) ?_
          refine wp_eqls (ls' := [some (vR 111), some (vI a), some (vI ((cntF (owF T S a) (i + 1) : Nat) : Int)), some (vI (((i + 1) : Nat) : Int))]) (by rw [cntF_y (f := owF T S a) (n := i) (decide_eq_true ⟨by omega, h_3⟩)]; rfl) ih
        · refine wp_eqst (st' := [vI 0, vI ((cntF (owF T S a) i : Nat) : Int)]) rfl ?_
          refine wp_if_eq (pc := 42) 49 dX11_kinPairs_42 (by decide) (by decide) (fun _ => ?_) (fun hh => absurd hh (by decide))
          refine wp_iconst (pc := 49) dX11_kinPairs_49 ?_
          refine wp_callS (pc := 50) (st := [vI ((cntF (owF T S a) i : Nat) : Int)]) (nf' := 153) [vI 0] [some (vI 0)] dX11_kinPairs_50 rfl c_X11_320 rfl rfl (Nat.le_of_ble_eq_true rfl) rfl (Nat.le_of_ble_eq_true rfl) (by omega) (Nat.le_refl _) (Nat.le_refl _) ?_
          refine wp_iload_n (pc := 0) 0 dX11_truth_0 rfl rfl ?_
          refine wp_if_eq (pc := 1) 8 dX11_truth_1 (by decide) (by decide) (fun _ => ?_) (fun hh => absurd hh (by decide))
          refine wp_iconst (pc := 8) dX11_truth_8 ?_
          refine wp_iret (pc := 9) dX11_truth_9 rfl rfl ?_
          refine wp_eqst (st' := [vI 0, vI ((cntF (owF T S a) i : Nat) : Int)]) rfl ?_
          refine wp_iadd (pc := 53) dX11_kinPairs_53 ?_
          refine wq_istore_n (pc := 54) 2 [some (vR 111), some (vI a), some (vI (((cntF (owF T S a) i : Nat) : Int) + 0)), some (vI (i : Int))] dX11_kinPairs_54 rfl rfl (by decide) rfl ?_
          refine wq_iinc (pc := 55) [some (vR 111), some (vI a), some (vI (((cntF (owF T S a) i : Nat) : Int) + 0)), some (vI ((i : Int) + 1))] dX11_kinPairs_55 rfl rfl (by decide) rfl ?_
          refine wp_goto (pc := 58) 4 dX11_kinPairs_58 (by decide) ?_
          refine wp_eqls (ls' := [some (vR 111), some (vI a), some (vI ((cntF (owF T S a) (i + 1) : Nat) : Int)), some (vI (((i + 1) : Nat) : Int))]) (by rw [cntF_n (f := owF T S a) (n := i) (decide_eq_false (fun z => h_3 z.2))]; rfl) ih

theorem rs_kinPairs {l : Launch} {G : mG} {d : Nat} {I : mI} {L : Nat → Nat → Int} {D : Nat → Nat} {Q : mQ} {T : mT} {S : mS} {a : Int}  (hR : RT I T) (hN : I 139 = pS S) (hw : tw T) (hv : sw S 999) (hC : TC T) (h_a : inR a) (hd : 2 ≤ d) (hQ : Q (some (vI ((owN T S a : Int)))) I (XX L D)) : WP l G m_X11_kinPairs d 153 I (XX L D) 0 [some (vR 111), some (vI a), none, none] [] Q := by
  have b_p := tw_p hw
  have b_q := tw_q hw
  have b_c := tw_c hw
  have eP : nP T = (T 0 12).toNat := rfl
  have eQ : nQ T = (T 0 13).toNat := rfl
  have eC : nC T = (T 0 11).toNat := rfl
  refine wp_iconst (pc := 0) dX11_kinPairs_0 ?_
  refine wq_istore_n (pc := 1) 2 [some (vR 111), some (vI a), some (vI 0), none] dX11_kinPairs_1 rfl rfl (by decide) rfl ?_
  refine wp_iconst (pc := 2) dX11_kinPairs_2 ?_
  refine wq_istore_n (pc := 3) 3 [some (vR 111), some (vI a), some (vI 0), some (vI 0)] dX11_kinPairs_3 rfl rfl (by decide) rfl ?_
  exact rl_kinPairs hR hN hw hv hC h_a hd hQ 0 (Nat.zero_le _)

theorem rs_law {l : Launch} {G : mG} {d : Nat} {I : mI} {L : Nat → Nat → Int} {D : Nat → Nat} {Q : mQ} {T : mT} {S : mS} {a : Int}  (hI : RI I T S) (h_a : inR a) (hd : 3 ≤ d) (hQ : ∀ J, Rq I J → Q (some (vI (lawA T S a))) J (XX L D)) : WP l G m_X11_law d 153 I (XX L D) 0 [some (vR 111), some (vI a)] [] Q := by
  obtain ⟨hR, hN, hX, hw, hv, hrd, hC, hcd⟩ := hI
  have b_p := tw_p hw
  have b_q := tw_q hw
  have b_c := tw_c hw
  have eP : nP T = (T 0 12).toNat := rfl
  have eQ : nQ T = (T 0 13).toNat := rfl
  have eC : nC T = (T 0 11).toNat := rfl
  have b_s := sw_sun hv
  have b_d := tw_deg hw
  have b_1 := cntF_le (owF T S a) (nQ T)
  have b_2 := cntF_le (owF T S (T 0 15)) (nQ T)
  refine wp_iload_n (pc := 0) 1 dX11_law_0 rfl rfl ?_
  refine wp_iconst (pc := 1) dX11_law_1 ?_
  refine wp_bipush (pc := 2) dX11_law_2 (by decide) ?_
  refine wp_callS (pc := 4) (st := []) (nf' := 153) [vI a, vI 0, vI 8] [some (vI a), some (vI 0), some (vI 8)] dX11_law_4 rfl c_X11_433 rfl rfl (Nat.le_of_ble_eq_true rfl) rfl (Nat.le_of_ble_eq_true rfl) (by omega) (Nat.le_refl _) (Nat.le_refl _) ?_
  refine wp_iload_n (pc := 0) 0 dX11_isIn_0 rfl rfl ?_
  refine wp_iload_n (pc := 1) 1 dX11_isIn_1 rfl rfl ?_
  refine wp_icmp_lt (pc := 2) 14 dX11_isIn_2 (by decide) (by omega) (by decide) (fun h_1 => ?_) (fun h_1 => ?_)
  · refine wp_iconst (pc := 14) dX11_isIn_14 ?_
    refine wp_zret (pc := 15) dX11_isIn_15 rfl rfl (by decide) ?_
    refine wp_eqst (st' := [vI 0]) rfl ?_
    refine wp_if_eq (pc := 7) 27 dX11_law_7 (by decide) (by decide) (fun _ => ?_) (fun hh => absurd hh (by decide))
    refine wp_bipush (pc := 27) dX11_law_27 (by decide) ?_
    refine wp_iret (pc := 29) dX11_law_29 rfl rfl ?_
    have hq := hQ _ Rq.refl
    have e1 : lawA T S a = (-100) := by unfold lawA; first | (rw [if_neg (by omega)]; done) | (rw [if_pos (by omega)])
    rw [e1] at hq; exact hq
  · refine wp_iload_n (pc := 5) 0 dX11_isIn_5 rfl rfl ?_
    refine wp_iload_n (pc := 6) 2 dX11_isIn_6 rfl rfl ?_
    refine wp_icmp_gt (pc := 7) 14 dX11_isIn_7 (by decide) (by omega) (by decide) (fun h_2 => ?_) (fun h_2 => ?_)
    · refine wp_iconst (pc := 14) dX11_isIn_14 ?_
      refine wp_zret (pc := 15) dX11_isIn_15 rfl rfl (by decide) ?_
      refine wp_eqst (st' := [vI 0]) rfl ?_
      refine wp_if_eq (pc := 7) 27 dX11_law_7 (by decide) (by decide) (fun _ => ?_) (fun hh => absurd hh (by decide))
      refine wp_bipush (pc := 27) dX11_law_27 (by decide) ?_
      refine wp_iret (pc := 29) dX11_law_29 rfl rfl ?_
      have hq := hQ _ Rq.refl
      have e1 : lawA T S a = (-100) := by unfold lawA; first | (rw [if_neg (by omega)]; done) | (rw [if_pos (by omega)])
      rw [e1] at hq; exact hq
    · refine wp_iconst (pc := 10) dX11_isIn_10 ?_
      refine wp_goto (pc := 11) 15 dX11_isIn_11 (by decide) ?_
      refine wp_zret (pc := 15) dX11_isIn_15 rfl rfl (by decide) ?_
      refine wp_eqst (st' := [vI 1]) rfl ?_
      refine wp_if_eq (pc := 7) 27 dX11_law_7 (by decide) (by decide) (fun hh => absurd hh (by decide)) (fun _ => ?_)
      refine wp_aload_n (pc := 10) 0 dX11_law_10 rfl rfl ?_
      refine wp_iload_n (pc := 11) 1 dX11_law_11 rfl rfl ?_
      refine wp_callV (pc := 12) (st := []) (nf' := 153) [vI a] [some (vR 111), some (vI a), none, none] dX11_law_12 rfl c_X11_561 rfl kd_111 (by decide) rfl la_111 rfl (Nat.le_of_ble_eq_true rfl) rfl (Nat.le_of_ble_eq_true rfl) (by omega) (Nat.le_refl _) (Nat.le_refl _) ?_
      refine rs_kinPairs hR hN hw hv hC (by omega) (by omega) ?_
      refine wp_eqst (st' := [vI ((owN T S a : Nat) : Int)]) rfl ?_
      refine wp_aload_n (pc := 15) 0 dX11_law_15 rfl rfl ?_
      refine wp_aload_n (pc := 16) 0 dX11_law_16 rfl rfl ?_
      refine wp_geti (pc := 17) dX11_law_17 rfl f_X11_94 kd_111 la_111 (Or.inl rfl) ?_
      refine wp_eqst (st' := [vI (T 0 15), vR 111, vI ((owN T S a : Nat) : Int)]) (by rw [rt_d hR]) ?_
      refine wp_callV (pc := 20) (st := [vI ((owN T S a : Nat) : Int)]) (nf' := 153) [vI (T 0 15)] [some (vR 111), some (vI (T 0 15)), none, none] dX11_law_20 rfl c_X11_561 rfl kd_111 (by decide) rfl la_111 rfl (Nat.le_of_ble_eq_true rfl) rfl (Nat.le_of_ble_eq_true rfl) (by omega) (Nat.le_refl _) (Nat.le_refl _) ?_
      refine rs_kinPairs hR hN hw hv hC (by omega) (by omega) ?_
      refine wp_eqst (st' := [vI ((owN T S (T 0 15) : Nat) : Int), vI ((owN T S a : Nat) : Int)]) rfl ?_
      refine wp_isub (pc := 23) dX11_law_23 ?_
      refine wp_goto (pc := 24) 29 dX11_law_24 (by decide) ?_
      refine wp_iret (pc := 29) dX11_law_29 rfl rfl ?_
      have hq := hQ _ Rq.refl
      have e1 : lawA T S a = ((owN T S a : Nat) : Int) - ((owN T S (T 0 15) : Nat) : Int) := by unfold lawA; first | (rw [if_neg (by omega)]; done) | (rw [if_pos (by omega)])
      rw [e1] at hq; exact hq
