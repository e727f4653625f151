theorem rl_goSunday {l : Launch} {G : mG} {d : Nat} {I : mI} {L : Nat → Nat → Int} {D : Nat → Nat} {Q : mQ} {T : mT} {S : mS} {B : Int} (hR : RT I T) (hA : I 140 = pS S) (hw : tw T) (hv : sw S B) (hC : TC T) (hX : FX I T) (hcd : ∀ j, inR (T 18 j)) (hB : B ≤ 100000) (hrd : rdOk S) (h63 : I 111 63 = ((called T S : Nat) : Int)) (hk : ∀ c, c < 4 → I 141 c = ((pc8 (readIn T S (c : Int) (called T S)) : Nat) : Int)) (hd : 6 ≤ d) (hQ : ∀ K, Rr I K → K 140 = pS (sunF T S).1 → Q (some (vI (((sunF T S).2 : Nat) : Int))) K (XX L D)) : ∀ i : Nat, i ≤ nQ T → ∀ J, Rr I J → J 140 = pS (sunN T S i).1 → WP l G m_X11_goSunday d 153 J (XX L D) 8 [some (vR 111), some (vI (((sunN T S i).2 : Nat) : Int)), some (vI (i : Int))] [] Q := by
  have b_p := tw_p hw
  have b_q := tw_q hw
  have b_c := tw_c hw
  have eP : nP T = (T 0 12).toNat := rfl
  have eQ : nQ T = (T 0 13).toNat := rfl
  have eC : nC T = (T 0 11).toNat := rfl
  have b2 := called_lt hw S
  refine loop_dn (fun i => ∀ J, Rr I J → J 140 = pS (sunN T S i).1 → WP l G m_X11_goSunday d 153 J (XX L D) 8 [some (vR 111), some (vI (((sunN T S i).2 : Nat) : Int)), some (vI (i : Int))] [] Q) (nQ T) ?_ (fun i hi ih => ?_)
  · intro J hJ hAj
    have hRj := hJ.rt hR
    have h63j : J 111 63 = ((called T S : Nat) : Int) := by rw [hJ 111 (by decide) (by decide) (by decide)]; exact h63
    refine wp_iload_n (pc := 8) 2 dX11_goSunday_8 rfl rfl ?_
    refine wp_aload_n (pc := 9) 0 dX11_goSunday_9 rfl rfl ?_
    refine wp_geti (pc := 10) dX11_goSunday_10 rfl f_X11_415 kd_111 la_111 (Or.inl rfl) ?_
    refine wp_eqst (st' := [vI (T 0 13), vI (((nQ T) : Nat) : Int)]) (by rw [rt_q hRj]) ?_
    refine wp_icmp_ge (pc := 13) 130 dX11_goSunday_13 (by decide) (by omega) (by omega) (fun h_1 => ?_) (fun h_1 => ?_)
    · refine wp_aload_n (pc := 130) 0 dX11_goSunday_130 rfl rfl ?_
      refine wp_getr (pc := 131) dX11_goSunday_131 rfl f_X11_106 kd_111 la_111 rfl (r_111_61 D) ?_
      refine wp_bipush (pc := 134) dX11_goSunday_134 (by decide) ?_
      refine wp_dup2 (pc := 136) dX11_goSunday_136 rfl rfl ?_
      refine wq_iald (pc := 137) 28 dX11_goSunday_137 kd_140 la_140 rfl (by decide) ?_
      refine wp_eqst (st' := [vI ((sunN T S (nQ T)).1 28), vI 28, vR 140]) (by rw [hAj, pS_28]) ?_
      refine wp_iconst (pc := 138) dX11_goSunday_138 ?_
      refine wp_iadd (pc := 139) dX11_goSunday_139 ?_
      refine wq_iast (pc := 140) 28 dX11_goSunday_140 kd_140 la_140 rfl (by decide) ?_
      refine wp_iload_n (pc := 141) 1 dX11_goSunday_141 rfl rfl ?_
      refine wp_iret (pc := 142) dX11_goSunday_142 rfl rfl ?_
      exact hQ _ hJ.up (pS_up28 hAj)
    · exfalso; omega
  · intro J hJ hAj
    have hRj := hJ.rt hR
    have h63j : J 111 63 = ((called T S : Nat) : Int) := by rw [hJ 111 (by decide) (by decide) (by decide)]; exact h63
    obtain ⟨hvi, h28, h23⟩ := sunN_ok (T := T) hv hrd i (by omega)
    have hri : (sunN T S i).1 (23 + i) ≤ (sunN T S i).1 28 := by rw [h23 i (by omega) (Nat.le_refl i), h28]; exact hrd i (by omega)
    have b9 := bit_lt (called T S) i
    have hkj : ∀ c, c < 4 → J 141 c = ((pc8 (readIn T (sunN T S i).1 (c : Int) (called T S)) : Nat) : Int) := fun c hc => by rw [hJ 141 (by decide) (by decide) (by decide), sunN_read hw (by omega)]; exact hk c hc
    have b4 := sw_sun hvi
    have b5 := sw_read hvi (j := i) (by omega)
    have er : (setF (sunN T S i).1 29 (risen T (sunN T S i).1 i (called T S)).2) (23 + i) = (sunN T S i).1 (23 + i) := setF_n (by omega)
    have e28 : (setF (sunN T S i).1 29 (risen T (sunN T S i).1 i (called T S)).2) 28 = (sunN T S i).1 28 := setF_n (by decide)
    have hv1 : sw (setF (sunN T S i).1 29 (risen T (sunN T S i).1 i (called T S)).2) B := sw_29 hvi (rgo_in T (sunN T S i).1 (lisF T (sunN T S i).1 i) (called T S) (nP T) 0 ((sunN T S i).1 29) (sw_seed hvi))
    have hv2 : sw (setF (setF (sunN T S i).1 29 (risen T (sunN T S i).1 i (called T S)).2) (23 + i) ((sunN T S i).1 (23 + i) + 1)) B := sw_23 hv1 (by omega) (by rw [e28]; omega)
    have b6 := tw_one hw i
    have b7 := tw_other hw i
    have b10 := wwF_in hw (setF (setF (sunN T S i).1 29 (risen T (sunN T S i).1 i (called T S)).2) (23 + i) ((sunN T S i).1 (23 + i) + 1)) (T 6 i) i (nQ T)
    have b11 := wwF_in hw (setF (setF (sunN T S i).1 29 (risen T (sunN T S i).1 i (called T S)).2) (23 + i) ((sunN T S i).1 (23 + i) + 1)) (T 7 i) i (nQ T)
    refine wp_iload_n (pc := 8) 2 dX11_goSunday_8 rfl rfl ?_
    refine wp_aload_n (pc := 9) 0 dX11_goSunday_9 rfl rfl ?_
    refine wp_geti (pc := 10) dX11_goSunday_10 rfl f_X11_415 kd_111 la_111 (Or.inl rfl) ?_
    refine wp_eqst (st' := [vI (T 0 13), vI (i : Int)]) (by rw [rt_q hRj]) ?_
    refine wp_icmp_ge (pc := 13) 130 dX11_goSunday_13 (by decide) (by omega) (by omega) (fun h_1 => ?_) (fun h_1 => ?_)
    · exfalso; omega
    · refine wp_aload_n (pc := 16) 0 dX11_goSunday_16 rfl rfl ?_
      refine wp_geti (pc := 17) dX11_goSunday_17 rfl f_X11_473 kd_111 la_111 (Or.inl rfl) ?_
      refine wp_eqst (st' := [vI ((called T S : Nat) : Int)]) (by rw [h63j]) ?_
      refine wp_iload_n (pc := 20) 2 dX11_goSunday_20 rfl rfl ?_
      refine wn_shr (pc := 21) (Int.toNat ((called T S : Nat) : Int)) i dX11_goSunday_21 (by omega) rfl (by omega) (by omega) ?_
      refine wp_iconst (pc := 22) dX11_goSunday_22 ?_
      refine wn_mask (pc := 23) ((Int.toNat ((called T S : Nat) : Int)) / 2 ^ i) 1 dX11_goSunday_23 rfl rfl (by decide) ?_
      refine wp_if_ne (pc := 24) 30 dX11_goSunday_24 (by decide) (by omega) (fun h_2 => ?_) (fun h_2 => ?_)
      · refine wp_aload_n (pc := 30) 0 dX11_goSunday_30 rfl rfl ?_
        refine wp_iload_n (pc := 31) 2 dX11_goSunday_31 rfl rfl ?_
        refine wp_callV (pc := 32) (st := []) (nf' := 153) [vI (i : Int)] [some (vR 111), some (vI (i : Int)), none, none] dX11_goSunday_32 rfl c_X11_503 rfl kd_111 (by decide) rfl la_111 rfl (Nat.le_of_ble_eq_true rfl) rfl (Nat.le_of_ble_eq_true rfl) (by omega) (Nat.le_refl _) (Nat.le_refl _) ?_
        refine rs_isRisen (cl := (called T S)) i rfl hRj hAj hw hvi hC (hJ.fx hX) hcd (by omega) hi hkj (by omega) (fun K hK hAk => ⟨fun hr => ?_, fun hr => ?_⟩)
        · have hRk := hK.rt hRj
          refine wp_eqst (st' := [vI 1]) rfl ?_
          refine wp_if_eq (pc := 35) 51 dX11_goSunday_35 (by decide) (by decide) (fun hh => absurd hh (by decide)) (fun _ => ?_)
          refine wp_aload_n (pc := 38) 0 dX11_goSunday_38 rfl rfl ?_
          refine wp_getr (pc := 39) dX11_goSunday_39 rfl f_X11_106 kd_111 la_111 rfl (r_111_61 D) ?_
          refine wp_bipush (pc := 42) dX11_goSunday_42 (by decide) ?_
          refine wp_iload_n (pc := 44) 2 dX11_goSunday_44 rfl rfl ?_
          refine wp_iadd (pc := 45) dX11_goSunday_45 ?_
          refine wp_iconst (pc := 46) dX11_goSunday_46 ?_
          refine wq_iast (pc := 47) (8 + i) dX11_goSunday_47 kd_140 la_140 (by omega) (by omega) ?_
          refine wp_goto (pc := 48) 124 dX11_goSunday_48 (by decide) ?_
          refine wq_iinc (pc := 124) [some (vR 111), some (vI (((sunN T S i).2 : Nat) : Int)), some (vI ((i : Int) + 1))] dX11_goSunday_124 rfl rfl (by decide) rfl ?_
          refine wp_goto (pc := 127) 8 dX11_goSunday_127 (by decide) ?_
          have e0 : (called T S).testBit i = true := (bit_iff _ i).mp (by rw [Int.toNat_natCast] at h_2; omega)
          have ew : wedStep T (sunN T S i).1 i (called T S) = (setF (setF (sunN T S i).1 29 (risen T (sunN T S i).1 i (called T S)).2) (8 + i) 2, false) := by unfold wedStep; rw [if_pos hr]
          have e1 : sunN T S (i + 1) = (setF (setF (sunN T S i).1 29 (risen T (sunN T S i).1 i (called T S)).2) (8 + i) 2, (sunN T S i).2) := by rw [show sunN T S (i + 1) = sunStep T (called T S) i (sunN T S i) from rfl]; unfold sunStep; rw [if_pos e0, ew]; rfl
          refine wp_eqls (ls' := [some (vR 111), some (vI (((sunN T S (i + 1)).2 : Nat) : Int)), some (vI (((i + 1) : Nat) : Int))]) (by rw [e1]; rfl) (ih _ (hJ.trans hK.up) (by rw [e1]; exact pS_up8 (by omega) hAk))
        · have hRk := hK.rt hRj
          refine wp_eqst (st' := [vI 0]) rfl ?_
          refine wp_if_eq (pc := 35) 51 dX11_goSunday_35 (by decide) (by decide) (fun _ => ?_) (fun hh => absurd hh (by decide))
          refine wp_aload_n (pc := 51) 0 dX11_goSunday_51 rfl rfl ?_
          refine wp_getr (pc := 52) dX11_goSunday_52 rfl f_X11_106 kd_111 la_111 rfl (r_111_61 D) ?_
          refine wp_bipush (pc := 55) dX11_goSunday_55 (by decide) ?_
          refine wp_iload_n (pc := 57) 2 dX11_goSunday_57 rfl rfl ?_
          refine wp_iadd (pc := 58) dX11_goSunday_58 ?_
          refine wp_dup2 (pc := 59) dX11_goSunday_59 rfl rfl ?_
          refine wq_iald (pc := 60) (13 + i) dX11_goSunday_60 kd_140 la_140 (by omega) (by omega) ?_
          refine wp_eqst (st' := [vI ((setF (sunN T S i).1 29 (risen T (sunN T S i).1 i (called T S)).2) (23 + i)), vI (13 + (i : Int)), vR 140]) (by rw [hAk, pS_13 (by omega)]) ?_
          refine wp_iconst (pc := 61) dX11_goSunday_61 ?_
          refine wp_iadd (pc := 62) dX11_goSunday_62 ?_
          refine wq_iast (pc := 63) (13 + i) dX11_goSunday_63 kd_140 la_140 (by omega) (by omega) ?_
          refine wp_eqI (I' := up K 140 (13 + i) ((sunN T S i).1 (23 + i) + 1)) (by rw [er]) ?_
          have hK2 : Rr J (up K 140 (13 + i) ((sunN T S i).1 (23 + i) + 1)) := hK.up
          have hR2 := hK2.rt hRj
          have hA2 : (up K 140 (13 + i) ((sunN T S i).1 (23 + i) + 1)) 140 = pS (setF (setF (sunN T S i).1 29 (risen T (sunN T S i).1 i (called T S)).2) (23 + i) ((sunN T S i).1 (23 + i) + 1)) := pS_up13 (by omega) hAk
          refine wp_aload_n (pc := 64) 0 dX11_goSunday_64 rfl rfl ?_
          refine wp_getr (pc := 65) dX11_goSunday_65 rfl f_X11_106 kd_111 la_111 rfl (r_111_61 D) ?_
          refine wp_bipush (pc := 68) dX11_goSunday_68 (by decide) ?_
          refine wp_iload_n (pc := 70) 2 dX11_goSunday_70 rfl rfl ?_
          refine wp_iadd (pc := 71) dX11_goSunday_71 ?_
          refine wq_iald (pc := 72) (13 + i) dX11_goSunday_72 kd_140 la_140 (by omega) (by omega) ?_
          refine wp_eqst (st' := [vI ((sunN T S i).1 (23 + i) + 1)]) (by rw [up_s]) ?_
          refine wp_iconst (pc := 73) dX11_goSunday_73 ?_
          refine wp_icmp_lt (pc := 74) 124 dX11_goSunday_74 (by decide) (by omega) (by decide) (fun h_3 => ?_) (fun h_3 => ?_)
          · refine wq_iinc (pc := 124) [some (vR 111), some (vI (((sunN T S i).2 : Nat) : Int)), some (vI ((i : Int) + 1))] dX11_goSunday_124 rfl rfl (by decide) rfl ?_
            refine wp_goto (pc := 127) 8 dX11_goSunday_127 (by decide) ?_
            have e0 : (called T S).testBit i = true := (bit_iff _ i).mp (by rw [Int.toNat_natCast] at h_2; omega)
            have ew : wedStep T (sunN T S i).1 i (called T S) = (setF (setF (sunN T S i).1 29 (risen T (sunN T S i).1 i (called T S)).2) (23 + i) ((sunN T S i).1 (23 + i) + 1), false) := by unfold wedStep; rw [if_neg (by rw [hr]; decide), if_pos (by first | (left; omega) | (right; rw [wed_ref hw]; omega))]
            have e1 : sunN T S (i + 1) = (setF (setF (sunN T S i).1 29 (risen T (sunN T S i).1 i (called T S)).2) (23 + i) ((sunN T S i).1 (23 + i) + 1), (sunN T S i).2) := by rw [show sunN T S (i + 1) = sunStep T (called T S) i (sunN T S i) from rfl]; unfold sunStep; rw [if_pos e0, ew]; rfl
            refine wp_eqls (ls' := [some (vR 111), some (vI (((sunN T S (i + 1)).2 : Nat) : Int)), some (vI (((i + 1) : Nat) : Int))]) (by rw [e1]; rfl) (ih _ (hJ.trans hK2) (by rw [e1]; exact hA2))
          · refine wp_aload_n (pc := 77) 0 dX11_goSunday_77 rfl rfl ?_
            refine wp_aload_n (pc := 78) 0 dX11_goSunday_78 rfl rfl ?_
            refine wp_getr (pc := 79) dX11_goSunday_79 rfl f_X11_81 kd_111 la_111 rfl (r_111_38 D) ?_
            refine wp_iload_n (pc := 82) 2 dX11_goSunday_82 rfl rfl ?_
            refine wq_iald (pc := 83) i dX11_goSunday_83 kd_134 la_134 rfl (by omega) ?_
            refine wp_eqst (st' := [vI (T 6 i), vR 111]) (by rw [up_c (by omega), rt_one hRk (by omega)]) ?_
            refine wp_iload_n (pc := 84) 2 dX11_goSunday_84 rfl rfl ?_
            refine wp_callV (pc := 85) (st := []) (nf' := 153) [vI (T 6 i), vI (i : Int)] [some (vR 111), some (vI (T 6 i)), some (vI (i : Int)), none, none] dX11_goSunday_85 rfl c_X11_455 rfl kd_111 (by decide) rfl la_111 rfl (Nat.le_of_ble_eq_true rfl) rfl (Nat.le_of_ble_eq_true rfl) (by omega) (Nat.le_refl _) (Nat.le_refl _) ?_
            refine rs_wedWith hR2 hA2 hw hv2 (by omega) (by omega) (by omega) ?_
            refine wp_eqst (st' := [vI (wwF T (setF (setF (sunN T S i).1 29 (risen T (sunN T S i).1 i (called T S)).2) (23 + i) ((sunN T S i).1 (23 + i) + 1)) (T 6 i) (i : Int) (nQ T))]) rfl ?_
            refine wp_if_ge (pc := 88) 124 dX11_goSunday_88 (by decide) (by omega) (fun h_4 => ?_) (fun h_4 => ?_)
            · refine wq_iinc (pc := 124) [some (vR 111), some (vI (((sunN T S i).2 : Nat) : Int)), some (vI ((i : Int) + 1))] dX11_goSunday_124 rfl rfl (by decide) rfl ?_
              refine wp_goto (pc := 127) 8 dX11_goSunday_127 (by decide) ?_
              have e0 : (called T S).testBit i = true := (bit_iff _ i).mp (by rw [Int.toNat_natCast] at h_2; omega)
              have ew : wedStep T (sunN T S i).1 i (called T S) = (setF (setF (sunN T S i).1 29 (risen T (sunN T S i).1 i (called T S)).2) (23 + i) ((sunN T S i).1 (23 + i) + 1), false) := by unfold wedStep; rw [if_neg (by rw [hr]; decide), if_pos (by first | (left; omega) | (right; rw [wed_ref hw]; omega))]
              have e1 : sunN T S (i + 1) = (setF (setF (sunN T S i).1 29 (risen T (sunN T S i).1 i (called T S)).2) (23 + i) ((sunN T S i).1 (23 + i) + 1), (sunN T S i).2) := by rw [show sunN T S (i + 1) = sunStep T (called T S) i (sunN T S i) from rfl]; unfold sunStep; rw [if_pos e0, ew]; rfl
              refine wp_eqls (ls' := [some (vR 111), some (vI (((sunN T S (i + 1)).2 : Nat) : Int)), some (vI (((i + 1) : Nat) : Int))]) (by rw [e1]; rfl) (ih _ (hJ.trans hK2) (by rw [e1]; exact hA2))
            · refine wp_aload_n (pc := 91) 0 dX11_goSunday_91 rfl rfl ?_
              refine wp_aload_n (pc := 92) 0 dX11_goSunday_92 rfl rfl ?_
              refine wp_getr (pc := 93) dX11_goSunday_93 rfl f_X11_84 kd_111 la_111 rfl (r_111_39 D) ?_
              refine wp_iload_n (pc := 96) 2 dX11_goSunday_96 rfl rfl ?_
              refine wq_iald (pc := 97) i dX11_goSunday_97 kd_135 la_135 rfl (by omega) ?_
              refine wp_eqst (st' := [vI (T 7 i), vR 111]) (by rw [up_c (by omega), rt_other hRk (by omega)]) ?_
              refine wp_iload_n (pc := 98) 2 dX11_goSunday_98 rfl rfl ?_
              refine wp_callV (pc := 99) (st := []) (nf' := 153) [vI (T 7 i), vI (i : Int)] [some (vR 111), some (vI (T 7 i)), some (vI (i : Int)), none, none] dX11_goSunday_99 rfl c_X11_455 rfl kd_111 (by decide) rfl la_111 rfl (Nat.le_of_ble_eq_true rfl) rfl (Nat.le_of_ble_eq_true rfl) (by omega) (Nat.le_refl _) (Nat.le_refl _) ?_
              refine rs_wedWith hR2 hA2 hw hv2 (by omega) (by omega) (by omega) ?_
              refine wp_eqst (st' := [vI (wwF T (setF (setF (sunN T S i).1 29 (risen T (sunN T S i).1 i (called T S)).2) (23 + i) ((sunN T S i).1 (23 + i) + 1)) (T 7 i) (i : Int) (nQ T))]) rfl ?_
              refine wp_if_lt (pc := 102) 108 dX11_goSunday_102 (by decide) (by omega) (fun h_5 => ?_) (fun h_5 => ?_)
              · refine wp_aload_n (pc := 108) 0 dX11_goSunday_108 rfl rfl ?_
                refine wp_getr (pc := 109) dX11_goSunday_109 rfl f_X11_106 kd_111 la_111 rfl (r_111_61 D) ?_
                refine wp_bipush (pc := 112) dX11_goSunday_112 (by decide) ?_
                refine wp_iload_n (pc := 114) 2 dX11_goSunday_114 rfl rfl ?_
                refine wp_iadd (pc := 115) dX11_goSunday_115 ?_
                refine wp_iconst (pc := 116) dX11_goSunday_116 ?_
                refine wq_iast (pc := 117) (8 + i) dX11_goSunday_117 kd_140 la_140 (by omega) (by omega) ?_
                refine wp_iload_n (pc := 118) 1 dX11_goSunday_118 rfl rfl ?_
                refine wp_iconst (pc := 119) dX11_goSunday_119 ?_
                refine wp_iload_n (pc := 120) 2 dX11_goSunday_120 rfl rfl ?_
                refine wn_shl1 (pc := 121) i dX11_goSunday_121 rfl (by omega) ?_
                refine wn_or (pc := 122) ((sunN T S i).2) (2 ^ i) dX11_goSunday_122 rfl rfl ?_
                refine wq_istore_n (pc := 123) 1 [some (vR 111), some (vI ((((sunN T S i).2) ||| (2 ^ i) : Nat) : Int)), some (vI (i : Int))] dX11_goSunday_123 rfl rfl (by decide) rfl ?_
                refine wq_iinc (pc := 124) [some (vR 111), some (vI ((((sunN T S i).2) ||| (2 ^ i) : Nat) : Int)), some (vI ((i : Int) + 1))] dX11_goSunday_124 rfl rfl (by decide) rfl ?_
                refine wp_goto (pc := 127) 8 dX11_goSunday_127 (by decide) ?_
                have e0 : (called T S).testBit i = true := (bit_iff _ i).mp (by rw [Int.toNat_natCast] at h_2; omega)
                have ew : wedStep T (sunN T S i).1 i (called T S) = (setF (setF (setF (sunN T S i).1 29 (risen T (sunN T S i).1 i (called T S)).2) (23 + i) ((sunN T S i).1 (23 + i) + 1)) (8 + i) 1, true) := by unfold wedStep; rw [if_neg (by rw [hr]; decide), if_neg (by intro x; rcases x with x | x; omega; rw [wed_ref hw] at x; omega)]
                have e1 : sunN T S (i + 1) = (setF (setF (setF (sunN T S i).1 29 (risen T (sunN T S i).1 i (called T S)).2) (23 + i) ((sunN T S i).1 (23 + i) + 1)) (8 + i) 1, (sunN T S i).2 ||| 2 ^ i) := by rw [show sunN T S (i + 1) = sunStep T (called T S) i (sunN T S i) from rfl]; unfold sunStep; rw [if_pos e0, ew]; rfl
                refine wp_eqls (ls' := [some (vR 111), some (vI (((sunN T S (i + 1)).2 : Nat) : Int)), some (vI (((i + 1) : Nat) : Int))]) (by rw [e1]; rfl) (ih _ (hJ.trans hK2.up) (by rw [e1]; exact pS_up8 (by omega) hA2))
              · refine wp_goto (pc := 105) 124 dX11_goSunday_105 (by decide) ?_
                refine wq_iinc (pc := 124) [some (vR 111), some (vI (((sunN T S i).2 : Nat) : Int)), some (vI ((i : Int) + 1))] dX11_goSunday_124 rfl rfl (by decide) rfl ?_
                refine wp_goto (pc := 127) 8 dX11_goSunday_127 (by decide) ?_
                have e0 : (called T S).testBit i = true := (bit_iff _ i).mp (by rw [Int.toNat_natCast] at h_2; omega)
                have ew : wedStep T (sunN T S i).1 i (called T S) = (setF (setF (sunN T S i).1 29 (risen T (sunN T S i).1 i (called T S)).2) (23 + i) ((sunN T S i).1 (23 + i) + 1), false) := by unfold wedStep; rw [if_neg (by rw [hr]; decide), if_pos (by first | (left; omega) | (right; rw [wed_ref hw]; omega))]
                have e1 : sunN T S (i + 1) = (setF (setF (sunN T S i).1 29 (risen T (sunN T S i).1 i (called T S)).2) (23 + i) ((sunN T S i).1 (23 + i) + 1), (sunN T S i).2) := by rw [show sunN T S (i + 1) = sunStep T (called T S) i (sunN T S i) from rfl]; unfold sunStep; rw [if_pos e0, ew]; rfl
                refine wp_eqls (ls' := [some (vR 111), some (vI (((sunN T S (i + 1)).2 : Nat) : Int)), some (vI (((i + 1) : Nat) : Int))]) (by rw [e1]; rfl) (ih _ (hJ.trans hK2) (by rw [e1]; exact hA2))
      · refine wp_goto (pc := 27) 124 dX11_goSunday_27 (by decide) ?_
        refine wq_iinc (pc := 124) [some (vR 111), some (vI (((sunN T S i).2 : Nat) : Int)), some (vI ((i : Int) + 1))] dX11_goSunday_124 rfl rfl (by decide) rfl ?_
        refine wp_goto (pc := 127) 8 dX11_goSunday_127 (by decide) ?_
        have e1 : sunN T S (i + 1) = sunN T S i := if_neg (fun x => by have y := (bit_iff _ i).mpr x; rw [Int.toNat_natCast] at h_2; omega)
        refine wp_eqls (ls' := [some (vR 111), some (vI (((sunN T S (i + 1)).2 : Nat) : Int)), some (vI (((i + 1) : Nat) : Int))]) (by rw [e1]; rfl) (ih J hJ (by rw [e1]; exact hAj))

/-- all but the reference's scratch and its air is as it was -/
def Rg (I J : mI) : Prop := (∀ b, b ≠ 111 → b ≠ 140 → b ≠ 141 → b ≠ 120 → b ≠ 119 → J b = I b) ∧ ∀ j, j ≠ 63 → j ≠ 67 → j ≠ 68 → J 111 j = I 111 j
theorem Rg.refl {I : mI} : Rg I I := ⟨fun _ _ _ _ _ _ => rfl, fun _ _ _ _ => rfl⟩
theorem Rg.trans {I J K : mI} (h : Rg I J) (h2 : Rg J K) : Rg I K := ⟨fun b g1 g2 g3 g4 g5 => (h2.1 b g1 g2 g3 g4 g5).trans (h.1 b g1 g2 g3 g4 g5), fun j g1 g2 g3 => (h2.2 j g1 g2 g3).trans (h.2 j g1 g2 g3)⟩
theorem Rc.rg {I J : mI} (h : Rc I J) : Rg I J := ⟨fun b g1 _ g3 g4 g5 => h.1 b g1 g3 g4 g5, h.2⟩
theorem Rr.rg {I J : mI} (h : Rr I J) : Rg I J := ⟨fun b _ g2 _ g4 g5 => h b g2 g4 g5, fun j _ _ _ => by rw [h 111 (by decide) (by decide) (by decide)]⟩
theorem Rg.rq {I J : mI} (h : Rg I J) : Rq I J := ⟨fun b g1 g2 g3 g4 g5 _ _ => h.1 b g1 g2 g3 g4 g5, h.2⟩
theorem Rg.ld {I J : mI} (h : ∀ b, b ≠ 140 → J b = I b) : Rg I J := ⟨fun b _ g _ _ _ => h b g, fun j _ _ _ => by rw [h 111 (by decide)]⟩
theorem Rg.rt {I J : mI} {T : mT} (h : Rg I J) (hR : RT I T) : RT J T := hR.fr (fun b g1 g2 => h.1 b (by omega) (by omega) (by omega) (by omega) (by omega)) (fun j g1 g2 => h.2 j (by omega) (by omega) (by omega))
theorem Rg.fx {I J : mI} {T : mT} (h : Rg I J) (hX : FX I T) : FX J T := by
  unfold FX
  rw [h.2 18 (by decide) (by decide) (by decide), h.1 116 (by decide) (by decide) (by decide) (by decide) (by decide), h.1 117 (by decide) (by decide) (by decide) (by decide) (by decide)]
  exact hX
theorem Rg.up {I J : mI} {k : Nat} {v : Int} (h : Rg I J) : Rg I (up J 140 k v) := ⟨fun b g1 g2 g3 g4 g5 => by rw [← h.1 b g1 g2 g3 g4 g5]; exact funext fun j => up_c g2, fun j g1 g2 g3 => by rw [up_c (by decide)]; exact h.2 j g1 g2 g3⟩

theorem rs_goSunday {l : Launch} {G : mG} {d : Nat} {I : mI} {L : Nat → Nat → Int} {D : Nat → Nat} {Q : mQ} {T : mT} {S : mS} {B : Int}  (hR : RT I T) (hA : I 140 = pS S) (hw : tw T) (hv : sw S B) (hC : TC T) (hX : FX I T) (hcd : ∀ j, inR (T 18 j)) (hB : B ≤ 100000) (hrd : rdOk S) (hd : 6 ≤ d) (hQ : ∀ K, Rg I K → K 140 = pS (sunF T S).1 → Q (some (vI (((sunF T S).2 : Nat) : Int))) K (XX L D)) : WP l G m_X11_goSunday d 153 I (XX L D) 0 [some (vR 111), none, none] [] Q := by
  have b_p := tw_p hw
  have b_q := tw_q hw
  have b_c := tw_c hw
  have eP : nP T = (T 0 12).toNat := rfl
  have eQ : nQ T = (T 0 13).toNat := rfl
  have eC : nC T = (T 0 11).toNat := rfl
  refine wp_aload_n (pc := 0) 0 dX11_goSunday_0 rfl rfl ?_
  refine wp_callV (pc := 1) (st := []) (nf' := 153) [] [some (vR 111), none, none, none] dX11_goSunday_1 rfl c_X11_488 rfl kd_111 (by decide) rfl la_111 rfl (Nat.le_of_ble_eq_true rfl) rfl (Nat.le_of_ble_eq_true rfl) (by omega) (Nat.le_refl _) (Nat.le_refl _) ?_
  refine rs_layRead hR hA hw hv hC (by omega) (by omega) (fun K hK hK63 hK141 => ?_)
  have hRK := hK.rt hR
  have hAK := hK.air hA
  have hkK : ∀ c, c < 4 → K 141 c = ((pc8 (readIn T S (c : Int) (called T S)) : Nat) : Int) := fun c hc => (hK141 c hc).trans (calls_read hw hv c)
  refine wp_eqst (st' := []) rfl ?_
  refine wp_iconst (pc := 4) dX11_goSunday_4 ?_
  refine wq_istore_n (pc := 5) 1 [some (vR 111), some (vI 0), none] dX11_goSunday_5 rfl rfl (by decide) rfl ?_
  refine wp_iconst (pc := 6) dX11_goSunday_6 ?_
  refine wq_istore_n (pc := 7) 2 [some (vR 111), some (vI 0), some (vI 0)] dX11_goSunday_7 rfl rfl (by decide) rfl ?_
  exact rl_goSunday hRK hAK hw hv hC (hK.fx hX) hcd hB hrd hK63 hkK hd (fun N hN hAN => hQ N (hK.rg.trans hN.rg) hAN) 0 (Nat.zero_le _) K Rr.refl hAK
