/-! sign, asked, openUp, unit -/
theorem rs_sign {l : Launch} {G : mG} {d : Nat} {I : mI} {L : Nat → Nat → Int} {D : Nat → Nat} {Q : mQ} {b g : Nat → Int} {n c : Nat} (hB : RB0 I L b g n c) (hd : 1 ≤ d) (hQ : Q (some (vI (sg b c))) I (XX L D)) : WP l G m_X11_sign d 153 I (XX L D) 0 [some (vR 111)] [] Q := by
  have tr := ts_rng b c
  have kw := wi_in b c
  refine wp_aload_n (pc := 0) 0 dX11_sign_0 rfl rfl ?_
  refine wp_ldc2 (pc := 1) (z := 6385252) dX11_sign_1 rfl k_X11_196 rfl ?_
  refine wp_callV (pc := 4) (st := []) (nf' := 153) [vJ 6385252] [some (vR 111), some (vJ 6385252), none] dX11_sign_4 rfl c_X11_234 rfl kd_111 (by decide) rfl la_111 rfl (Nat.le_of_ble_eq_true rfl) rfl (Nat.le_of_ble_eq_true rfl) (by omega) (Nat.le_refl _) (Nat.le_refl _) ?_
  refine rs_isWord (k := 4) hB.1.1 hB.2.1 hB.2.2.1 (by decide) rfl (by omega) (fun h_1 => ?_) (fun h_1 => ?_)
  · refine wp_eqst (st' := [vI 1]) rfl ?_
    refine wp_if_eq (pc := 7) 13 dX11_sign_7 (by decide) (by decide) (fun hh => absurd hh (by decide)) (fun _ => ?_)
    refine wp_bipush (pc := 10) dX11_sign_10 (by decide) ?_
    refine wp_iret (pc := 12) dX11_sign_12 rfl rfl ?_
    rw [show sg b c = 38 from (by unfold sg; (repeat (first | rw [if_pos (by omega)] | rw [if_neg (by omega)])))] at hQ; exact hQ
  · refine wp_eqst (st' := [vI 0]) rfl ?_
    refine wp_if_eq (pc := 7) 13 dX11_sign_7 (by decide) (by decide) (fun _ => ?_) (fun hh => absurd hh (by decide))
    refine wp_aload_n (pc := 13) 0 dX11_sign_13 rfl rfl ?_
    refine wp_ldc2 (pc := 14) (z := 28530) dX11_sign_14 rfl k_X11_226 rfl ?_
    refine wp_callV (pc := 17) (st := []) (nf' := 153) [vJ 28530] [some (vR 111), some (vJ 28530), none] dX11_sign_17 rfl c_X11_234 rfl kd_111 (by decide) rfl la_111 rfl (Nat.le_of_ble_eq_true rfl) rfl (Nat.le_of_ble_eq_true rfl) (by omega) (Nat.le_refl _) (Nat.le_refl _) ?_
    refine rs_isWord (k := 15) hB.1.1 hB.2.1 hB.2.2.1 (by decide) rfl (by omega) (fun h_2 => ?_) (fun h_2 => ?_)
    · refine wp_eqst (st' := [vI 1]) rfl ?_
      refine wp_if_eq (pc := 20) 26 dX11_sign_20 (by decide) (by decide) (fun hh => absurd hh (by decide)) (fun _ => ?_)
      refine wp_bipush (pc := 23) dX11_sign_23 (by decide) ?_
      refine wp_iret (pc := 25) dX11_sign_25 rfl rfl ?_
      rw [show sg b c = 124 from (by unfold sg; (repeat (first | rw [if_pos (by omega)] | rw [if_neg (by omega)])))] at hQ; exact hQ
    · refine wp_eqst (st' := [vI 0]) rfl ?_
      refine wp_if_eq (pc := 20) 26 dX11_sign_20 (by decide) (by decide) (fun _ => ?_) (fun hh => absurd hh (by decide))
      refine wp_aload_n (pc := 26) 0 dX11_sign_26 rfl rfl ?_
      refine wp_geti (pc := 27) dX11_sign_27 rfl f_X11_172 kd_111 la_111 (Or.inl rfl) ?_
      refine wp_eqst (st' := [vI (ts b c)]) (by rw [hB.2.2.1.1]) ?_
      refine wp_bipush (pc := 30) dX11_sign_30 (by decide) ?_
      refine wp_icmp_eq (pc := 32) 98 dX11_sign_32 (by decide) (by omega) (by decide) (fun h_3 => ?_) (fun h_3 => ?_)
      · refine wp_aload_n (pc := 98) 0 dX11_sign_98 rfl rfl ?_
        refine wp_geti (pc := 99) dX11_sign_99 rfl f_X11_172 kd_111 la_111 (Or.inl rfl) ?_
        refine wp_eqst (st' := [vI (ts b c)]) (by rw [hB.2.2.1.1]) ?_
        refine wp_goto (pc := 102) 106 dX11_sign_102 (by decide) ?_
        refine wp_iret (pc := 106) dX11_sign_106 rfl rfl ?_
        rw [show sg b c = ts b c from (by unfold sg; (repeat (first | rw [if_pos (by omega)] | rw [if_neg (by omega)])))] at hQ; exact hQ
      · refine wp_aload_n (pc := 35) 0 dX11_sign_35 rfl rfl ?_
        refine wp_geti (pc := 36) dX11_sign_36 rfl f_X11_172 kd_111 la_111 (Or.inl rfl) ?_
        refine wp_eqst (st' := [vI (ts b c)]) (by rw [hB.2.2.1.1]) ?_
        refine wp_bipush (pc := 39) dX11_sign_39 (by decide) ?_
        refine wp_icmp_eq (pc := 41) 98 dX11_sign_41 (by decide) (by omega) (by decide) (fun h_4 => ?_) (fun h_4 => ?_)
        · refine wp_aload_n (pc := 98) 0 dX11_sign_98 rfl rfl ?_
          refine wp_geti (pc := 99) dX11_sign_99 rfl f_X11_172 kd_111 la_111 (Or.inl rfl) ?_
          refine wp_eqst (st' := [vI (ts b c)]) (by rw [hB.2.2.1.1]) ?_
          refine wp_goto (pc := 102) 106 dX11_sign_102 (by decide) ?_
          refine wp_iret (pc := 106) dX11_sign_106 rfl rfl ?_
          rw [show sg b c = ts b c from (by unfold sg; (repeat (first | rw [if_pos (by omega)] | rw [if_neg (by omega)])))] at hQ; exact hQ
        · refine wp_aload_n (pc := 44) 0 dX11_sign_44 rfl rfl ?_
          refine wp_geti (pc := 45) dX11_sign_45 rfl f_X11_172 kd_111 la_111 (Or.inl rfl) ?_
          refine wp_eqst (st' := [vI (ts b c)]) (by rw [hB.2.2.1.1]) ?_
          refine wp_bipush (pc := 48) dX11_sign_48 (by decide) ?_
          refine wp_icmp_eq (pc := 50) 98 dX11_sign_50 (by decide) (by omega) (by decide) (fun h_5 => ?_) (fun h_5 => ?_)
          · refine wp_aload_n (pc := 98) 0 dX11_sign_98 rfl rfl ?_
            refine wp_geti (pc := 99) dX11_sign_99 rfl f_X11_172 kd_111 la_111 (Or.inl rfl) ?_
            refine wp_eqst (st' := [vI (ts b c)]) (by rw [hB.2.2.1.1]) ?_
            refine wp_goto (pc := 102) 106 dX11_sign_102 (by decide) ?_
            refine wp_iret (pc := 106) dX11_sign_106 rfl rfl ?_
            rw [show sg b c = ts b c from (by unfold sg; (repeat (first | rw [if_pos (by omega)] | rw [if_neg (by omega)])))] at hQ; exact hQ
          · refine wp_aload_n (pc := 53) 0 dX11_sign_53 rfl rfl ?_
            refine wp_geti (pc := 54) dX11_sign_54 rfl f_X11_172 kd_111 la_111 (Or.inl rfl) ?_
            refine wp_eqst (st' := [vI (ts b c)]) (by rw [hB.2.2.1.1]) ?_
            refine wp_bipush (pc := 57) dX11_sign_57 (by decide) ?_
            refine wp_icmp_eq (pc := 59) 98 dX11_sign_59 (by decide) (by omega) (by decide) (fun h_6 => ?_) (fun h_6 => ?_)
            · refine wp_aload_n (pc := 98) 0 dX11_sign_98 rfl rfl ?_
              refine wp_geti (pc := 99) dX11_sign_99 rfl f_X11_172 kd_111 la_111 (Or.inl rfl) ?_
              refine wp_eqst (st' := [vI (ts b c)]) (by rw [hB.2.2.1.1]) ?_
              refine wp_goto (pc := 102) 106 dX11_sign_102 (by decide) ?_
              refine wp_iret (pc := 106) dX11_sign_106 rfl rfl ?_
              rw [show sg b c = ts b c from (by unfold sg; (repeat (first | rw [if_pos (by omega)] | rw [if_neg (by omega)])))] at hQ; exact hQ
            · refine wp_aload_n (pc := 62) 0 dX11_sign_62 rfl rfl ?_
              refine wp_geti (pc := 63) dX11_sign_63 rfl f_X11_172 kd_111 la_111 (Or.inl rfl) ?_
              refine wp_eqst (st' := [vI (ts b c)]) (by rw [hB.2.2.1.1]) ?_
              refine wp_bipush (pc := 66) dX11_sign_66 (by decide) ?_
              refine wp_icmp_eq (pc := 68) 98 dX11_sign_68 (by decide) (by omega) (by decide) (fun h_7 => ?_) (fun h_7 => ?_)
              · refine wp_aload_n (pc := 98) 0 dX11_sign_98 rfl rfl ?_
                refine wp_geti (pc := 99) dX11_sign_99 rfl f_X11_172 kd_111 la_111 (Or.inl rfl) ?_
                refine wp_eqst (st' := [vI (ts b c)]) (by rw [hB.2.2.1.1]) ?_
                refine wp_goto (pc := 102) 106 dX11_sign_102 (by decide) ?_
                refine wp_iret (pc := 106) dX11_sign_106 rfl rfl ?_
                rw [show sg b c = ts b c from (by unfold sg; (repeat (first | rw [if_pos (by omega)] | rw [if_neg (by omega)])))] at hQ; exact hQ
              · refine wp_aload_n (pc := 71) 0 dX11_sign_71 rfl rfl ?_
                refine wp_geti (pc := 72) dX11_sign_72 rfl f_X11_172 kd_111 la_111 (Or.inl rfl) ?_
                refine wp_eqst (st' := [vI (ts b c)]) (by rw [hB.2.2.1.1]) ?_
                refine wp_bipush (pc := 75) dX11_sign_75 (by decide) ?_
                refine wp_icmp_eq (pc := 77) 98 dX11_sign_77 (by decide) (by omega) (by decide) (fun h_8 => ?_) (fun h_8 => ?_)
                · refine wp_aload_n (pc := 98) 0 dX11_sign_98 rfl rfl ?_
                  refine wp_geti (pc := 99) dX11_sign_99 rfl f_X11_172 kd_111 la_111 (Or.inl rfl) ?_
                  refine wp_eqst (st' := [vI (ts b c)]) (by rw [hB.2.2.1.1]) ?_
                  refine wp_goto (pc := 102) 106 dX11_sign_102 (by decide) ?_
                  refine wp_iret (pc := 106) dX11_sign_106 rfl rfl ?_
                  rw [show sg b c = ts b c from (by unfold sg; (repeat (first | rw [if_pos (by omega)] | rw [if_neg (by omega)])))] at hQ; exact hQ
                · refine wp_aload_n (pc := 80) 0 dX11_sign_80 rfl rfl ?_
                  refine wp_geti (pc := 81) dX11_sign_81 rfl f_X11_172 kd_111 la_111 (Or.inl rfl) ?_
                  refine wp_eqst (st' := [vI (ts b c)]) (by rw [hB.2.2.1.1]) ?_
                  refine wp_bipush (pc := 84) dX11_sign_84 (by decide) ?_
                  refine wp_icmp_eq (pc := 86) 98 dX11_sign_86 (by decide) (by omega) (by decide) (fun h_9 => ?_) (fun h_9 => ?_)
                  · refine wp_aload_n (pc := 98) 0 dX11_sign_98 rfl rfl ?_
                    refine wp_geti (pc := 99) dX11_sign_99 rfl f_X11_172 kd_111 la_111 (Or.inl rfl) ?_
                    refine wp_eqst (st' := [vI (ts b c)]) (by rw [hB.2.2.1.1]) ?_
                    refine wp_goto (pc := 102) 106 dX11_sign_102 (by decide) ?_
                    refine wp_iret (pc := 106) dX11_sign_106 rfl rfl ?_
                    rw [show sg b c = ts b c from (by unfold sg; (repeat (first | rw [if_pos (by omega)] | rw [if_neg (by omega)])))] at hQ; exact hQ
                  · refine wp_aload_n (pc := 89) 0 dX11_sign_89 rfl rfl ?_
                    refine wp_geti (pc := 90) dX11_sign_90 rfl f_X11_172 kd_111 la_111 (Or.inl rfl) ?_
                    refine wp_eqst (st' := [vI (ts b c)]) (by rw [hB.2.2.1.1]) ?_
                    refine wp_bipush (pc := 93) dX11_sign_93 (by decide) ?_
                    refine wp_icmp_ne (pc := 95) 105 dX11_sign_95 (by decide) (by omega) (by decide) (fun h_10 => ?_) (fun h_10 => ?_)
                    · refine wp_iconst (pc := 105) dX11_sign_105 ?_
                      refine wp_iret (pc := 106) dX11_sign_106 rfl rfl ?_
                      rw [show sg b c = 0 from (by unfold sg; (repeat (first | rw [if_pos (by omega)] | rw [if_neg (by omega)])))] at hQ; exact hQ
                    · refine wp_aload_n (pc := 98) 0 dX11_sign_98 rfl rfl ?_
                      refine wp_geti (pc := 99) dX11_sign_99 rfl f_X11_172 kd_111 la_111 (Or.inl rfl) ?_
                      refine wp_eqst (st' := [vI (ts b c)]) (by rw [hB.2.2.1.1]) ?_
                      refine wp_goto (pc := 102) 106 dX11_sign_102 (by decide) ?_
                      refine wp_iret (pc := 106) dX11_sign_106 rfl rfl ?_
                      rw [show sg b c = ts b c from (by unfold sg; (repeat (first | rw [if_pos (by omega)] | rw [if_neg (by omega)])))] at hQ; exact hQ

noncomputable def askF (b : Nat → Int) (c : Nat) : Int := if wi b c = 17 then 0 else if wi b c = 18 then 1 else if wi b c = 19 then 2 else if wi b c = 20 then 3 else -1
theorem askF_in (b : Nat → Int) (c : Nat) : -1 ≤ askF b c ∧ askF b c ≤ 3 := by
  unfold askF
  repeat' split
  all_goals decide
theorem lfc_ask {b : Nat → Int} {c : Nat} (h : ¬ ts b c = 2) : lfc b c = if askF b c = -1 then -1 else -2 - askF b c := by
  unfold lfc askF
  rw [if_neg h]
  repeat' split
  all_goals omega

theorem rs_asked {l : Launch} {G : mG} {d : Nat} {I : mI} {L : Nat → Nat → Int} {D : Nat → Nat} {Q : mQ} {b g : Nat → Int} {n c : Nat} (hB : RB0 I L b g n c) (hd : 0 ≤ d) (hQ : Q (some (vI (askF b c))) I (XX L D)) : WP l G m_X11_asked d 153 I (XX L D) 0 [some (vR 111)] [] Q := by
  have tr := ts_rng b c
  have l9 := hB.2.2.1.2.2.2.2.1
  have kk : ts b c = 1 → ∀ k, k < 21 → (L 111 9 = W8 k ↔ wi b c = (k : Int)) := fun z k hk => by rw [hB.2.2.1.2.2.2.2.2 z, hB.1.1]; exact w8_iff hB.2.1 (by rw [← hB.1.1]; exact z) hk
  refine wp_aload_n (pc := 0) 0 dX11_asked_0 rfl rfl ?_
  refine wp_geti (pc := 1) dX11_asked_1 rfl f_X11_172 kd_111 la_111 (Or.inl rfl) ?_
  refine wp_eqst (st' := [vI (ts b c)]) (by rw [hB.2.2.1.1]) ?_
  refine wp_iconst (pc := 4) dX11_asked_4 ?_
  refine wp_icmp_eq (pc := 5) 10 dX11_asked_5 (by decide) (by first | exact cmpR _ _ | omega) (by decide) (fun h_1 => ?_) (fun h_1 => ?_)
  · refine wp_aload_n (pc := 10) 0 dX11_asked_10 rfl rfl ?_
    refine wp_getl (pc := 11) dX11_asked_11 rfl f_X11_165 kd_111 la_111 rfl ?_
    refine wp_eqst (st' := [vJ (L 111 9)]) rfl ?_
    refine wp_ldc2 (pc := 14) (z := 126948200440185) dX11_asked_14 rfl k_X11_218 rfl ?_
    refine wq_lcmp (pc := 17) dX11_asked_17 (by first | exact cmpR _ _ | omega) (by first | exact cmpR _ _ | omega) ?_
    refine wp_if_ne (pc := 18) 23 dX11_asked_18 (by decide) (by first | exact cmpR _ _ | omega) (fun h_2 => ?_) (fun h_2 => ?_)
    · refine wp_aload_n (pc := 23) 0 dX11_asked_23 rfl rfl ?_
      refine wp_getl (pc := 24) dX11_asked_24 rfl f_X11_165 kd_111 la_111 rfl ?_
      refine wp_eqst (st' := [vJ (L 111 9)]) rfl ?_
      refine wp_ldc2 (pc := 27) (z := 1919246692) dX11_asked_27 rfl k_X11_220 rfl ?_
      refine wq_lcmp (pc := 30) dX11_asked_30 (by first | exact cmpR _ _ | omega) (by first | exact cmpR _ _ | omega) ?_
      refine wp_if_ne (pc := 31) 36 dX11_asked_31 (by decide) (by first | exact cmpR _ _ | omega) (fun h_3 => ?_) (fun h_3 => ?_)
      · refine wp_aload_n (pc := 36) 0 dX11_asked_36 rfl rfl ?_
        refine wp_getl (pc := 37) dX11_asked_37 rfl f_X11_165 kd_111 la_111 rfl ?_
        refine wp_eqst (st' := [vJ (L 111 9)]) rfl ?_
        refine wp_ldc2 (pc := 40) (z := 126879263909220) dX11_asked_40 rfl k_X11_222 rfl ?_
        refine wq_lcmp (pc := 43) dX11_asked_43 (by first | exact cmpR _ _ | omega) (by first | exact cmpR _ _ | omega) ?_
        refine wp_if_ne (pc := 44) 49 dX11_asked_44 (by decide) (by first | exact cmpR _ _ | omega) (fun h_4 => ?_) (fun h_4 => ?_)
        · refine wp_aload_n (pc := 49) 0 dX11_asked_49 rfl rfl ?_
          refine wp_getl (pc := 50) dX11_asked_50 rfl f_X11_165 kd_111 la_111 rfl ?_
          refine wp_eqst (st' := [vJ (L 111 9)]) rfl ?_
          refine wp_ldc2 (pc := 53) (z := 7305070) dX11_asked_53 rfl k_X11_224 rfl ?_
          refine wq_lcmp (pc := 56) dX11_asked_56 (by first | exact cmpR _ _ | omega) (by first | exact cmpR _ _ | omega) ?_
          refine wp_if_ne (pc := 57) 64 dX11_asked_57 (by decide) (by first | exact cmpR _ _ | omega) (fun h_5 => ?_) (fun h_5 => ?_)
          · refine wp_iconst (pc := 64) dX11_asked_64 ?_
            refine wp_iret (pc := 65) dX11_asked_65 rfl rfl ?_
            have w17 : ¬ wi b c = 17 := fun z => h_2 (cmpL_0.mpr ((kk (by omega) 17 (by decide)).mpr z))
            have w18 : ¬ wi b c = 18 := fun z => h_3 (cmpL_0.mpr ((kk (by omega) 18 (by decide)).mpr z))
            have w19 : ¬ wi b c = 19 := fun z => h_4 (cmpL_0.mpr ((kk (by omega) 19 (by decide)).mpr z))
            have w20 : ¬ wi b c = 20 := fun z => h_5 (cmpL_0.mpr ((kk (by omega) 20 (by decide)).mpr z))
            rw [show askF b c = (-1) from (by unfold askF; (repeat (first | rw [if_pos (by omega)] | rw [if_neg (by omega)])))] at hQ; exact hQ
          · refine wp_iconst (pc := 60) dX11_asked_60 ?_
            refine wp_goto (pc := 61) 65 dX11_asked_61 (by decide) ?_
            refine wp_iret (pc := 65) dX11_asked_65 rfl rfl ?_
            have w17 : ¬ wi b c = 17 := fun z => h_2 (cmpL_0.mpr ((kk (by omega) 17 (by decide)).mpr z))
            have w18 : ¬ wi b c = 18 := fun z => h_3 (cmpL_0.mpr ((kk (by omega) 18 (by decide)).mpr z))
            have w19 : ¬ wi b c = 19 := fun z => h_4 (cmpL_0.mpr ((kk (by omega) 19 (by decide)).mpr z))
            have w20 : wi b c = 20 := (kk (by omega) 20 (by decide)).mp (cmpL_0.mp h_5)
            rw [show askF b c = 3 from (by unfold askF; (repeat (first | rw [if_pos (by omega)] | rw [if_neg (by omega)])))] at hQ; exact hQ
        · refine wp_iconst (pc := 47) dX11_asked_47 ?_
          refine wp_iret (pc := 48) dX11_asked_48 rfl rfl ?_
          have w17 : ¬ wi b c = 17 := fun z => h_2 (cmpL_0.mpr ((kk (by omega) 17 (by decide)).mpr z))
          have w18 : ¬ wi b c = 18 := fun z => h_3 (cmpL_0.mpr ((kk (by omega) 18 (by decide)).mpr z))
          have w19 : wi b c = 19 := (kk (by omega) 19 (by decide)).mp (cmpL_0.mp h_4)
          rw [show askF b c = 2 from (by unfold askF; (repeat (first | rw [if_pos (by omega)] | rw [if_neg (by omega)])))] at hQ; exact hQ
      · refine wp_iconst (pc := 34) dX11_asked_34 ?_
        refine wp_iret (pc := 35) dX11_asked_35 rfl rfl ?_
        have w17 : ¬ wi b c = 17 := fun z => h_2 (cmpL_0.mpr ((kk (by omega) 17 (by decide)).mpr z))
        have w18 : wi b c = 18 := (kk (by omega) 18 (by decide)).mp (cmpL_0.mp h_3)
        rw [show askF b c = 1 from (by unfold askF; (repeat (first | rw [if_pos (by omega)] | rw [if_neg (by omega)])))] at hQ; exact hQ
    · refine wp_iconst (pc := 21) dX11_asked_21 ?_
      refine wp_iret (pc := 22) dX11_asked_22 rfl rfl ?_
      have w17 : wi b c = 17 := (kk (by omega) 17 (by decide)).mp (cmpL_0.mp h_2)
      rw [show askF b c = 0 from (by unfold askF; (repeat (first | rw [if_pos (by omega)] | rw [if_neg (by omega)])))] at hQ; exact hQ
  · refine wp_iconst (pc := 8) dX11_asked_8 ?_
    refine wp_iret (pc := 9) dX11_asked_9 rfl rfl ?_
    have wn : wi b c = -1 := Classical.byContradiction (fun z => by have := @wi_ts b c z; omega)
    rw [show askF b c = (-1) from (by unfold askF; (repeat (first | rw [if_pos (by omega)] | rw [if_neg (by omega)])))] at hQ; exact hQ

theorem rs_openUp {l : Launch} {G : mG} {d : Nat} {I : mI} {L : Nat → Nat → Int} {D : Nat → Nat} {Q : mQ} {b g : Nat → Int} {n c : Nat} {st out : List Int} {un dp : Nat} {s : Int} (hB : RB0 I L b g n c) (hY : YM I st out un dp) (hs3 : ts b c ≠ 3) (hl9 : st.length < 160) (hd : 2 ≤ d) (hQ : ∀ J M, Fyd I J → Lb L M → RB0 J M b g n (te b c) → YM J (s :: st) out un (dp + 1) → Q none J (XX M D)) : WP l G m_X11_openUp d 153 I (XX L D) 0 [some (vR 111), some (vI s)] [] Q := by
  refine wp_aload_n (pc := 0) 0 dX11_openUp_0 rfl rfl ?_
  refine wp_getr (pc := 1) dX11_openUp_1 rfl f_X11_33 kd_111 la_111 rfl (r_111_15 D) ?_
  refine wp_aload_n (pc := 4) 0 dX11_openUp_4 rfl rfl ?_
  refine wp_geti (pc := 5) dX11_openUp_5 rfl f_X11_270 kd_111 la_111 (Or.inl rfl) ?_
  refine wp_eqst (st' := [vI ((st.length : Nat) : Int), vR 118]) (by rw [hY.1.1]) ?_
  refine wp_iload_n (pc := 8) 1 dX11_openUp_8 rfl rfl ?_
  refine wq_iast (pc := 9) st.length dX11_openUp_9 kd_118 la_118 rfl (by omega) ?_
  refine wp_aload_n (pc := 10) 0 dX11_openUp_10 rfl rfl ?_
  refine wp_dup (pc := 11) dX11_openUp_11 rfl ?_
  refine wp_geti (pc := 12) dX11_openUp_12 rfl f_X11_270 kd_111 la_111 (Or.inl rfl) ?_
  refine wp_eqst (st' := [vI ((st.length : Nat) : Int), vR 111]) (by rw [up_c (by omega), hY.1.1]) ?_
  refine wp_iconst (pc := 15) dX11_openUp_15 ?_
  refine wp_iadd (pc := 16) dX11_openUp_16 ?_
  refine wp_puti (pc := 17) dX11_openUp_17 rfl f_X11_270 kd_111 la_111 (fun _ h => by cases h; rfl) rfl ?_
  refine wp_aload_n (pc := 20) 0 dX11_openUp_20 rfl rfl ?_
  refine wp_dup (pc := 21) dX11_openUp_21 rfl ?_
  refine wp_geti (pc := 22) dX11_openUp_22 rfl f_X11_280 kd_111 la_111 (Or.inl rfl) ?_
  refine wp_eqst (st' := [vI ((dp : Nat) : Int), vR 111]) (by rw [up_j (by omega), up_c (by omega), hY.2.2.2]) ?_
  refine wp_iconst (pc := 25) dX11_openUp_25 ?_
  refine wp_iadd (pc := 26) dX11_openUp_26 ?_
  refine wp_puti (pc := 27) dX11_openUp_27 rfl f_X11_280 kd_111 la_111 (fun _ h => by cases h; rfl) rfl ?_
  have hq := ((Fq.refl (I := I)).wr (a := 118) (j := st.length) (v := s) (by omega)).wr (a := 111) (j := 19) (v := ((st.length : Nat) : Int) + 1) (by omega)
  replace hq := hq.wr (a := 111) (j := 23) (v := ((dp : Nat) : Int) + 1) (by omega)
  refine wp_gen (fun J => Fq I J ∧ YM J (s :: st) out un (dp + 1) ∧ RB0 J L b g n c) ⟨hq, hY.push.deep (v := dp + 1), hB.q hq⟩ (fun J1 hJ1 => ?_)
  have x2 := hJ1.2.2.2.2.2.1.1
  refine wp_aload_n (pc := 30) 0 dX11_openUp_30 rfl rfl ?_
  refine wp_geti (pc := 31) dX11_openUp_31 rfl f_X11_185 kd_111 la_111 (Or.inl rfl) ?_
  refine wp_eqst (st' := [vI 0]) (by rw [x2]) ?_
  refine wp_if_ne (pc := 34) 41 dX11_openUp_34 (by decide) (by decide) (fun hh => absurd hh (by decide)) (fun _ => ?_)
  refine wp_aload_n (pc := 37) 0 dX11_openUp_37 rfl rfl ?_
  refine wp_callV (pc := 38) (st := []) (nf' := 153) [] [some (vR 111), none, none] dX11_openUp_38 rfl c_X11_241 rfl kd_111 (by decide) rfl la_111 rfl (Nat.le_of_ble_eq_true rfl) rfl (Nat.le_of_ble_eq_true rfl) (by omega) (Nat.le_refl _) (Nat.le_refl _) ?_
  refine rs_token hJ1.2.2.1 hJ1.2.2.nx (hJ1.2.2.q4 hs3) (by omega) (fun J21 M21 hFb21 hLb21 hTk21 => ?_)
  have hB21 := hJ1.2.2.adv hJ1.2.2.nx hFb21 hTk21
  refine wp_eqst (st' := []) rfl ?_
  refine wp_vret (pc := 41) dX11_openUp_41 rfl rfl ?_
  exact hQ _ _ (hJ1.1.y.trans hFb21.y) hLb21 hB21 (hJ1.2.1.tb hFb21)

theorem rz_openUp {l : Launch} {G : mG} {d : Nat} {I : mI} {L : Nat → Nat → Int} {D : Nat → Nat} {Q : mQ} {st out : List Int} {un dp : Nat} {s : Int} {e : Int × Int} (hE : RE I e) (hY : YM I st out un dp) (hl9 : st.length < 160) (hd : 2 ≤ d) (hQ : ∀ J, Fyd I J → RE J e → Q none J (XX L D)) : WP l G m_X11_openUp d 153 I (XX L D) 0 [some (vR 111), some (vI s)] [] Q := by
  have xp := hE.2.2
  refine wp_aload_n (pc := 0) 0 dX11_openUp_0 rfl rfl ?_
  refine wp_getr (pc := 1) dX11_openUp_1 rfl f_X11_33 kd_111 la_111 rfl (r_111_15 D) ?_
  refine wp_aload_n (pc := 4) 0 dX11_openUp_4 rfl rfl ?_
  refine wp_geti (pc := 5) dX11_openUp_5 rfl f_X11_270 kd_111 la_111 (Or.inl rfl) ?_
  refine wp_eqst (st' := [vI ((st.length : Nat) : Int), vR 118]) (by rw [hY.1.1]) ?_
  refine wp_iload_n (pc := 8) 1 dX11_openUp_8 rfl rfl ?_
  refine wq_iast (pc := 9) st.length dX11_openUp_9 kd_118 la_118 rfl (by omega) ?_
  refine wp_aload_n (pc := 10) 0 dX11_openUp_10 rfl rfl ?_
  refine wp_dup (pc := 11) dX11_openUp_11 rfl ?_
  refine wp_geti (pc := 12) dX11_openUp_12 rfl f_X11_270 kd_111 la_111 (Or.inl rfl) ?_
  refine wp_eqst (st' := [vI ((st.length : Nat) : Int), vR 111]) (by rw [up_c (by omega), hY.1.1]) ?_
  refine wp_iconst (pc := 15) dX11_openUp_15 ?_
  refine wp_iadd (pc := 16) dX11_openUp_16 ?_
  refine wp_puti (pc := 17) dX11_openUp_17 rfl f_X11_270 kd_111 la_111 (fun _ h => by cases h; rfl) rfl ?_
  refine wp_aload_n (pc := 20) 0 dX11_openUp_20 rfl rfl ?_
  refine wp_dup (pc := 21) dX11_openUp_21 rfl ?_
  refine wp_geti (pc := 22) dX11_openUp_22 rfl f_X11_280 kd_111 la_111 (Or.inl rfl) ?_
  refine wp_eqst (st' := [vI ((dp : Nat) : Int), vR 111]) (by rw [up_j (by omega), up_c (by omega), hY.2.2.2]) ?_
  refine wp_iconst (pc := 25) dX11_openUp_25 ?_
  refine wp_iadd (pc := 26) dX11_openUp_26 ?_
  refine wp_puti (pc := 27) dX11_openUp_27 rfl f_X11_280 kd_111 la_111 (fun _ h => by cases h; rfl) rfl ?_
  have hq := ((Fq.refl (I := I)).wr (a := 118) (j := st.length) (v := s) (by omega)).wr (a := 111) (j := 19) (v := ((st.length : Nat) : Int) + 1) (by omega)
  replace hq := hq.wr (a := 111) (j := 23) (v := ((dp : Nat) : Int) + 1) (by omega)
  refine wp_gen (fun J => Fq I J ∧ YM J (s :: st) out un (dp + 1) ∧ RE J e) ⟨hq, hY.push.deep (v := dp + 1), ((hE.wr (by omega)).wr (by omega)).wr (by omega)⟩ (fun J1 hJ1 => ?_)
  have x2 := hJ1.2.2.1
  refine wp_aload_n (pc := 30) 0 dX11_openUp_30 rfl rfl ?_
  refine wp_geti (pc := 31) dX11_openUp_31 rfl f_X11_185 kd_111 la_111 (Or.inl rfl) ?_
  refine wp_eqst (st' := [vI e.1]) (by rw [x2]) ?_
  refine wp_if_ne (pc := 34) 41 dX11_openUp_34 (by decide) (by omega) (fun _ => ?_) (fun hh => absurd hh (by omega))
  refine wp_vret (pc := 41) dX11_openUp_41 rfl rfl ?_
  exact hQ _ hJ1.1.y hJ1.2.2
