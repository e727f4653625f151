theorem lp_gc {l : Launch} {G : mG} {d : Nat} {I : mI} {L : Nat → Nat → Int} {D : Nat → Nat} {Q : mQ} {a b : Int} : ∀ i : Nat, i ≤ 100 → ∀ h w : Int, (0 ≤ h ∧ h ≤ 100000000) → (0 ≤ w ∧ w ≤ 100000000) → Q (some (vI (gcF (100 - i) h w))) I (XX L D) → WP l G m_X10_greatestCommon d 153 I (XX L D) 7 [some (vI a), some (vI b), some (vI h), some (vI w), some (vI (i : Int)), none] [] Q := by
  refine loop_dn (fun i => ∀ h w : Int, (0 ≤ h ∧ h ≤ 100000000) → (0 ≤ w ∧ w ≤ 100000000) → Q (some (vI (gcF (100 - i) h w))) I (XX L D) → WP l G m_X10_greatestCommon d 153 I (XX L D) 7 [some (vI a), some (vI b), some (vI h), some (vI w), some (vI (i : Int)), none] [] Q) 100 ?_ (fun i hi ih => ?_)
  · intro h w hh hw hQ
    refine wp_iload (pc := 7) dX10_greatestCommon_7 rfl ?_
    refine wp_bipush (pc := 9) dX10_greatestCommon_9 (by decide) ?_
    refine wp_icmp_ge (pc := 11) 34 dX10_greatestCommon_11 (by decide) (by decide) (by decide) (fun _ => ?_) (fun hh => absurd hh (by decide))
    refine wp_iload_n (pc := 34) 2 dX10_greatestCommon_34 rfl rfl ?_
    refine wp_iret (pc := 35) dX10_greatestCommon_35 rfl rfl ?_
    exact hQ
  · intro h w hh hw hQ
    have er : 100 - i = (100 - (i + 1)) + 1 := by omega
    rw [er, gcF] at hQ
    refine wp_iload (pc := 7) dX10_greatestCommon_7 rfl ?_
    refine wp_bipush (pc := 9) dX10_greatestCommon_9 (by decide) ?_
    refine wp_icmp_ge (pc := 11) 34 dX10_greatestCommon_11 (by decide) (by omega) (by decide) (fun h_1 => ?_) (fun h_1 => ?_)
    · refine wp_iload_n (pc := 34) 2 dX10_greatestCommon_34 rfl rfl ?_
      refine wp_iret (pc := 35) dX10_greatestCommon_35 rfl rfl ?_
      rw [if_pos (by omega)] at hQ
      exact hQ
    · refine wp_iload_n (pc := 14) 3 dX10_greatestCommon_14 rfl rfl ?_
      refine wp_if_eq (pc := 15) 34 dX10_greatestCommon_15 (by decide) (by omega) (fun h_2 => ?_) (fun h_2 => ?_)
      · refine wp_iload_n (pc := 34) 2 dX10_greatestCommon_34 rfl rfl ?_
        refine wp_iret (pc := 35) dX10_greatestCommon_35 rfl rfl ?_
        rw [if_pos (by omega)] at hQ
        exact hQ
      · refine wp_iload_n (pc := 18) 2 dX10_greatestCommon_18 rfl rfl ?_
        refine wp_iload_n (pc := 19) 3 dX10_greatestCommon_19 rfl rfl ?_
        refine wp_irem (pc := 20) dX10_greatestCommon_20 (by omega) (by omega) (by omega) ?_
        refine wq_istore (pc := 21) [some (vI a), some (vI b), some (vI h), some (vI w), some (vI (i : Int)), some (vI (Int.tmod h w))] dX10_greatestCommon_21 rfl (by decide) rfl ?_
        refine wp_iload_n (pc := 23) 3 dX10_greatestCommon_23 rfl rfl ?_
        refine wq_istore_n (pc := 24) 2 [some (vI a), some (vI b), some (vI w), some (vI w), some (vI (i : Int)), some (vI (Int.tmod h w))] dX10_greatestCommon_24 rfl rfl (by decide) rfl ?_
        refine wp_iload (pc := 25) dX10_greatestCommon_25 rfl ?_
        refine wq_istore_n (pc := 27) 3 [some (vI a), some (vI b), some (vI w), some (vI (Int.tmod h w)), some (vI (i : Int)), some (vI (Int.tmod h w))] dX10_greatestCommon_27 rfl rfl (by decide) rfl ?_
        refine wq_iinc (pc := 28) [some (vI a), some (vI b), some (vI w), some (vI (Int.tmod h w)), some (vI ((i : Int) + 1)), some (vI (Int.tmod h w))] dX10_greatestCommon_28 rfl rfl (by decide) rfl ?_
        refine wp_goto (pc := 31) 7 dX10_greatestCommon_31 (by decide) ?_
        rw [if_neg (by omega)] at hQ
        have e := tmod_p hh.1 (show 0 < w by omega)
        refine wp_none 5 [some (vI a), some (vI b), some (vI w), some (vI (Int.tmod h w)), some (vI ((i : Int) + 1)), none] rfl ?_
        exact ih w (Int.tmod h w) hw ⟨e.1, by omega⟩ hQ

theorem sp_gc {l : Launch} {G : mG} {d : Nat} {I : mI} {L : Nat → Nat → Int} {D : Nat → Nat} {Q : mQ} {a b : Int}  (ha : 0 ≤ a ∧ a ≤ 100000000) (hb : 0 ≤ b ∧ b ≤ 100000000) (hd : 0 ≤ d) (hQ : Q (some (vI (gcF 100 a b))) I (XX L D)) : WP l G m_X10_greatestCommon d 153 I (XX L D) 0 [some (vI a), some (vI b), none, none, none, none] [] Q := by
  refine wp_iload_n (pc := 0) 0 dX10_greatestCommon_0 rfl rfl ?_
  refine wq_istore_n (pc := 1) 2 [some (vI a), some (vI b), some (vI a), none, none, none] dX10_greatestCommon_1 rfl rfl (by decide) rfl ?_
  refine wp_iload_n (pc := 2) 1 dX10_greatestCommon_2 rfl rfl ?_
  refine wq_istore_n (pc := 3) 3 [some (vI a), some (vI b), some (vI a), some (vI b), none, none] dX10_greatestCommon_3 rfl rfl (by decide) rfl ?_
  refine wp_iconst (pc := 4) dX10_greatestCommon_4 ?_
  refine wq_istore (pc := 5) [some (vI a), some (vI b), some (vI a), some (vI b), some (vI 0), none] dX10_greatestCommon_5 rfl (by decide) rfl ?_
  exact lp_gc 0 (Nat.zero_le _) a b ha hb hQ

theorem sp_quiet {l : Launch} {G : mG} {d : Nat} {I : mI} {L : Nat → Nat → Int} {D : Nat → Nat} {Q : mQ} {T : mT} {S : mS} {Z : mT} {a c e w : Int}  (hC : CI I D T S Z) (h_a : inR a) (h_c : inR c) (h_e : inR e) (h_w : inR w) (hd : 5 ≤ d) (hQ : ∀ J, Sc I J (D 3) → Q (some (vI (quietA T S a c e w))) J (XX L D)) : WP l G m_X10_quiet d 153 I (XX L D) 0 [some (vR 0), some (vI a), some (vI c), some (vI e), some (vI w), none, none] [] Q := by
  obtain ⟨hD0, h30, hT0, hS, hZ, hw, hv, hz, hrd, hcd⟩ := hC
  have h3 : isT (D 3) := by rw [h30]; exact hD0
  have hT : TT I (D 3) = T := by rw [h30]; exact hT0
  have b_p := tw_p hw
  have b_c := tw_c hw
  have b_q := tw_q hw
  have b_s := sw_sun hv
  have b_i : 0 ≤ a → a < T 0 13 → 0 ≤ S (8 + a.toNat) ∧ S (8 + a.toNat) ≤ 2 := fun x y => sw_stat hv (by omega)
  have b_o : 0 ≤ (odds T S a.toNat c e) ∧ (odds T S a.toNat c e) ≤ 100000000 := oddsN_in _ _ _ _ _
  have b_g := gcF_in 100 100000000 (odds T S a.toNat c e) (by decide) b_o
  refine wp_aload_n (pc := 0) 0 dX10_quiet_0 rfl rfl ?_
  refine wp_iload_n (pc := 1) 1 dX10_quiet_1 rfl rfl ?_
  refine wp_callV (pc := 2) (st := []) (nf' := 153) [vI a] [some (vR 0), some (vI a)] dX10_quiet_2 rfl c_X10_222 rfl kd_0 (by decide) rfl la_0 rfl (Nat.le_of_ble_eq_true rfl) rfl (Nat.le_of_ble_eq_true rfl) (by omega) (Nat.le_refl _) (Nat.le_refl _) ?_
  refine wp_aload_n (pc := 0) 0 dX10_isOpen_0 rfl rfl ?_
  refine wp_getr (pc := 1) dX10_isOpen_1 rfl f_X10_10 kd_0 la_0 rfl (r_0_0 D) ?_
  refine wp_iload_n (pc := 4) 1 dX10_isOpen_4 rfl rfl ?_
  refine wp_callV (pc := 5) (st := []) (nf' := 153) [vI a] [some (vR (D 0)), some (vI a)] dX10_isOpen_5 rfl c_X10_163 rfl (tk_0 hD0) (by decide) rfl (tl_0 hD0) rfl (Nat.le_of_ble_eq_true rfl) rfl (Nat.le_of_ble_eq_true rfl) (by omega) (Nat.le_refl _) (Nat.le_refl _) ?_
  refine sp_hasPair hD0 hT0 hw (by omega) (by omega) (fun h_1 => ?_) (fun h_1 => ?_)
  · refine wp_eqst (st' := [vI 1]) rfl ?_
    refine wp_if_eq (pc := 8) 26 dX10_isOpen_8 (by decide) (by decide) (fun hh => absurd hh (by decide)) (fun _ => ?_)
    refine wp_aload_n (pc := 11) 0 dX10_isOpen_11 rfl rfl ?_
    refine wp_getr (pc := 12) dX10_isOpen_12 rfl f_X10_47 kd_0 la_0 rfl (r_0_5 D) ?_
    refine wp_iload_n (pc := 15) 1 dX10_isOpen_15 rfl rfl ?_
    refine wp_callV (pc := 16) (st := []) (nf' := 153) [vI a] [some (vR 47), some (vI a)] dX10_isOpen_16 rfl c_X10_181 rfl kd_47 (by decide) rfl la_47 rfl (Nat.le_of_ble_eq_true rfl) rfl (Nat.le_of_ble_eq_true rfl) (by omega) (Nat.le_refl _) (Nat.le_refl _) ?_
    refine wp_aload_n (pc := 0) 0 dX7_status_0 rfl rfl ?_
    refine wp_getr (pc := 1) dX7_status_1 rfl f_X7_11 kd_47 la_47 rfl (r_47_0 D) ?_
    refine wp_bipush (pc := 4) dX7_status_4 (by decide) ?_
    refine wp_iload_n (pc := 6) 1 dX7_status_6 rfl rfl ?_
    refine wp_iadd (pc := 7) dX7_status_7 ?_
    refine wq_iald (pc := 8) (8 + a.toNat) dX7_status_8 kd_48 la_48 (by omega) (by omega) ?_
    refine wp_eqst (st' := [vI (S (8 + a.toNat))]) (by rw [← hS] <;> rfl) ?_
    refine wp_iret (pc := 9) dX7_status_9 rfl rfl ?_
    refine wp_eqst (st' := [vI (S (8 + a.toNat))]) rfl ?_
    refine wp_if_ne (pc := 19) 26 dX10_isOpen_19 (by decide) (by omega) (fun h_2 => ?_) (fun h_2 => ?_)
    · refine wp_iconst (pc := 26) dX10_isOpen_26 ?_
      refine wp_zret (pc := 27) dX10_isOpen_27 rfl rfl (by decide) ?_
      refine wp_eqst (st' := [vI 0]) rfl ?_
      refine wp_if_eq (pc := 5) 41 dX10_quiet_5 (by decide) (by decide) (fun _ => ?_) (fun hh => absurd hh (by decide))
      refine wp_iconst (pc := 41) dX10_quiet_41 ?_
      refine wp_iret (pc := 42) dX10_quiet_42 rfl rfl ?_
      have hq := hQ _ Sc.refl
      have e1 : quietA T S a c e w = (-1) := by
        unfold quietA
        rw [if_neg (by omega)]
      rw [e1] at hq; exact hq
    · refine wp_iconst (pc := 22) dX10_isOpen_22 ?_
      refine wp_goto (pc := 23) 27 dX10_isOpen_23 (by decide) ?_
      refine wp_zret (pc := 27) dX10_isOpen_27 rfl rfl (by decide) ?_
      refine wp_eqst (st' := [vI 1]) rfl ?_
      refine wp_if_eq (pc := 5) 41 dX10_quiet_5 (by decide) (by decide) (fun hh => absurd hh (by decide)) (fun _ => ?_)
      refine wp_aload_n (pc := 8) 0 dX10_quiet_8 rfl rfl ?_
      refine wp_getr (pc := 9) dX10_quiet_9 rfl f_X10_10 kd_0 la_0 rfl (r_0_0 D) ?_
      refine wp_iload_n (pc := 12) 2 dX10_quiet_12 rfl rfl ?_
      refine wp_callV (pc := 13) (st := []) (nf' := 153) [vI c] [some (vR (D 0)), some (vI c)] dX10_quiet_13 rfl c_X10_205 rfl (tk_0 hD0) (by decide) rfl (tl_0 hD0) rfl (Nat.le_of_ble_eq_true rfl) rfl (Nat.le_of_ble_eq_true rfl) (by omega) (Nat.le_refl _) (Nat.le_refl _) ?_
      refine sp_hasChurch hD0 hT0 hw (by omega) (by omega) (fun h_3 => ?_) (fun h_3 => ?_)
      · refine wp_eqst (st' := [vI 1]) rfl ?_
        refine wp_if_eq (pc := 16) 41 dX10_quiet_16 (by decide) (by decide) (fun hh => absurd hh (by decide)) (fun _ => ?_)
        refine wp_aload_n (pc := 19) 0 dX10_quiet_19 rfl rfl ?_
        refine wp_getr (pc := 20) dX10_quiet_20 rfl f_X10_10 kd_0 la_0 rfl (r_0_0 D) ?_
        refine wp_iload_n (pc := 23) 3 dX10_quiet_23 rfl rfl ?_
        refine wp_callV (pc := 24) (st := []) (nf' := 153) [vI e] [some (vR (D 0)), some (vI e)] dX10_quiet_24 rfl c_X10_205 rfl (tk_0 hD0) (by decide) rfl (tl_0 hD0) rfl (Nat.le_of_ble_eq_true rfl) rfl (Nat.le_of_ble_eq_true rfl) (by omega) (Nat.le_refl _) (Nat.le_refl _) ?_
        refine sp_hasChurch hD0 hT0 hw (by omega) (by omega) (fun h_4 => ?_) (fun h_4 => ?_)
        · refine wp_eqst (st' := [vI 1]) rfl ?_
          refine wp_if_eq (pc := 27) 41 dX10_quiet_27 (by decide) (by decide) (fun hh => absurd hh (by decide)) (fun _ => ?_)
          refine wp_iload (pc := 30) dX10_quiet_30 rfl ?_
          refine wp_if_lt (pc := 32) 41 dX10_quiet_32 (by decide) (by omega) (fun h_5 => ?_) (fun h_5 => ?_)
          · refine wp_iconst (pc := 41) dX10_quiet_41 ?_
            refine wp_iret (pc := 42) dX10_quiet_42 rfl rfl ?_
            have hq := hQ _ Sc.refl
            have e1 : quietA T S a c e w = (-1) := by
              unfold quietA
              rw [if_neg (by omega)]
            rw [e1] at hq; exact hq
          · refine wp_iload (pc := 35) dX10_quiet_35 rfl ?_
            refine wp_iconst (pc := 37) dX10_quiet_37 ?_
            refine wp_icmp_le (pc := 38) 43 dX10_quiet_38 (by decide) (by omega) (by decide) (fun h_6 => ?_) (fun h_6 => ?_)
            · refine wp_aload_n (pc := 43) 0 dX10_quiet_43 rfl rfl ?_
              refine wp_getr (pc := 44) dX10_quiet_44 rfl f_X10_40 kd_0 la_0 rfl (r_0_4 D) ?_
              refine wp_aload_n (pc := 47) 0 dX10_quiet_47 rfl rfl ?_
              refine wp_getr (pc := 48) dX10_quiet_48 rfl f_X10_47 kd_0 la_0 rfl (r_0_5 D) ?_
              refine wp_iload_n (pc := 51) 1 dX10_quiet_51 rfl rfl ?_
              refine wp_iload_n (pc := 52) 2 dX10_quiet_52 rfl rfl ?_
              refine wp_iload_n (pc := 53) 3 dX10_quiet_53 rfl rfl ?_
              refine wp_callV (pc := 54) (st := []) (nf' := 153) [vR 47, vI a, vI c, vI e] [some (vR 45), some (vR 47), some (vI a), some (vI c), some (vI e), none, none, none, none] dX10_quiet_54 rfl c_X10_245 rfl kd_45 (by decide) rfl la_45 rfl (Nat.le_of_ble_eq_true rfl) rfl (Nat.le_of_ble_eq_true rfl) (by omega) (Nat.le_refl _) (Nat.le_refl _) ?_
              refine sp_quietOf a.toNat (by omega) h3 is47 hT hS hw hv (by omega) hcd (by omega) (by omega) (by omega) (by omega) (fun J1 hJ1 => ?_)
              have hT1 := hJ1.tt h3 hT
              have hT01 : TT J1 (D 0) = T := by rw [← h30]; exact hT1
              have hS1 := hJ1.ss h3 is47 hS
              refine wp_eqst (st' := [vI (odds T S a.toNat c e)]) rfl ?_
              refine wq_istore (pc := 57) [some (vR 0), some (vI a), some (vI c), some (vI e), some (vI w), some (vI (odds T S a.toNat c e)), none] dX10_quiet_57 rfl (by decide) rfl ?_
              refine wp_ldc (pc := 59) (z := 100000000) dX10_quiet_59 rfl k_X10_249 rfl ?_
              refine wp_iload (pc := 61) dX10_quiet_61 rfl ?_
              refine wp_callS (pc := 63) (st := []) (nf' := 153) [vI 100000000, vI (odds T S a.toNat c e)] [some (vI 100000000), some (vI (odds T S a.toNat c e)), none, none, none, none] dX10_quiet_63 rfl c_X10_250 rfl rfl (Nat.le_of_ble_eq_true rfl) rfl (Nat.le_of_ble_eq_true rfl) (by omega) (Nat.le_refl _) (Nat.le_refl _) ?_
              refine sp_gc (by omega) (by omega) (by omega) ?_
              refine wp_eqst (st' := [vI (gcF 100 100000000 (odds T S a.toNat c e))]) rfl ?_
              refine wq_istore (pc := 66) [some (vR 0), some (vI a), some (vI c), some (vI e), some (vI w), some (vI (odds T S a.toNat c e)), some (vI (gcF 100 100000000 (odds T S a.toNat c e)))] dX10_quiet_66 rfl (by decide) rfl ?_
              refine wp_iload (pc := 68) dX10_quiet_68 rfl ?_
              refine wp_iconst (pc := 70) dX10_quiet_70 ?_
              refine wp_icmp_ge (pc := 71) 76 dX10_quiet_71 (by decide) (by omega) (by decide) (fun h_7 => ?_) (fun h_7 => ?_)
              · refine wp_iload (pc := 76) dX10_quiet_76 rfl ?_
                refine wp_if_ne (pc := 78) 86 dX10_quiet_78 (by decide) (by omega) (fun h_8 => ?_) (fun h_8 => ?_)
                · refine wp_ldc (pc := 86) (z := 100000000) dX10_quiet_86 rfl k_X10_249 rfl ?_
                  refine wp_iload (pc := 88) dX10_quiet_88 rfl ?_
                  refine wp_idiv (pc := 90) dX10_quiet_90 (by omega) (by omega) (by omega) ?_
                  refine wp_iret (pc := 91) dX10_quiet_91 rfl rfl ?_
                  have hq := hQ _ hJ1
                  have e1 : quietA T S a c e w = Int.tdiv 100000000 (gcF 100 100000000 (odds T S a.toNat c e)) := by
                    unfold quietA
                    rw [if_pos (by omega), if_neg (by omega)]; first | (rw [if_pos (by omega)]; done) | (rw [if_pos (by omega)]; rfl) | (rw [if_neg (by omega)]; done) | (rw [if_neg (by omega)]; rfl)
                  rw [e1] at hq; exact hq
                · refine wp_iload (pc := 81) dX10_quiet_81 rfl ?_
                  refine wp_goto (pc := 83) 88 dX10_quiet_83 (by decide) ?_
                  refine wp_iload (pc := 88) dX10_quiet_88 rfl ?_
                  refine wp_idiv (pc := 90) dX10_quiet_90 (by omega) (by omega) (by omega) ?_
                  refine wp_iret (pc := 91) dX10_quiet_91 rfl rfl ?_
                  have hq := hQ _ hJ1
                  have e1 : quietA T S a c e w = Int.tdiv (odds T S a.toNat c e) (gcF 100 100000000 (odds T S a.toNat c e)) := by
                    unfold quietA
                    rw [if_pos (by omega), if_neg (by omega)]; first | (rw [if_pos (by omega)]; done) | (rw [if_pos (by omega)]; rfl) | (rw [if_neg (by omega)]; done) | (rw [if_neg (by omega)]; rfl)
                  rw [e1] at hq; exact hq
              · refine wp_iconst (pc := 74) dX10_quiet_74 ?_
                refine wp_iret (pc := 75) dX10_quiet_75 rfl rfl ?_
                have hq := hQ _ hJ1
                have e1 : quietA T S a c e w = (-1) := by
                  unfold quietA
                  rw [if_pos (by omega), if_pos (by omega)]
                rw [e1] at hq; exact hq
            · refine wp_iconst (pc := 41) dX10_quiet_41 ?_
              refine wp_iret (pc := 42) dX10_quiet_42 rfl rfl ?_
              have hq := hQ _ Sc.refl
              have e1 : quietA T S a c e w = (-1) := by
                unfold quietA
                rw [if_neg (by omega)]
              rw [e1] at hq; exact hq
        · refine wp_eqst (st' := [vI 0]) rfl ?_
          refine wp_if_eq (pc := 27) 41 dX10_quiet_27 (by decide) (by decide) (fun _ => ?_) (fun hh => absurd hh (by decide))
          refine wp_iconst (pc := 41) dX10_quiet_41 ?_
          refine wp_iret (pc := 42) dX10_quiet_42 rfl rfl ?_
          have hq := hQ _ Sc.refl
          have e1 : quietA T S a c e w = (-1) := by
            unfold quietA
            rw [if_neg (by omega)]
          rw [e1] at hq; exact hq
      · refine wp_eqst (st' := [vI 0]) rfl ?_
        refine wp_if_eq (pc := 16) 41 dX10_quiet_16 (by decide) (by decide) (fun _ => ?_) (fun hh => absurd hh (by decide))
        refine wp_iconst (pc := 41) dX10_quiet_41 ?_
        refine wp_iret (pc := 42) dX10_quiet_42 rfl rfl ?_
        have hq := hQ _ Sc.refl
        have e1 : quietA T S a c e w = (-1) := by
          unfold quietA
          rw [if_neg (by omega)]
        rw [e1] at hq; exact hq
  · refine wp_eqst (st' := [vI 0]) rfl ?_
    refine wp_if_eq (pc := 8) 26 dX10_isOpen_8 (by decide) (by decide) (fun _ => ?_) (fun hh => absurd hh (by decide))
    refine wp_iconst (pc := 26) dX10_isOpen_26 ?_
    refine wp_zret (pc := 27) dX10_isOpen_27 rfl rfl (by decide) ?_
    refine wp_eqst (st' := [vI 0]) rfl ?_
    refine wp_if_eq (pc := 5) 41 dX10_quiet_5 (by decide) (by decide) (fun _ => ?_) (fun hh => absurd hh (by decide))
    refine wp_iconst (pc := 41) dX10_quiet_41 ?_
    refine wp_iret (pc := 42) dX10_quiet_42 rfl rfl ?_
    have hq := hQ _ Sc.refl
    have e1 : quietA T S a c e w = (-1) := by
      unfold quietA
      rw [if_neg (by omega)]
    rw [e1] at hq; exact hq

theorem lp_qt_in {l : Launch} {G : mG} {d : Nat} {I : mI} {L : Nat → Nat → Int} {D : Nat → Nat} {Q : mQ} {T : mT} {S : mS} {Z : mT} {a w : Int} {u : Nat} (hC : CI I D T S Z) (h_w : inR w) (ha : 0 ≤ a ∧ a < T 0 13) (hd : 5 ≤ d) (hu : u < nC T) : ∀ i : Nat, i ≤ nC T → ∀ (s : Int × Int) (J : mI), qB s → Sc I J (D 3) → (∀ J, Sc I J (D 3) → qB (qIn T S a.toNat w u (nC T - i) i s) → WP l G m_X10_quietest d 153 J (XX L D) 27 [some (vR 0), some (vI a), some (vI w), some (vI ((qIn T S a.toNat w u (nC T - i) i s).1)), some (vI ((qIn T S a.toNat w u (nC T - i) i s).2)), some (vI (((u + 1) : Nat) : Int)), none, none] [] Q) → WP l G m_X10_quietest d 153 J (XX L D) 43 [some (vR 0), some (vI a), some (vI w), some (vI s.1), some (vI s.2), some (vI (u : Int)), some (vI (i : Int)), none] [] Q := by
  obtain ⟨hD0, h30, hT0, hS, hZ, hw, hv, hz, hrd, hcd⟩ := hC
  have h3 : isT (D 3) := by rw [h30]; exact hD0
  have hT : TT I (D 3) = T := by rw [h30]; exact hT0
  have b_p := tw_p hw
  have b_c := tw_c hw
  have b_q := tw_q hw
  have b_s := sw_sun hv
  have eC : nC T = (T 0 11).toNat := rfl
  refine loop_dn (fun i => ∀ (s : Int × Int) (J : mI), qB s → Sc I J (D 3) → (∀ J, Sc I J (D 3) → qB (qIn T S a.toNat w u (nC T - i) i s) → WP l G m_X10_quietest d 153 J (XX L D) 27 [some (vR 0), some (vI a), some (vI w), some (vI ((qIn T S a.toNat w u (nC T - i) i s).1)), some (vI ((qIn T S a.toNat w u (nC T - i) i s).2)), some (vI (((u + 1) : Nat) : Int)), none, none] [] Q) → WP l G m_X10_quietest d 153 J (XX L D) 43 [some (vR 0), some (vI a), some (vI w), some (vI s.1), some (vI s.2), some (vI (u : Int)), some (vI (i : Int)), none] [] Q) (nC T) ?_ (fun i hi ih => ?_)
  · intro s J hB hJ hN
    have hTj := hJ.tt h3 hT
    have hTj0 : TT J (D 0) = T := by rw [← h30]; exact hTj
    have hSj := hJ.ss h3 is47 hS
    refine wp_iload (pc := 43) dX10_quietest_43 rfl ?_
    refine wp_aload_n (pc := 45) 0 dX10_quietest_45 rfl rfl ?_
    refine wp_getr (pc := 46) dX10_quietest_46 rfl f_X10_10 kd_0 la_0 rfl (r_0_0 D) ?_
    refine wp_geti (pc := 49) dX10_quietest_49 rfl f_X10_253 (tk_0 hD0) (tl_0 hD0) (Or.inl rfl) ?_
    refine wp_eqst (st' := [vI (T 0 11), vI (((nC T) : Nat) : Int)]) (by rw [← hTj0] <;> rfl) ?_
    refine wp_icmp_ge (pc := 52) 101 dX10_quietest_52 (by decide) (by omega) (by omega) (fun h_1 => ?_) (fun h_1 => ?_)
    · refine wq_iinc (pc := 101) [some (vR 0), some (vI a), some (vI w), some (vI s.1), some (vI s.2), some (vI ((u : Int) + 1)), some (vI (((nC T) : Nat) : Int)), none] dX10_quietest_101 rfl rfl (by decide) rfl ?_
      refine wp_goto (pc := 104) 27 dX10_quietest_104 (by decide) ?_
      refine wp_none 6 [some (vR 0), some (vI a), some (vI w), some (vI s.1), some (vI s.2), some (vI ((u : Int) + 1)), none, none] rfl ?_
      rw [Nat.sub_self] at hN
      exact hN J hJ hB
    · exfalso; omega
  · intro s J hB hJ hN
    have hTj := hJ.tt h3 hT
    have hTj0 : TT J (D 0) = T := by rw [← h30]; exact hTj
    have hSj := hJ.ss h3 is47 hS
    have er : nC T - i = (nC T - (i + 1)) + 1 := by omega
    rw [er, qIn] at hN
    have b_o : 0 ≤ odds T S a.toNat (u : Int) (i : Int) ∧ odds T S a.toNat (u : Int) (i : Int) ≤ 100000000 := oddsN_in _ _ _ _ _
    refine wp_iload (pc := 43) dX10_quietest_43 rfl ?_
    refine wp_aload_n (pc := 45) 0 dX10_quietest_45 rfl rfl ?_
    refine wp_getr (pc := 46) dX10_quietest_46 rfl f_X10_10 kd_0 la_0 rfl (r_0_0 D) ?_
    refine wp_geti (pc := 49) dX10_quietest_49 rfl f_X10_253 (tk_0 hD0) (tl_0 hD0) (Or.inl rfl) ?_
    refine wp_eqst (st' := [vI (T 0 11), vI (i : Int)]) (by rw [← hTj0] <;> rfl) ?_
    refine wp_icmp_ge (pc := 52) 101 dX10_quietest_52 (by decide) (by omega) (by omega) (fun h_1 => ?_) (fun h_1 => ?_)
    · exfalso; omega
    · refine wp_aload_n (pc := 55) 0 dX10_quietest_55 rfl rfl ?_
      refine wp_getr (pc := 56) dX10_quietest_56 rfl f_X10_40 kd_0 la_0 rfl (r_0_4 D) ?_
      refine wp_aload_n (pc := 59) 0 dX10_quietest_59 rfl rfl ?_
      refine wp_getr (pc := 60) dX10_quietest_60 rfl f_X10_47 kd_0 la_0 rfl (r_0_5 D) ?_
      refine wp_iload_n (pc := 63) 1 dX10_quietest_63 rfl rfl ?_
      refine wp_iload (pc := 64) dX10_quietest_64 rfl ?_
      refine wp_iload (pc := 66) dX10_quietest_66 rfl ?_
      refine wp_callV (pc := 68) (st := []) (nf' := 153) [vR 47, vI a, vI (u : Int), vI (i : Int)] [some (vR 45), some (vR 47), some (vI a), some (vI (u : Int)), some (vI (i : Int)), none, none, none, none] dX10_quietest_68 rfl c_X10_245 rfl kd_45 (by decide) rfl la_45 rfl (Nat.le_of_ble_eq_true rfl) rfl (Nat.le_of_ble_eq_true rfl) (by omega) (Nat.le_refl _) (Nat.le_refl _) ?_
      refine sp_quietOf a.toNat (by omega) h3 is47 hTj hSj hw hv (by omega) hcd (by omega) (by omega) (by omega) (by omega) (fun J1 hJ1 => ?_)
      have hTj1 := hJ1.tt h3 hTj
      have hTj01 : TT J1 (D 0) = T := by rw [← h30]; exact hTj1
      have hSj1 := hJ1.ss h3 is47 hSj
      refine wp_eqst (st' := [vI (odds T S a.toNat (u : Int) (i : Int))]) rfl ?_
      refine wq_istore (pc := 71) [some (vR 0), some (vI a), some (vI w), some (vI s.1), some (vI s.2), some (vI (u : Int)), some (vI (i : Int)), some (vI (odds T S a.toNat (u : Int) (i : Int)))] dX10_quietest_71 rfl (by decide) rfl ?_
      refine wp_iload (pc := 73) dX10_quietest_73 rfl ?_
      refine wp_iload_n (pc := 75) 3 dX10_quietest_75 rfl rfl ?_
      refine wp_icmp_le (pc := 76) 95 dX10_quietest_76 (by decide) (by omega) (by omega) (fun h_2 => ?_) (fun h_2 => ?_)
      · refine wq_iinc (pc := 95) [some (vR 0), some (vI a), some (vI w), some (vI s.1), some (vI s.2), some (vI (u : Int)), some (vI ((i : Int) + 1)), some (vI (odds T S a.toNat (u : Int) (i : Int)))] dX10_quietest_95 rfl rfl (by decide) rfl ?_
        refine wp_goto (pc := 98) 43 dX10_quietest_98 (by decide) ?_
        refine wp_none 7 [some (vR 0), some (vI a), some (vI w), some (vI s.1), some (vI s.2), some (vI (u : Int)), some (vI ((i : Int) + 1)), none] rfl ?_
        have e1 : qStep T S a.toNat w u i s = (s.1, s.2) := if_neg (by omega)
        refine wp_eqls (ls' := [some (vR 0), some (vI a), some (vI w), some (vI ((qStep T S a.toNat w u i s).1)), some (vI ((qStep T S a.toNat w u i s).2)), some (vI (u : Int)), some (vI (((i + 1) : Nat) : Int)), none]) (by rw [e1]; rfl) (ih _ _ (qStep_in hB (by omega) (by omega)) (hJ.trans hJ1) ?_)
        exact hN
      · refine wp_iload (pc := 79) dX10_quietest_79 rfl ?_
        refine wq_istore_n (pc := 81) 3 [some (vR 0), some (vI a), some (vI w), some (vI (odds T S a.toNat (u : Int) (i : Int))), some (vI s.2), some (vI (u : Int)), some (vI (i : Int)), some (vI (odds T S a.toNat (u : Int) (i : Int)))] dX10_quietest_81 rfl rfl (by decide) rfl ?_
        refine wp_iload_n (pc := 82) 2 dX10_quietest_82 rfl rfl ?_
        refine wp_if_ne (pc := 83) 91 dX10_quietest_83 (by decide) (by omega) (fun h_3 => ?_) (fun h_3 => ?_)
        · refine wp_iload (pc := 91) dX10_quietest_91 rfl ?_
          refine wq_istore (pc := 93) [some (vR 0), some (vI a), some (vI w), some (vI (odds T S a.toNat (u : Int) (i : Int))), some (vI (i : Int)), some (vI (u : Int)), some (vI (i : Int)), some (vI (odds T S a.toNat (u : Int) (i : Int)))] dX10_quietest_93 rfl (by decide) rfl ?_
          refine wq_iinc (pc := 95) [some (vR 0), some (vI a), some (vI w), some (vI (odds T S a.toNat (u : Int) (i : Int))), some (vI (i : Int)), some (vI (u : Int)), some (vI ((i : Int) + 1)), some (vI (odds T S a.toNat (u : Int) (i : Int)))] dX10_quietest_95 rfl rfl (by decide) rfl ?_
          refine wp_goto (pc := 98) 43 dX10_quietest_98 (by decide) ?_
          refine wp_none 7 [some (vR 0), some (vI a), some (vI w), some (vI (odds T S a.toNat (u : Int) (i : Int))), some (vI (i : Int)), some (vI (u : Int)), some (vI ((i : Int) + 1)), none] rfl ?_
          have e1 : qStep T S a.toNat w u i s = (odds T S a.toNat (u : Int) (i : Int), (i : Int)) := (if_pos h_2).trans (congrArg (Prod.mk _) (if_neg (by omega)))
          refine wp_eqls (ls' := [some (vR 0), some (vI a), some (vI w), some (vI ((qStep T S a.toNat w u i s).1)), some (vI ((qStep T S a.toNat w u i s).2)), some (vI (u : Int)), some (vI (((i + 1) : Nat) : Int)), none]) (by rw [e1]; rfl) (ih _ _ (qStep_in hB (by omega) (by omega)) (hJ.trans hJ1) ?_)
          exact hN
        · refine wp_iload (pc := 86) dX10_quietest_86 rfl ?_
          refine wp_goto (pc := 88) 93 dX10_quietest_88 (by decide) ?_
          refine wq_istore (pc := 93) [some (vR 0), some (vI a), some (vI w), some (vI (odds T S a.toNat (u : Int) (i : Int))), some (vI (u : Int)), some (vI (u : Int)), some (vI (i : Int)), some (vI (odds T S a.toNat (u : Int) (i : Int)))] dX10_quietest_93 rfl (by decide) rfl ?_
          refine wq_iinc (pc := 95) [some (vR 0), some (vI a), some (vI w), some (vI (odds T S a.toNat (u : Int) (i : Int))), some (vI (u : Int)), some (vI (u : Int)), some (vI ((i : Int) + 1)), some (vI (odds T S a.toNat (u : Int) (i : Int)))] dX10_quietest_95 rfl rfl (by decide) rfl ?_
          refine wp_goto (pc := 98) 43 dX10_quietest_98 (by decide) ?_
          refine wp_none 7 [some (vR 0), some (vI a), some (vI w), some (vI (odds T S a.toNat (u : Int) (i : Int))), some (vI (u : Int)), some (vI (u : Int)), some (vI ((i : Int) + 1)), none] rfl ?_
          have e1 : qStep T S a.toNat w u i s = (odds T S a.toNat (u : Int) (i : Int), (u : Int)) := (if_pos h_2).trans (congrArg (Prod.mk _) (if_pos (by omega)))
          refine wp_eqls (ls' := [some (vR 0), some (vI a), some (vI w), some (vI ((qStep T S a.toNat w u i s).1)), some (vI ((qStep T S a.toNat w u i s).2)), some (vI (u : Int)), some (vI (((i + 1) : Nat) : Int)), none]) (by rw [e1]; rfl) (ih _ _ (qStep_in hB (by omega) (by omega)) (hJ.trans hJ1) ?_)
          exact hN

theorem lp_qt {l : Launch} {G : mG} {d : Nat} {I : mI} {L : Nat → Nat → Int} {D : Nat → Nat} {Q : mQ} {T : mT} {S : mS} {Z : mT} {a w : Int} (hC : CI I D T S Z) (h_w : inR w) (ha : 0 ≤ a ∧ a < T 0 13) (hd : 5 ≤ d) : ∀ i : Nat, i ≤ nC T → ∀ (s : Int × Int) (J : mI), qB s → Sc I J (D 3) → (∀ J, Sc I J (D 3) → Q (some (vI (qOut T S a.toNat w (nC T - i) i s).2)) J (XX L D)) → WP l G m_X10_quietest d 153 J (XX L D) 27 [some (vR 0), some (vI a), some (vI w), some (vI s.1), some (vI s.2), some (vI (i : Int)), none, none] [] Q := by
  obtain ⟨hD0, h30, hT0, hS, hZ, hw, hv, hz, hrd, hcd⟩ := id hC
  have h3 : isT (D 3) := by rw [h30]; exact hD0
  have hT : TT I (D 3) = T := by rw [h30]; exact hT0
  have b_p := tw_p hw
  have b_c := tw_c hw
  have b_q := tw_q hw
  have b_s := sw_sun hv
  have eC : nC T = (T 0 11).toNat := rfl
  refine loop_dn (fun i => ∀ (s : Int × Int) (J : mI), qB s → Sc I J (D 3) → (∀ J, Sc I J (D 3) → Q (some (vI (qOut T S a.toNat w (nC T - i) i s).2)) J (XX L D)) → WP l G m_X10_quietest d 153 J (XX L D) 27 [some (vR 0), some (vI a), some (vI w), some (vI s.1), some (vI s.2), some (vI (i : Int)), none, none] [] Q) (nC T) ?_ (fun i hi ih => ?_)
  · intro s J hB hJ hQ
    have hTj := hJ.tt h3 hT
    have hTj0 : TT J (D 0) = T := by rw [← h30]; exact hTj
    have hSj := hJ.ss h3 is47 hS
    refine wp_iload (pc := 27) dX10_quietest_27 rfl ?_
    refine wp_aload_n (pc := 29) 0 dX10_quietest_29 rfl rfl ?_
    refine wp_getr (pc := 30) dX10_quietest_30 rfl f_X10_10 kd_0 la_0 rfl (r_0_0 D) ?_
    refine wp_geti (pc := 33) dX10_quietest_33 rfl f_X10_253 (tk_0 hD0) (tl_0 hD0) (Or.inl rfl) ?_
    refine wp_eqst (st' := [vI (T 0 11), vI (((nC T) : Nat) : Int)]) (by rw [← hTj0] <;> rfl) ?_
    refine wp_icmp_ge (pc := 36) 107 dX10_quietest_36 (by decide) (by omega) (by omega) (fun h_1 => ?_) (fun h_1 => ?_)
    · refine wp_iload (pc := 107) dX10_quietest_107 rfl ?_
      refine wp_iret (pc := 109) dX10_quietest_109 rfl rfl ?_
      rw [Nat.sub_self] at hQ
      exact hQ J hJ
    · exfalso; omega
  · intro s J hB hJ hQ
    have hTj := hJ.tt h3 hT
    have hTj0 : TT J (D 0) = T := by rw [← h30]; exact hTj
    have hSj := hJ.ss h3 is47 hS
    have er : nC T - i = (nC T - (i + 1)) + 1 := by omega
    rw [er, qOut] at hQ
    refine wp_iload (pc := 27) dX10_quietest_27 rfl ?_
    refine wp_aload_n (pc := 29) 0 dX10_quietest_29 rfl rfl ?_
    refine wp_getr (pc := 30) dX10_quietest_30 rfl f_X10_10 kd_0 la_0 rfl (r_0_0 D) ?_
    refine wp_geti (pc := 33) dX10_quietest_33 rfl f_X10_253 (tk_0 hD0) (tl_0 hD0) (Or.inl rfl) ?_
    refine wp_eqst (st' := [vI (T 0 11), vI (i : Int)]) (by rw [← hTj0] <;> rfl) ?_
    refine wp_icmp_ge (pc := 36) 107 dX10_quietest_36 (by decide) (by omega) (by omega) (fun h_1 => ?_) (fun h_1 => ?_)
    · exfalso; omega
    · refine wp_iload (pc := 39) dX10_quietest_39 rfl ?_
      refine wq_istore (pc := 41) [some (vR 0), some (vI a), some (vI w), some (vI s.1), some (vI s.2), some (vI (i : Int)), some (vI (i : Int)), none] dX10_quietest_41 rfl (by decide) rfl ?_
      exact lp_qt_in hC h_w ha hd hi i (Nat.le_of_lt hi) s J hB hJ (fun J2 h2 hb => ih _ J2 hb h2 hQ)

theorem sp_quietest {l : Launch} {G : mG} {d : Nat} {I : mI} {L : Nat → Nat → Int} {D : Nat → Nat} {Q : mQ} {T : mT} {S : mS} {Z : mT} {a w : Int}  (hC : CI I D T S Z) (h_a : inR a) (h_w : inR w) (hd : 5 ≤ d) (hQ : ∀ J, Sc I J (D 3) → Q (some (vI (quietestA T S a w))) J (XX L D)) : WP l G m_X10_quietest d 153 I (XX L D) 0 [some (vR 0), some (vI a), some (vI w), none, none, none, none, none] [] Q := by
  have hC := hC
  obtain ⟨hD0, h30, hT0, hS, hZ, hw, hv, hz, hrd, hcd⟩ := id hC
  have h3 : isT (D 3) := by rw [h30]; exact hD0
  have hT : TT I (D 3) = T := by rw [h30]; exact hT0
  have b_p := tw_p hw
  have b_c := tw_c hw
  have b_q := tw_q hw
  have b_s := sw_sun hv
  have b_i : 0 ≤ a → a < T 0 13 → 0 ≤ S (8 + a.toNat) ∧ S (8 + a.toNat) ≤ 2 := fun x y => sw_stat hv (by omega)
  refine wp_aload_n (pc := 0) 0 dX10_quietest_0 rfl rfl ?_
  refine wp_iload_n (pc := 1) 1 dX10_quietest_1 rfl rfl ?_
  refine wp_callV (pc := 2) (st := []) (nf' := 153) [vI a] [some (vR 0), some (vI a)] dX10_quietest_2 rfl c_X10_222 rfl kd_0 (by decide) rfl la_0 rfl (Nat.le_of_ble_eq_true rfl) rfl (Nat.le_of_ble_eq_true rfl) (by omega) (Nat.le_refl _) (Nat.le_refl _) ?_
  refine wp_aload_n (pc := 0) 0 dX10_isOpen_0 rfl rfl ?_
  refine wp_getr (pc := 1) dX10_isOpen_1 rfl f_X10_10 kd_0 la_0 rfl (r_0_0 D) ?_
  refine wp_iload_n (pc := 4) 1 dX10_isOpen_4 rfl rfl ?_
  refine wp_callV (pc := 5) (st := []) (nf' := 153) [vI a] [some (vR (D 0)), some (vI a)] dX10_isOpen_5 rfl c_X10_163 rfl (tk_0 hD0) (by decide) rfl (tl_0 hD0) rfl (Nat.le_of_ble_eq_true rfl) rfl (Nat.le_of_ble_eq_true rfl) (by omega) (Nat.le_refl _) (Nat.le_refl _) ?_
  refine sp_hasPair hD0 hT0 hw (by omega) (by omega) (fun h_1 => ?_) (fun h_1 => ?_)
  · refine wp_eqst (st' := [vI 1]) rfl ?_
    refine wp_if_eq (pc := 8) 26 dX10_isOpen_8 (by decide) (by decide) (fun hh => absurd hh (by decide)) (fun _ => ?_)
    refine wp_aload_n (pc := 11) 0 dX10_isOpen_11 rfl rfl ?_
    refine wp_getr (pc := 12) dX10_isOpen_12 rfl f_X10_47 kd_0 la_0 rfl (r_0_5 D) ?_
    refine wp_iload_n (pc := 15) 1 dX10_isOpen_15 rfl rfl ?_
    refine wp_callV (pc := 16) (st := []) (nf' := 153) [vI a] [some (vR 47), some (vI a)] dX10_isOpen_16 rfl c_X10_181 rfl kd_47 (by decide) rfl la_47 rfl (Nat.le_of_ble_eq_true rfl) rfl (Nat.le_of_ble_eq_true rfl) (by omega) (Nat.le_refl _) (Nat.le_refl _) ?_
    refine wp_aload_n (pc := 0) 0 dX7_status_0 rfl rfl ?_
    refine wp_getr (pc := 1) dX7_status_1 rfl f_X7_11 kd_47 la_47 rfl (r_47_0 D) ?_
    refine wp_bipush (pc := 4) dX7_status_4 (by decide) ?_
    refine wp_iload_n (pc := 6) 1 dX7_status_6 rfl rfl ?_
    refine wp_iadd (pc := 7) dX7_status_7 ?_
    refine wq_iald (pc := 8) (8 + a.toNat) dX7_status_8 kd_48 la_48 (by omega) (by omega) ?_
    refine wp_eqst (st' := [vI (S (8 + a.toNat))]) (by rw [← hS] <;> rfl) ?_
    refine wp_iret (pc := 9) dX7_status_9 rfl rfl ?_
    refine wp_eqst (st' := [vI (S (8 + a.toNat))]) rfl ?_
    refine wp_if_ne (pc := 19) 26 dX10_isOpen_19 (by decide) (by omega) (fun h_2 => ?_) (fun h_2 => ?_)
    · refine wp_iconst (pc := 26) dX10_isOpen_26 ?_
      refine wp_zret (pc := 27) dX10_isOpen_27 rfl rfl (by decide) ?_
      refine wp_eqst (st' := [vI 0]) rfl ?_
      refine wp_if_eq (pc := 5) 17 dX10_quietest_5 (by decide) (by decide) (fun _ => ?_) (fun hh => absurd hh (by decide))
      refine wp_iconst (pc := 17) dX10_quietest_17 ?_
      refine wp_iret (pc := 18) dX10_quietest_18 rfl rfl ?_
      have e1 : quietestA T S a w = -1 := if_neg (by omega)
      have hq := hQ _ Sc.refl
      rw [e1] at hq; exact hq
    · refine wp_iconst (pc := 22) dX10_isOpen_22 ?_
      refine wp_goto (pc := 23) 27 dX10_isOpen_23 (by decide) ?_
      refine wp_zret (pc := 27) dX10_isOpen_27 rfl rfl (by decide) ?_
      refine wp_eqst (st' := [vI 1]) rfl ?_
      refine wp_if_eq (pc := 5) 17 dX10_quietest_5 (by decide) (by decide) (fun hh => absurd hh (by decide)) (fun _ => ?_)
      refine wp_iload_n (pc := 8) 2 dX10_quietest_8 rfl rfl ?_
      refine wp_if_lt (pc := 9) 17 dX10_quietest_9 (by decide) (by omega) (fun h_3 => ?_) (fun h_3 => ?_)
      · refine wp_iconst (pc := 17) dX10_quietest_17 ?_
        refine wp_iret (pc := 18) dX10_quietest_18 rfl rfl ?_
        have e1 : quietestA T S a w = -1 := if_neg (by omega)
        have hq := hQ _ Sc.refl
        rw [e1] at hq; exact hq
      · refine wp_iload_n (pc := 12) 2 dX10_quietest_12 rfl rfl ?_
        refine wp_iconst (pc := 13) dX10_quietest_13 ?_
        refine wp_icmp_le (pc := 14) 19 dX10_quietest_14 (by decide) (by omega) (by decide) (fun h_4 => ?_) (fun h_4 => ?_)
        · refine wp_iconst (pc := 19) dX10_quietest_19 ?_
          refine wq_istore_n (pc := 20) 3 [some (vR 0), some (vI a), some (vI w), some (vI (-1)), none, none, none, none] dX10_quietest_20 rfl rfl (by decide) rfl ?_
          refine wp_iconst (pc := 21) dX10_quietest_21 ?_
          refine wq_istore (pc := 22) [some (vR 0), some (vI a), some (vI w), some (vI (-1)), some (vI (-1)), none, none, none] dX10_quietest_22 rfl (by decide) rfl ?_
          refine wp_iconst (pc := 24) dX10_quietest_24 ?_
          refine wq_istore (pc := 25) [some (vR 0), some (vI a), some (vI w), some (vI (-1)), some (vI (-1)), some (vI 0), none, none] dX10_quietest_25 rfl (by decide) rfl ?_
          have e1 : quietestA T S a w = (qOut T S a.toNat w (nC T) 0 (-1, -1)).2 := if_pos (by omega)
          rw [e1] at hQ
          exact lp_qt hC h_w (by omega) hd 0 (Nat.zero_le _) (-1, -1) I (by decide) Sc.refl hQ
        · refine wp_iconst (pc := 17) dX10_quietest_17 ?_
          refine wp_iret (pc := 18) dX10_quietest_18 rfl rfl ?_
          have e1 : quietestA T S a w = -1 := if_neg (by omega)
          have hq := hQ _ Sc.refl
          rw [e1] at hq; exact hq
  · refine wp_eqst (st' := [vI 0]) rfl ?_
    refine wp_if_eq (pc := 8) 26 dX10_isOpen_8 (by decide) (by decide) (fun _ => ?_) (fun hh => absurd hh (by decide))
    refine wp_iconst (pc := 26) dX10_isOpen_26 ?_
    refine wp_zret (pc := 27) dX10_isOpen_27 rfl rfl (by decide) ?_
    refine wp_eqst (st' := [vI 0]) rfl ?_
    refine wp_if_eq (pc := 5) 17 dX10_quietest_5 (by decide) (by decide) (fun _ => ?_) (fun hh => absurd hh (by decide))
    refine wp_iconst (pc := 17) dX10_quietest_17 ?_
    refine wp_iret (pc := 18) dX10_quietest_18 rfl rfl ?_
    have e1 : quietestA T S a w = -1 := if_neg (by omega)
    have hq := hQ _ Sc.refl
    rw [e1] at hq; exact hq

theorem sp_copyFrom {l : Launch} {G : mG} {d : Nat} {I : mI} {L : Nat → Nat → Int} {D : Nat → Nat} {Q : mQ} {s u : Nat}  (hs : isS s) (hu : isS u) (hd : 1 ≤ d) (hQ : Q none (upc I (s + 1) (I (u + 1))) (XX L D)) : WP l G m_X7_copyFrom d 153 I (XX L D) 0 [some (vR s), some (vR u)] [] Q := by
  refine wp_aload_n (pc := 0) 1 dX7_copyFrom_0 rfl rfl ?_
  refine wp_getr (pc := 1) dX7_copyFrom_1 rfl f_X7_11 (sk_0 hu) (sl_0 hu) rfl (sr_0_0 D hu) ?_
  refine wp_iconst (pc := 4) dX7_copyFrom_4 ?_
  refine wp_aload_n (pc := 5) 0 dX7_copyFrom_5 rfl rfl ?_
  refine wp_getr (pc := 6) dX7_copyFrom_6 rfl f_X7_11 (sk_0 hs) (sl_0 hs) rfl (sr_0_0 D hs) ?_
  refine wp_iconst (pc := 9) dX7_copyFrom_9 ?_
  refine wp_bipush (pc := 10) dX7_copyFrom_10 (by decide) ?_
  refine wp_row (pc := 12) (st := []) dX7_copyFrom_12 rfl c_X7_26 (sk_1 hu) (sk_1 hs) (sl_1 hu) (sl_1 hs) (Nat.le_of_ble_eq_true rfl) (by omega) ?_
  refine wp_vret (pc := 15) dX7_copyFrom_15 rfl rfl ?_
  exact hQ

theorem lp_will {l : Launch} {G : mG} {d : Nat} {I : mI} {L : Nat → Nat → Int} {D : Nat → Nat} {Q : mQ} {T : mT} {S : mS} {Z : mT} {a n w : Int} (hC : CI I D T S Z) (h_a : 0 ≤ a ∧ a < T 0 13) (h_n : 0 ≤ n ∧ n ≤ 60) (h_w : 0 ≤ w ∧ w ≤ 1) (hd : 7 ≤ d) (hQ : ∀ J, Ss I J (D 3) 49 → Q (some (vI (willA T S a n w))) J (XX L D)) : ∀ i : Nat, i ≤ n.toNat → ∀ J, Ss I J (D 3) 49 → SS J 49 = sunK T S i → WP l G m_X10_will d 153 J (XX L D) 46 [some (vR 0), some (vI a), some (vI n), some (vI w), some (vI (i : Int))] [] Q := by
  obtain ⟨hD0, h30, hT0, hS, hZ, hw, hv, hz, hrd, hcd⟩ := hC
  have h3 : isT (D 3) := by rw [h30]; exact hD0
  have hT : TT I (D 3) = T := by rw [h30]; exact hT0
  have b_p := tw_p hw
  have b_c := tw_c hw
  have b_q := tw_q hw
  have b_s := sw_sun hv
  refine loop_dn (fun i => ∀ J, Ss I J (D 3) 49 → SS J 49 = sunK T S i → WP l G m_X10_will d 153 J (XX L D) 46 [some (vR 0), some (vI a), some (vI n), some (vI w), some (vI (i : Int))] [] Q) (n.toNat) ?_ (fun i hi ih => ?_)
  · intro J hJ hSj
    have hTj := hJ.tt h3 is49 hT
    have hTj0 : TT J (D 0) = T := by rw [← h30]; exact hTj
    have hok := sunK_ok hw hv hrd n.toNat
    refine wp_iload (pc := 46) dX10_will_46 rfl ?_
    refine wp_iload_n (pc := 48) 2 dX10_will_48 rfl rfl ?_
    refine wp_icmp_ge (pc := 49) 70 dX10_will_49 (by decide) (by omega) (by omega) (fun h_1 => ?_) (fun h_1 => ?_)
    · refine wp_iload_n (pc := 70) 3 dX10_will_70 rfl rfl ?_
      refine wp_if_ne (pc := 71) 85 dX10_will_71 (by decide) (by omega) (fun h_2 => ?_) (fun h_2 => ?_)
      · refine wp_aload_n (pc := 85) 0 dX10_will_85 rfl rfl ?_
        refine wp_getr (pc := 86) dX10_will_86 rfl f_X10_51 kd_0 la_0 rfl (r_0_6 D) ?_
        refine wp_iload_n (pc := 89) 1 dX10_will_89 rfl rfl ?_
        refine wp_callV (pc := 90) (st := []) (nf' := 153) [vI a] [some (vR 49), some (vI a)] dX10_will_90 rfl c_X10_178 rfl kd_49 (by decide) rfl la_49 rfl (Nat.le_of_ble_eq_true rfl) rfl (Nat.le_of_ble_eq_true rfl) (by omega) (Nat.le_refl _) (Nat.le_refl _) ?_
        refine wp_aload_n (pc := 0) 0 dX7_readings_0 rfl rfl ?_
        refine wp_getr (pc := 1) dX7_readings_1 rfl f_X7_11 kd_49 la_49 rfl (r_49_0 D) ?_
        refine wp_bipush (pc := 4) dX7_readings_4 (by decide) ?_
        refine wp_iload_n (pc := 6) 1 dX7_readings_6 rfl rfl ?_
        refine wp_iadd (pc := 7) dX7_readings_7 ?_
        refine wq_iald (pc := 8) (23 + a.toNat) dX7_readings_8 kd_50 la_50 (by omega) (by omega) ?_
        refine wp_eqst (st' := [vI ((sunK T S n.toNat) (23 + a.toNat))]) (by rw [← hSj] <;> rfl) ?_
        refine wp_iret (pc := 9) dX7_readings_9 rfl rfl ?_
        refine wp_eqst (st' := [vI ((sunK T S n.toNat) (23 + a.toNat))]) rfl ?_
        refine wp_iret (pc := 93) dX10_will_93 rfl rfl ?_
        have e1 : willA T S a n w = (sunK T S n.toNat) (23 + a.toNat) := by unfold willA; rw [if_pos (by omega), if_neg (by omega)]
        have hq := hQ J hJ
        rw [e1] at hq; exact hq
      · refine wp_aload_n (pc := 74) 0 dX10_will_74 rfl rfl ?_
        refine wp_getr (pc := 75) dX10_will_75 rfl f_X10_51 kd_0 la_0 rfl (r_0_6 D) ?_
        refine wp_iload_n (pc := 78) 1 dX10_will_78 rfl rfl ?_
        refine wp_callV (pc := 79) (st := []) (nf' := 153) [vI a] [some (vR 49), some (vI a)] dX10_will_79 rfl c_X10_181 rfl kd_49 (by decide) rfl la_49 rfl (Nat.le_of_ble_eq_true rfl) rfl (Nat.le_of_ble_eq_true rfl) (by omega) (Nat.le_refl _) (Nat.le_refl _) ?_
        refine wp_aload_n (pc := 0) 0 dX7_status_0 rfl rfl ?_
        refine wp_getr (pc := 1) dX7_status_1 rfl f_X7_11 kd_49 la_49 rfl (r_49_0 D) ?_
        refine wp_bipush (pc := 4) dX7_status_4 (by decide) ?_
        refine wp_iload_n (pc := 6) 1 dX7_status_6 rfl rfl ?_
        refine wp_iadd (pc := 7) dX7_status_7 ?_
        refine wq_iald (pc := 8) (8 + a.toNat) dX7_status_8 kd_50 la_50 (by omega) (by omega) ?_
        refine wp_eqst (st' := [vI ((sunK T S n.toNat) (8 + a.toNat))]) (by rw [← hSj] <;> rfl) ?_
        refine wp_iret (pc := 9) dX7_status_9 rfl rfl ?_
        refine wp_eqst (st' := [vI ((sunK T S n.toNat) (8 + a.toNat))]) rfl ?_
        refine wp_goto (pc := 82) 93 dX10_will_82 (by decide) ?_
        refine wp_iret (pc := 93) dX10_will_93 rfl rfl ?_
        have e1 : willA T S a n w = (sunK T S n.toNat) (8 + a.toNat) := by unfold willA; rw [if_pos (by omega), if_pos (by omega)]
        have hq := hQ J hJ
        rw [e1] at hq; exact hq
    · exfalso; omega
  · intro J hJ hSj
    have hTj := hJ.tt h3 is49 hT
    have hTj0 : TT J (D 0) = T := by rw [← h30]; exact hTj
    have hok := sunK_ok hw hv hrd i
    refine wp_iload (pc := 46) dX10_will_46 rfl ?_
    refine wp_iload_n (pc := 48) 2 dX10_will_48 rfl rfl ?_
    refine wp_icmp_ge (pc := 49) 70 dX10_will_49 (by decide) (by omega) (by omega) (fun h_1 => ?_) (fun h_1 => ?_)
    · exfalso; omega
    · refine wp_aload_n (pc := 52) 0 dX10_will_52 rfl rfl ?_
      refine wp_getr (pc := 53) dX10_will_53 rfl f_X10_40 kd_0 la_0 rfl (r_0_4 D) ?_
      refine wp_aload_n (pc := 56) 0 dX10_will_56 rfl rfl ?_
      refine wp_getr (pc := 57) dX10_will_57 rfl f_X10_51 kd_0 la_0 rfl (r_0_6 D) ?_
      refine wp_callV (pc := 60) (st := []) (nf' := 153) [vR 49] [some (vR 45), some (vR 49), none, none, none] dX10_will_60 rfl c_X10_235 rfl kd_45 (by decide) rfl la_45 rfl (Nat.le_of_ble_eq_true rfl) rfl (Nat.le_of_ble_eq_true rfl) (by omega) (Nat.le_refl _) (Nat.le_refl _) ?_
      refine sp_keepSunday h3 is49 hTj hSj hw hok.1 (by omega) hcd hok.2 (by omega) (fun K hK hSK => ?_)
      refine wp_eqst (st' := [vI (((sunF T (sunK T S i)).2 : Nat) : Int)]) rfl ?_
      refine wp_pop (pc := 63) dX10_will_63 rfl ?_
      refine wq_iinc (pc := 64) [some (vR 0), some (vI a), some (vI n), some (vI w), some (vI ((i : Int) + 1))] dX10_will_64 rfl rfl (by decide) rfl ?_
      refine wp_goto (pc := 67) 46 dX10_will_67 (by decide) ?_
      refine wp_eqls (ls' := [some (vR 0), some (vI a), some (vI n), some (vI w), some (vI (((i + 1) : Nat) : Int))]) rfl (ih K (hJ.trans hK) hSK)

theorem sp_will {l : Launch} {G : mG} {d : Nat} {I : mI} {L : Nat → Nat → Int} {D : Nat → Nat} {Q : mQ} {T : mT} {S : mS} {Z : mT} {a n w : Int}  (hC : CI I D T S Z) (h_a : inR a) (h_n : inR n) (h_w : inR w) (hd : 7 ≤ d) (hQ : ∀ J, Ss I J (D 3) 49 → Q (some (vI (willA T S a n w))) J (XX L D)) : WP l G m_X10_will d 153 I (XX L D) 0 [some (vR 0), some (vI a), some (vI n), some (vI w), none] [] Q := by
  have hC := hC
  obtain ⟨hD0, h30, hT0, hS, hZ, hw, hv, hz, hrd, hcd⟩ := id hC
  have h3 : isT (D 3) := by rw [h30]; exact hD0
  have hT : TT I (D 3) = T := by rw [h30]; exact hT0
  have b_p := tw_p hw
  have b_c := tw_c hw
  have b_q := tw_q hw
  have b_s := sw_sun hv
  refine wp_aload_n (pc := 0) 0 dX10_will_0 rfl rfl ?_
  refine wp_getr (pc := 1) dX10_will_1 rfl f_X10_10 kd_0 la_0 rfl (r_0_0 D) ?_
  refine wp_iload_n (pc := 4) 1 dX10_will_4 rfl rfl ?_
  refine wp_callV (pc := 5) (st := []) (nf' := 153) [vI a] [some (vR (D 0)), some (vI a)] dX10_will_5 rfl c_X10_163 rfl (tk_0 hD0) (by decide) rfl (tl_0 hD0) rfl (Nat.le_of_ble_eq_true rfl) rfl (Nat.le_of_ble_eq_true rfl) (by omega) (Nat.le_refl _) (Nat.le_refl _) ?_
  refine sp_hasPair hD0 hT0 hw (by omega) (by omega) (fun h_1 => ?_) (fun h_1 => ?_)
  · refine wp_eqst (st' := [vI 1]) rfl ?_
    refine wp_if_eq (pc := 8) 30 dX10_will_8 (by decide) (by decide) (fun hh => absurd hh (by decide)) (fun _ => ?_)
    refine wp_iload_n (pc := 11) 2 dX10_will_11 rfl rfl ?_
    refine wp_if_lt (pc := 12) 30 dX10_will_12 (by decide) (by omega) (fun h_2 => ?_) (fun h_2 => ?_)
    · refine wp_iconst (pc := 30) dX10_will_30 ?_
      refine wp_iret (pc := 31) dX10_will_31 rfl rfl ?_
      have e1 : willA T S a n w = -1 := if_neg (by omega)
      have hq := hQ _ Ss.refl
      rw [e1] at hq; exact hq
    · refine wp_iload_n (pc := 15) 2 dX10_will_15 rfl rfl ?_
      refine wp_bipush (pc := 16) dX10_will_16 (by decide) ?_
      refine wp_icmp_gt (pc := 18) 30 dX10_will_18 (by decide) (by omega) (by decide) (fun h_3 => ?_) (fun h_3 => ?_)
      · refine wp_iconst (pc := 30) dX10_will_30 ?_
        refine wp_iret (pc := 31) dX10_will_31 rfl rfl ?_
        have e1 : willA T S a n w = -1 := if_neg (by omega)
        have hq := hQ _ Ss.refl
        rw [e1] at hq; exact hq
      · refine wp_iload_n (pc := 21) 3 dX10_will_21 rfl rfl ?_
        refine wp_if_lt (pc := 22) 30 dX10_will_22 (by decide) (by omega) (fun h_4 => ?_) (fun h_4 => ?_)
        · refine wp_iconst (pc := 30) dX10_will_30 ?_
          refine wp_iret (pc := 31) dX10_will_31 rfl rfl ?_
          have e1 : willA T S a n w = -1 := if_neg (by omega)
          have hq := hQ _ Ss.refl
          rw [e1] at hq; exact hq
        · refine wp_iload_n (pc := 25) 3 dX10_will_25 rfl rfl ?_
          refine wp_iconst (pc := 26) dX10_will_26 ?_
          refine wp_icmp_le (pc := 27) 32 dX10_will_27 (by decide) (by omega) (by decide) (fun h_5 => ?_) (fun h_5 => ?_)
          · refine wp_aload_n (pc := 32) 0 dX10_will_32 rfl rfl ?_
            refine wp_getr (pc := 33) dX10_will_33 rfl f_X10_51 kd_0 la_0 rfl (r_0_6 D) ?_
            refine wp_aload_n (pc := 36) 0 dX10_will_36 rfl rfl ?_
            refine wp_getr (pc := 37) dX10_will_37 rfl f_X10_47 kd_0 la_0 rfl (r_0_5 D) ?_
            refine wp_callV (pc := 40) (st := []) (nf' := 153) [vR 47] [some (vR 49), some (vR 47)] dX10_will_40 rfl c_X10_264 rfl kd_49 (by decide) rfl la_49 rfl (Nat.le_of_ble_eq_true rfl) rfl (Nat.le_of_ble_eq_true rfl) (by omega) (Nat.le_refl _) (Nat.le_refl _) ?_
            refine sp_copyFrom is49 is47 (by omega) ?_
            refine wp_eqst (st' := []) rfl ?_
            refine wp_iconst (pc := 43) dX10_will_43 ?_
            refine wq_istore (pc := 44) [some (vR 0), some (vI a), some (vI n), some (vI w), some (vI 0)] dX10_will_44 rfl (by decide) rfl ?_
            exact lp_will hC (by omega) (by omega) (by omega) hd hQ 0 (Nat.zero_le _) _ (fun b h1 h2 h3 => funext fun j => upc_c h3) (by show (fun j => upc I 50 (I 48) 50 j) = S; rw [← hS]; funext j; exact upc_s)
          · refine wp_iconst (pc := 30) dX10_will_30 ?_
            refine wp_iret (pc := 31) dX10_will_31 rfl rfl ?_
            have e1 : willA T S a n w = -1 := if_neg (by omega)
            have hq := hQ _ Ss.refl
            rw [e1] at hq; exact hq
  · refine wp_eqst (st' := [vI 0]) rfl ?_
    refine wp_if_eq (pc := 8) 30 dX10_will_8 (by decide) (by decide) (fun _ => ?_) (fun hh => absurd hh (by decide))
    refine wp_iconst (pc := 30) dX10_will_30 ?_
    refine wp_iret (pc := 31) dX10_will_31 rfl rfl ?_
    have e1 : willA T S a n w = -1 := if_neg (by omega)
    have hq := hQ _ Ss.refl
    rw [e1] at hq; exact hq

theorem lp_settles {l : Launch} {G : mG} {d : Nat} {I : mI} {L : Nat → Nat → Int} {D : Nat → Nat} {Q : mQ} {T : mT} {S : mS} {Z : mT} {a : Int} (hC : CI I D T S Z) (h_a : 0 ≤ a ∧ a < T 0 13) (hd : 7 ≤ d) : ∀ i : Nat, i ≤ 61 → ∀ J, Ss I J (D 3) 49 → SS J 49 = sunK T S i → (∀ J, Ss I J (D 3) 49 → Q (some (vI (setlF T S a.toNat (61 - i) i))) J (XX L D)) → WP l G m_X10_settles d 153 J (XX L D) 26 [some (vR 0), some (vI a), some (vI (i : Int))] [] Q := by
  obtain ⟨hD0, h30, hT0, hS, hZ, hw, hv, hz, hrd, hcd⟩ := hC
  have h3 : isT (D 3) := by rw [h30]; exact hD0
  have hT : TT I (D 3) = T := by rw [h30]; exact hT0
  have b_p := tw_p hw
  have b_c := tw_c hw
  have b_q := tw_q hw
  have b_s := sw_sun hv
  refine loop_dn (fun i => ∀ J, Ss I J (D 3) 49 → SS J 49 = sunK T S i → (∀ J, Ss I J (D 3) 49 → Q (some (vI (setlF T S a.toNat (61 - i) i))) J (XX L D)) → WP l G m_X10_settles d 153 J (XX L D) 26 [some (vR 0), some (vI a), some (vI (i : Int))] [] Q) (61) ?_ (fun i hi ih => ?_)
  · intro J hJ hSj hQ
    have hTj := hJ.tt h3 is49 hT
    have hTj0 : TT J (D 0) = T := by rw [← h30]; exact hTj
    have hok := sunK_ok hw hv hrd 61
    refine wp_iload_n (pc := 26) 2 dX10_settles_26 rfl rfl ?_
    refine wp_bipush (pc := 27) dX10_settles_27 (by decide) ?_
    refine wp_icmp_gt (pc := 29) 63 dX10_settles_29 (by decide) (by decide) (by decide) (fun _ => ?_) (fun hh => absurd hh (by decide))
    refine wp_iconst (pc := 63) dX10_settles_63 ?_
    refine wp_iret (pc := 64) dX10_settles_64 rfl rfl ?_
    exact hQ J hJ
  · intro J hJ hSj hQ
    have hTj := hJ.tt h3 is49 hT
    have hTj0 : TT J (D 0) = T := by rw [← h30]; exact hTj
    have hok := sunK_ok hw hv hrd i
    have er : 61 - i = (61 - (i + 1)) + 1 := by omega
    rw [er, setlF] at hQ
    have b_t := sw_stat hok.1 (j := a.toNat) (by omega)
    refine wp_iload_n (pc := 26) 2 dX10_settles_26 rfl rfl ?_
    refine wp_bipush (pc := 27) dX10_settles_27 (by decide) ?_
    refine wp_icmp_gt (pc := 29) 63 dX10_settles_29 (by decide) (by omega) (by decide) (fun h_1 => ?_) (fun h_1 => ?_)
    · exfalso; omega
    · refine wp_aload_n (pc := 32) 0 dX10_settles_32 rfl rfl ?_
      refine wp_getr (pc := 33) dX10_settles_33 rfl f_X10_51 kd_0 la_0 rfl (r_0_6 D) ?_
      refine wp_iload_n (pc := 36) 1 dX10_settles_36 rfl rfl ?_
      refine wp_callV (pc := 37) (st := []) (nf' := 153) [vI a] [some (vR 49), some (vI a)] dX10_settles_37 rfl c_X10_181 rfl kd_49 (by decide) rfl la_49 rfl (Nat.le_of_ble_eq_true rfl) rfl (Nat.le_of_ble_eq_true rfl) (by omega) (Nat.le_refl _) (Nat.le_refl _) ?_
      refine wp_aload_n (pc := 0) 0 dX7_status_0 rfl rfl ?_
      refine wp_getr (pc := 1) dX7_status_1 rfl f_X7_11 kd_49 la_49 rfl (r_49_0 D) ?_
      refine wp_bipush (pc := 4) dX7_status_4 (by decide) ?_
      refine wp_iload_n (pc := 6) 1 dX7_status_6 rfl rfl ?_
      refine wp_iadd (pc := 7) dX7_status_7 ?_
      refine wq_iald (pc := 8) (8 + a.toNat) dX7_status_8 kd_50 la_50 (by omega) (by omega) ?_
      refine wp_eqst (st' := [vI ((sunK T S i) (8 + a.toNat))]) (by rw [← hSj] <;> rfl) ?_
      refine wp_iret (pc := 9) dX7_status_9 rfl rfl ?_
      refine wp_eqst (st' := [vI ((sunK T S i) (8 + a.toNat))]) rfl ?_
      refine wp_if_eq (pc := 40) 45 dX10_settles_40 (by decide) (by omega) (fun h_2 => ?_) (fun h_2 => ?_)
      · refine wp_aload_n (pc := 45) 0 dX10_settles_45 rfl rfl ?_
        refine wp_getr (pc := 46) dX10_settles_46 rfl f_X10_40 kd_0 la_0 rfl (r_0_4 D) ?_
        refine wp_aload_n (pc := 49) 0 dX10_settles_49 rfl rfl ?_
        refine wp_getr (pc := 50) dX10_settles_50 rfl f_X10_51 kd_0 la_0 rfl (r_0_6 D) ?_
        refine wp_callV (pc := 53) (st := []) (nf' := 153) [vR 49] [some (vR 45), some (vR 49), none, none, none] dX10_settles_53 rfl c_X10_235 rfl kd_45 (by decide) rfl la_45 rfl (Nat.le_of_ble_eq_true rfl) rfl (Nat.le_of_ble_eq_true rfl) (by omega) (Nat.le_refl _) (Nat.le_refl _) ?_
        refine sp_keepSunday h3 is49 hTj hSj hw hok.1 (by omega) hcd hok.2 (by omega) (fun K hK hSK => ?_)
        refine wp_eqst (st' := [vI (((sunF T (sunK T S i)).2 : Nat) : Int)]) rfl ?_
        refine wp_pop (pc := 56) dX10_settles_56 rfl ?_
        refine wq_iinc (pc := 57) [some (vR 0), some (vI a), some (vI ((i : Int) + 1))] dX10_settles_57 rfl rfl (by decide) rfl ?_
        refine wp_goto (pc := 60) 26 dX10_settles_60 (by decide) ?_
        rw [if_pos (by omega)] at hQ
        refine wp_eqls (ls' := [some (vR 0), some (vI a), some (vI (((i + 1) : Nat) : Int))]) rfl (ih K (hJ.trans hK) hSK hQ)
      · refine wp_iload_n (pc := 43) 2 dX10_settles_43 rfl rfl ?_
        refine wp_iret (pc := 44) dX10_settles_44 rfl rfl ?_
        rw [if_neg (by omega)] at hQ
        exact hQ J hJ

theorem sp_settles {l : Launch} {G : mG} {d : Nat} {I : mI} {L : Nat → Nat → Int} {D : Nat → Nat} {Q : mQ} {T : mT} {S : mS} {Z : mT} {a : Int}  (hC : CI I D T S Z) (h_a : inR a) (hd : 7 ≤ d) (hQ : ∀ J, Ss I J (D 3) 49 → Q (some (vI (settlesA T S a))) J (XX L D)) : WP l G m_X10_settles d 153 I (XX L D) 0 [some (vR 0), some (vI a), none] [] Q := by
  have hC := hC
  obtain ⟨hD0, h30, hT0, hS, hZ, hw, hv, hz, hrd, hcd⟩ := id hC
  have h3 : isT (D 3) := by rw [h30]; exact hD0
  have hT : TT I (D 3) = T := by rw [h30]; exact hT0
  have b_p := tw_p hw
  have b_c := tw_c hw
  have b_q := tw_q hw
  have b_s := sw_sun hv
  refine wp_aload_n (pc := 0) 0 dX10_settles_0 rfl rfl ?_
  refine wp_getr (pc := 1) dX10_settles_1 rfl f_X10_10 kd_0 la_0 rfl (r_0_0 D) ?_
  refine wp_iload_n (pc := 4) 1 dX10_settles_4 rfl rfl ?_
  refine wp_callV (pc := 5) (st := []) (nf' := 153) [vI a] [some (vR (D 0)), some (vI a)] dX10_settles_5 rfl c_X10_163 rfl (tk_0 hD0) (by decide) rfl (tl_0 hD0) rfl (Nat.le_of_ble_eq_true rfl) rfl (Nat.le_of_ble_eq_true rfl) (by omega) (Nat.le_refl _) (Nat.le_refl _) ?_
  refine sp_hasPair hD0 hT0 hw (by omega) (by omega) (fun h_1 => ?_) (fun h_1 => ?_)
  · refine wp_eqst (st' := [vI 1]) rfl ?_
    refine wp_if_ne (pc := 8) 13 dX10_settles_8 (by decide) (by decide) (fun _ => ?_) (fun hh => absurd hh (by decide))
    refine wp_aload_n (pc := 13) 0 dX10_settles_13 rfl rfl ?_
    refine wp_getr (pc := 14) dX10_settles_14 rfl f_X10_51 kd_0 la_0 rfl (r_0_6 D) ?_
    refine wp_aload_n (pc := 17) 0 dX10_settles_17 rfl rfl ?_
    refine wp_getr (pc := 18) dX10_settles_18 rfl f_X10_47 kd_0 la_0 rfl (r_0_5 D) ?_
    refine wp_callV (pc := 21) (st := []) (nf' := 153) [vR 47] [some (vR 49), some (vR 47)] dX10_settles_21 rfl c_X10_264 rfl kd_49 (by decide) rfl la_49 rfl (Nat.le_of_ble_eq_true rfl) rfl (Nat.le_of_ble_eq_true rfl) (by omega) (Nat.le_refl _) (Nat.le_refl _) ?_
    refine sp_copyFrom is49 is47 (by omega) ?_
    refine wp_eqst (st' := []) rfl ?_
    refine wp_iconst (pc := 24) dX10_settles_24 ?_
    refine wq_istore_n (pc := 25) 2 [some (vR 0), some (vI a), some (vI 0)] dX10_settles_25 rfl rfl (by decide) rfl ?_
    have e1 : settlesA T S a = setlF T S a.toNat 61 0 := if_pos (by omega)
    rw [e1] at hQ
    exact lp_settles hC (by omega) hd 0 (Nat.zero_le _) _ (fun b h1 h2 h3 => funext fun j => upc_c h3) (by show (fun j => upc I 50 (I 48) 50 j) = S; rw [← hS]; funext j; exact upc_s) hQ
  · refine wp_eqst (st' := [vI 0]) rfl ?_
    refine wp_if_ne (pc := 8) 13 dX10_settles_8 (by decide) (by decide) (fun hh => absurd hh (by decide)) (fun _ => ?_)
    refine wp_iconst (pc := 11) dX10_settles_11 ?_
    refine wp_iret (pc := 12) dX10_settles_12 rfl rfl ?_
    have e1 : settlesA T S a = -1 := if_neg (by omega)
    have hq := hQ _ Ss.refl
    rw [e1] at hq; exact hq
