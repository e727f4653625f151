theorem rl_will {l : Launch} {G : mG} {d : Nat} {I : mI} {L : Nat → Nat → Int} {D : Nat → Nat} {Q : mQ} {T : mT} {S : mS} {a n w : Int} (hI : RI I T S) (h_a : 0 ≤ a ∧ a < T 0 13) (h_n : 0 ≤ n ∧ n ≤ 60) (h_w : 0 ≤ w ∧ w ≤ 1) (hd : 7 ≤ d) (hQ : ∀ J, Rg I J → Q (some (vI (willA T S a n w))) J (XX L D)) : ∀ i : Nat, i ≤ n.toNat → ∀ J, Rg I J → J 140 = pS (sunK T S i) → WP l G m_X11_will d 153 J (XX L D) 36 [some (vR 111), some (vI a), some (vI n), some (vI w), some (vI (i : Int))] [] Q := by
  obtain ⟨hR, hN, hX, hw, hv, hrd, hC, hcd⟩ := id hI
  have b_p := tw_p hw
  have b_q := tw_q hw
  have b_c := tw_c hw
  have eP : nP T = (T 0 12).toNat := rfl
  have eQ : nQ T = (T 0 13).toNat := rfl
  have eC : nC T = (T 0 11).toNat := rfl
  have b_s := sw_sun hv
  refine loop_dn (fun i => ∀ J, Rg I J → J 140 = pS (sunK T S i) → WP l G m_X11_will d 153 J (XX L D) 36 [some (vR 111), some (vI a), some (vI n), some (vI w), some (vI (i : Int))] [] Q) (n.toNat) ?_ (fun i hi ih => ?_)
  · intro J hJ hAj
    have hRj := hJ.rt hR
    have hok := sunK_ok hw hv hrd (n.toNat)
    refine wp_iload (pc := 36) dX11_will_36 rfl ?_
    refine wp_iload_n (pc := 38) 2 dX11_will_38 rfl rfl ?_
    refine wp_icmp_ge (pc := 39) 53 dX11_will_39 (by decide) (by omega) (by omega) (fun h_1 => ?_) (fun h_1 => ?_)
    · refine wp_iload_n (pc := 53) 3 dX11_will_53 rfl rfl ?_
      refine wp_if_ne (pc := 54) 65 dX11_will_54 (by decide) (by omega) (fun h_2 => ?_) (fun h_2 => ?_)
      · refine wp_aload_n (pc := 65) 0 dX11_will_65 rfl rfl ?_
        refine wp_getr (pc := 66) dX11_will_66 rfl f_X11_106 kd_111 la_111 rfl (r_111_61 D) ?_
        refine wp_bipush (pc := 69) dX11_will_69 (by decide) ?_
        refine wp_iload_n (pc := 71) 1 dX11_will_71 rfl rfl ?_
        refine wp_iadd (pc := 72) dX11_will_72 ?_
        refine wq_iald (pc := 73) (13 + a.toNat) dX11_will_73 kd_140 la_140 (by omega) (by omega) ?_
        refine wp_eqst (st' := [vI ((sunK T S n.toNat) (23 + a.toNat))]) (by rw [hAj, pS_13 (by omega)]) ?_
        refine wp_iret (pc := 74) dX11_will_74 rfl rfl ?_
        have e1 : willA T S a n w = (sunK T S n.toNat) (23 + a.toNat) := by unfold willA; rw [if_pos (by omega), if_neg (by omega)]
        have hq := hQ J hJ
        rw [e1] at hq; exact hq
      · refine wp_aload_n (pc := 57) 0 dX11_will_57 rfl rfl ?_
        refine wp_iload_n (pc := 58) 1 dX11_will_58 rfl rfl ?_
        refine wp_callV (pc := 59) (st := []) (nf' := 153) [vI a] [some (vR 111), some (vI a)] dX11_will_59 rfl c_X11_446 rfl kd_111 (by decide) rfl la_111 rfl (Nat.le_of_ble_eq_true rfl) rfl (Nat.le_of_ble_eq_true rfl) (by omega) (Nat.le_refl _) (Nat.le_refl _) ?_
        refine wp_aload_n (pc := 0) 0 dX11_stateOf_0 rfl rfl ?_
        refine wp_getr (pc := 1) dX11_stateOf_1 rfl f_X11_106 kd_111 la_111 rfl (r_111_61 D) ?_
        refine wp_bipush (pc := 4) dX11_stateOf_4 (by decide) ?_
        refine wp_iload_n (pc := 6) 1 dX11_stateOf_6 rfl rfl ?_
        refine wp_iadd (pc := 7) dX11_stateOf_7 ?_
        refine wq_iald (pc := 8) (8 + a.toNat) dX11_stateOf_8 kd_140 la_140 (by omega) (by omega) ?_
        refine wp_eqst (st' := [vI ((sunK T S n.toNat) (8 + a.toNat))]) (by rw [hAj, pS_8 (by omega)]) ?_
        refine wp_iret (pc := 9) dX11_stateOf_9 rfl rfl ?_
        refine wp_eqst (st' := [vI ((sunK T S n.toNat) (8 + a.toNat))]) rfl ?_
        refine wp_goto (pc := 62) 74 dX11_will_62 (by decide) ?_
        refine wp_iret (pc := 74) dX11_will_74 rfl rfl ?_
        have e1 : willA T S a n w = (sunK T S n.toNat) (8 + a.toNat) := by unfold willA; rw [if_pos (by omega), if_pos (by omega)]
        have hq := hQ J hJ
        rw [e1] at hq; exact hq
    · exfalso; omega
  · intro J hJ hAj
    have hRj := hJ.rt hR
    have hok := sunK_ok hw hv hrd i
    refine wp_iload (pc := 36) dX11_will_36 rfl ?_
    refine wp_iload_n (pc := 38) 2 dX11_will_38 rfl rfl ?_
    refine wp_icmp_ge (pc := 39) 53 dX11_will_39 (by decide) (by omega) (by omega) (fun h_1 => ?_) (fun h_1 => ?_)
    · exfalso; omega
    · refine wp_aload_n (pc := 42) 0 dX11_will_42 rfl rfl ?_
      refine wp_callV (pc := 43) (st := []) (nf' := 153) [] [some (vR 111), none, none] dX11_will_43 rfl c_X11_521 rfl kd_111 (by decide) rfl la_111 rfl (Nat.le_of_ble_eq_true rfl) rfl (Nat.le_of_ble_eq_true rfl) (by omega) (Nat.le_refl _) (Nat.le_refl _) ?_
      refine rs_goSunday hRj hAj hw hok.1 hC (hJ.fx hX) hcd (by omega) hok.2 (by omega) (fun K hK hAK => ?_)
      refine wp_eqst (st' := [vI (((sunF T (sunK T S i)).2 : Nat) : Int)]) rfl ?_
      refine wp_pop (pc := 46) dX11_will_46 rfl ?_
      refine wq_iinc (pc := 47) [some (vR 111), some (vI a), some (vI n), some (vI w), some (vI ((i : Int) + 1))] dX11_will_47 rfl rfl (by decide) rfl ?_
      refine wp_goto (pc := 50) 36 dX11_will_50 (by decide) ?_
      refine wp_eqls (ls' := [some (vR 111), some (vI a), some (vI n), some (vI w), some (vI (((i + 1) : Nat) : Int))]) rfl (ih K (hJ.trans hK) hAK)

theorem rs_will {l : Launch} {G : mG} {d : Nat} {I : mI} {L : Nat → Nat → Int} {D : Nat → Nat} {Q : mQ} {T : mT} {S : mS} {a n w : Int}  (hI : RI I T S) (h_a : inR a) (h_n : inR n) (h_w : inR w) (hd : 7 ≤ d) (hQ : ∀ J, Rg I J → Q (some (vI (willA T S a n w))) J (XX L D)) : WP l G m_X11_will d 153 I (XX L D) 0 [some (vR 111), some (vI a), some (vI n), some (vI w), none] [] Q := by
  obtain ⟨hR, hN, hX, hw, hv, hrd, hC, hcd⟩ := id hI
  have b_p := tw_p hw
  have b_q := tw_q hw
  have b_c := tw_c hw
  have eP : nP T = (T 0 12).toNat := rfl
  have eQ : nQ T = (T 0 13).toNat := rfl
  have eC : nC T = (T 0 11).toNat := rfl
  have b_s := sw_sun hv
  refine wp_aload_n (pc := 0) 0 dX11_will_0 rfl rfl ?_
  refine wp_iload_n (pc := 1) 1 dX11_will_1 rfl rfl ?_
  refine wp_callV (pc := 2) (st := []) (nf' := 153) [vI a] [some (vR 111), some (vI a)] dX11_will_2 rfl c_X11_506 rfl kd_111 (by decide) rfl la_111 rfl (Nat.le_of_ble_eq_true rfl) rfl (Nat.le_of_ble_eq_true rfl) (by omega) (Nat.le_refl _) (Nat.le_refl _) ?_
  refine rs_isPair hR hw (by omega) (by omega) (fun h_1 => ?_) (fun h_1 => ?_)
  · refine wp_eqst (st' := [vI 1]) rfl ?_
    refine wp_if_eq (pc := 5) 27 dX11_will_5 (by decide) (by decide) (fun hh => absurd hh (by decide)) (fun _ => ?_)
    refine wp_iload_n (pc := 8) 2 dX11_will_8 rfl rfl ?_
    refine wp_iconst (pc := 9) dX11_will_9 ?_
    refine wp_bipush (pc := 10) dX11_will_10 (by decide) ?_
    refine wp_callS (pc := 12) (st := []) (nf' := 153) [vI n, vI 0, vI 60] [some (vI n), some (vI 0), some (vI 60)] dX11_will_12 rfl c_X11_433 rfl rfl (Nat.le_of_ble_eq_true rfl) rfl (Nat.le_of_ble_eq_true rfl) (by omega) (Nat.le_refl _) (Nat.le_refl _) ?_
    refine wp_iload_n (pc := 0) 0 dX11_isIn_0 rfl rfl ?_
    refine wp_iload_n (pc := 1) 1 dX11_isIn_1 rfl rfl ?_
    refine wp_icmp_lt (pc := 2) 14 dX11_isIn_2 (by decide) (by omega) (by decide) (fun h_2 => ?_) (fun h_2 => ?_)
    · refine wp_iconst (pc := 14) dX11_isIn_14 ?_
      refine wp_zret (pc := 15) dX11_isIn_15 rfl rfl (by decide) ?_
      refine wp_eqst (st' := [vI 0]) rfl ?_
      refine wp_if_eq (pc := 15) 27 dX11_will_15 (by decide) (by decide) (fun _ => ?_) (fun hh => absurd hh (by decide))
      refine wp_iconst (pc := 27) dX11_will_27 ?_
      refine wp_iret (pc := 28) dX11_will_28 rfl rfl ?_
      have e1 : willA T S a n w = -1 := if_neg (by omega)
      have hq := hQ _ Rg.refl
      rw [e1] at hq; exact hq
    · refine wp_iload_n (pc := 5) 0 dX11_isIn_5 rfl rfl ?_
      refine wp_iload_n (pc := 6) 2 dX11_isIn_6 rfl rfl ?_
      refine wp_icmp_gt (pc := 7) 14 dX11_isIn_7 (by decide) (by omega) (by decide) (fun h_3 => ?_) (fun h_3 => ?_)
      · refine wp_iconst (pc := 14) dX11_isIn_14 ?_
        refine wp_zret (pc := 15) dX11_isIn_15 rfl rfl (by decide) ?_
        refine wp_eqst (st' := [vI 0]) rfl ?_
        refine wp_if_eq (pc := 15) 27 dX11_will_15 (by decide) (by decide) (fun _ => ?_) (fun hh => absurd hh (by decide))
        refine wp_iconst (pc := 27) dX11_will_27 ?_
        refine wp_iret (pc := 28) dX11_will_28 rfl rfl ?_
        have e1 : willA T S a n w = -1 := if_neg (by omega)
        have hq := hQ _ Rg.refl
        rw [e1] at hq; exact hq
      · refine wp_iconst (pc := 10) dX11_isIn_10 ?_
        refine wp_goto (pc := 11) 15 dX11_isIn_11 (by decide) ?_
        refine wp_zret (pc := 15) dX11_isIn_15 rfl rfl (by decide) ?_
        refine wp_eqst (st' := [vI 1]) rfl ?_
        refine wp_if_eq (pc := 15) 27 dX11_will_15 (by decide) (by decide) (fun hh => absurd hh (by decide)) (fun _ => ?_)
        refine wp_iload_n (pc := 18) 3 dX11_will_18 rfl rfl ?_
        refine wp_iconst (pc := 19) dX11_will_19 ?_
        refine wp_iconst (pc := 20) dX11_will_20 ?_
        refine wp_callS (pc := 21) (st := []) (nf' := 153) [vI w, vI 0, vI 1] [some (vI w), some (vI 0), some (vI 1)] dX11_will_21 rfl c_X11_433 rfl rfl (Nat.le_of_ble_eq_true rfl) rfl (Nat.le_of_ble_eq_true rfl) (by omega) (Nat.le_refl _) (Nat.le_refl _) ?_
        refine wp_iload_n (pc := 0) 0 dX11_isIn_0 rfl rfl ?_
        refine wp_iload_n (pc := 1) 1 dX11_isIn_1 rfl rfl ?_
        refine wp_icmp_lt (pc := 2) 14 dX11_isIn_2 (by decide) (by omega) (by decide) (fun h_4 => ?_) (fun h_4 => ?_)
        · refine wp_iconst (pc := 14) dX11_isIn_14 ?_
          refine wp_zret (pc := 15) dX11_isIn_15 rfl rfl (by decide) ?_
          refine wp_eqst (st' := [vI 0]) rfl ?_
          refine wp_if_ne (pc := 24) 29 dX11_will_24 (by decide) (by decide) (fun hh => absurd hh (by decide)) (fun _ => ?_)
          refine wp_iconst (pc := 27) dX11_will_27 ?_
          refine wp_iret (pc := 28) dX11_will_28 rfl rfl ?_
          have e1 : willA T S a n w = -1 := if_neg (by omega)
          have hq := hQ _ Rg.refl
          rw [e1] at hq; exact hq
        · refine wp_iload_n (pc := 5) 0 dX11_isIn_5 rfl rfl ?_
          refine wp_iload_n (pc := 6) 2 dX11_isIn_6 rfl rfl ?_
          refine wp_icmp_gt (pc := 7) 14 dX11_isIn_7 (by decide) (by omega) (by decide) (fun h_5 => ?_) (fun h_5 => ?_)
          · refine wp_iconst (pc := 14) dX11_isIn_14 ?_
            refine wp_zret (pc := 15) dX11_isIn_15 rfl rfl (by decide) ?_
            refine wp_eqst (st' := [vI 0]) rfl ?_
            refine wp_if_ne (pc := 24) 29 dX11_will_24 (by decide) (by decide) (fun hh => absurd hh (by decide)) (fun _ => ?_)
            refine wp_iconst (pc := 27) dX11_will_27 ?_
            refine wp_iret (pc := 28) dX11_will_28 rfl rfl ?_
            have e1 : willA T S a n w = -1 := if_neg (by omega)
            have hq := hQ _ Rg.refl
            rw [e1] at hq; exact hq
          · refine wp_iconst (pc := 10) dX11_isIn_10 ?_
            refine wp_goto (pc := 11) 15 dX11_isIn_11 (by decide) ?_
            refine wp_zret (pc := 15) dX11_isIn_15 rfl rfl (by decide) ?_
            refine wp_eqst (st' := [vI 1]) rfl ?_
            refine wp_if_ne (pc := 24) 29 dX11_will_24 (by decide) (by decide) (fun _ => ?_) (fun hh => absurd hh (by decide))
            refine wp_aload_n (pc := 29) 0 dX11_will_29 rfl rfl ?_
            refine wp_callV (pc := 30) (st := []) (nf' := 153) [] [some (vR 111), none] dX11_will_30 rfl c_X11_485 rfl kd_111 (by decide) rfl la_111 rfl (Nat.le_of_ble_eq_true rfl) rfl (Nat.le_of_ble_eq_true rfl) (by omega) (Nat.le_refl _) (Nat.le_refl _) ?_
            refine rs_load (by omega) ?_
            generalize hJe : upc I 140 (I 139) = J
            have hJ : ∀ b, b ≠ 140 → J b = I b := fun b g => by rw [← hJe]; exact funext fun j => upc_c g
            have hAJ : J 140 = pS S := by rw [← hJe, ← hN]; exact funext fun j => upc_s
            have hRJ := ld_rt hJ hR
            have hXJ := ld_fx hJ hX
            refine wp_eqst (st' := []) rfl ?_
            refine wp_iconst (pc := 33) dX11_will_33 ?_
            refine wq_istore (pc := 34) [some (vR 111), some (vI a), some (vI n), some (vI w), some (vI 0)] dX11_will_34 rfl (by decide) rfl ?_
            exact rl_will hI (by omega) (by omega) (by omega) hd hQ 0 (Nat.zero_le _) J (Rg.ld hJ) hAJ
  · refine wp_eqst (st' := [vI 0]) rfl ?_
    refine wp_if_eq (pc := 5) 27 dX11_will_5 (by decide) (by decide) (fun _ => ?_) (fun hh => absurd hh (by decide))
    refine wp_iconst (pc := 27) dX11_will_27 ?_
    refine wp_iret (pc := 28) dX11_will_28 rfl rfl ?_
    have e1 : willA T S a n w = -1 := if_neg (by omega)
    have hq := hQ _ Rg.refl
    rw [e1] at hq; exact hq

theorem rl_settles {l : Launch} {G : mG} {d : Nat} {I : mI} {L : Nat → Nat → Int} {D : Nat → Nat} {Q : mQ} {T : mT} {S : mS} {a : Int} (hI : RI I T S) (h_a : 0 ≤ a ∧ a < T 0 13) (hd : 7 ≤ d)  : ∀ i : Nat, i ≤ 61 → ∀ J, Rg I J → J 140 = pS (sunK T S i) → (∀ J, Rg I J → Q (some (vI (setlF T S a.toNat (61 - i) i))) J (XX L D)) → WP l G m_X11_settles d 153 J (XX L D) 16 [some (vR 111), some (vI a), some (vI (i : Int))] [] Q := by
  obtain ⟨hR, hN, hX, hw, hv, hrd, hC, hcd⟩ := id hI
  have b_p := tw_p hw
  have b_q := tw_q hw
  have b_c := tw_c hw
  have eP : nP T = (T 0 12).toNat := rfl
  have eQ : nQ T = (T 0 13).toNat := rfl
  have eC : nC T = (T 0 11).toNat := rfl
  have b_s := sw_sun hv
  refine loop_dn (fun i => ∀ J, Rg I J → J 140 = pS (sunK T S i) → (∀ J, Rg I J → Q (some (vI (setlF T S a.toNat (61 - i) i))) J (XX L D)) → WP l G m_X11_settles d 153 J (XX L D) 16 [some (vR 111), some (vI a), some (vI (i : Int))] [] Q) (61) ?_ (fun i hi ih => ?_)
  · intro J hJ hAj hQ
    have hRj := hJ.rt hR
    have hok := sunK_ok hw hv hrd (61)
    refine wp_iload_n (pc := 16) 2 dX11_settles_16 rfl rfl ?_
    refine wp_bipush (pc := 17) dX11_settles_17 (by decide) ?_
    refine wp_icmp_gt (pc := 19) 43 dX11_settles_19 (by decide) (by decide) (by decide) (fun _ => ?_) (fun hh => absurd hh (by decide))
    refine wp_iconst (pc := 43) dX11_settles_43 ?_
    refine wp_iret (pc := 44) dX11_settles_44 rfl rfl ?_
    exact hQ J hJ
  · intro J hJ hAj hQ
    have hRj := hJ.rt hR
    have hok := sunK_ok hw hv hrd i
    have er : 61 - i = (61 - (i + 1)) + 1 := by omega
    rw [er, setlF] at hQ
    have b_t := sw_stat hok.1 (j := a.toNat) (by omega)
    refine wp_iload_n (pc := 16) 2 dX11_settles_16 rfl rfl ?_
    refine wp_bipush (pc := 17) dX11_settles_17 (by decide) ?_
    refine wp_icmp_gt (pc := 19) 43 dX11_settles_19 (by decide) (by omega) (by decide) (fun h_1 => ?_) (fun h_1 => ?_)
    · exfalso; omega
    · refine wp_aload_n (pc := 22) 0 dX11_settles_22 rfl rfl ?_
      refine wp_iload_n (pc := 23) 1 dX11_settles_23 rfl rfl ?_
      refine wp_callV (pc := 24) (st := []) (nf' := 153) [vI a] [some (vR 111), some (vI a)] dX11_settles_24 rfl c_X11_446 rfl kd_111 (by decide) rfl la_111 rfl (Nat.le_of_ble_eq_true rfl) rfl (Nat.le_of_ble_eq_true rfl) (by omega) (Nat.le_refl _) (Nat.le_refl _) ?_
      refine wp_aload_n (pc := 0) 0 dX11_stateOf_0 rfl rfl ?_
      refine wp_getr (pc := 1) dX11_stateOf_1 rfl f_X11_106 kd_111 la_111 rfl (r_111_61 D) ?_
      refine wp_bipush (pc := 4) dX11_stateOf_4 (by decide) ?_
      refine wp_iload_n (pc := 6) 1 dX11_stateOf_6 rfl rfl ?_
      refine wp_iadd (pc := 7) dX11_stateOf_7 ?_
      refine wq_iald (pc := 8) (8 + a.toNat) dX11_stateOf_8 kd_140 la_140 (by omega) (by omega) ?_
      refine wp_eqst (st' := [vI ((sunK T S i) (8 + a.toNat))]) (by rw [hAj, pS_8 (by omega)]) ?_
      refine wp_iret (pc := 9) dX11_stateOf_9 rfl rfl ?_
      refine wp_eqst (st' := [vI ((sunK T S i) (8 + a.toNat))]) rfl ?_
      refine wp_if_eq (pc := 27) 32 dX11_settles_27 (by decide) (by omega) (fun h_2 => ?_) (fun h_2 => ?_)
      · refine wp_aload_n (pc := 32) 0 dX11_settles_32 rfl rfl ?_
        refine wp_callV (pc := 33) (st := []) (nf' := 153) [] [some (vR 111), none, none] dX11_settles_33 rfl c_X11_521 rfl kd_111 (by decide) rfl la_111 rfl (Nat.le_of_ble_eq_true rfl) rfl (Nat.le_of_ble_eq_true rfl) (by omega) (Nat.le_refl _) (Nat.le_refl _) ?_
        refine rs_goSunday hRj hAj hw hok.1 hC (hJ.fx hX) hcd (by omega) hok.2 (by omega) (fun K hK hAK => ?_)
        refine wp_eqst (st' := [vI (((sunF T (sunK T S i)).2 : Nat) : Int)]) rfl ?_
        refine wp_pop (pc := 36) dX11_settles_36 rfl ?_
        refine wq_iinc (pc := 37) [some (vR 111), some (vI a), some (vI ((i : Int) + 1))] dX11_settles_37 rfl rfl (by decide) rfl ?_
        refine wp_goto (pc := 40) 16 dX11_settles_40 (by decide) ?_
        rw [if_pos (by omega)] at hQ
        refine wp_eqls (ls' := [some (vR 111), some (vI a), some (vI (((i + 1) : Nat) : Int))]) rfl (ih K (hJ.trans hK) hAK hQ)
      · refine wp_iload_n (pc := 30) 2 dX11_settles_30 rfl rfl ?_
        refine wp_iret (pc := 31) dX11_settles_31 rfl rfl ?_
        rw [if_neg (by omega)] at hQ
        exact hQ J hJ

theorem rs_settles {l : Launch} {G : mG} {d : Nat} {I : mI} {L : Nat → Nat → Int} {D : Nat → Nat} {Q : mQ} {T : mT} {S : mS} {a : Int}  (hI : RI I T S) (h_a : inR a) (hd : 7 ≤ d) (hQ : ∀ J, Rg I J → Q (some (vI (settlesA T S a))) J (XX L D)) : WP l G m_X11_settles d 153 I (XX L D) 0 [some (vR 111), some (vI a), none] [] Q := by
  obtain ⟨hR, hN, hX, hw, hv, hrd, hC, hcd⟩ := id hI
  have b_p := tw_p hw
  have b_q := tw_q hw
  have b_c := tw_c hw
  have eP : nP T = (T 0 12).toNat := rfl
  have eQ : nQ T = (T 0 13).toNat := rfl
  have eC : nC T = (T 0 11).toNat := rfl
  have b_s := sw_sun hv
  refine wp_aload_n (pc := 0) 0 dX11_settles_0 rfl rfl ?_
  refine wp_iload_n (pc := 1) 1 dX11_settles_1 rfl rfl ?_
  refine wp_callV (pc := 2) (st := []) (nf' := 153) [vI a] [some (vR 111), some (vI a)] dX11_settles_2 rfl c_X11_506 rfl kd_111 (by decide) rfl la_111 rfl (Nat.le_of_ble_eq_true rfl) rfl (Nat.le_of_ble_eq_true rfl) (by omega) (Nat.le_refl _) (Nat.le_refl _) ?_
  refine rs_isPair hR hw (by omega) (by omega) (fun h_1 => ?_) (fun h_1 => ?_)
  · refine wp_eqst (st' := [vI 1]) rfl ?_
    refine wp_if_ne (pc := 5) 10 dX11_settles_5 (by decide) (by decide) (fun _ => ?_) (fun hh => absurd hh (by decide))
    refine wp_aload_n (pc := 10) 0 dX11_settles_10 rfl rfl ?_
    refine wp_callV (pc := 11) (st := []) (nf' := 153) [] [some (vR 111), none] dX11_settles_11 rfl c_X11_485 rfl kd_111 (by decide) rfl la_111 rfl (Nat.le_of_ble_eq_true rfl) rfl (Nat.le_of_ble_eq_true rfl) (by omega) (Nat.le_refl _) (Nat.le_refl _) ?_
    refine rs_load (by omega) ?_
    generalize hJe : upc I 140 (I 139) = J
    have hJ : ∀ b, b ≠ 140 → J b = I b := fun b g => by rw [← hJe]; exact funext fun j => upc_c g
    have hAJ : J 140 = pS S := by rw [← hJe, ← hN]; exact funext fun j => upc_s
    have hRJ := ld_rt hJ hR
    have hXJ := ld_fx hJ hX
    refine wp_eqst (st' := []) rfl ?_
    refine wp_iconst (pc := 14) dX11_settles_14 ?_
    refine wq_istore_n (pc := 15) 2 [some (vR 111), some (vI a), some (vI 0)] dX11_settles_15 rfl rfl (by decide) rfl ?_
    have e1 : settlesA T S a = setlF T S a.toNat 61 0 := if_pos (by omega)
    rw [e1] at hQ
    exact rl_settles hI (by omega) hd 0 (Nat.zero_le _) J (Rg.ld hJ) hAJ hQ
  · refine wp_eqst (st' := [vI 0]) rfl ?_
    refine wp_if_ne (pc := 5) 10 dX11_settles_5 (by decide) (by decide) (fun hh => absurd hh (by decide)) (fun _ => ?_)
    refine wp_iconst (pc := 8) dX11_settles_8 ?_
    refine wp_iret (pc := 9) dX11_settles_9 rfl rfl ?_
    have e1 : settlesA T S a = -1 := if_neg (by omega)
    have hq := hQ _ Rg.refl
    rw [e1] at hq; exact hq
