theorem rs_sit {l : Launch} {G : mG} {d : Nat} {I : mI} {L : Nat → Nat → Int} {D : Nat → Nat} {Q : mQ} {T : mT} {S : mS} {H : mH} {a c : Int}  (hI : RI I T S) (hH : RH I H) (hHS : H.1 H.2.1 = S) (h_a : inR a) (h_c : inR c) (hd : 2 ≤ d) (h1 : ((0 ≤ a ∧ a < T 0 12) ∧ (0 ≤ c ∧ c < T 0 11) ∧ S a.toNat ≠ c) → ∀ J, Rf2 I J → J 139 = pS (setF S a.toNat c) → RH J (hadd H (setF S a.toNat c)) → Q (some (vI (S a.toNat))) J (XX L D)) (h0 : ¬ (((0 ≤ a ∧ a < T 0 12) ∧ (0 ≤ c ∧ c < T 0 11) ∧ S a.toNat ≠ c)) → ∀ J, Rg I J → Q (some (vI (-1))) J (XX L D)) : WP l G m_X11_sit d 153 I (XX L D) 0 [some (vR 111), some (vI a), some (vI c), none] [] Q := by
  obtain ⟨hR, hN, hX, hw, hv, hrd, hC, hcd⟩ := id hI
  have b_p := tw_p hw
  have b_q := tw_q hw
  have b_c := tw_c hw
  have eP : nP T = (T 0 12).toNat := rfl
  have eQ : nQ T = (T 0 13).toNat := rfl
  have eC : nC T = (T 0 11).toNat := rfl
  have b_s := sw_sun hv
  have b_i : 0 ≤ a → a < T 0 13 → 0 ≤ S (8 + a.toNat) ∧ S (8 + a.toNat) ≤ 2 := fun x y => sw_stat hv (by omega)
  have b_j : 0 ≤ a → a < T 0 12 → 0 ≤ S a.toNat ∧ S a.toNat ≤ 3 := fun x y => sw_seat hv (by omega)
  refine wp_aload_n (pc := 0) 0 dX11_sit_0 rfl rfl ?_
  refine wp_iload_n (pc := 1) 1 dX11_sit_1 rfl rfl ?_
  refine wp_callV (pc := 2) (st := []) (nf' := 153) [vI a] [some (vR 111), some (vI a)] dX11_sit_2 rfl c_X11_437 rfl kd_111 (by decide) rfl la_111 rfl (Nat.le_of_ble_eq_true rfl) rfl (Nat.le_of_ble_eq_true rfl) (by omega) (Nat.le_refl _) (Nat.le_refl _) ?_
  refine rs_isPerson hR hw (by omega) (by omega) (fun h_1 => ?_) (fun h_1 => ?_)
  · refine wp_eqst (st' := [vI 1]) rfl ?_
    refine wp_if_eq (pc := 5) 26 dX11_sit_5 (by decide) (by decide) (fun hh => absurd hh (by decide)) (fun _ => ?_)
    refine wp_aload_n (pc := 8) 0 dX11_sit_8 rfl rfl ?_
    refine wp_iload_n (pc := 9) 2 dX11_sit_9 rfl rfl ?_
    refine wp_callV (pc := 10) (st := []) (nf' := 153) [vI c] [some (vR 111), some (vI c)] dX11_sit_10 rfl c_X11_512 rfl kd_111 (by decide) rfl la_111 rfl (Nat.le_of_ble_eq_true rfl) rfl (Nat.le_of_ble_eq_true rfl) (by omega) (Nat.le_refl _) (Nat.le_refl _) ?_
    refine rs_isChurch hR hw (by omega) (by omega) (fun h_2 => ?_) (fun h_2 => ?_)
    · refine wp_eqst (st' := [vI 1]) rfl ?_
      refine wp_if_eq (pc := 13) 26 dX11_sit_13 (by decide) (by decide) (fun hh => absurd hh (by decide)) (fun _ => ?_)
      refine wp_aload_n (pc := 16) 0 dX11_sit_16 rfl rfl ?_
      refine wp_getr (pc := 17) dX11_sit_17 rfl f_X11_103 kd_111 la_111 rfl (r_111_60 D) ?_
      refine wp_iload_n (pc := 20) 1 dX11_sit_20 rfl rfl ?_
      refine wq_iald (pc := 21) a.toNat dX11_sit_21 kd_139 la_139 (by omega) (by omega) ?_
      refine wp_eqst (st' := [vI (S a.toNat)]) (by rw [hN, pS_s (by omega)]) ?_
      refine wp_iload_n (pc := 22) 2 dX11_sit_22 rfl rfl ?_
      refine wp_icmp_ne (pc := 23) 28 dX11_sit_23 (by decide) (by omega) (by omega) (fun h_3 => ?_) (fun h_3 => ?_)
      · refine wp_aload_n (pc := 28) 0 dX11_sit_28 rfl rfl ?_
        refine wp_callV (pc := 29) (st := []) (nf' := 153) [] [some (vR 111), none] dX11_sit_29 rfl c_X11_515 rfl kd_111 (by decide) rfl la_111 rfl (Nat.le_of_ble_eq_true rfl) rfl (Nat.le_of_ble_eq_true rfl) (by omega) (Nat.le_refl _) (Nat.le_refl _) ?_
        refine rs_act (H := H) hH (by rw [hHS]; exact hN) (by omega) (fun K hK hHK => ?_)
        have hRK := hK.rt hR
        have hNK : K 139 = pS S := (hK.1 139 (by decide) (by decide)).trans hN
        have hFK : Rf2 I K := hK.f2
        refine wp_eqst (st' := []) rfl ?_
        refine wp_aload_n (pc := 32) 0 dX11_sit_32 rfl rfl ?_
        refine wp_getr (pc := 33) dX11_sit_33 rfl f_X11_103 kd_111 la_111 rfl (r_111_60 D) ?_
        refine wp_iload_n (pc := 36) 1 dX11_sit_36 rfl rfl ?_
        refine wq_iald (pc := 37) a.toNat dX11_sit_37 kd_139 la_139 (by omega) (by omega) ?_
        refine wp_eqst (st' := [vI (S a.toNat)]) (by rw [hNK, pS_s (by omega)]) ?_
        refine wq_istore_n (pc := 38) 3 [some (vR 111), some (vI a), some (vI c), some (vI (S a.toNat))] dX11_sit_38 rfl rfl (by decide) rfl ?_
        refine wp_aload_n (pc := 39) 0 dX11_sit_39 rfl rfl ?_
        refine wp_getr (pc := 40) dX11_sit_40 rfl f_X11_103 kd_111 la_111 rfl (r_111_60 D) ?_
        refine wp_iload_n (pc := 43) 1 dX11_sit_43 rfl rfl ?_
        refine wp_iload_n (pc := 44) 2 dX11_sit_44 rfl rfl ?_
        refine wq_iast (pc := 45) a.toNat dX11_sit_45 kd_139 la_139 (by omega) (by omega) ?_
        refine wp_iload_n (pc := 46) 3 dX11_sit_46 rfl rfl ?_
        refine wp_iret (pc := 47) dX11_sit_47 rfl rfl ?_
        refine h1 (by omega) _ ⟨fun b g1 g2 g3 g4 g5 g6 g7 => ?_, fun j g1 g2 g3 g4 g5 => ?_⟩ (pN_s (by omega) hNK) ((hHK (setF S a.toNat c)).fr ?_ ?_ ?_)
        · rw [← hFK.1 b g1 g2 g3 g4 g5 g6 g7]; exact funext fun j => by rw [up_c g2]
        · rw [← hFK.2 j g1 g2 g3 g4 g5, up_c (by decide)]
        · rw [up_c (by decide)]
        · rw [up_c (by decide)]
        · exact funext fun j => by rw [up_c (by decide)]
      · refine wp_iconst (pc := 26) dX11_sit_26 ?_
        refine wp_iret (pc := 27) dX11_sit_27 rfl rfl ?_
        exact h0 (by omega) _ Rg.refl
    · refine wp_eqst (st' := [vI 0]) rfl ?_
      refine wp_if_eq (pc := 13) 26 dX11_sit_13 (by decide) (by decide) (fun _ => ?_) (fun hh => absurd hh (by decide))
      refine wp_iconst (pc := 26) dX11_sit_26 ?_
      refine wp_iret (pc := 27) dX11_sit_27 rfl rfl ?_
      exact h0 (by omega) _ Rg.refl
  · refine wp_eqst (st' := [vI 0]) rfl ?_
    refine wp_if_eq (pc := 5) 26 dX11_sit_5 (by decide) (by decide) (fun _ => ?_) (fun hh => absurd hh (by decide))
    refine wp_iconst (pc := 26) dX11_sit_26 ?_
    refine wp_iret (pc := 27) dX11_sit_27 rfl rfl ?_
    exact h0 (by omega) _ Rg.refl

theorem rs_move {l : Launch} {G : mG} {d : Nat} {I : mI} {L : Nat → Nat → Int} {D : Nat → Nat} {Q : mQ} {T : mT} {S : mS} {H : mH} {a c e : Int}  (hI : RI I T S) (hH : RH I H) (hHS : H.1 H.2.1 = S) (h_a : inR a) (h_c : inR c) (h_e : inR e) (hd : 3 ≤ d) (h1 : (openQ T S a ∧ (0 ≤ c ∧ c < T 0 11) ∧ (0 ≤ e ∧ e < T 0 11)) → ∀ J, Rf2 I J → J 139 = pS (setF (setF S (13 + a.toNat) c) (18 + a.toNat) e) → RH J (hadd H (setF (setF S (13 + a.toNat) c) (18 + a.toNat) e)) → Q (some (vI (S (23 + a.toNat)))) J (XX L D)) (h0 : ¬ ((openQ T S a ∧ (0 ≤ c ∧ c < T 0 11) ∧ (0 ≤ e ∧ e < T 0 11))) → ∀ J, Rg I J → Q (some (vI (-1))) J (XX L D)) : WP l G m_X11_move d 153 I (XX L D) 0 [some (vR 111), some (vI a), some (vI c), some (vI e)] [] Q := by
  obtain ⟨hR, hN, hX, hw, hv, hrd, hC, hcd⟩ := id hI
  have b_p := tw_p hw
  have b_q := tw_q hw
  have b_c := tw_c hw
  have eP : nP T = (T 0 12).toNat := rfl
  have eQ : nQ T = (T 0 13).toNat := rfl
  have eC : nC T = (T 0 11).toNat := rfl
  have b_s := sw_sun hv
  have b_i : 0 ≤ a → a < T 0 13 → 0 ≤ S (8 + a.toNat) ∧ S (8 + a.toNat) ≤ 2 := fun x y => sw_stat hv (by omega)
  have b_j : 0 ≤ a → a < T 0 12 → 0 ≤ S a.toNat ∧ S a.toNat ≤ 3 := fun x y => sw_seat hv (by omega)
  refine wp_aload_n (pc := 0) 0 dX11_move_0 rfl rfl ?_
  refine wp_iload_n (pc := 1) 1 dX11_move_1 rfl rfl ?_
  refine wp_callV (pc := 2) (st := []) (nf' := 153) [vI a] [some (vR 111), some (vI a)] dX11_move_2 rfl c_X11_518 rfl kd_111 (by decide) rfl la_111 rfl (Nat.le_of_ble_eq_true rfl) rfl (Nat.le_of_ble_eq_true rfl) (by omega) (Nat.le_refl _) (Nat.le_refl _) ?_
  refine wp_aload_n (pc := 0) 0 dX11_isOpen_0 rfl rfl ?_
  refine wp_iload_n (pc := 1) 1 dX11_isOpen_1 rfl rfl ?_
  refine wp_callV (pc := 2) (st := []) (nf' := 153) [vI a] [some (vR 111), some (vI a)] dX11_isOpen_2 rfl c_X11_506 rfl kd_111 (by decide) rfl la_111 rfl (Nat.le_of_ble_eq_true rfl) rfl (Nat.le_of_ble_eq_true rfl) (by omega) (Nat.le_refl _) (Nat.le_refl _) ?_
  refine rs_isPair hR hw (by omega) (by omega) (fun h_1 => ?_) (fun h_1 => ?_)
  · refine wp_eqst (st' := [vI 1]) rfl ?_
    refine wp_if_eq (pc := 5) 24 dX11_isOpen_5 (by decide) (by decide) (fun hh => absurd hh (by decide)) (fun _ => ?_)
    refine wp_aload_n (pc := 8) 0 dX11_isOpen_8 rfl rfl ?_
    refine wp_getr (pc := 9) dX11_isOpen_9 rfl f_X11_103 kd_111 la_111 rfl (r_111_60 D) ?_
    refine wp_bipush (pc := 12) dX11_isOpen_12 (by decide) ?_
    refine wp_iload_n (pc := 14) 1 dX11_isOpen_14 rfl rfl ?_
    refine wp_iadd (pc := 15) dX11_isOpen_15 ?_
    refine wq_iald (pc := 16) (8 + a.toNat) dX11_isOpen_16 kd_139 la_139 (by omega) (by omega) ?_
    refine wp_eqst (st' := [vI (S (8 + a.toNat))]) (by rw [hN, pS_8 (by omega)]) ?_
    refine wp_if_ne (pc := 17) 24 dX11_isOpen_17 (by decide) (by omega) (fun h_2 => ?_) (fun h_2 => ?_)
    · refine wp_iconst (pc := 24) dX11_isOpen_24 ?_
      refine wp_zret (pc := 25) dX11_isOpen_25 rfl rfl (by decide) ?_
      refine wp_eqst (st' := [vI 0]) rfl ?_
      refine wp_if_eq (pc := 5) 24 dX11_move_5 (by decide) (by decide) (fun _ => ?_) (fun hh => absurd hh (by decide))
      refine wp_iconst (pc := 24) dX11_move_24 ?_
      refine wp_iret (pc := 25) dX11_move_25 rfl rfl ?_
      exact h0 (by omega) _ Rg.refl
    · refine wp_iconst (pc := 20) dX11_isOpen_20 ?_
      refine wp_goto (pc := 21) 25 dX11_isOpen_21 (by decide) ?_
      refine wp_zret (pc := 25) dX11_isOpen_25 rfl rfl (by decide) ?_
      refine wp_eqst (st' := [vI 1]) rfl ?_
      refine wp_if_eq (pc := 5) 24 dX11_move_5 (by decide) (by decide) (fun hh => absurd hh (by decide)) (fun _ => ?_)
      refine wp_aload_n (pc := 8) 0 dX11_move_8 rfl rfl ?_
      refine wp_iload_n (pc := 9) 2 dX11_move_9 rfl rfl ?_
      refine wp_callV (pc := 10) (st := []) (nf' := 153) [vI c] [some (vR 111), some (vI c)] dX11_move_10 rfl c_X11_512 rfl kd_111 (by decide) rfl la_111 rfl (Nat.le_of_ble_eq_true rfl) rfl (Nat.le_of_ble_eq_true rfl) (by omega) (Nat.le_refl _) (Nat.le_refl _) ?_
      refine rs_isChurch hR hw (by omega) (by omega) (fun h_3 => ?_) (fun h_3 => ?_)
      · refine wp_eqst (st' := [vI 1]) rfl ?_
        refine wp_if_eq (pc := 13) 24 dX11_move_13 (by decide) (by decide) (fun hh => absurd hh (by decide)) (fun _ => ?_)
        refine wp_aload_n (pc := 16) 0 dX11_move_16 rfl rfl ?_
        refine wp_iload_n (pc := 17) 3 dX11_move_17 rfl rfl ?_
        refine wp_callV (pc := 18) (st := []) (nf' := 153) [vI e] [some (vR 111), some (vI e)] dX11_move_18 rfl c_X11_512 rfl kd_111 (by decide) rfl la_111 rfl (Nat.le_of_ble_eq_true rfl) rfl (Nat.le_of_ble_eq_true rfl) (by omega) (Nat.le_refl _) (Nat.le_refl _) ?_
        refine rs_isChurch hR hw (by omega) (by omega) (fun h_4 => ?_) (fun h_4 => ?_)
        · refine wp_eqst (st' := [vI 1]) rfl ?_
          refine wp_if_ne (pc := 21) 26 dX11_move_21 (by decide) (by decide) (fun _ => ?_) (fun hh => absurd hh (by decide))
          refine wp_aload_n (pc := 26) 0 dX11_move_26 rfl rfl ?_
          refine wp_callV (pc := 27) (st := []) (nf' := 153) [] [some (vR 111), none] dX11_move_27 rfl c_X11_515 rfl kd_111 (by decide) rfl la_111 rfl (Nat.le_of_ble_eq_true rfl) rfl (Nat.le_of_ble_eq_true rfl) (by omega) (Nat.le_refl _) (Nat.le_refl _) ?_
          refine rs_act (H := H) hH (by rw [hHS]; exact hN) (by omega) (fun K hK hHK => ?_)
          have hRK := hK.rt hR
          have hNK : K 139 = pS S := (hK.1 139 (by decide) (by decide)).trans hN
          have hFK : Rf2 I K := hK.f2
          refine wp_eqst (st' := []) rfl ?_
          refine wp_aload_n (pc := 30) 0 dX11_move_30 rfl rfl ?_
          refine wp_getr (pc := 31) dX11_move_31 rfl f_X11_103 kd_111 la_111 rfl (r_111_60 D) ?_
          refine wp_bipush (pc := 34) dX11_move_34 (by decide) ?_
          refine wp_iload_n (pc := 36) 1 dX11_move_36 rfl rfl ?_
          refine wp_iadd (pc := 37) dX11_move_37 ?_
          refine wp_iload_n (pc := 38) 2 dX11_move_38 rfl rfl ?_
          refine wq_iast (pc := 39) (18 + a.toNat) dX11_move_39 kd_139 la_139 (by omega) (by omega) ?_
          refine wp_aload_n (pc := 40) 0 dX11_move_40 rfl rfl ?_
          refine wp_getr (pc := 41) dX11_move_41 rfl f_X11_103 kd_111 la_111 rfl (r_111_60 D) ?_
          refine wp_bipush (pc := 44) dX11_move_44 (by decide) ?_
          refine wp_iload_n (pc := 46) 1 dX11_move_46 rfl rfl ?_
          refine wp_iadd (pc := 47) dX11_move_47 ?_
          refine wp_iload_n (pc := 48) 3 dX11_move_48 rfl rfl ?_
          refine wq_iast (pc := 49) (23 + a.toNat) dX11_move_49 kd_139 la_139 (by omega) (by omega) ?_
          refine wp_aload_n (pc := 50) 0 dX11_move_50 rfl rfl ?_
          refine wp_getr (pc := 51) dX11_move_51 rfl f_X11_103 kd_111 la_111 rfl (r_111_60 D) ?_
          refine wp_bipush (pc := 54) dX11_move_54 (by decide) ?_
          refine wp_iload_n (pc := 56) 1 dX11_move_56 rfl rfl ?_
          refine wp_iadd (pc := 57) dX11_move_57 ?_
          refine wq_iald (pc := 58) (13 + a.toNat) dX11_move_58 kd_139 la_139 (by omega) (by omega) ?_
          refine wp_iret (pc := 59) dX11_move_59 rfl rfl ?_
          have e1 : (up (up K 139 (18 + a.toNat) c) 139 (23 + a.toNat) e) 139 (13 + a.toNat) = S (23 + a.toNat) := by rw [up_j (by omega), up_j (by omega), hNK, pS_13 (by omega)]
          rw [e1]
          refine h1 (by omega) _ ⟨fun b g1 g2 g3 g4 g5 g6 g7 => ?_, fun j g1 g2 g3 g4 g5 => ?_⟩ (pN_23 (by omega) (pN_18 (by omega) hNK)) ((hHK (setF (setF S (13 + a.toNat) c) (18 + a.toNat) e)).fr ?_ ?_ ?_)
          · rw [← hFK.1 b g1 g2 g3 g4 g5 g6 g7]; exact funext fun j => by rw [up_c g2, up_c g2]
          · rw [← hFK.2 j g1 g2 g3 g4 g5, up_c (by decide), up_c (by decide)]
          · rw [up_c (by decide), up_c (by decide)]
          · rw [up_c (by decide), up_c (by decide)]
          · exact funext fun j => by rw [up_c (by decide), up_c (by decide)]
        · refine wp_eqst (st' := [vI 0]) rfl ?_
          refine wp_if_ne (pc := 21) 26 dX11_move_21 (by decide) (by decide) (fun hh => absurd hh (by decide)) (fun _ => ?_)
          refine wp_iconst (pc := 24) dX11_move_24 ?_
          refine wp_iret (pc := 25) dX11_move_25 rfl rfl ?_
          exact h0 (by omega) _ Rg.refl
      · refine wp_eqst (st' := [vI 0]) rfl ?_
        refine wp_if_eq (pc := 13) 24 dX11_move_13 (by decide) (by decide) (fun _ => ?_) (fun hh => absurd hh (by decide))
        refine wp_iconst (pc := 24) dX11_move_24 ?_
        refine wp_iret (pc := 25) dX11_move_25 rfl rfl ?_
        exact h0 (by omega) _ Rg.refl
  · refine wp_eqst (st' := [vI 0]) rfl ?_
    refine wp_if_eq (pc := 5) 24 dX11_isOpen_5 (by decide) (by decide) (fun _ => ?_) (fun hh => absurd hh (by decide))
    refine wp_iconst (pc := 24) dX11_isOpen_24 ?_
    refine wp_zret (pc := 25) dX11_isOpen_25 rfl rfl (by decide) ?_
    refine wp_eqst (st' := [vI 0]) rfl ?_
    refine wp_if_eq (pc := 5) 24 dX11_move_5 (by decide) (by decide) (fun _ => ?_) (fun hh => absurd hh (by decide))
    refine wp_iconst (pc := 24) dX11_move_24 ?_
    refine wp_iret (pc := 25) dX11_move_25 rfl rfl ?_
    exact h0 (by omega) _ Rg.refl

theorem rs_licence {l : Launch} {G : mG} {d : Nat} {I : mI} {L : Nat → Nat → Int} {D : Nat → Nat} {Q : mQ} {T : mT} {S : mS} {H : mH} {a : Int}  (hI : RI I T S) (hH : RH I H) (hHS : H.1 H.2.1 = S) (h_a : inR a) (hd : 3 ≤ d) (h1 : (openQ T S a ∧ barQ T S a.toNat = 0) → ∀ J, Rf2 I J → J 139 = pS (setF S (8 + a.toNat) 1) → RH J (hadd H (setF S (8 + a.toNat) 1)) → Q (some (vI (1))) J (XX L D)) (h0 : ¬ ((openQ T S a ∧ barQ T S a.toNat = 0)) → ∀ J, Rg I J → Q (some (vI 0)) J (XX L D)) : WP l G m_X11_licence d 153 I (XX L D) 0 [some (vR 111), some (vI a)] [] Q := by
  obtain ⟨hR, hN, hX, hw, hv, hrd, hC, hcd⟩ := id hI
  have b_p := tw_p hw
  have b_q := tw_q hw
  have b_c := tw_c hw
  have eP : nP T = (T 0 12).toNat := rfl
  have eQ : nQ T = (T 0 13).toNat := rfl
  have eC : nC T = (T 0 11).toNat := rfl
  have b_s := sw_sun hv
  have b_i : 0 ≤ a → a < T 0 13 → 0 ≤ S (8 + a.toNat) ∧ S (8 + a.toNat) ≤ 2 := fun x y => sw_stat hv (by omega)
  have b_j : 0 ≤ a → a < T 0 12 → 0 ≤ S a.toNat ∧ S a.toNat ≤ 3 := fun x y => sw_seat hv (by omega)
  have b_b := barF_in T S (pa T a.toNat) (pb T a.toNat) a.toNat
  have e_b : barQ T S a.toNat = barF T S (pa T a.toNat) (pb T a.toNat) a.toNat := rfl
  refine wp_aload_n (pc := 0) 0 dX11_licence_0 rfl rfl ?_
  refine wp_iload_n (pc := 1) 1 dX11_licence_1 rfl rfl ?_
  refine wp_callV (pc := 2) (st := []) (nf' := 153) [vI a] [some (vR 111), some (vI a)] dX11_licence_2 rfl c_X11_518 rfl kd_111 (by decide) rfl la_111 rfl (Nat.le_of_ble_eq_true rfl) rfl (Nat.le_of_ble_eq_true rfl) (by omega) (Nat.le_refl _) (Nat.le_refl _) ?_
  refine wp_aload_n (pc := 0) 0 dX11_isOpen_0 rfl rfl ?_
  refine wp_iload_n (pc := 1) 1 dX11_isOpen_1 rfl rfl ?_
  refine wp_callV (pc := 2) (st := []) (nf' := 153) [vI a] [some (vR 111), some (vI a)] dX11_isOpen_2 rfl c_X11_506 rfl kd_111 (by decide) rfl la_111 rfl (Nat.le_of_ble_eq_true rfl) rfl (Nat.le_of_ble_eq_true rfl) (by omega) (Nat.le_refl _) (Nat.le_refl _) ?_
  refine rs_isPair hR hw (by omega) (by omega) (fun h_1 => ?_) (fun h_1 => ?_)
  · refine wp_eqst (st' := [vI 1]) rfl ?_
    refine wp_if_eq (pc := 5) 24 dX11_isOpen_5 (by decide) (by decide) (fun hh => absurd hh (by decide)) (fun _ => ?_)
    refine wp_aload_n (pc := 8) 0 dX11_isOpen_8 rfl rfl ?_
    refine wp_getr (pc := 9) dX11_isOpen_9 rfl f_X11_103 kd_111 la_111 rfl (r_111_60 D) ?_
    refine wp_bipush (pc := 12) dX11_isOpen_12 (by decide) ?_
    refine wp_iload_n (pc := 14) 1 dX11_isOpen_14 rfl rfl ?_
    refine wp_iadd (pc := 15) dX11_isOpen_15 ?_
    refine wq_iald (pc := 16) (8 + a.toNat) dX11_isOpen_16 kd_139 la_139 (by omega) (by omega) ?_
    refine wp_eqst (st' := [vI (S (8 + a.toNat))]) (by rw [hN, pS_8 (by omega)]) ?_
    refine wp_if_ne (pc := 17) 24 dX11_isOpen_17 (by decide) (by omega) (fun h_2 => ?_) (fun h_2 => ?_)
    · refine wp_iconst (pc := 24) dX11_isOpen_24 ?_
      refine wp_zret (pc := 25) dX11_isOpen_25 rfl rfl (by decide) ?_
      refine wp_eqst (st' := [vI 0]) rfl ?_
      refine wp_if_ne (pc := 5) 10 dX11_licence_5 (by decide) (by decide) (fun hh => absurd hh (by decide)) (fun _ => ?_)
      refine wp_iconst (pc := 8) dX11_licence_8 ?_
      refine wp_zret (pc := 9) dX11_licence_9 rfl rfl (by decide) ?_
      exact h0 (by omega) _ Rg.refl
    · refine wp_iconst (pc := 20) dX11_isOpen_20 ?_
      refine wp_goto (pc := 21) 25 dX11_isOpen_21 (by decide) ?_
      refine wp_zret (pc := 25) dX11_isOpen_25 rfl rfl (by decide) ?_
      refine wp_eqst (st' := [vI 1]) rfl ?_
      refine wp_if_ne (pc := 5) 10 dX11_licence_5 (by decide) (by decide) (fun _ => ?_) (fun hh => absurd hh (by decide))
      refine wp_aload_n (pc := 10) 0 dX11_licence_10 rfl rfl ?_
      refine wp_callV (pc := 11) (st := []) (nf' := 153) [] [some (vR 111), none] dX11_licence_11 rfl c_X11_485 rfl kd_111 (by decide) rfl la_111 rfl (Nat.le_of_ble_eq_true rfl) rfl (Nat.le_of_ble_eq_true rfl) (by omega) (Nat.le_refl _) (Nat.le_refl _) ?_
      refine rs_load (by omega) ?_
      generalize hJe : upc I 140 (I 139) = J
      have hJ : ∀ b, b ≠ 140 → J b = I b := fun b g => by rw [← hJe]; exact funext fun j => upc_c g
      have hAJ : J 140 = pS S := by rw [← hJe, ← hN]; exact funext fun j => upc_s
      have hRJ := ld_rt hJ hR
      have hXJ := ld_fx hJ hX
      refine wp_eqst (st' := []) rfl ?_
      refine wp_aload_n (pc := 14) 0 dX11_licence_14 rfl rfl ?_
      refine wp_iload_n (pc := 15) 1 dX11_licence_15 rfl rfl ?_
      refine wp_callV (pc := 16) (st := []) (nf' := 153) [vI a] [some (vR 111), some (vI a), none, none] dX11_licence_16 rfl c_X11_458 rfl kd_111 (by decide) rfl la_111 rfl (Nat.le_of_ble_eq_true rfl) rfl (Nat.le_of_ble_eq_true rfl) (by omega) (Nat.le_refl _) (Nat.le_refl _) ?_
      refine rs_barOf a.toNat (by omega) hRJ hAJ hw hv hC (by omega) (by omega) ?_
      refine wp_eqst (st' := [vI (barQ T S a.toNat)]) rfl ?_
      refine wp_if_le (pc := 19) 24 dX11_licence_19 (by decide) (by omega) (fun h_3 => ?_) (fun h_3 => ?_)
      · refine wp_aload_n (pc := 24) 0 dX11_licence_24 rfl rfl ?_
        refine wp_callV (pc := 25) (st := []) (nf' := 153) [] [some (vR 111), none] dX11_licence_25 rfl c_X11_515 rfl kd_111 (by decide) rfl la_111 rfl (Nat.le_of_ble_eq_true rfl) rfl (Nat.le_of_ble_eq_true rfl) (by omega) (Nat.le_refl _) (Nat.le_refl _) ?_
        refine rs_act (H := H) (hH.fr (by rw [hJ 111 (by decide)]) (by rw [hJ 111 (by decide)]) (hJ 142 (by decide))) (by rw [hHS, hJ 139 (by decide)]; exact hN) (by omega) (fun K hK hHK => ?_)
        have hRK := hK.rt hRJ
        have hNK : K 139 = pS S := (hK.1 139 (by decide) (by decide)).trans ((hJ 139 (by decide)).trans hN)
        have hFK : Rf2 I K := (Rg.ld hJ).f2.trans hK.f2
        refine wp_eqst (st' := []) rfl ?_
        refine wp_aload_n (pc := 28) 0 dX11_licence_28 rfl rfl ?_
        refine wp_getr (pc := 29) dX11_licence_29 rfl f_X11_103 kd_111 la_111 rfl (r_111_60 D) ?_
        refine wp_bipush (pc := 32) dX11_licence_32 (by decide) ?_
        refine wp_iload_n (pc := 34) 1 dX11_licence_34 rfl rfl ?_
        refine wp_iadd (pc := 35) dX11_licence_35 ?_
        refine wp_iconst (pc := 36) dX11_licence_36 ?_
        refine wq_iast (pc := 37) (8 + a.toNat) dX11_licence_37 kd_139 la_139 (by omega) (by omega) ?_
        refine wp_iconst (pc := 38) dX11_licence_38 ?_
        refine wp_zret (pc := 39) dX11_licence_39 rfl rfl (by decide) ?_
        refine h1 (by omega) _ ⟨fun b g1 g2 g3 g4 g5 g6 g7 => ?_, fun j g1 g2 g3 g4 g5 => ?_⟩ (pN_8 (by omega) hNK) ((hHK (setF S (8 + a.toNat) 1)).fr ?_ ?_ ?_)
        · rw [← hFK.1 b g1 g2 g3 g4 g5 g6 g7]; exact funext fun j => by rw [up_c g2]
        · rw [← hFK.2 j g1 g2 g3 g4 g5, up_c (by decide)]
        · rw [up_c (by decide)]
        · rw [up_c (by decide)]
        · exact funext fun j => by rw [up_c (by decide)]
      · refine wp_iconst (pc := 22) dX11_licence_22 ?_
        refine wp_zret (pc := 23) dX11_licence_23 rfl rfl (by decide) ?_
        exact h0 (by omega) _ (Rg.ld hJ)
  · refine wp_eqst (st' := [vI 0]) rfl ?_
    refine wp_if_eq (pc := 5) 24 dX11_isOpen_5 (by decide) (by decide) (fun _ => ?_) (fun hh => absurd hh (by decide))
    refine wp_iconst (pc := 24) dX11_isOpen_24 ?_
    refine wp_zret (pc := 25) dX11_isOpen_25 rfl rfl (by decide) ?_
    refine wp_eqst (st' := [vI 0]) rfl ?_
    refine wp_if_ne (pc := 5) 10 dX11_licence_5 (by decide) (by decide) (fun hh => absurd hh (by decide)) (fun _ => ?_)
    refine wp_iconst (pc := 8) dX11_licence_8 ?_
    refine wp_zret (pc := 9) dX11_licence_9 rfl rfl (by decide) ?_
    exact h0 (by omega) _ Rg.refl

theorem rl_sunday {l : Launch} {G : mG} {d : Nat} {I : mI} {L : Nat → Nat → Int} {D : Nat → Nat} {Q : mQ} {v : Int}  (hd : 7 ≤ d) (hQ : Q (some (vI v)) (upc I 139 (I 140)) (XX L D)) : ∀ i : Nat, i ≤ 30 → WP l G m_X11_sunday d 153 (upc I 139 (fun j => if j < i then I 140 j else I 139 j)) (XX L D) 30 [some (vR 111), some (vI v), some (vI (i : Int))] [] Q := by
  refine loop_dn (fun i => WP l G m_X11_sunday d 153 (upc I 139 (fun j => if j < i then I 140 j else I 139 j)) (XX L D) 30 [some (vR 111), some (vI v), some (vI (i : Int))] [] Q) 30 ?_ (fun i hi ih => ?_)
  · refine wp_iload_n (pc := 30) 2 dX11_sunday_30 rfl rfl ?_
    refine wp_bipush (pc := 31) dX11_sunday_31 (by decide) ?_
    refine wp_icmp_ge (pc := 33) 54 dX11_sunday_33 (by decide) (by decide) (by decide) (fun _ => ?_) (fun hh => absurd hh (by decide))
    refine wp_ext (I' := upc I 139 (I 140)) (fun b j hj => ?_) ?_
    · by_cases e : b = 139
      · subst e; rw [upc_s, upc_s]; exact (if_pos hj).symm
      · rw [upc_c e, upc_c e]
    refine wp_iload_n (pc := 54) 1 dX11_sunday_54 rfl rfl ?_
    refine wp_iret (pc := 55) dX11_sunday_55 rfl rfl ?_
    exact hQ
  · refine wp_iload_n (pc := 30) 2 dX11_sunday_30 rfl rfl ?_
    refine wp_bipush (pc := 31) dX11_sunday_31 (by decide) ?_
    refine wp_icmp_ge (pc := 33) 54 dX11_sunday_33 (by decide) (by omega) (by decide) (fun h_1 => ?_) (fun h_1 => ?_)
    · exfalso; omega
    · refine wp_aload_n (pc := 36) 0 dX11_sunday_36 rfl rfl ?_
      refine wp_getr (pc := 37) dX11_sunday_37 rfl f_X11_103 kd_111 la_111 rfl (r_111_60 D) ?_
      refine wp_iload_n (pc := 40) 2 dX11_sunday_40 rfl rfl ?_
      refine wp_aload_n (pc := 41) 0 dX11_sunday_41 rfl rfl ?_
      refine wp_getr (pc := 42) dX11_sunday_42 rfl f_X11_106 kd_111 la_111 rfl (r_111_61 D) ?_
      refine wp_iload_n (pc := 45) 2 dX11_sunday_45 rfl rfl ?_
      refine wq_iald (pc := 46) i dX11_sunday_46 kd_140 la_140 rfl (by omega) ?_
      refine wp_eqst (st' := [vI (I 140 i), vI (i : Int), vR 139]) (by rw [upc_c (by omega)]) ?_
      refine wq_iast (pc := 47) i dX11_sunday_47 kd_139 la_139 rfl (by omega) ?_
      refine wq_iinc (pc := 48) [some (vR 111), some (vI v), some (vI ((i : Int) + 1))] dX11_sunday_48 rfl rfl (by decide) rfl ?_
      refine wp_goto (pc := 51) 30 dX11_sunday_51 (by decide) ?_
      refine wp_eqI (I' := upc I 139 (fun j => if j < (i + 1) then I 140 j else I 139 j)) (by rw [up_upc]; exact congrArg (upc I 139) (funext fun j => by by_cases h1 : j = i <;> by_cases h2 : j < i <;> simp [h1, h2] <;> omega)) ?_
      exact wp_eqls (ls' := [some (vR 111), some (vI v), some (vI (((i + 1) : Nat) : Int))]) rfl ih

theorem rs_sunday {l : Launch} {G : mG} {d : Nat} {I : mI} {L : Nat → Nat → Int} {D : Nat → Nat} {Q : mQ} {T : mT} {S : mS} {H : mH}  (hI : RI I T S) (hH : RH I H) (hHS : H.1 H.2.1 = S) (hd : 7 ≤ d) (h1 : S 28 < 999 → ∀ J, Rf2 I J → J 139 = pS (sunF T S).1 → RH J (hadd H (sunF T S).1) → Q (some (vI (((sunF T S).2 : Nat) : Int))) J (XX L D)) (h0 : ¬ (S 28 < 999) → ∀ J, Rg I J → Q (some (vI (-1))) J (XX L D)) : WP l G m_X11_sunday d 153 I (XX L D) 0 [some (vR 111), none, none] [] Q := by
  obtain ⟨hR, hN, hX, hw, hv, hrd, hC, hcd⟩ := id hI
  have b_p := tw_p hw
  have b_q := tw_q hw
  have b_c := tw_c hw
  have eP : nP T = (T 0 12).toNat := rfl
  have eQ : nQ T = (T 0 13).toNat := rfl
  have eC : nC T = (T 0 11).toNat := rfl
  have b_s := sw_sun hv
  refine wp_aload_n (pc := 0) 0 dX11_sunday_0 rfl rfl ?_
  refine wp_getr (pc := 1) dX11_sunday_1 rfl f_X11_103 kd_111 la_111 rfl (r_111_60 D) ?_
  refine wp_bipush (pc := 4) dX11_sunday_4 (by decide) ?_
  refine wq_iald (pc := 6) 28 dX11_sunday_6 kd_139 la_139 rfl (by decide) ?_
  refine wp_eqst (st' := [vI (S 28)]) (by rw [hN, pS_28]) ?_
  refine wp_sipush (pc := 7) dX11_sunday_7 (by decide) ?_
  refine wp_icmp_ne (pc := 10) 15 dX11_sunday_10 (by decide) (by omega) (by decide) (fun h_1 => ?_) (fun h_1 => ?_)
  · refine wp_aload_n (pc := 15) 0 dX11_sunday_15 rfl rfl ?_
    refine wp_callV (pc := 16) (st := []) (nf' := 153) [] [some (vR 111), none] dX11_sunday_16 rfl c_X11_515 rfl kd_111 (by decide) rfl la_111 rfl (Nat.le_of_ble_eq_true rfl) rfl (Nat.le_of_ble_eq_true rfl) (by omega) (Nat.le_refl _) (Nat.le_refl _) ?_
    refine rs_act (H := H) hH (by rw [hHS]; exact hN) (by omega) (fun K hK hHK => ?_)
    have hRK := hK.rt hR
    have hNK : K 139 = pS S := (hK.1 139 (by decide) (by decide)).trans hN
    have hFK : Rf2 I K := hK.f2
    refine wp_eqst (st' := []) rfl ?_
    refine wp_aload_n (pc := 19) 0 dX11_sunday_19 rfl rfl ?_
    refine wp_callV (pc := 20) (st := []) (nf' := 153) [] [some (vR 111), none] dX11_sunday_20 rfl c_X11_485 rfl kd_111 (by decide) rfl la_111 rfl (Nat.le_of_ble_eq_true rfl) rfl (Nat.le_of_ble_eq_true rfl) (by omega) (Nat.le_refl _) (Nat.le_refl _) ?_
    refine rs_load (by omega) ?_
    generalize hMe : upc K 140 (K 139) = M
    have hM : ∀ b, b ≠ 140 → M b = K b := fun b g => by rw [← hMe]; exact funext fun j => upc_c g
    have hAM : M 140 = pS S := by rw [← hMe, ← hNK]; exact funext fun j => upc_s
    have hRM := ld_rt hM hRK
    have hXM := ld_fx hM (hK.fx hX)
    refine wp_eqst (st' := []) rfl ?_
    refine wp_aload_n (pc := 23) 0 dX11_sunday_23 rfl rfl ?_
    refine wp_callV (pc := 24) (st := []) (nf' := 153) [] [some (vR 111), none, none] dX11_sunday_24 rfl c_X11_521 rfl kd_111 (by decide) rfl la_111 rfl (Nat.le_of_ble_eq_true rfl) rfl (Nat.le_of_ble_eq_true rfl) (by omega) (Nat.le_refl _) (Nat.le_refl _) ?_
    refine rs_goSunday hRM hAM hw hv hC hXM hcd (by omega) hrd (by omega) (fun N hN2 hAN => ?_)
    refine wp_eqst (st' := [vI (((sunF T S).2 : Nat) : Int)]) rfl ?_
    refine wq_istore_n (pc := 27) 1 [some (vR 111), some (vI (((sunF T S).2 : Nat) : Int)), none] dX11_sunday_27 rfl rfl (by decide) rfl ?_
    refine wp_iconst (pc := 28) dX11_sunday_28 ?_
    refine wq_istore_n (pc := 29) 2 [some (vR 111), some (vI (((sunF T S).2 : Nat) : Int)), some (vI 0)] dX11_sunday_29 rfl rfl (by decide) rfl ?_
    refine wp_eqls (ls' := [some (vR 111), some (vI (((sunF T S).2 : Nat) : Int)), some (vI 0)]) rfl (wp_eqI (I' := upc N 139 (fun j => if j < 0 then N 140 j else N 139 j)) (by rw [show (fun j => if j < 0 then N 140 j else N 139 j) = N 139 from funext fun j => if_neg (Nat.not_lt_zero j), upc_id]) (rl_sunday hd (h1 (by omega) _ ((hFK.trans ((Rg.ld hM).f2)).trans (hN2.f2.trans ?_)) (funext fun j => by rw [upc_s, hAN]) ((hHK (sunF T S).1).fr ?_ ?_ ?_)) 0 (Nat.zero_le _)))
    · exact ⟨fun b g1 g2 g3 g4 g5 g6 g7 => funext fun j => upc_c g2, fun j _ _ _ _ _ => upc_c (by decide)⟩
    · rw [upc_c (by decide), hN2.2 65 (by decide) (by decide) (by decide), hM 111 (by decide)]
    · rw [upc_c (by decide), hN2.2 66 (by decide) (by decide) (by decide), hM 111 (by decide)]
    · exact funext fun j => by rw [upc_c (by decide), hN2.1 142 (by decide) (by decide) (by decide) (by decide) (by decide), hM 142 (by decide)]
  · refine wp_iconst (pc := 13) dX11_sunday_13 ?_
    refine wp_iret (pc := 14) dX11_sunday_14 rfl rfl ?_
    exact h0 (by omega) _ Rg.refl

theorem rs_undo {l : Launch} {G : mG} {d : Nat} {I : mI} {L : Nat → Nat → Int} {D : Nat → Nat} {Q : mQ} {T : mT} {S : mS} {H : mH}  (hI : RI I T S) (hH : RH I H) (hHS : H.1 H.2.1 = S) (hd : 1 ≤ d) (h1 : 0 < H.2.1 → ∀ J, Rf2 I J → J 139 = pS (H.1 (H.2.1 - 1)) → RH J (H.1, H.2.1 - 1, H.2.2) → Q (some (vI 1)) J (XX L D)) (h0 : ¬ (0 < H.2.1) → Q (some (vI 0)) I (XX L D)) : WP l G m_X11_undo d 153 I (XX L D) 0 [some (vR 111)] [] Q := by
  obtain ⟨hR, hN, hX, hw, hv, hrd, hC, hcd⟩ := id hI
  have b_p := tw_p hw
  have b_q := tw_q hw
  have b_c := tw_c hw
  have eP : nP T = (T 0 12).toNat := rfl
  have eQ : nQ T = (T 0 13).toNat := rfl
  have eC : nC T = (T 0 11).toNat := rfl
  have b_s := sw_sun hv
  have h65 := hH.1
  have h66 := hH.2.1
  have h40 := hH.2.2.2.1
  have h41 := hH.2.2.1
  refine wp_aload_n (pc := 0) 0 dX11_undo_0 rfl rfl ?_
  refine wp_geti (pc := 1) dX11_undo_1 rfl f_X11_424 kd_111 la_111 (Or.inl rfl) ?_
  refine wp_eqst (st' := [vI ((H.2.1 : Nat) : Int)]) (by rw [h65]) ?_
  refine wp_if_ne (pc := 4) 9 dX11_undo_4 (by decide) (by omega) (fun h_1 => ?_) (fun h_1 => ?_)
  · refine wp_aload_n (pc := 9) 0 dX11_undo_9 rfl rfl ?_
    refine wp_dup (pc := 10) dX11_undo_10 rfl ?_
    refine wp_geti (pc := 11) dX11_undo_11 rfl f_X11_424 kd_111 la_111 (Or.inl rfl) ?_
    refine wp_eqst (st' := [vI ((H.2.1 : Nat) : Int), vR 111]) (by rw [h65]) ?_
    refine wp_iconst (pc := 14) dX11_undo_14 ?_
    refine wp_isub (pc := 15) dX11_undo_15 ?_
    refine wp_puti (pc := 16) dX11_undo_16 rfl f_X11_424 kd_111 la_111 (fun _ h => by cases h; rfl) rfl ?_
    refine wp_aload_n (pc := 19) 0 dX11_undo_19 rfl rfl ?_
    refine wp_dup (pc := 20) dX11_undo_20 rfl ?_
    refine wp_geti (pc := 21) dX11_undo_21 rfl f_X11_427 kd_111 la_111 (Or.inl rfl) ?_
    refine wp_eqst (st' := [vI ((H.2.2 - H.2.1 : Nat) : Int), vR 111]) (by rw [up_j (by omega), h66]) ?_
    refine wp_iconst (pc := 24) dX11_undo_24 ?_
    refine wp_iadd (pc := 25) dX11_undo_25 ?_
    refine wp_puti (pc := 26) dX11_undo_26 rfl f_X11_427 kd_111 la_111 (fun _ h => by cases h; rfl) rfl ?_
    refine wp_aload_n (pc := 29) 0 dX11_undo_29 rfl rfl ?_
    refine wp_bipush (pc := 30) dX11_undo_30 (by decide) ?_
    refine wp_aload_n (pc := 32) 0 dX11_undo_32 rfl rfl ?_
    refine wp_geti (pc := 33) dX11_undo_33 rfl f_X11_424 kd_111 la_111 (Or.inl rfl) ?_
    refine wp_eqst (st' := [vI (((H.2.1 : Nat) : Int) - 1), vI 30, vR 111]) (by rw [up_j (by omega), up_s]) ?_
    refine wp_imul (pc := 36) dX11_undo_36 ?_
    refine wp_callV (pc := 37) (st := []) (nf' := 153) [vI (30 * (((H.2.1 : Nat) : Int) - 1))] [some (vR 111), some (vI (30 * (((H.2.1 : Nat) : Int) - 1))), none, none] dX11_undo_37 rfl c_X11_524 rfl kd_111 (by decide) rfl la_111 rfl (Nat.le_of_ble_eq_true rfl) rfl (Nat.le_of_ble_eq_true rfl) (by omega) (Nat.le_refl _) (Nat.le_refl _) ?_
    have m1 : (up (up I 111 65 (((H.2.1 : Nat) : Int) - 1)) 111 66 (((H.2.2 - H.2.1 : Nat) : Int) + 1)) 142 = I 142 := funext fun j => by rw [up_c (by decide), up_c (by decide)]
    have m2 : (up (up I 111 65 (((H.2.1 : Nat) : Int) - 1)) 111 66 (((H.2.2 - H.2.1 : Nat) : Int) + 1)) 139 = I 139 := funext fun j => by rw [up_c (by decide), up_c (by decide)]
    refine rs_exchange (n := (H.2.1 - 1)) (g := pS (H.1 (H.2.1 - 1))) (by omega) (by omega) (fun j hj => by rw [m1]; exact hH.2.2.2.2.1 (H.2.1 - 1) j (by omega) hj) (by omega) ?_
    rw [m1, m2]
    refine wp_eqst (st' := []) rfl ?_
    refine wp_iconst (pc := 40) dX11_undo_40 ?_
    refine wp_zret (pc := 41) dX11_undo_41 rfl rfl (by decide) ?_
    refine h1 (by omega) _ ⟨fun b g1 g2 g3 g4 g5 g6 g7 => funext fun j => by rw [upc_c g2, upc_c g5, up_c g1, up_c g1], fun j g1 g2 g3 g4 g5 => by rw [upc_c (by decide), upc_c (by decide), up_j g3, up_j g2]⟩ (funext fun j => by rw [upc_s]) (rh_undo hH (by rw [hHS]; exact hN) (by omega) (by rw [upc_c (by decide), upc_c (by decide), up_j (by decide), up_s, h65]) (by rw [upc_c (by decide), upc_c (by decide), up_s, h66]) (funext fun j => by rw [upc_c (by decide), upc_s]))
  · refine wp_iconst (pc := 7) dX11_undo_7 ?_
    refine wp_zret (pc := 8) dX11_undo_8 rfl rfl (by decide) ?_
    exact h0 (by omega)

theorem rs_redo {l : Launch} {G : mG} {d : Nat} {I : mI} {L : Nat → Nat → Int} {D : Nat → Nat} {Q : mQ} {T : mT} {S : mS} {H : mH}  (hI : RI I T S) (hH : RH I H) (hHS : H.1 H.2.1 = S) (hd : 1 ≤ d) (h1 : H.2.1 < H.2.2 → ∀ J, Rf2 I J → J 139 = pS (H.1 (H.2.1 + 1)) → RH J (H.1, H.2.1 + 1, H.2.2) → Q (some (vI 1)) J (XX L D)) (h0 : ¬ (H.2.1 < H.2.2) → Q (some (vI 0)) I (XX L D)) : WP l G m_X11_redo d 153 I (XX L D) 0 [some (vR 111)] [] Q := by
  obtain ⟨hR, hN, hX, hw, hv, hrd, hC, hcd⟩ := id hI
  have b_p := tw_p hw
  have b_q := tw_q hw
  have b_c := tw_c hw
  have eP : nP T = (T 0 12).toNat := rfl
  have eQ : nQ T = (T 0 13).toNat := rfl
  have eC : nC T = (T 0 11).toNat := rfl
  have b_s := sw_sun hv
  have h65 := hH.1
  have h66 := hH.2.1
  have h40 := hH.2.2.2.1
  have h41 := hH.2.2.1
  refine wp_aload_n (pc := 0) 0 dX11_redo_0 rfl rfl ?_
  refine wp_geti (pc := 1) dX11_redo_1 rfl f_X11_427 kd_111 la_111 (Or.inl rfl) ?_
  refine wp_eqst (st' := [vI ((H.2.2 - H.2.1 : Nat) : Int)]) (by rw [h66]) ?_
  refine wp_if_ne (pc := 4) 9 dX11_redo_4 (by decide) (by omega) (fun h_1 => ?_) (fun h_1 => ?_)
  · refine wp_aload_n (pc := 9) 0 dX11_redo_9 rfl rfl ?_
    refine wp_bipush (pc := 10) dX11_redo_10 (by decide) ?_
    refine wp_aload_n (pc := 12) 0 dX11_redo_12 rfl rfl ?_
    refine wp_geti (pc := 13) dX11_redo_13 rfl f_X11_424 kd_111 la_111 (Or.inl rfl) ?_
    refine wp_eqst (st' := [vI ((H.2.1 : Nat) : Int), vI 30, vR 111]) (by rw [h65]) ?_
    refine wp_imul (pc := 16) dX11_redo_16 ?_
    refine wp_callV (pc := 17) (st := []) (nf' := 153) [vI (30 * ((H.2.1 : Nat) : Int))] [some (vR 111), some (vI (30 * ((H.2.1 : Nat) : Int))), none, none] dX11_redo_17 rfl c_X11_524 rfl kd_111 (by decide) rfl la_111 rfl (Nat.le_of_ble_eq_true rfl) rfl (Nat.le_of_ble_eq_true rfl) (by omega) (Nat.le_refl _) (Nat.le_refl _) ?_
    refine rs_exchange (n := H.2.1) (g := pS (H.1 (H.2.1 + 1))) (by omega) (by omega) (fun j hj => hH.2.2.2.2.2 H.2.1 j (Nat.le_refl _) (by omega) hj) (by omega) ?_
    refine wp_eqst (st' := []) rfl ?_
    refine wp_aload_n (pc := 20) 0 dX11_redo_20 rfl rfl ?_
    refine wp_dup (pc := 21) dX11_redo_21 rfl ?_
    refine wp_geti (pc := 22) dX11_redo_22 rfl f_X11_424 kd_111 la_111 (Or.inl rfl) ?_
    refine wp_eqst (st' := [vI ((H.2.1 : Nat) : Int), vR 111]) (by rw [upc_c (by omega), upc_c (by omega), h65]) ?_
    refine wp_iconst (pc := 25) dX11_redo_25 ?_
    refine wp_iadd (pc := 26) dX11_redo_26 ?_
    refine wp_puti (pc := 27) dX11_redo_27 rfl f_X11_424 kd_111 la_111 (fun _ h => by cases h; rfl) rfl ?_
    refine wp_aload_n (pc := 30) 0 dX11_redo_30 rfl rfl ?_
    refine wp_dup (pc := 31) dX11_redo_31 rfl ?_
    refine wp_geti (pc := 32) dX11_redo_32 rfl f_X11_427 kd_111 la_111 (Or.inl rfl) ?_
    refine wp_eqst (st' := [vI ((H.2.2 - H.2.1 : Nat) : Int), vR 111]) (by rw [up_j (by omega), upc_c (by omega), upc_c (by omega), h66]) ?_
    refine wp_iconst (pc := 35) dX11_redo_35 ?_
    refine wp_isub (pc := 36) dX11_redo_36 ?_
    refine wp_puti (pc := 37) dX11_redo_37 rfl f_X11_427 kd_111 la_111 (fun _ h => by cases h; rfl) rfl ?_
    refine wp_iconst (pc := 40) dX11_redo_40 ?_
    refine wp_zret (pc := 41) dX11_redo_41 rfl rfl (by decide) ?_
    refine h1 (by omega) _ ⟨fun b g1 g2 g3 g4 g5 g6 g7 => funext fun j => by rw [up_c g1, up_c g1, upc_c g2, upc_c g5], fun j g1 g2 g3 g4 g5 => by rw [up_j g3, up_j g2, upc_c (by decide), upc_c (by decide)]⟩ (funext fun j => by rw [up_c (by decide), up_c (by decide), upc_s]) (rh_redo hH (by rw [hHS]; exact hN) (by omega) (by rw [up_j (by decide), up_s, h65]) (by rw [up_s, h66]) (funext fun j => by rw [up_c (by decide), up_c (by decide), upc_c (by decide), upc_s]))
  · refine wp_iconst (pc := 7) dX11_redo_7 ?_
    refine wp_zret (pc := 8) dX11_redo_8 rfl rfl (by decide) ?_
    exact h0 (by omega)
