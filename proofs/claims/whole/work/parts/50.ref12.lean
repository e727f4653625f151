theorem rl_members {l : Launch} {G : mG} {d : Nat} {I : mI} {L : Nat → Nat → Int} {D : Nat → Nat} {Q : mQ} {m : Nat} (hm : m < 256) (hd : 0 ≤ d) (hQ : Q (some (vI (((pc8 m : Nat) : Int)))) I (XX L D)) : ∀ i : Nat, i ≤ 8 → WP l G m_X11_members d 153 I (XX L D) 4 [some (vI (m : Int)), some (vI ((cnt m i : Nat) : Int)), some (vI (i : Int))] [] Q := by
  refine loop_dn (fun i => WP l G m_X11_members d 153 I (XX L D) 4 [some (vI (m : Int)), some (vI ((cnt m i : Nat) : Int)), some (vI (i : Int))] [] Q) 8 ?_ (fun i hi ih => ?_)
  · refine wp_iload_n (pc := 4) 2 dX11_members_4 rfl rfl ?_
    refine wp_bipush (pc := 5) dX11_members_5 (by decide) ?_
    refine wp_icmp_ge (pc := 7) 24 dX11_members_7 (by decide) (by decide) (by decide) (fun _ => ?_) (fun hh => absurd hh (by decide))
    refine wp_iload_n (pc := 24) 1 dX11_members_24 rfl rfl ?_
    refine wp_iret (pc := 25) dX11_members_25 rfl rfl ?_
    exact hQ
  · have b1 := cnt_le m i
    refine wp_iload_n (pc := 4) 2 dX11_members_4 rfl rfl ?_
    refine wp_bipush (pc := 5) dX11_members_5 (by decide) ?_
    refine wp_icmp_ge (pc := 7) 24 dX11_members_7 (by decide) (by omega) (by decide) (fun h_1 => ?_) (fun h_1 => ?_)
    · exfalso; omega
    · refine wp_iload_n (pc := 10) 1 dX11_members_10 rfl rfl ?_
      refine wp_iload_n (pc := 11) 0 dX11_members_11 rfl rfl ?_
      refine wp_iload_n (pc := 12) 2 dX11_members_12 rfl rfl ?_
      refine wn_shr (pc := 13) m i dX11_members_13 rfl rfl (by omega) (by omega) ?_
      refine wp_iconst (pc := 14) dX11_members_14 ?_
      refine wn_mask (pc := 15) (m / 2 ^ i) 1 dX11_members_15 rfl rfl (by decide) ?_
      refine wp_iadd (pc := 16) dX11_members_16 ?_
      refine wq_istore_n (pc := 17) 1 [some (vI (m : Int)), some (vI (((cnt m i : Nat) : Int) + (((m / 2 ^ i) % 2 ^ 1 : Nat) : Int))), some (vI (i : Int))] dX11_members_17 rfl rfl (by decide) rfl ?_
      refine wq_iinc (pc := 18) [some (vI (m : Int)), some (vI (((cnt m i : Nat) : Int) + (((m / 2 ^ i) % 2 ^ 1 : Nat) : Int))), some (vI ((i : Int) + 1))] dX11_members_18 rfl rfl (by decide) rfl ?_
      refine wp_goto (pc := 21) 4 dX11_members_21 (by decide) ?_
      refine wp_eqls (ls' := [some (vI (m : Int)), some (vI ((cnt m (i + 1) : Nat) : Int)), some (vI (((i + 1) : Nat) : Int))]) (by rfl) ih

theorem rs_members {l : Launch} {G : mG} {d : Nat} {I : mI} {L : Nat → Nat → Int} {D : Nat → Nat} {Q : mQ}  (m : Nat) {m_ : Int} (hm_ : m_ = (m : Int)) (hm : m < 256) (hd : 0 ≤ d) (hQ : Q (some (vI (((pc8 m : Nat) : Int)))) I (XX L D)) : WP l G m_X11_members d 153 I (XX L D) 0 [some (vI m_), none, none] [] Q := by
  subst hm_
  refine wp_iconst (pc := 0) dX11_members_0 ?_
  refine wq_istore_n (pc := 1) 1 [some (vI (m : Int)), some (vI 0), none] dX11_members_1 rfl rfl (by decide) rfl ?_
  refine wp_iconst (pc := 2) dX11_members_2 ?_
  refine wq_istore_n (pc := 3) 2 [some (vI (m : Int)), some (vI 0), some (vI 0)] dX11_members_3 rfl rfl (by decide) rfl ?_
  exact rl_members hm hd hQ 0 (Nat.zero_le _)

theorem rs_isSo {l : Launch} {G : mG} {d : Nat} {I : mI} {L : Nat → Nat → Int} {D : Nat → Nat} {Q : mQ} {T : mT} {S : mS} {Z : mT} (j : Nat) {j_ : Int} (hj_ : j_ = (j : Int)) (p : Nat) {p_ : Int} (hp_ : p_ = (p : Int)) (hR : RT I T) (hN : I 139 = pS S) (hw : tw T) (hv : sw S 999) (hC : TC T) (hZ : RZ I Z) (hz : zw Z) (hzk : ∀ j, j < nZ Z → Z 1 j = 2 → Z 2 j < T 0 12) (hj : j < nZ Z) (hp : p < nP T) (hd : 2 ≤ d) (h1 : isSo T S Z j p → Q (some (vI 1)) I (XX L D)) (h0 : ¬ (isSo T S Z j p) → Q (some (vI 0)) I (XX L D)) : WP l G m_X11_isSo d 153 I (XX L D) 0 [some (vR 111), some (vI j_), some (vI p_)] [] Q := by
  subst hj_
  subst hp_
  have b_p := tw_p hw
  have b_q := tw_q hw
  have b_c := tw_c hw
  have eP : nP T = (T 0 12).toNat := rfl
  have eQ : nQ T = (T 0 13).toNat := rfl
  have eC : nC T = (T 0 11).toNat := rfl
  have z1 := hz.2.2.1 j
  have z2 := hz.2.2.2.1 j
  have z3 := hz.2.2.2.2.1 j
  have z4 := hz.2.2.2.2.2.1 j
  have z5 := hz.2.2.2.2.2.2.1 j
  have z6 := hz.2.2.2.2.2.2.2 j
  have z0 := hz.1
  have z7 := hzk j hj
  have eZ : nZ Z = (Z 0 6).toNat := rfl
  have b1 := sw_seat hv (j := p) (by omega)
  have b2 := tw_knows hw p
  have b3 := bit_lt (T 14 p).toNat (Z 2 j).toNat
  refine wp_aload_n (pc := 0) 0 dX11_isSo_0 rfl rfl ?_
  refine wp_getr (pc := 1) dX11_isSo_1 rfl f_X11_121 kd_111 la_111 rfl (r_111_71 D) ?_
  refine wp_iload_n (pc := 4) 1 dX11_isSo_4 rfl rfl ?_
  refine wq_iald (pc := 5) j dX11_isSo_5 kd_145 la_145 rfl (by omega) ?_
  refine wp_eqst (st' := [vI (Z 1 j)]) (by rw [rz_145 hZ]) ?_
  refine wp_if_ne (pc := 6) 30 dX11_isSo_6 (by decide) (by omega) (fun h_1 => ?_) (fun h_1 => ?_)
  · refine wp_aload_n (pc := 30) 0 dX11_isSo_30 rfl rfl ?_
    refine wp_getr (pc := 31) dX11_isSo_31 rfl f_X11_121 kd_111 la_111 rfl (r_111_71 D) ?_
    refine wp_iload_n (pc := 34) 1 dX11_isSo_34 rfl rfl ?_
    refine wq_iald (pc := 35) j dX11_isSo_35 kd_145 la_145 rfl (by omega) ?_
    refine wp_eqst (st' := [vI (Z 1 j)]) (by rw [rz_145 hZ]) ?_
    refine wp_iconst (pc := 36) dX11_isSo_36 ?_
    refine wp_icmp_ne (pc := 37) 64 dX11_isSo_37 (by decide) (by omega) (by decide) (fun h_2 => ?_) (fun h_2 => ?_)
    · refine wp_aload_n (pc := 64) 0 dX11_isSo_64 rfl rfl ?_
      refine wp_iload_n (pc := 65) 2 dX11_isSo_65 rfl rfl ?_
      refine wp_aload_n (pc := 66) 0 dX11_isSo_66 rfl rfl ?_
      refine wp_getr (pc := 67) dX11_isSo_67 rfl f_X11_124 kd_111 la_111 rfl (r_111_72 D) ?_
      refine wp_iload_n (pc := 70) 1 dX11_isSo_70 rfl rfl ?_
      refine wq_iald (pc := 71) j dX11_isSo_71 kd_146 la_146 rfl (by omega) ?_
      refine wp_eqst (st' := [vI (Z 2 j), vI (p : Int), vR 111]) (by rw [rz_146 hZ]) ?_
      refine wp_aload_n (pc := 72) 0 dX11_isSo_72 rfl rfl ?_
      refine wp_getr (pc := 73) dX11_isSo_73 rfl f_X11_127 kd_111 la_111 rfl (r_111_73 D) ?_
      refine wp_iload_n (pc := 76) 1 dX11_isSo_76 rfl rfl ?_
      refine wq_iald (pc := 77) j dX11_isSo_77 kd_147 la_147 rfl (by omega) ?_
      refine wp_eqst (st' := [vI (Z 3 j), vI (Z 2 j), vI (p : Int), vR 111]) (by rw [rz_147 hZ]) ?_
      refine wp_callV (pc := 78) (st := []) (nf' := 153) [vI (p : Int), vI (Z 2 j), vI (Z 3 j)] [some (vR 111), some (vI (p : Int)), some (vI (Z 2 j)), some (vI (Z 3 j))] dX11_isSo_78 rfl c_X11_452 rfl kd_111 (by decide) rfl la_111 rfl (Nat.le_of_ble_eq_true rfl) rfl (Nat.le_of_ble_eq_true rfl) (by omega) (Nat.le_refl _) (Nat.le_refl _) ?_
      refine rs_areKin p rfl (Int.toNat (Z 2 j)) (by omega) hR hw hC (by omega) (by omega) (by omega) (by omega) (fun h_3 => ?_) (fun h_3 => ?_)
      · refine wp_eqst (st' := [vI 1]) rfl ?_
        refine wp_zret (pc := 81) dX11_isSo_81 rfl rfl (by decide) ?_
        exact h1 (by unfold isSo; rw [if_neg (by omega), if_neg (by omega)]; exact h_3)
      · refine wp_eqst (st' := [vI 0]) rfl ?_
        refine wp_zret (pc := 81) dX11_isSo_81 rfl rfl (by decide) ?_
        exact h0 (by unfold isSo; rw [if_neg (by omega), if_neg (by omega)]; exact h_3)
    · refine wp_aload_n (pc := 40) 0 dX11_isSo_40 rfl rfl ?_
      refine wp_iload_n (pc := 41) 2 dX11_isSo_41 rfl rfl ?_
      refine wp_callV (pc := 42) (st := []) (nf' := 153) [vI (p : Int)] [some (vR 111), some (vI (p : Int)), none, none] dX11_isSo_42 rfl c_X11_461 rfl kd_111 (by decide) rfl la_111 rfl (Nat.le_of_ble_eq_true rfl) rfl (Nat.le_of_ble_eq_true rfl) (by omega) (Nat.le_refl _) (Nat.le_refl _) ?_
      refine rs_knownTo p rfl hR hw hC (by omega) (by omega) ?_
      refine wp_eqst (st' := [vI (T 14 p)]) rfl ?_
      refine wp_aload_n (pc := 45) 0 dX11_isSo_45 rfl rfl ?_
      refine wp_getr (pc := 46) dX11_isSo_46 rfl f_X11_124 kd_111 la_111 rfl (r_111_72 D) ?_
      refine wp_iload_n (pc := 49) 1 dX11_isSo_49 rfl rfl ?_
      refine wq_iald (pc := 50) j dX11_isSo_50 kd_146 la_146 rfl (by omega) ?_
      refine wp_eqst (st' := [vI (Z 2 j), vI (T 14 p)]) (by rw [rz_146 hZ]) ?_
      refine wn_shr (pc := 51) (Int.toNat (T 14 p)) (Int.toNat (Z 2 j)) dX11_isSo_51 (by omega) (by omega) (by omega) (by omega) ?_
      refine wp_iconst (pc := 52) dX11_isSo_52 ?_
      refine wn_mask (pc := 53) ((Int.toNat (T 14 p)) / 2 ^ (Int.toNat (Z 2 j))) 1 dX11_isSo_53 rfl rfl (by decide) ?_
      refine wp_iconst (pc := 54) dX11_isSo_54 ?_
      refine wp_icmp_ne (pc := 55) 62 dX11_isSo_55 (by decide) (by omega) (by decide) (fun h_4 => ?_) (fun h_4 => ?_)
      · refine wp_iconst (pc := 62) dX11_isSo_62 ?_
        refine wp_zret (pc := 63) dX11_isSo_63 rfl rfl (by decide) ?_
        exact h0 (by unfold isSo; rw [if_neg (by omega), if_pos (by omega)]; exact fun x => h_4 ((bit_iff _ _).mpr x))
      · refine wp_iconst (pc := 58) dX11_isSo_58 ?_
        refine wp_goto (pc := 59) 63 dX11_isSo_59 (by decide) ?_
        refine wp_zret (pc := 63) dX11_isSo_63 rfl rfl (by decide) ?_
        exact h1 (by unfold isSo; rw [if_neg (by omega), if_pos (by omega)]; exact (bit_iff _ _).mp h_4)
  · refine wp_aload_n (pc := 9) 0 dX11_isSo_9 rfl rfl ?_
    refine wp_getr (pc := 10) dX11_isSo_10 rfl f_X11_103 kd_111 la_111 rfl (r_111_60 D) ?_
    refine wp_iload_n (pc := 13) 2 dX11_isSo_13 rfl rfl ?_
    refine wq_iald (pc := 14) p dX11_isSo_14 kd_139 la_139 rfl (by omega) ?_
    refine wp_eqst (st' := [vI (S p)]) (by rw [hN, pS_s (by omega)]) ?_
    refine wp_aload_n (pc := 15) 0 dX11_isSo_15 rfl rfl ?_
    refine wp_getr (pc := 16) dX11_isSo_16 rfl f_X11_124 kd_111 la_111 rfl (r_111_72 D) ?_
    refine wp_iload_n (pc := 19) 1 dX11_isSo_19 rfl rfl ?_
    refine wq_iald (pc := 20) j dX11_isSo_20 kd_146 la_146 rfl (by omega) ?_
    refine wp_eqst (st' := [vI (Z 2 j), vI (S p)]) (by rw [rz_146 hZ]) ?_
    refine wp_icmp_ne (pc := 21) 28 dX11_isSo_21 (by decide) (by omega) (by omega) (fun h_5 => ?_) (fun h_5 => ?_)
    · refine wp_iconst (pc := 28) dX11_isSo_28 ?_
      refine wp_zret (pc := 29) dX11_isSo_29 rfl rfl (by decide) ?_
      exact h0 (by unfold isSo; rw [if_pos (by omega)]; omega)
    · refine wp_iconst (pc := 24) dX11_isSo_24 ?_
      refine wp_goto (pc := 25) 29 dX11_isSo_25 (by decide) ?_
      refine wp_zret (pc := 29) dX11_isSo_29 rfl rfl (by decide) ?_
      exact h1 (by unfold isSo; rw [if_pos (by omega)]; omega)

theorem rl_isMeant {l : Launch} {G : mG} {d : Nat} {I : mI} {L : Nat → Nat → Int} {D : Nat → Nat} {Q : mQ} {T : mT} {S : mS} {Z : mT} {p : Nat} {m : Int} (hR : RT I T) (hN : I 139 = pS S) (hw : tw T) (hv : sw S 999) (hC : TC T) (hZ : RZ I Z) (hz : zw Z) (hzk : ∀ j, j < nZ Z → Z 1 j = 2 → Z 2 j < T 0 12) (hp : p < nP T) (hm : inR m) (hd : 3 ≤ d) : ∀ i : Nat, i ≤ nZ Z → (fitG T S Z p m (nZ Z - i) i → Q (some (vI 1)) I (XX L D)) → (¬ fitG T S Z p m (nZ Z - i) i → Q (some (vI 0)) I (XX L D)) → WP l G m_X11_isMeant d 153 I (XX L D) 5 [some (vR 111), some (vI (p : Int)), some (vI m), some (vI 1), some (vI (i : Int))] [] Q := by
  have b_p := tw_p hw
  have b_q := tw_q hw
  have b_c := tw_c hw
  have eP : nP T = (T 0 12).toNat := rfl
  have eQ : nQ T = (T 0 13).toNat := rfl
  have eC : nC T = (T 0 11).toNat := rfl
  have eZ : nZ Z = (Z 0 6).toNat := rfl
  have z0 := hz.1
  refine loop_dn (fun i => (fitG T S Z p m (nZ Z - i) i → Q (some (vI 1)) I (XX L D)) → (¬ fitG T S Z p m (nZ Z - i) i → Q (some (vI 0)) I (XX L D)) → WP l G m_X11_isMeant d 153 I (XX L D) 5 [some (vR 111), some (vI (p : Int)), some (vI m), some (vI 1), some (vI (i : Int))] [] Q) (nZ Z) ?_ (fun i hi ih => ?_)
  · intro h1 h0
    refine wp_iload (pc := 5) dX11_isMeant_5 rfl ?_
    refine wp_aload_n (pc := 7) 0 dX11_isMeant_7 rfl rfl ?_
    refine wp_geti (pc := 8) dX11_isMeant_8 rfl f_X11_430 kd_111 la_111 (Or.inl rfl) ?_
    refine wp_eqst (st' := [vI (Z 0 6), vI (((nZ Z) : Nat) : Int)]) (by rw [rz_n hZ]) ?_
    refine wp_icmp_ge (pc := 11) 82 dX11_isMeant_11 (by decide) (by omega) (by omega) (fun h_1 => ?_) (fun h_1 => ?_)
    · refine wp_iload_n (pc := 82) 3 dX11_isMeant_82 rfl rfl ?_
      refine wp_zret (pc := 83) dX11_isMeant_83 rfl rfl (by decide) ?_
      exact h1 (by rw [Nat.sub_self]; trivial)
    · exfalso; omega
  · intro h1 h0
    have er : nZ Z - i = (nZ Z - (i + 1)) + 1 := by omega
    rw [er, fitG] at h1 h0
    have z1 := hz.2.2.1 i
    have z2 := hz.2.2.2.1 i
    have z3 := hz.2.2.2.2.1 i
    have z4 := hz.2.2.2.2.2.1 i
    have z5 := hz.2.2.2.2.2.2.1 i
    have z6 := hz.2.2.2.2.2.2.2 i
    have z0 := hz.1
    have WF : Q (some (vI 0)) I (XX L D) → WP l G m_X11_isMeant d 153 I (XX L D) 5 [some (vR 111), some (vI (p : Int)), some (vI m), some (vI 0), some (vI ((i + 1 : Nat) : Int))] [] Q := by
      intro g
      refine wp_iload (pc := 5) dX11_isMeant_5 rfl ?_
      refine wp_aload_n (pc := 7) 0 dX11_isMeant_7 rfl rfl ?_
      refine wp_geti (pc := 8) dX11_isMeant_8 rfl f_X11_430 kd_111 la_111 (Or.inl rfl) ?_
      refine wp_eqst (st' := [vI (Z 0 6), vI ((i + 1 : Nat) : Int)]) (by rw [rz_n hZ]) ?_
      refine wp_icmp_ge (pc := 11) 82 dX11_isMeant_11 (by decide) (by omega) (by omega) (fun h_1 => ?_) (fun h_1 => ?_)
      · refine wp_iload_n (pc := 82) 3 dX11_isMeant_82 rfl rfl ?_
        refine wp_zret (pc := 83) dX11_isMeant_83 rfl rfl (by decide) ?_
        exact g
      · refine wp_iload_n (pc := 14) 3 dX11_isMeant_14 rfl rfl ?_
        refine wp_if_eq (pc := 15) 82 dX11_isMeant_15 (by decide) (by decide) (fun _ => ?_) (fun hh => absurd hh (by decide))
        refine wp_iload_n (pc := 82) 3 dX11_isMeant_82 rfl rfl ?_
        refine wp_zret (pc := 83) dX11_isMeant_83 rfl rfl (by decide) ?_
        exact g
    refine wp_iload (pc := 5) dX11_isMeant_5 rfl ?_
    refine wp_aload_n (pc := 7) 0 dX11_isMeant_7 rfl rfl ?_
    refine wp_geti (pc := 8) dX11_isMeant_8 rfl f_X11_430 kd_111 la_111 (Or.inl rfl) ?_
    refine wp_eqst (st' := [vI (Z 0 6), vI (i : Int)]) (by rw [rz_n hZ]) ?_
    refine wp_icmp_ge (pc := 11) 82 dX11_isMeant_11 (by decide) (by omega) (by omega) (fun h_1 => ?_) (fun h_1 => ?_)
    · exfalso; omega
    · refine wp_iload_n (pc := 14) 3 dX11_isMeant_14 rfl rfl ?_
      refine wp_if_eq (pc := 15) 82 dX11_isMeant_15 (by decide) (by decide) (fun hh => absurd hh (by decide)) (fun _ => ?_)
      refine wp_aload_n (pc := 18) 0 dX11_isMeant_18 rfl rfl ?_
      refine wp_getr (pc := 19) dX11_isMeant_19 rfl f_X11_130 kd_111 la_111 rfl (r_111_74 D) ?_
      refine wp_iload (pc := 22) dX11_isMeant_22 rfl ?_
      refine wq_iald (pc := 24) i dX11_isMeant_24 kd_148 la_148 rfl (by omega) ?_
      refine wp_eqst (st' := [vI (Z 5 i)]) (by rw [rz_148 hZ]) ?_
      refine wp_iload_n (pc := 25) 2 dX11_isMeant_25 rfl rfl ?_
      refine wp_icmp_gt (pc := 26) 76 dX11_isMeant_26 (by decide) (by omega) (by omega) (fun h_2 => ?_) (fun h_2 => ?_)
      · refine wq_iinc (pc := 76) [some (vR 111), some (vI (p : Int)), some (vI m), some (vI 1), some (vI ((i : Int) + 1))] dX11_isMeant_76 rfl rfl (by decide) rfl ?_
        refine wp_goto (pc := 79) 5 dX11_isMeant_79 (by decide) ?_
        have hf : cntS Z i m → (isSo T S Z i p ↔ Z 4 i = 1) := fun x => absurd x (by omega)
        refine wp_eqls (ls' := [some (vR 111), some (vI (p : Int)), some (vI m), some (vI 1), some (vI (((i + 1) : Nat) : Int))]) rfl (ih (fun x => h1 ⟨hf, x⟩) (fun x => h0 (fun y => x y.2)))
      · refine wp_aload_n (pc := 29) 0 dX11_isMeant_29 rfl rfl ?_
        refine wp_getr (pc := 30) dX11_isMeant_30 rfl f_X11_133 kd_111 la_111 rfl (r_111_75 D) ?_
        refine wp_iload (pc := 33) dX11_isMeant_33 rfl ?_
        refine wq_iald (pc := 35) i dX11_isMeant_35 kd_149 la_149 rfl (by omega) ?_
        refine wp_eqst (st' := [vI (Z 6 i)]) (by rw [rz_149 hZ]) ?_
        refine wp_if_lt (pc := 36) 53 dX11_isMeant_36 (by decide) (by omega) (fun h_3 => ?_) (fun h_3 => ?_)
        · refine wp_aload_n (pc := 53) 0 dX11_isMeant_53 rfl rfl ?_
          refine wp_iload (pc := 54) dX11_isMeant_54 rfl ?_
          refine wp_iload_n (pc := 56) 1 dX11_isMeant_56 rfl rfl ?_
          refine wp_callV (pc := 57) (st := []) (nf' := 153) [vI (i : Int), vI (p : Int)] [some (vR 111), some (vI (i : Int)), some (vI (p : Int))] dX11_isMeant_57 rfl c_X11_575 rfl kd_111 (by decide) rfl la_111 rfl (Nat.le_of_ble_eq_true rfl) rfl (Nat.le_of_ble_eq_true rfl) (by omega) (Nat.le_refl _) (Nat.le_refl _) ?_
          refine rs_isSo i rfl p rfl hR hN hw hv hC hZ hz hzk (by omega) (by omega) (by omega) (fun h_4 => ?_) (fun h_4 => ?_)
          · refine wp_eqst (st' := [vI 1]) rfl ?_
            refine wp_aload_n (pc := 60) 0 dX11_isMeant_60 rfl rfl ?_
            refine wp_getr (pc := 61) dX11_isMeant_61 rfl f_X11_136 kd_111 la_111 rfl (r_111_76 D) ?_
            refine wp_iload (pc := 64) dX11_isMeant_64 rfl ?_
            refine wq_zald (pc := 66) i dX11_isMeant_66 kd_150 la_150 rfl (by omega) ?_
            refine wp_eqst (st' := [vI (Z 4 i), vI 1]) (by rw [rz_150 hZ]) ?_
            refine wp_icmp_ne (pc := 67) 74 dX11_isMeant_67 (by decide) (by decide) (by omega) (fun h_5 => ?_) (fun h_5 => ?_)
            · refine wp_iconst (pc := 74) dX11_isMeant_74 ?_
              refine wq_istore_n (pc := 75) 3 [some (vR 111), some (vI (p : Int)), some (vI m), some (vI 0), some (vI (i : Int))] dX11_isMeant_75 rfl rfl (by decide) rfl ?_
              refine wq_iinc (pc := 76) [some (vR 111), some (vI (p : Int)), some (vI m), some (vI 0), some (vI ((i : Int) + 1))] dX11_isMeant_76 rfl rfl (by decide) rfl ?_
              refine wp_goto (pc := 79) 5 dX11_isMeant_79 (by decide) ?_
              have hf : ¬ (cntS Z i m → (isSo T S Z i p ↔ Z 4 i = 1)) := fun y => by have y1 := y ⟨by omega, by omega⟩; first | (have y2 := y1.mp h_4; omega) | (exact h_4 (y1.mpr (by omega)))
              exact WF (h0 (fun y => hf y.1))
            · refine wp_iconst (pc := 70) dX11_isMeant_70 ?_
              refine wp_goto (pc := 71) 75 dX11_isMeant_71 (by decide) ?_
              refine wq_istore_n (pc := 75) 3 [some (vR 111), some (vI (p : Int)), some (vI m), some (vI 1), some (vI (i : Int))] dX11_isMeant_75 rfl rfl (by decide) rfl ?_
              refine wq_iinc (pc := 76) [some (vR 111), some (vI (p : Int)), some (vI m), some (vI 1), some (vI ((i : Int) + 1))] dX11_isMeant_76 rfl rfl (by decide) rfl ?_
              refine wp_goto (pc := 79) 5 dX11_isMeant_79 (by decide) ?_
              have hf : cntS Z i m → (isSo T S Z i p ↔ Z 4 i = 1) := fun _ => ⟨fun x => by first | (exact absurd x h_4) | omega, fun x => by first | exact h_4 | omega⟩
              refine wp_eqls (ls' := [some (vR 111), some (vI (p : Int)), some (vI m), some (vI 1), some (vI (((i + 1) : Nat) : Int))]) rfl (ih (fun x => h1 ⟨hf, x⟩) (fun x => h0 (fun y => x y.2)))
          · refine wp_eqst (st' := [vI 0]) rfl ?_
            refine wp_aload_n (pc := 60) 0 dX11_isMeant_60 rfl rfl ?_
            refine wp_getr (pc := 61) dX11_isMeant_61 rfl f_X11_136 kd_111 la_111 rfl (r_111_76 D) ?_
            refine wp_iload (pc := 64) dX11_isMeant_64 rfl ?_
            refine wq_zald (pc := 66) i dX11_isMeant_66 kd_150 la_150 rfl (by omega) ?_
            refine wp_eqst (st' := [vI (Z 4 i), vI 0]) (by rw [rz_150 hZ]) ?_
            refine wp_icmp_ne (pc := 67) 74 dX11_isMeant_67 (by decide) (by decide) (by omega) (fun h_6 => ?_) (fun h_6 => ?_)
            · refine wp_iconst (pc := 74) dX11_isMeant_74 ?_
              refine wq_istore_n (pc := 75) 3 [some (vR 111), some (vI (p : Int)), some (vI m), some (vI 0), some (vI (i : Int))] dX11_isMeant_75 rfl rfl (by decide) rfl ?_
              refine wq_iinc (pc := 76) [some (vR 111), some (vI (p : Int)), some (vI m), some (vI 0), some (vI ((i : Int) + 1))] dX11_isMeant_76 rfl rfl (by decide) rfl ?_
              refine wp_goto (pc := 79) 5 dX11_isMeant_79 (by decide) ?_
              have hf : ¬ (cntS Z i m → (isSo T S Z i p ↔ Z 4 i = 1)) := fun y => by have y1 := y ⟨by omega, by omega⟩; first | (have y2 := y1.mp h_4; omega) | (exact h_4 (y1.mpr (by omega)))
              exact WF (h0 (fun y => hf y.1))
            · refine wp_iconst (pc := 70) dX11_isMeant_70 ?_
              refine wp_goto (pc := 71) 75 dX11_isMeant_71 (by decide) ?_
              refine wq_istore_n (pc := 75) 3 [some (vR 111), some (vI (p : Int)), some (vI m), some (vI 1), some (vI (i : Int))] dX11_isMeant_75 rfl rfl (by decide) rfl ?_
              refine wq_iinc (pc := 76) [some (vR 111), some (vI (p : Int)), some (vI m), some (vI 1), some (vI ((i : Int) + 1))] dX11_isMeant_76 rfl rfl (by decide) rfl ?_
              refine wp_goto (pc := 79) 5 dX11_isMeant_79 (by decide) ?_
              have hf : cntS Z i m → (isSo T S Z i p ↔ Z 4 i = 1) := fun _ => ⟨fun x => by first | (exact absurd x h_4) | omega, fun x => by first | exact h_4 | omega⟩
              refine wp_eqls (ls' := [some (vR 111), some (vI (p : Int)), some (vI m), some (vI 1), some (vI (((i + 1) : Nat) : Int))]) rfl (ih (fun x => h1 ⟨hf, x⟩) (fun x => h0 (fun y => x y.2)))
        · refine wp_aload_n (pc := 39) 0 dX11_isMeant_39 rfl rfl ?_
          refine wp_getr (pc := 40) dX11_isMeant_40 rfl f_X11_133 kd_111 la_111 rfl (r_111_75 D) ?_
          refine wp_iload (pc := 43) dX11_isMeant_43 rfl ?_
          refine wq_iald (pc := 45) i dX11_isMeant_45 kd_149 la_149 rfl (by omega) ?_
          refine wp_eqst (st' := [vI (Z 6 i)]) (by rw [rz_149 hZ]) ?_
          refine wp_iload_n (pc := 46) 2 dX11_isMeant_46 rfl rfl ?_
          refine wp_icmp_gt (pc := 47) 53 dX11_isMeant_47 (by decide) (by omega) (by omega) (fun h_7 => ?_) (fun h_7 => ?_)
          · refine wp_aload_n (pc := 53) 0 dX11_isMeant_53 rfl rfl ?_
            refine wp_iload (pc := 54) dX11_isMeant_54 rfl ?_
            refine wp_iload_n (pc := 56) 1 dX11_isMeant_56 rfl rfl ?_
            refine wp_callV (pc := 57) (st := []) (nf' := 153) [vI (i : Int), vI (p : Int)] [some (vR 111), some (vI (i : Int)), some (vI (p : Int))] dX11_isMeant_57 rfl c_X11_575 rfl kd_111 (by decide) rfl la_111 rfl (Nat.le_of_ble_eq_true rfl) rfl (Nat.le_of_ble_eq_true rfl) (by omega) (Nat.le_refl _) (Nat.le_refl _) ?_
            refine rs_isSo i rfl p rfl hR hN hw hv hC hZ hz hzk (by omega) (by omega) (by omega) (fun h_8 => ?_) (fun h_8 => ?_)
            · refine wp_eqst (st' := [vI 1]) rfl ?_
              refine wp_aload_n (pc := 60) 0 dX11_isMeant_60 rfl rfl ?_
              refine wp_getr (pc := 61) dX11_isMeant_61 rfl f_X11_136 kd_111 la_111 rfl (r_111_76 D) ?_
              refine wp_iload (pc := 64) dX11_isMeant_64 rfl ?_
              refine wq_zald (pc := 66) i dX11_isMeant_66 kd_150 la_150 rfl (by omega) ?_
              refine wp_eqst (st' := [vI (Z 4 i), vI 1]) (by rw [rz_150 hZ]) ?_
              refine wp_icmp_ne (pc := 67) 74 dX11_isMeant_67 (by decide) (by decide) (by omega) (fun h_9 => ?_) (fun h_9 => ?_)
              · refine wp_iconst (pc := 74) dX11_isMeant_74 ?_
                refine wq_istore_n (pc := 75) 3 [some (vR 111), some (vI (p : Int)), some (vI m), some (vI 0), some (vI (i : Int))] dX11_isMeant_75 rfl rfl (by decide) rfl ?_
                refine wq_iinc (pc := 76) [some (vR 111), some (vI (p : Int)), some (vI m), some (vI 0), some (vI ((i : Int) + 1))] dX11_isMeant_76 rfl rfl (by decide) rfl ?_
                refine wp_goto (pc := 79) 5 dX11_isMeant_79 (by decide) ?_
                have hf : ¬ (cntS Z i m → (isSo T S Z i p ↔ Z 4 i = 1)) := fun y => by have y1 := y ⟨by omega, by omega⟩; first | (have y2 := y1.mp h_8; omega) | (exact h_8 (y1.mpr (by omega)))
                exact WF (h0 (fun y => hf y.1))
              · refine wp_iconst (pc := 70) dX11_isMeant_70 ?_
                refine wp_goto (pc := 71) 75 dX11_isMeant_71 (by decide) ?_
                refine wq_istore_n (pc := 75) 3 [some (vR 111), some (vI (p : Int)), some (vI m), some (vI 1), some (vI (i : Int))] dX11_isMeant_75 rfl rfl (by decide) rfl ?_
                refine wq_iinc (pc := 76) [some (vR 111), some (vI (p : Int)), some (vI m), some (vI 1), some (vI ((i : Int) + 1))] dX11_isMeant_76 rfl rfl (by decide) rfl ?_
                refine wp_goto (pc := 79) 5 dX11_isMeant_79 (by decide) ?_
                have hf : cntS Z i m → (isSo T S Z i p ↔ Z 4 i = 1) := fun _ => ⟨fun x => by first | (exact absurd x h_8) | omega, fun x => by first | exact h_8 | omega⟩
                refine wp_eqls (ls' := [some (vR 111), some (vI (p : Int)), some (vI m), some (vI 1), some (vI (((i + 1) : Nat) : Int))]) rfl (ih (fun x => h1 ⟨hf, x⟩) (fun x => h0 (fun y => x y.2)))
            · refine wp_eqst (st' := [vI 0]) rfl ?_
              refine wp_aload_n (pc := 60) 0 dX11_isMeant_60 rfl rfl ?_
              refine wp_getr (pc := 61) dX11_isMeant_61 rfl f_X11_136 kd_111 la_111 rfl (r_111_76 D) ?_
              refine wp_iload (pc := 64) dX11_isMeant_64 rfl ?_
              refine wq_zald (pc := 66) i dX11_isMeant_66 kd_150 la_150 rfl (by omega) ?_
              refine wp_eqst (st' := [vI (Z 4 i), vI 0]) (by rw [rz_150 hZ]) ?_
              refine wp_icmp_ne (pc := 67) 74 dX11_isMeant_67 (by decide) (by decide) (by omega) (fun h_10 => ?_) (fun h_10 => ?_)
              · refine wp_iconst (pc := 74) dX11_isMeant_74 ?_
                refine wq_istore_n (pc := 75) 3 [some (vR 111), some (vI (p : Int)), some (vI m), some (vI 0), some (vI (i : Int))] dX11_isMeant_75 rfl rfl (by decide) rfl ?_
                refine wq_iinc (pc := 76) [some (vR 111), some (vI (p : Int)), some (vI m), some (vI 0), some (vI ((i : Int) + 1))] dX11_isMeant_76 rfl rfl (by decide) rfl ?_
                refine wp_goto (pc := 79) 5 dX11_isMeant_79 (by decide) ?_
                have hf : ¬ (cntS Z i m → (isSo T S Z i p ↔ Z 4 i = 1)) := fun y => by have y1 := y ⟨by omega, by omega⟩; first | (have y2 := y1.mp h_8; omega) | (exact h_8 (y1.mpr (by omega)))
                exact WF (h0 (fun y => hf y.1))
              · refine wp_iconst (pc := 70) dX11_isMeant_70 ?_
                refine wp_goto (pc := 71) 75 dX11_isMeant_71 (by decide) ?_
                refine wq_istore_n (pc := 75) 3 [some (vR 111), some (vI (p : Int)), some (vI m), some (vI 1), some (vI (i : Int))] dX11_isMeant_75 rfl rfl (by decide) rfl ?_
                refine wq_iinc (pc := 76) [some (vR 111), some (vI (p : Int)), some (vI m), some (vI 1), some (vI ((i : Int) + 1))] dX11_isMeant_76 rfl rfl (by decide) rfl ?_
                refine wp_goto (pc := 79) 5 dX11_isMeant_79 (by decide) ?_
                have hf : cntS Z i m → (isSo T S Z i p ↔ Z 4 i = 1) := fun _ => ⟨fun x => by first | (exact absurd x h_8) | omega, fun x => by first | exact h_8 | omega⟩
                refine wp_eqls (ls' := [some (vR 111), some (vI (p : Int)), some (vI m), some (vI 1), some (vI (((i + 1) : Nat) : Int))]) rfl (ih (fun x => h1 ⟨hf, x⟩) (fun x => h0 (fun y => x y.2)))
          · refine wp_goto (pc := 50) 76 dX11_isMeant_50 (by decide) ?_
            refine wq_iinc (pc := 76) [some (vR 111), some (vI (p : Int)), some (vI m), some (vI 1), some (vI ((i : Int) + 1))] dX11_isMeant_76 rfl rfl (by decide) rfl ?_
            refine wp_goto (pc := 79) 5 dX11_isMeant_79 (by decide) ?_
            have hf : cntS Z i m → (isSo T S Z i p ↔ Z 4 i = 1) := fun x => absurd x (by omega)
            refine wp_eqls (ls' := [some (vR 111), some (vI (p : Int)), some (vI m), some (vI 1), some (vI (((i + 1) : Nat) : Int))]) rfl (ih (fun x => h1 ⟨hf, x⟩) (fun x => h0 (fun y => x y.2)))

theorem rs_isMeant {l : Launch} {G : mG} {d : Nat} {I : mI} {L : Nat → Nat → Int} {D : Nat → Nat} {Q : mQ} {T : mT} {S : mS} {Z : mT} {m : Int} (p : Nat) {p_ : Int} (hp_ : p_ = (p : Int)) (hR : RT I T) (hN : I 139 = pS S) (hw : tw T) (hv : sw S 999) (hC : TC T) (hZ : RZ I Z) (hz : zw Z) (hzk : ∀ j, j < nZ Z → Z 1 j = 2 → Z 2 j < T 0 12) (hp : p < nP T) (hm : inR m) (hd : 3 ≤ d) (h1 : fitG T S Z p m (nZ Z) 0 → Q (some (vI 1)) I (XX L D)) (h0 : ¬ (fitG T S Z p m (nZ Z) 0) → Q (some (vI 0)) I (XX L D)) : WP l G m_X11_isMeant d 153 I (XX L D) 0 [some (vR 111), some (vI p_), some (vI m), none, none] [] Q := by
  subst hp_
  have b_p := tw_p hw
  have b_q := tw_q hw
  have b_c := tw_c hw
  have eP : nP T = (T 0 12).toNat := rfl
  have eQ : nQ T = (T 0 13).toNat := rfl
  have eC : nC T = (T 0 11).toNat := rfl
  refine wp_iconst (pc := 0) dX11_isMeant_0 ?_
  refine wq_istore_n (pc := 1) 3 [some (vR 111), some (vI (p : Int)), some (vI m), some (vI 1), none] dX11_isMeant_1 rfl rfl (by decide) rfl ?_
  refine wp_iconst (pc := 2) dX11_isMeant_2 ?_
  refine wq_istore (pc := 3) [some (vR 111), some (vI (p : Int)), some (vI m), some (vI 1), some (vI 0)] dX11_isMeant_3 rfl (by decide) rfl ?_
  exact rl_isMeant hR hN hw hv hC hZ hz hzk hp hm hd 0 (Nat.zero_le _) h1 h0

theorem rl_meant {l : Launch} {G : mG} {d : Nat} {I : mI} {L : Nat → Nat → Int} {D : Nat → Nat} {Q : mQ} {T : mT} {S : mS} {Z : mT} {m : Int} (hR : RT I T) (hN : I 139 = pS S) (hw : tw T) (hv : sw S 999) (hC : TC T) (hZ : RZ I Z) (hz : zw Z) (hzk : ∀ j, j < nZ Z → Z 1 j = 2 → Z 2 j < T 0 12) (hm : inR m) (hd : 4 ≤ d) (hQ : Q (some (vI (((meantF T S Z m : Nat) : Int)))) I (XX L D)) : ∀ i : Nat, i ≤ nP T → WP l G m_X11_meant d 153 I (XX L D) 4 [some (vR 111), some (vI m), some (vI ((setOf (fitB T S Z m) i : Nat) : Int)), some (vI (i : Int))] [] Q := by
  have b_p := tw_p hw
  have b_q := tw_q hw
  have b_c := tw_c hw
  have eP : nP T = (T 0 12).toNat := rfl
  have eQ : nQ T = (T 0 13).toNat := rfl
  have eC : nC T = (T 0 11).toNat := rfl
  refine loop_dn (fun i => WP l G m_X11_meant d 153 I (XX L D) 4 [some (vR 111), some (vI m), some (vI ((setOf (fitB T S Z m) i : Nat) : Int)), some (vI (i : Int))] [] Q) (nP T) ?_ (fun i hi ih => ?_)
  · refine wp_iload_n (pc := 4) 3 dX11_meant_4 rfl rfl ?_
    refine wp_aload_n (pc := 5) 0 dX11_meant_5 rfl rfl ?_
    refine wp_geti (pc := 6) dX11_meant_6 rfl f_X11_412 kd_111 la_111 (Or.inl rfl) ?_
    refine wp_eqst (st' := [vI (T 0 12), vI (((nP T) : Nat) : Int)]) (by rw [rt_p hR]) ?_
    refine wp_icmp_ge (pc := 9) 32 dX11_meant_9 (by decide) (by omega) (by omega) (fun h_1 => ?_) (fun h_1 => ?_)
    · refine wp_iload_n (pc := 32) 2 dX11_meant_32 rfl rfl ?_
      refine wp_iret (pc := 33) dX11_meant_33 rfl rfl ?_
      exact hQ
    · exfalso; omega
  · refine wp_iload_n (pc := 4) 3 dX11_meant_4 rfl rfl ?_
    refine wp_aload_n (pc := 5) 0 dX11_meant_5 rfl rfl ?_
    refine wp_geti (pc := 6) dX11_meant_6 rfl f_X11_412 kd_111 la_111 (Or.inl rfl) ?_
    refine wp_eqst (st' := [vI (T 0 12), vI (i : Int)]) (by rw [rt_p hR]) ?_
    refine wp_icmp_ge (pc := 9) 32 dX11_meant_9 (by decide) (by omega) (by omega) (fun h_1 => ?_) (fun h_1 => ?_)
    · exfalso; omega
    · refine wp_iload_n (pc := 12) 2 dX11_meant_12 rfl rfl ?_
      refine wp_aload_n (pc := 13) 0 dX11_meant_13 rfl rfl ?_
      refine wp_iload_n (pc := 14) 3 dX11_meant_14 rfl rfl ?_
      refine wp_iload_n (pc := 15) 1 dX11_meant_15 rfl rfl ?_
      refine wp_callV (pc := 16) (st := [vI ((setOf (fitB T S Z m) i : Nat) : Int)]) (nf' := 153) [vI (i : Int), vI m] [some (vR 111), some (vI (i : Int)), some (vI m), none, none] dX11_meant_16 rfl c_X11_578 rfl kd_111 (by decide) rfl la_111 rfl (Nat.le_of_ble_eq_true rfl) rfl (Nat.le_of_ble_eq_true rfl) (by omega) (Nat.le_refl _) (Nat.le_refl _) ?_
      refine rs_isMeant i rfl hR hN hw hv hC hZ hz hzk (by omega) (by omega) (by omega) (fun h_2 => ?_) (fun h_2 => ?_)
      · refine wp_eqst (st' := [vI 1, vI ((setOf (fitB T S Z m) i : Nat) : Int)]) rfl ?_
        refine wp_callS (pc := 19) (st := [vI ((setOf (fitB T S Z m) i : Nat) : Int)]) (nf' := 153) [vI 1] [some (vI 1)] dX11_meant_19 rfl c_X11_320 rfl rfl (Nat.le_of_ble_eq_true rfl) rfl (Nat.le_of_ble_eq_true rfl) (by omega) (Nat.le_refl _) (Nat.le_refl _) ?_
        refine wp_iload_n (pc := 0) 0 dX11_truth_0 rfl rfl ?_
        refine wp_if_eq (pc := 1) 8 dX11_truth_1 (by decide) (by decide) (fun hh => absurd hh (by decide)) (fun _ => ?_)
        refine wp_iconst (pc := 4) dX11_truth_4 ?_
        refine wp_goto (pc := 5) 9 dX11_truth_5 (by decide) ?_
        refine wp_iret (pc := 9) dX11_truth_9 rfl rfl ?_
        refine wp_eqst (st' := [vI 1, vI ((setOf (fitB T S Z m) i : Nat) : Int)]) rfl ?_
        refine wp_iload_n (pc := 22) 3 dX11_meant_22 rfl rfl ?_
        refine wn_shl1 (pc := 23) i dX11_meant_23 rfl (by omega) ?_
        refine wn_or (pc := 24) (setOf (fitB T S Z m) i) (2 ^ i) dX11_meant_24 rfl rfl ?_
        refine wq_istore_n (pc := 25) 2 [some (vR 111), some (vI m), some (vI (((setOf (fitB T S Z m) i) ||| (2 ^ i) : Nat) : Int)), some (vI (i : Int))] dX11_meant_25 rfl rfl (by decide) rfl ?_
        refine wq_iinc (pc := 26) [some (vR 111), some (vI m), some (vI (((setOf (fitB T S Z m) i) ||| (2 ^ i) : Nat) : Int)), some (vI ((i : Int) + 1))] dX11_meant_26 rfl rfl (by decide) rfl ?_
        refine wp_goto (pc := 29) 4 dX11_meant_29 (by decide) ?_
        refine wp_eqls (ls' := [some (vR 111), some (vI m), some (vI ((setOf (fitB T S Z m) (i + 1) : Nat) : Int)), some (vI (((i + 1) : Nat) : Int))]) (by rw [setOf_y (f := (fitB T S Z m)) (n := i) (by rw [fitB_iff]; exact h_2)]; first | rfl | (rw [Nat.one_mul]; rfl)) ih
      · refine wp_eqst (st' := [vI 0, vI ((setOf (fitB T S Z m) i : Nat) : Int)]) rfl ?_
        refine wp_callS (pc := 19) (st := [vI ((setOf (fitB T S Z m) i : Nat) : Int)]) (nf' := 153) [vI 0] [some (vI 0)] dX11_meant_19 rfl c_X11_320 rfl rfl (Nat.le_of_ble_eq_true rfl) rfl (Nat.le_of_ble_eq_true rfl) (by omega) (Nat.le_refl _) (Nat.le_refl _) ?_
        refine wp_iload_n (pc := 0) 0 dX11_truth_0 rfl rfl ?_
        refine wp_if_eq (pc := 1) 8 dX11_truth_1 (by decide) (by decide) (fun _ => ?_) (fun hh => absurd hh (by decide))
        refine wp_iconst (pc := 8) dX11_truth_8 ?_
        refine wp_iret (pc := 9) dX11_truth_9 rfl rfl ?_
        refine wp_eqst (st' := [vI 0, vI ((setOf (fitB T S Z m) i : Nat) : Int)]) rfl ?_
        refine wp_iload_n (pc := 22) 3 dX11_meant_22 rfl rfl ?_
        refine wn_shl (pc := 23) 0 i dX11_meant_23 rfl rfl (by omega) ?_
        refine wn_or (pc := 24) (setOf (fitB T S Z m) i) (0 * 2 ^ i) dX11_meant_24 rfl rfl ?_
        refine wq_istore_n (pc := 25) 2 [some (vR 111), some (vI m), some (vI (((setOf (fitB T S Z m) i) ||| (0 * 2 ^ i) : Nat) : Int)), some (vI (i : Int))] dX11_meant_25 rfl rfl (by decide) rfl ?_
        refine wq_iinc (pc := 26) [some (vR 111), some (vI m), some (vI (((setOf (fitB T S Z m) i) ||| (0 * 2 ^ i) : Nat) : Int)), some (vI ((i : Int) + 1))] dX11_meant_26 rfl rfl (by decide) rfl ?_
        refine wp_goto (pc := 29) 4 dX11_meant_29 (by decide) ?_
        refine wp_eqls (ls' := [some (vR 111), some (vI m), some (vI ((setOf (fitB T S Z m) (i + 1) : Nat) : Int)), some (vI (((i + 1) : Nat) : Int))]) (by rw [setOf_n (f := (fitB T S Z m)) (n := i) (by rw [← Bool.not_eq_true, fitB_iff]; exact h_2)]; first | rfl | (rw [Nat.zero_mul, Nat.or_zero]; rfl)) ih

theorem rs_meant {l : Launch} {G : mG} {d : Nat} {I : mI} {L : Nat → Nat → Int} {D : Nat → Nat} {Q : mQ} {T : mT} {S : mS} {Z : mT} {m : Int}  (hR : RT I T) (hN : I 139 = pS S) (hw : tw T) (hv : sw S 999) (hC : TC T) (hZ : RZ I Z) (hz : zw Z) (hzk : ∀ j, j < nZ Z → Z 1 j = 2 → Z 2 j < T 0 12) (hm : inR m) (hd : 4 ≤ d) (hQ : Q (some (vI (((meantF T S Z m : Nat) : Int)))) I (XX L D)) : WP l G m_X11_meant d 153 I (XX L D) 0 [some (vR 111), some (vI m), none, none] [] Q := by
  have b_p := tw_p hw
  have b_q := tw_q hw
  have b_c := tw_c hw
  have eP : nP T = (T 0 12).toNat := rfl
  have eQ : nQ T = (T 0 13).toNat := rfl
  have eC : nC T = (T 0 11).toNat := rfl
  refine wp_iconst (pc := 0) dX11_meant_0 ?_
  refine wq_istore_n (pc := 1) 2 [some (vR 111), some (vI m), some (vI 0), none] dX11_meant_1 rfl rfl (by decide) rfl ?_
  refine wp_iconst (pc := 2) dX11_meant_2 ?_
  refine wq_istore_n (pc := 3) 3 [some (vR 111), some (vI m), some (vI 0), some (vI 0)] dX11_meant_3 rfl rfl (by decide) rfl ?_
  exact rl_meant hR hN hw hv hC hZ hz hzk hm hd hQ 0 (Nat.zero_le _)
