theorem rs_draw {l : Launch} {G : mG} {d : Nat} {I : mI} {L : Nat → Nat → Int} {D : Nat → Nat} {Q : mQ} {T : mT} {S : mS} {B z : Int}  (hw : tw T) (hA : I 140 = pS (setF S 29 z)) (hz : 0 ≤ z ∧ z ≤ 999) (hd : 0 ≤ d) (hQ : Q (some (vI (Int.tmod (nextZ z) 10))) (up I 140 29 (nextZ z)) (XX L D)) : WP l G m_X11_draw d 153 I (XX L D) 0 [some (vR 111)] [] Q := by
  have b_p := tw_p hw
  have b_q := tw_q hw
  have b_c := tw_c hw
  have eP : nP T = (T 0 12).toNat := rfl
  have eQ : nQ T = (T 0 13).toNat := rfl
  have eC : nC T = (T 0 11).toNat := rfl
  have e1 : setF S 29 z 29 = z := setF_s
  have b2 : 0 ≤ Int.tmod (setF S 29 z 29 * 137 + 71) 1000 ∧ Int.tmod (setF S 29 z 29 * 137 + 71) 1000 ≤ 999 := by rw [e1]; exact nextZ_in hz
  refine wp_aload_n (pc := 0) 0 dX11_draw_0 rfl rfl ?_
  refine wp_getr (pc := 1) dX11_draw_1 rfl f_X11_106 kd_111 la_111 rfl (r_111_61 D) ?_
  refine wp_bipush (pc := 4) dX11_draw_4 (by decide) ?_
  refine wp_aload_n (pc := 6) 0 dX11_draw_6 rfl rfl ?_
  refine wp_getr (pc := 7) dX11_draw_7 rfl f_X11_106 kd_111 la_111 rfl (r_111_61 D) ?_
  refine wp_bipush (pc := 10) dX11_draw_10 (by decide) ?_
  refine wq_iald (pc := 12) 29 dX11_draw_12 kd_140 la_140 rfl (by decide) ?_
  refine wp_eqst (st' := [vI ((setF S 29 z) 29), vI 29, vR 140]) (by rw [hA, pS_29]) ?_
  refine wp_sipush (pc := 13) dX11_draw_13 (by decide) ?_
  refine wp_imul (pc := 16) dX11_draw_16 ?_
  refine wp_bipush (pc := 17) dX11_draw_17 (by decide) ?_
  refine wp_iadd (pc := 19) dX11_draw_19 ?_
  refine wp_sipush (pc := 20) dX11_draw_20 (by decide) ?_
  refine wp_irem (pc := 23) dX11_draw_23 (by omega) (by omega) (by omega) ?_
  refine wq_iast (pc := 24) 29 dX11_draw_24 kd_140 la_140 rfl (by decide) ?_
  refine wp_aload_n (pc := 25) 0 dX11_draw_25 rfl rfl ?_
  refine wp_getr (pc := 26) dX11_draw_26 rfl f_X11_106 kd_111 la_111 rfl (r_111_61 D) ?_
  refine wp_bipush (pc := 29) dX11_draw_29 (by decide) ?_
  refine wq_iald (pc := 31) 29 dX11_draw_31 kd_140 la_140 rfl (by decide) ?_
  refine wp_eqst (st' := [vI (Int.tmod ((((setF S 29 z) 29) * 137) + 71) 1000)]) (by rw [up_s]) ?_
  refine wp_bipush (pc := 32) dX11_draw_32 (by decide) ?_
  refine wp_irem (pc := 34) dX11_draw_34 (by omega) (by omega) (by omega) ?_
  refine wp_iret (pc := 35) dX11_draw_35 rfl rfl ?_
  rw [e1] at *; exact hQ

theorem rl_isRisen {l : Launch} {G : mG} {d : Nat} {I : mI} {L : Nat → Nat → Int} {D : Nat → Nat} {Q : mQ} {T : mT} {S : mS} {B : Int} {q cl : Nat} (hR : RT I T) (hA : I 140 = pS S) (hw : tw T) (hv : sw S B) (hC : TC T) (hX : FX I T) (hcd : ∀ j, inR (T 18 j)) (hB : B ≤ 100000) (hq : q < nQ T) (hk : ∀ c, c < 4 → I 141 c = ((pc8 (readIn T S (c : Int) cl) : Nat) : Int)) (hd : 5 ≤ d) : ∀ i : Nat, i ≤ nP T → ∀ (z : Int) (J : mI), 0 ≤ z ∧ z ≤ 999 → Rr I J → J 140 = pS (setF S 29 z) → (∀ K, Rr I K → K 140 = pS (setF S 29 (rgo T S (lisF T S q) cl (nP T - i) i z).2) → ((rgo T S (lisF T S q) cl (nP T - i) i z).1 = true → Q (some (vI 1)) K (XX L D)) ∧ ((rgo T S (lisF T S q) cl (nP T - i) i z).1 = false → Q (some (vI 0)) K (XX L D))) → WP l G m_X11_isRisen d 153 J (XX L D) 8 [some (vR 111), some (vI (q : Int)), some (vI ((risers T S q : Nat) : Int)), some (vI (i : Int))] [] Q := by
  have b_p := tw_p hw
  have b_q := tw_q hw
  have b_c := tw_c hw
  have eP : nP T = (T 0 12).toNat := rfl
  have eQ : nQ T = (T 0 13).toNat := rfl
  have eC : nC T = (T 0 11).toNat := rfl
  have br := risers_lt hw S q
  have bs := sw_sun hv
  refine loop_dn (fun i => ∀ (z : Int) (J : mI), 0 ≤ z ∧ z ≤ 999 → Rr I J → J 140 = pS (setF S 29 z) → (∀ K, Rr I K → K 140 = pS (setF S 29 (rgo T S (lisF T S q) cl (nP T - i) i z).2) → ((rgo T S (lisF T S q) cl (nP T - i) i z).1 = true → Q (some (vI 1)) K (XX L D)) ∧ ((rgo T S (lisF T S q) cl (nP T - i) i z).1 = false → Q (some (vI 0)) K (XX L D))) → WP l G m_X11_isRisen d 153 J (XX L D) 8 [some (vR 111), some (vI (q : Int)), some (vI ((risers T S q : Nat) : Int)), some (vI (i : Int))] [] Q) (nP T) ?_ (fun i hi ih => ?_)
  · intro z J hz hJ hAj hQ
    have hRj := hJ.rt hR
    refine wp_iload_n (pc := 8) 3 dX11_isRisen_8 rfl rfl ?_
    refine wp_aload_n (pc := 9) 0 dX11_isRisen_9 rfl rfl ?_
    refine wp_geti (pc := 10) dX11_isRisen_10 rfl f_X11_412 kd_111 la_111 (Or.inl rfl) ?_
    refine wp_eqst (st' := [vI (T 0 12), vI (((nP T) : Nat) : Int)]) (by rw [rt_p hRj]) ?_
    refine wp_icmp_ge (pc := 13) 69 dX11_isRisen_13 (by decide) (by omega) (by omega) (fun h_1 => ?_) (fun h_1 => ?_)
    · refine wp_iconst (pc := 69) dX11_isRisen_69 ?_
      refine wp_zret (pc := 70) dX11_isRisen_70 rfl rfl (by decide) ?_
      have hq2 := hQ J hJ
      rw [Nat.sub_self] at hq2
      exact (hq2 hAj).2 rfl
    · exfalso; omega
  · intro z J hz hJ hAj hQ
    have hRj := hJ.rt hR
    have b9 := bit_lt (risers T S q) i
    have b8 := ear_in T (setF S 29 (nextZ z)) i cl
    have b7 := nextZ_in hz
    have b6 := tmod10 b7.1
    have e28 : setF S 29 z 28 = S 28 := setF_n (by decide)
    have e13 : setF S 29 z (13 + q) = S (13 + q) := setF_n (by omega)
    have e18 : setF S 29 z (18 + q) = S (18 + q) := setF_n (by omega)
    have ei : setF S 29 z i = S i := setF_n (by omega)
    have bi := sw_seat hv (j := i) (by omega)
    refine wp_iload_n (pc := 8) 3 dX11_isRisen_8 rfl rfl ?_
    refine wp_aload_n (pc := 9) 0 dX11_isRisen_9 rfl rfl ?_
    refine wp_geti (pc := 10) dX11_isRisen_10 rfl f_X11_412 kd_111 la_111 (Or.inl rfl) ?_
    refine wp_eqst (st' := [vI (T 0 12), vI (i : Int)]) (by rw [rt_p hRj]) ?_
    refine wp_icmp_ge (pc := 13) 69 dX11_isRisen_13 (by decide) (by omega) (by omega) (fun h_1 => ?_) (fun h_1 => ?_)
    · exfalso; omega
    · refine wp_iload_n (pc := 16) 2 dX11_isRisen_16 rfl rfl ?_
      refine wp_iload_n (pc := 17) 3 dX11_isRisen_17 rfl rfl ?_
      refine wn_shr (pc := 18) (risers T S q) i dX11_isRisen_18 rfl rfl (by omega) (by omega) ?_
      refine wp_iconst (pc := 19) dX11_isRisen_19 ?_
      refine wn_mask (pc := 20) ((risers T S q) / 2 ^ i) 1 dX11_isRisen_20 rfl rfl (by decide) ?_
      refine wp_if_eq (pc := 21) 63 dX11_isRisen_21 (by decide) (by omega) (fun h_2 => ?_) (fun h_2 => ?_)
      · refine wq_iinc (pc := 63) [some (vR 111), some (vI (q : Int)), some (vI ((risers T S q : Nat) : Int)), some (vI ((i : Int) + 1))] dX11_isRisen_63 rfl rfl (by decide) rfl ?_
        refine wp_goto (pc := 66) 8 dX11_isRisen_66 (by decide) ?_
        have er : nP T - i = (nP T - (i + 1)) + 1 := by omega
        rw [er, rgo] at hQ
        have hl : ¬ (lisF T S q).testBit i = true := fun x => by have y := (lis_bit hi).mp x; have y2 := (bit_iff _ i).mpr y.1; omega
        rw [if_neg hl] at hQ
        exact ih z J hz hJ hAj hQ
      · refine wp_aload_n (pc := 24) 0 dX11_isRisen_24 rfl rfl ?_
        refine wp_iload_n (pc := 25) 3 dX11_isRisen_25 rfl rfl ?_
        refine wp_callV (pc := 26) (st := []) (nf' := 153) [vI (i : Int)] [some (vR 111), some (vI (i : Int))] dX11_isRisen_26 rfl c_X11_476 rfl kd_111 (by decide) rfl la_111 rfl (Nat.le_of_ble_eq_true rfl) rfl (Nat.le_of_ble_eq_true rfl) (by omega) (Nat.le_refl _) (Nat.le_refl _) ?_
        refine rs_isAway i rfl hRj hAj hw (sw_29 hv hz) (by omega) (by omega) (by omega) (fun h_3 => ?_) (fun h_3 => ?_)
        · refine wp_eqst (st' := [vI 1]) rfl ?_
          refine wp_if_ne (pc := 29) 63 dX11_isRisen_29 (by decide) (by decide) (fun _ => ?_) (fun hh => absurd hh (by decide))
          refine wq_iinc (pc := 63) [some (vR 111), some (vI (q : Int)), some (vI ((risers T S q : Nat) : Int)), some (vI ((i : Int) + 1))] dX11_isRisen_63 rfl rfl (by decide) rfl ?_
          refine wp_goto (pc := 66) 8 dX11_isRisen_66 (by decide) ?_
          have er : nP T - i = (nP T - (i + 1)) + 1 := by omega
          rw [er, rgo] at hQ
          have hl : ¬ (lisF T S q).testBit i = true := fun x => by have y := (lis_bit hi).mp x; rw [e28] at h_3; exact y.2.2 h_3
          rw [if_neg hl] at hQ
          exact ih z J hz hJ hAj hQ
        · refine wp_eqst (st' := [vI 0]) rfl ?_
          refine wp_if_ne (pc := 29) 63 dX11_isRisen_29 (by decide) (by decide) (fun hh => absurd hh (by decide)) (fun _ => ?_)
          refine wp_aload_n (pc := 32) 0 dX11_isRisen_32 rfl rfl ?_
          refine wp_iload_n (pc := 33) 1 dX11_isRisen_33 rfl rfl ?_
          refine wp_aload_n (pc := 34) 0 dX11_isRisen_34 rfl rfl ?_
          refine wp_getr (pc := 35) dX11_isRisen_35 rfl f_X11_106 kd_111 la_111 rfl (r_111_61 D) ?_
          refine wp_iload_n (pc := 38) 3 dX11_isRisen_38 rfl rfl ?_
          refine wq_iald (pc := 39) i dX11_isRisen_39 kd_140 la_140 rfl (by omega) ?_
          refine wp_eqst (st' := [vI ((setF S 29 z) i), vI (q : Int), vR 111]) (by rw [hAj, pS_s (by omega)]) ?_
          refine wp_callV (pc := 40) (st := []) (nf' := 153) [vI (q : Int), vI ((setF S 29 z) i)] [some (vR 111), some (vI (q : Int)), some (vI ((setF S 29 z) i))] dX11_isRisen_40 rfl c_X11_494 rfl kd_111 (by decide) rfl la_111 rfl (Nat.le_of_ble_eq_true rfl) rfl (Nat.le_of_ble_eq_true rfl) (by omega) (Nat.le_refl _) (Nat.le_refl _) ?_
          refine rs_isAt q rfl hRj hAj hw (sw_29 hv hz) (by omega) (by omega) (by omega) (fun h_4 => ?_) (fun h_4 => ?_)
          · refine wp_eqst (st' := [vI 1]) rfl ?_
            refine wp_if_ne (pc := 43) 49 dX11_isRisen_43 (by decide) (by decide) (fun _ => ?_) (fun hh => absurd hh (by decide))
            refine wp_aload_n (pc := 49) 0 dX11_isRisen_49 rfl rfl ?_
            refine wp_callV (pc := 50) (st := []) (nf' := 153) [] [some (vR 111)] dX11_isRisen_50 rfl c_X11_497 rfl kd_111 (by decide) rfl la_111 rfl (Nat.le_of_ble_eq_true rfl) rfl (Nat.le_of_ble_eq_true rfl) (by omega) (Nat.le_refl _) (Nat.le_refl _) ?_
            refine rs_draw (B := B) hw hAj hz (by omega) ?_
            have hz2 := nextZ_in hz
            have hJd : Rr I (up J 140 29 (nextZ z)) := hJ.up
            have hAd : (up J 140 29 (nextZ z)) 140 = pS (setF S 29 (nextZ z)) := by rw [pS_up29 hAj]; congr 1; funext j; unfold setF; split <;> rfl
            refine wp_eqst (st' := [vI (Int.tmod (nextZ z) 10)]) rfl ?_
            refine wp_aload_n (pc := 53) 0 dX11_isRisen_53 rfl rfl ?_
            refine wp_iload_n (pc := 54) 3 dX11_isRisen_54 rfl rfl ?_
            refine wp_callV (pc := 55) (st := [vI (Int.tmod (nextZ z) 10)]) (nf' := 153) [vI (i : Int)] [some (vR 111), some (vI (i : Int))] dX11_isRisen_55 rfl c_X11_500 rfl kd_111 (by decide) rfl la_111 rfl (Nat.le_of_ble_eq_true rfl) rfl (Nat.le_of_ble_eq_true rfl) (by omega) (Nat.le_refl _) (Nat.le_refl _) ?_
            have hkd : ∀ c, c < 4 → (up J 140 29 (nextZ z)) 141 c = ((pc8 (readIn T (setF S 29 (nextZ z)) (c : Int) cl) : Nat) : Int) := fun c hc => by rw [hJd 141 (by decide) (by decide) (by decide), readIn_congr hw (fun j hj => setF_n (by omega)) (fun j hj => setF_n (by omega))]; exact hk c hc
            refine rs_hearingOf (cl := cl) i rfl (hJd.rt hR) hAd hw (sw_29 hv hz2) (hJd.fx hX) hcd (by omega) (by omega) hkd (by omega) (fun N hN => ?_)
            refine wp_eqst (st' := [vI (ear T (setF S 29 (nextZ z)) i cl), vI (Int.tmod (nextZ z) 10)]) rfl ?_
            refine wp_icmp_ge (pc := 58) 63 dX11_isRisen_58 (by decide) (by omega) (by omega) (fun h_5 => ?_) (fun h_5 => ?_)
            · refine wq_iinc (pc := 63) [some (vR 111), some (vI (q : Int)), some (vI ((risers T S q : Nat) : Int)), some (vI ((i : Int) + 1))] dX11_isRisen_63 rfl rfl (by decide) rfl ?_
              refine wp_goto (pc := 66) 8 dX11_isRisen_66 (by decide) ?_
              have er : nP T - i = (nP T - (i + 1)) + 1 := by omega
              rw [er, rgo] at hQ
              have hl : (lisF T S q).testBit i = true := (lis_bit hi).mpr ⟨(bit_iff _ i).mp (by omega), by rw [e13, e18, ei] at h_4; omega, by rw [e28] at h_3; exact h_3⟩
              rw [if_pos hl] at hQ
              rw [(ear_congr (S := S) hw (by omega) (fun j hj => setF_n (by omega)) (fun j hj => setF_n (by omega)) (fun j hj => setF_n (by omega)) (setF_n (by decide)))] at h_5
              rw [if_neg (by omega)] at hQ
              exact ih (nextZ z) _ hz2 (hJd.ra hN) ((hN 140 (by decide) (by decide)).trans hAd) hQ
            · refine wp_iconst (pc := 61) dX11_isRisen_61 ?_
              refine wp_zret (pc := 62) dX11_isRisen_62 rfl rfl (by decide) ?_
              have er : nP T - i = (nP T - (i + 1)) + 1 := by omega
              rw [er, rgo] at hQ
              have hl : (lisF T S q).testBit i = true := (lis_bit hi).mpr ⟨(bit_iff _ i).mp (by omega), by rw [e13, e18, ei] at h_4; omega, by rw [e28] at h_3; exact h_3⟩
              rw [if_pos hl] at hQ
              rw [(ear_congr (S := S) hw (by omega) (fun j hj => setF_n (by omega)) (fun j hj => setF_n (by omega)) (fun j hj => setF_n (by omega)) (setF_n (by decide)))] at h_5
              rw [if_pos (by omega)] at hQ
              exact (hQ _ (hJd.ra hN) ((hN 140 (by decide) (by decide)).trans hAd)).1 rfl
          · refine wp_eqst (st' := [vI 0]) rfl ?_
            refine wp_if_ne (pc := 43) 49 dX11_isRisen_43 (by decide) (by decide) (fun hh => absurd hh (by decide)) (fun _ => ?_)
            refine wp_goto (pc := 46) 63 dX11_isRisen_46 (by decide) ?_
            refine wq_iinc (pc := 63) [some (vR 111), some (vI (q : Int)), some (vI ((risers T S q : Nat) : Int)), some (vI ((i : Int) + 1))] dX11_isRisen_63 rfl rfl (by decide) rfl ?_
            refine wp_goto (pc := 66) 8 dX11_isRisen_66 (by decide) ?_
            have er : nP T - i = (nP T - (i + 1)) + 1 := by omega
            rw [er, rgo] at hQ
            have hl : ¬ (lisF T S q).testBit i = true := fun x => by have y := (lis_bit hi).mp x; rw [e13, e18, ei] at h_4; have y2 := y.2.1; omega
            rw [if_neg hl] at hQ
            exact ih z J hz hJ hAj hQ

theorem rs_isRisen {l : Launch} {G : mG} {d : Nat} {I : mI} {L : Nat → Nat → Int} {D : Nat → Nat} {Q : mQ} {T : mT} {S : mS} {B : Int} {cl : Nat} (q : Nat) {q_ : Int} (hq_ : q_ = (q : Int)) (hR : RT I T) (hA : I 140 = pS S) (hw : tw T) (hv : sw S B) (hC : TC T) (hX : FX I T) (hcd : ∀ j, inR (T 18 j)) (hB : B ≤ 100000) (hq : q < nQ T) (hk : ∀ c, c < 4 → I 141 c = ((pc8 (readIn T S (c : Int) cl) : Nat) : Int)) (hd : 5 ≤ d) (hQ : ∀ K, Rr I K → K 140 = pS (setF S 29 (risen T S q cl).2) → ((risen T S q cl).1 = true → Q (some (vI 1)) K (XX L D)) ∧ ((risen T S q cl).1 = false → Q (some (vI 0)) K (XX L D))) : WP l G m_X11_isRisen d 153 I (XX L D) 0 [some (vR 111), some (vI q_), none, none] [] Q := by
  subst hq_
  have b_p := tw_p hw
  have b_q := tw_q hw
  have b_c := tw_c hw
  have eP : nP T = (T 0 12).toNat := rfl
  have eQ : nQ T = (T 0 13).toNat := rfl
  have eC : nC T = (T 0 11).toNat := rfl
  refine wp_aload_n (pc := 0) 0 dX11_isRisen_0 rfl rfl ?_
  refine wp_iload_n (pc := 1) 1 dX11_isRisen_1 rfl rfl ?_
  refine wp_callV (pc := 2) (st := []) (nf' := 153) [vI (q : Int)] [some (vR 111), some (vI (q : Int)), none, none] dX11_isRisen_2 rfl c_X11_491 rfl kd_111 (by decide) rfl la_111 rfl (Nat.le_of_ble_eq_true rfl) rfl (Nat.le_of_ble_eq_true rfl) (by omega) (Nat.le_refl _) (Nat.le_refl _) ?_
  refine rs_risersOf q rfl hR hA hw hv hC (by omega) (by omega) ?_
  refine wp_eqst (st' := [vI ((risers T S q : Nat) : Int)]) rfl ?_
  refine wq_istore_n (pc := 5) 2 [some (vR 111), some (vI (q : Int)), some (vI ((risers T S q : Nat) : Int)), none] dX11_isRisen_5 rfl rfl (by decide) rfl ?_
  refine wp_iconst (pc := 6) dX11_isRisen_6 ?_
  refine wq_istore_n (pc := 7) 3 [some (vR 111), some (vI (q : Int)), some (vI ((risers T S q : Nat) : Int)), some (vI 0)] dX11_isRisen_7 rfl rfl (by decide) rfl ?_
  have e9 : setF S 29 (S 29) = S := funext fun j => by unfold setF; split <;> first | rfl | (next h => rw [h])
  exact rl_isRisen hR hA hw hv hC hX hcd hB hq hk hd 0 (Nat.zero_le _) (S 29) I (sw_seed hv) Rr.refl (by rw [e9]; exact hA) hQ
