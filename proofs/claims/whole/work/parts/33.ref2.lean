theorem rs_barOf {l : Launch} {G : mG} {d : Nat} {I : mI} {L : Nat → Nat → Int} {D : Nat → Nat} {Q : mQ} {T : mT} {S : mS} {B : Int} (q : Nat) {q_ : Int} (hq_ : q_ = (q : Int)) (hR : RT I T) (hA : I 140 = pS S) (hw : tw T) (hv : sw S B) (hC : TC T) (hq : q < nQ T) (hd : 2 ≤ d) (hQ : Q (some (vI (barQ T S q))) I (XX L D)) : WP l G m_X11_barOf d 153 I (XX L D) 0 [some (vR 111), some (vI q_), none, none] [] Q := by
  subst hq_
  have b_p := tw_p hw
  have b_q := tw_q hw
  have b_c := tw_c hw
  have eP : nP T = (T 0 12).toNat := rfl
  have eQ : nQ T = (T 0 13).toNat := rfl
  have eC : nC T = (T 0 11).toNat := rfl
  have b1 := tw_one hw q
  have b2 := tw_other hw q
  have b3 := hC.2.2.2 q hq
  have ea : ((pa T q : Nat) : Int) = T 6 q := by show (((T 6 q).toNat : Nat) : Int) = T 6 q; omega
  have eb : ((pb T q : Nat) : Int) = T 7 q := by show (((T 7 q).toNat : Nat) : Int) = T 7 q; omega
  have e1a : pa T q = (T 6 q).toNat := rfl
  have e1b : pb T q = (T 7 q).toNat := rfl
  have b4 := vowB_in T (Int.toNat (T 6 q))
  have b5 := vowB_in T (Int.toNat (T 7 q))
  have va : vowB T (pa T q) = vowB T (Int.toNat (T 6 q)) := rfl
  have vb : vowB T (pb T q) = vowB T (Int.toNat (T 7 q)) := rfl
  have b6 := tw_deg hw
  have b7 := wwF_in hw S (T 6 q) q (nQ T)
  have b8 := wwF_in hw S (T 7 q) q (nQ T)
  refine wp_aload_n (pc := 0) 0 dX11_barOf_0 rfl rfl ?_
  refine wp_getr (pc := 1) dX11_barOf_1 rfl f_X11_81 kd_111 la_111 rfl (r_111_38 D) ?_
  refine wp_iload_n (pc := 4) 1 dX11_barOf_4 rfl rfl ?_
  refine wq_iald (pc := 5) q dX11_barOf_5 kd_134 la_134 rfl (by omega) ?_
  refine wp_eqst (st' := [vI (T 6 q)]) (by rw [rt_one hR (by omega)]) ?_
  refine wq_istore_n (pc := 6) 2 [some (vR 111), some (vI (q : Int)), some (vI (T 6 q)), none] dX11_barOf_6 rfl rfl (by decide) rfl ?_
  refine wp_aload_n (pc := 7) 0 dX11_barOf_7 rfl rfl ?_
  refine wp_getr (pc := 8) dX11_barOf_8 rfl f_X11_84 kd_111 la_111 rfl (r_111_39 D) ?_
  refine wp_iload_n (pc := 11) 1 dX11_barOf_11 rfl rfl ?_
  refine wq_iald (pc := 12) q dX11_barOf_12 kd_135 la_135 rfl (by omega) ?_
  refine wp_eqst (st' := [vI (T 7 q)]) (by rw [rt_other hR (by omega)]) ?_
  refine wq_istore_n (pc := 13) 3 [some (vR 111), some (vI (q : Int)), some (vI (T 6 q)), some (vI (T 7 q))] dX11_barOf_13 rfl rfl (by decide) rfl ?_
  refine wp_aload_n (pc := 14) 0 dX11_barOf_14 rfl rfl ?_
  refine wp_iload_n (pc := 15) 2 dX11_barOf_15 rfl rfl ?_
  refine wp_iload_n (pc := 16) 3 dX11_barOf_16 rfl rfl ?_
  refine wp_aload_n (pc := 17) 0 dX11_barOf_17 rfl rfl ?_
  refine wp_geti (pc := 18) dX11_barOf_18 rfl f_X11_94 kd_111 la_111 (Or.inl rfl) ?_
  refine wp_eqst (st' := [vI (T 0 15), vI (T 7 q), vI (T 6 q), vR 111]) (by rw [rt_d hR]) ?_
  refine wp_callV (pc := 21) (st := []) (nf' := 153) [vI (T 6 q), vI (T 7 q), vI (T 0 15)] [some (vR 111), some (vI (T 6 q)), some (vI (T 7 q)), some (vI (T 0 15))] dX11_barOf_21 rfl c_X11_452 rfl kd_111 (by decide) rfl la_111 rfl (Nat.le_of_ble_eq_true rfl) rfl (Nat.le_of_ble_eq_true rfl) (by omega) (Nat.le_refl _) (Nat.le_refl _) ?_
  refine rs_areKin (Int.toNat (T 6 q)) (by omega) (Int.toNat (T 7 q)) (by omega) hR hw hC (by omega) (by omega) (by omega) (by omega) (fun h_1 => ?_) (fun h_1 => ?_)
  · refine wp_eqst (st' := [vI 1]) rfl ?_
    refine wp_if_eq (pc := 24) 29 dX11_barOf_24 (by decide) (by decide) (fun hh => absurd hh (by decide)) (fun _ => ?_)
    refine wp_iconst (pc := 27) dX11_barOf_27 ?_
    refine wp_iret (pc := 28) dX11_barOf_28 rfl rfl ?_
    have e1 : barQ T S q = 1 := by
      show barF T S (pa T q) (pb T q) q = _
      rw [bar_ref hw]
      exact if_pos h_1
    rw [e1] at hQ; exact hQ
  · refine wp_eqst (st' := [vI 0]) rfl ?_
    refine wp_if_eq (pc := 24) 29 dX11_barOf_24 (by decide) (by decide) (fun _ => ?_) (fun hh => absurd hh (by decide))
    refine wp_aload_n (pc := 29) 0 dX11_barOf_29 rfl rfl ?_
    refine wp_getr (pc := 30) dX11_barOf_30 rfl f_X11_91 kd_111 la_111 rfl (r_111_41 D) ?_
    refine wp_iload_n (pc := 33) 2 dX11_barOf_33 rfl rfl ?_
    refine wq_zald (pc := 34) (Int.toNat (T 6 q)) dX11_barOf_34 kd_137 la_137 (by omega) (by omega) ?_
    refine wp_eqst (st' := [vI (vowB T (Int.toNat (T 6 q)))]) (by rw [rt_vow hR (by omega)]) ?_
    refine wp_if_ne (pc := 35) 47 dX11_barOf_35 (by decide) (by omega) (fun h_2 => ?_) (fun h_2 => ?_)
    · refine wp_iconst (pc := 47) dX11_barOf_47 ?_
      refine wp_iret (pc := 48) dX11_barOf_48 rfl rfl ?_
      have e1 : barQ T S q = 2 := by
        show barF T S (pa T q) (pb T q) q = _
        rw [bar_ref hw]
        rw [if_neg h_1, if_pos (by first | exact Or.inl (by omega) | exact Or.inr (by omega))]
      rw [e1] at hQ; exact hQ
    · refine wp_aload_n (pc := 38) 0 dX11_barOf_38 rfl rfl ?_
      refine wp_getr (pc := 39) dX11_barOf_39 rfl f_X11_91 kd_111 la_111 rfl (r_111_41 D) ?_
      refine wp_iload_n (pc := 42) 3 dX11_barOf_42 rfl rfl ?_
      refine wq_zald (pc := 43) (Int.toNat (T 7 q)) dX11_barOf_43 kd_137 la_137 (by omega) (by omega) ?_
      refine wp_eqst (st' := [vI (vowB T (Int.toNat (T 7 q)))]) (by rw [rt_vow hR (by omega)]) ?_
      refine wp_if_eq (pc := 44) 49 dX11_barOf_44 (by decide) (by omega) (fun h_3 => ?_) (fun h_3 => ?_)
      · refine wp_aload_n (pc := 49) 0 dX11_barOf_49 rfl rfl ?_
        refine wp_iload_n (pc := 50) 2 dX11_barOf_50 rfl rfl ?_
        refine wp_iload_n (pc := 51) 1 dX11_barOf_51 rfl rfl ?_
        refine wp_callV (pc := 52) (st := []) (nf' := 153) [vI (T 6 q), vI (q : Int)] [some (vR 111), some (vI (T 6 q)), some (vI (q : Int)), none, none] dX11_barOf_52 rfl c_X11_455 rfl kd_111 (by decide) rfl la_111 rfl (Nat.le_of_ble_eq_true rfl) rfl (Nat.le_of_ble_eq_true rfl) (by omega) (Nat.le_refl _) (Nat.le_refl _) ?_
        refine rs_wedWith hR hA hw hv (by omega) (by omega) (by omega) ?_
        refine wp_eqst (st' := [vI (wwF T S (T 6 q) (q : Int) (nQ T))]) rfl ?_
        refine wp_if_ge (pc := 55) 67 dX11_barOf_55 (by decide) (by omega) (fun h_4 => ?_) (fun h_4 => ?_)
        · refine wp_iconst (pc := 67) dX11_barOf_67 ?_
          refine wp_goto (pc := 68) 72 dX11_barOf_68 (by decide) ?_
          refine wp_iret (pc := 72) dX11_barOf_72 rfl rfl ?_
          have e1 : barQ T S q = 3 := by
            show barF T S (pa T q) (pb T q) q = _
            rw [bar_ref hw]
            rw [if_neg h_1, if_neg (by omega), if_pos (by rw [ea, eb]; omega)]
          rw [e1] at hQ; exact hQ
        · refine wp_aload_n (pc := 58) 0 dX11_barOf_58 rfl rfl ?_
          refine wp_iload_n (pc := 59) 3 dX11_barOf_59 rfl rfl ?_
          refine wp_iload_n (pc := 60) 1 dX11_barOf_60 rfl rfl ?_
          refine wp_callV (pc := 61) (st := []) (nf' := 153) [vI (T 7 q), vI (q : Int)] [some (vR 111), some (vI (T 7 q)), some (vI (q : Int)), none, none] dX11_barOf_61 rfl c_X11_455 rfl kd_111 (by decide) rfl la_111 rfl (Nat.le_of_ble_eq_true rfl) rfl (Nat.le_of_ble_eq_true rfl) (by omega) (Nat.le_refl _) (Nat.le_refl _) ?_
          refine rs_wedWith hR hA hw hv (by omega) (by omega) (by omega) ?_
          refine wp_eqst (st' := [vI (wwF T S (T 7 q) (q : Int) (nQ T))]) rfl ?_
          refine wp_if_lt (pc := 64) 71 dX11_barOf_64 (by decide) (by omega) (fun h_5 => ?_) (fun h_5 => ?_)
          · refine wp_iconst (pc := 71) dX11_barOf_71 ?_
            refine wp_iret (pc := 72) dX11_barOf_72 rfl rfl ?_
            have e1 : barQ T S q = 0 := by
              show barF T S (pa T q) (pb T q) q = _
              rw [bar_ref hw]
              rw [if_neg h_1, if_neg (by omega), if_neg (by rw [ea, eb]; omega)]
            rw [e1] at hQ; exact hQ
          · refine wp_iconst (pc := 67) dX11_barOf_67 ?_
            refine wp_goto (pc := 68) 72 dX11_barOf_68 (by decide) ?_
            refine wp_iret (pc := 72) dX11_barOf_72 rfl rfl ?_
            have e1 : barQ T S q = 3 := by
              show barF T S (pa T q) (pb T q) q = _
              rw [bar_ref hw]
              rw [if_neg h_1, if_neg (by omega), if_pos (by rw [ea, eb]; omega)]
            rw [e1] at hQ; exact hQ
      · refine wp_iconst (pc := 47) dX11_barOf_47 ?_
        refine wp_iret (pc := 48) dX11_barOf_48 rfl rfl ?_
        have e1 : barQ T S q = 2 := by
          show barF T S (pa T q) (pb T q) q = _
          rw [bar_ref hw]
          rw [if_neg h_1, if_pos (by first | exact Or.inl (by omega) | exact Or.inr (by omega))]
        rw [e1] at hQ; exact hQ

theorem rs_wouldRise {l : Launch} {G : mG} {d : Nat} {I : mI} {L : Nat → Nat → Int} {D : Nat → Nat} {Q : mQ} {T : mT} {S : mS} {B : Int} (p : Nat) {p_ : Int} (hp_ : p_ = (p : Int)) (q : Nat) {q_ : Int} (hq_ : q_ = (q : Int)) (hR : RT I T) (hA : I 140 = pS S) (hw : tw T) (hv : sw S B) (hC : TC T) (hp : p < nP T) (hq : q < nQ T) (hd : 3 ≤ d) (h1 : wrP T S q p → Q (some (vI 1)) I (XX L D)) (h0 : ¬ (wrP T S q p) → Q (some (vI 0)) I (XX L D)) : WP l G m_X11_wouldRise d 153 I (XX L D) 0 [some (vR 111), some (vI p_), some (vI q_), none] [] Q := by
  subst hp_
  subst hq_
  have b_p := tw_p hw
  have b_q := tw_q hw
  have b_c := tw_c hw
  have eP : nP T = (T 0 12).toNat := rfl
  have eQ : nQ T = (T 0 13).toNat := rfl
  have eC : nC T = (T 0 11).toNat := rfl
  have b1 := tw_one hw q
  have b2 := tw_other hw q
  have b3 := tw_spites hw p
  have b4 := tw_knows hw p
  have bp := pm_lt hw q
  have ep : pm T q = 2 ^ (T 6 q).toNat ||| 2 ^ (T 7 q).toNat := rfl
  rw [ep] at bp
  have b5 : (T 5 p).toNat &&& (2 ^ (T 6 q).toNat ||| 2 ^ (T 7 q).toNat) < 256 := Nat.lt_of_le_of_lt Nat.and_le_right bp
  have b6 : (T 14 p).toNat &&& (2 ^ (T 6 q).toNat ||| 2 ^ (T 7 q).toNat) < 256 := Nat.lt_of_le_of_lt Nat.and_le_right bp
  have b7 := barF_in T S (pa T q) (pb T q) q
  have e7 : barQ T S q = barF T S (pa T q) (pb T q) q := rfl
  have ris_iff := @ris_iff T S q p
  rw [ep] at ris_iff
  refine wp_iconst (pc := 0) dX11_wouldRise_0 ?_
  refine wp_aload_n (pc := 1) 0 dX11_wouldRise_1 rfl rfl ?_
  refine wp_getr (pc := 2) dX11_wouldRise_2 rfl f_X11_81 kd_111 la_111 rfl (r_111_38 D) ?_
  refine wp_iload_n (pc := 5) 2 dX11_wouldRise_5 rfl rfl ?_
  refine wq_iald (pc := 6) q dX11_wouldRise_6 kd_134 la_134 rfl (by omega) ?_
  refine wp_eqst (st' := [vI (T 6 q), vI 1]) (by rw [rt_one hR (by omega)]) ?_
  refine wn_shl1 (pc := 7) (Int.toNat (T 6 q)) dX11_wouldRise_7 (by omega) (by omega) ?_
  refine wp_iconst (pc := 8) dX11_wouldRise_8 ?_
  refine wp_aload_n (pc := 9) 0 dX11_wouldRise_9 rfl rfl ?_
  refine wp_getr (pc := 10) dX11_wouldRise_10 rfl f_X11_84 kd_111 la_111 rfl (r_111_39 D) ?_
  refine wp_iload_n (pc := 13) 2 dX11_wouldRise_13 rfl rfl ?_
  refine wq_iald (pc := 14) q dX11_wouldRise_14 kd_135 la_135 rfl (by omega) ?_
  refine wp_eqst (st' := [vI (T 7 q), vI 1, vI ((2 ^ (Int.toNat (T 6 q)) : Nat) : Int)]) (by rw [rt_other hR (by omega)]) ?_
  refine wn_shl1 (pc := 15) (Int.toNat (T 7 q)) dX11_wouldRise_15 (by omega) (by omega) ?_
  refine wn_or (pc := 16) (2 ^ (Int.toNat (T 6 q))) (2 ^ (Int.toNat (T 7 q))) dX11_wouldRise_16 rfl rfl ?_
  refine wq_istore_n (pc := 17) 3 [some (vR 111), some (vI (p : Int)), some (vI (q : Int)), some (vI (((2 ^ (Int.toNat (T 6 q))) ||| (2 ^ (Int.toNat (T 7 q))) : Nat) : Int))] dX11_wouldRise_17 rfl rfl (by decide) rfl ?_
  refine wp_aload_n (pc := 18) 0 dX11_wouldRise_18 rfl rfl ?_
  refine wp_iload_n (pc := 19) 2 dX11_wouldRise_19 rfl rfl ?_
  refine wp_iload_n (pc := 20) 1 dX11_wouldRise_20 rfl rfl ?_
  refine wp_callV (pc := 21) (st := []) (nf' := 153) [vI (q : Int), vI (p : Int)] [some (vR 111), some (vI (q : Int)), some (vI (p : Int))] dX11_wouldRise_21 rfl c_X11_449 rfl kd_111 (by decide) rfl la_111 rfl (Nat.le_of_ble_eq_true rfl) rfl (Nat.le_of_ble_eq_true rfl) (by omega) (Nat.le_refl _) (Nat.le_refl _) ?_
  refine rs_isOf q rfl hR hw (by omega) (by omega) (by omega) (fun h_1 => ?_) (fun h_1 => ?_)
  · refine wp_eqst (st' := [vI 1]) rfl ?_
    refine wp_if_ne (pc := 24) 60 dX11_wouldRise_24 (by decide) (by decide) (fun _ => ?_) (fun hh => absurd hh (by decide))
    refine wp_iconst (pc := 60) dX11_wouldRise_60 ?_
    refine wp_zret (pc := 61) dX11_wouldRise_61 rfl rfl (by decide) ?_
    exact h0 (fun x => by first | exact x.1 h_1 | (have y := ris_iff.mp x.2; omega))
  · refine wp_eqst (st' := [vI 0]) rfl ?_
    refine wp_if_ne (pc := 24) 60 dX11_wouldRise_24 (by decide) (by decide) (fun hh => absurd hh (by decide)) (fun _ => ?_)
    refine wp_aload_n (pc := 27) 0 dX11_wouldRise_27 rfl rfl ?_
    refine wp_getr (pc := 28) dX11_wouldRise_28 rfl f_X11_78 kd_111 la_111 rfl (r_111_37 D) ?_
    refine wp_iload_n (pc := 31) 1 dX11_wouldRise_31 rfl rfl ?_
    refine wq_iald (pc := 32) p dX11_wouldRise_32 kd_133 la_133 rfl (by omega) ?_
    refine wp_eqst (st' := [vI (T 5 p)]) (by rw [rt_spites hR (by omega)]) ?_
    refine wp_iload_n (pc := 33) 3 dX11_wouldRise_33 rfl rfl ?_
    refine wn_and (pc := 34) (Int.toNat (T 5 p)) ((2 ^ (Int.toNat (T 6 q))) ||| (2 ^ (Int.toNat (T 7 q)))) dX11_wouldRise_34 (by omega) rfl ?_
    refine wp_if_ne (pc := 35) 56 dX11_wouldRise_35 (by decide) (by omega) (fun h_2 => ?_) (fun h_2 => ?_)
    · refine wp_iconst (pc := 56) dX11_wouldRise_56 ?_
      refine wp_goto (pc := 57) 61 dX11_wouldRise_57 (by decide) ?_
      refine wp_zret (pc := 61) dX11_wouldRise_61 rfl rfl (by decide) ?_
      exact h1 ⟨h_1, ris_iff.mpr (by first | exact Or.inl (by omega) | exact Or.inr ⟨by omega, by omega⟩)⟩
    · refine wp_aload_n (pc := 38) 0 dX11_wouldRise_38 rfl rfl ?_
      refine wp_iload_n (pc := 39) 2 dX11_wouldRise_39 rfl rfl ?_
      refine wp_callV (pc := 40) (st := []) (nf' := 153) [vI (q : Int)] [some (vR 111), some (vI (q : Int)), none, none] dX11_wouldRise_40 rfl c_X11_458 rfl kd_111 (by decide) rfl la_111 rfl (Nat.le_of_ble_eq_true rfl) rfl (Nat.le_of_ble_eq_true rfl) (by omega) (Nat.le_refl _) (Nat.le_refl _) ?_
      refine rs_barOf q rfl hR hA hw hv hC (by omega) (by omega) ?_
      refine wp_eqst (st' := [vI (barQ T S q)]) rfl ?_
      refine wp_if_le (pc := 43) 60 dX11_wouldRise_43 (by decide) (by omega) (fun h_3 => ?_) (fun h_3 => ?_)
      · refine wp_iconst (pc := 60) dX11_wouldRise_60 ?_
        refine wp_zret (pc := 61) dX11_wouldRise_61 rfl rfl (by decide) ?_
        exact h0 (fun x => by first | exact x.1 h_1 | (have y := ris_iff.mp x.2; omega))
      · refine wp_aload_n (pc := 46) 0 dX11_wouldRise_46 rfl rfl ?_
        refine wp_iload_n (pc := 47) 1 dX11_wouldRise_47 rfl rfl ?_
        refine wp_callV (pc := 48) (st := []) (nf' := 153) [vI (p : Int)] [some (vR 111), some (vI (p : Int)), none, none] dX11_wouldRise_48 rfl c_X11_461 rfl kd_111 (by decide) rfl la_111 rfl (Nat.le_of_ble_eq_true rfl) rfl (Nat.le_of_ble_eq_true rfl) (by omega) (Nat.le_refl _) (Nat.le_refl _) ?_
        refine rs_knownTo p rfl hR hw hC (by omega) (by omega) ?_
        refine wp_eqst (st' := [vI (T 14 p)]) rfl ?_
        refine wp_iload_n (pc := 51) 3 dX11_wouldRise_51 rfl rfl ?_
        refine wn_and (pc := 52) (Int.toNat (T 14 p)) ((2 ^ (Int.toNat (T 6 q))) ||| (2 ^ (Int.toNat (T 7 q)))) dX11_wouldRise_52 (by omega) rfl ?_
        refine wp_if_eq (pc := 53) 60 dX11_wouldRise_53 (by decide) (by omega) (fun h_4 => ?_) (fun h_4 => ?_)
        · refine wp_iconst (pc := 60) dX11_wouldRise_60 ?_
          refine wp_zret (pc := 61) dX11_wouldRise_61 rfl rfl (by decide) ?_
          exact h0 (fun x => by first | exact x.1 h_1 | (have y := ris_iff.mp x.2; omega))
        · refine wp_iconst (pc := 56) dX11_wouldRise_56 ?_
          refine wp_goto (pc := 57) 61 dX11_wouldRise_57 (by decide) ?_
          refine wp_zret (pc := 61) dX11_wouldRise_61 rfl rfl (by decide) ?_
          exact h1 ⟨h_1, ris_iff.mpr (by first | exact Or.inl (by omega) | exact Or.inr ⟨by omega, by omega⟩)⟩

theorem rl_risersOf {l : Launch} {G : mG} {d : Nat} {I : mI} {L : Nat → Nat → Int} {D : Nat → Nat} {Q : mQ} {T : mT} {S : mS} {B : Int} {q : Nat} (hR : RT I T) (hA : I 140 = pS S) (hw : tw T) (hv : sw S B) (hC : TC T) (hq : q < nQ T) (hd : 4 ≤ d) (hQ : Q (some (vI ((risers T S q : Int)))) I (XX L D)) : ∀ i : Nat, i ≤ nP T → WP l G m_X11_risersOf d 153 I (XX L D) 4 [some (vR 111), some (vI (q : Int)), some (vI ((setOf (fun p => (risers T S q).testBit p) i : Nat) : Int)), some (vI (i : Int))] [] Q := by
  have b_p := tw_p hw
  have b_q := tw_q hw
  have b_c := tw_c hw
  have eP : nP T = (T 0 12).toNat := rfl
  have eQ : nQ T = (T 0 13).toNat := rfl
  have eC : nC T = (T 0 11).toNat := rfl
  refine loop_dn (fun i => WP l G m_X11_risersOf d 153 I (XX L D) 4 [some (vR 111), some (vI (q : Int)), some (vI ((setOf (fun p => (risers T S q).testBit p) i : Nat) : Int)), some (vI (i : Int))] [] Q) (nP T) ?_ (fun i hi ih => ?_)
  · refine wp_iload_n (pc := 4) 3 dX11_risersOf_4 rfl rfl ?_
    refine wp_aload_n (pc := 5) 0 dX11_risersOf_5 rfl rfl ?_
    refine wp_geti (pc := 6) dX11_risersOf_6 rfl f_X11_412 kd_111 la_111 (Or.inl rfl) ?_
    refine wp_eqst (st' := [vI (T 0 12), vI (((nP T) : Nat) : Int)]) (by rw [rt_p hR]) ?_
    refine wp_icmp_ge (pc := 9) 32 dX11_risersOf_9 (by decide) (by omega) (by omega) (fun h_1 => ?_) (fun h_1 => ?_)
    · refine wp_iload_n (pc := 32) 2 dX11_risersOf_32 rfl rfl ?_
      refine wp_iret (pc := 33) dX11_risersOf_33 rfl rfl ?_
      have e1 : setOf (fun p => (risers T S q).testBit p) (nP T) = risers T S q := by
        refine Nat.eq_of_testBit_eq (fun i => ?_)
        rw [setOf_tb]
        by_cases e : i < nP T
        · rw [decide_eq_true e]; rfl
        · rw [decide_eq_false e]; unfold risers; rw [dif_tb, setOf_tb, decide_eq_false e]; rfl
      rw [e1]; exact hQ
    · exfalso; omega
  · refine wp_iload_n (pc := 4) 3 dX11_risersOf_4 rfl rfl ?_
    refine wp_aload_n (pc := 5) 0 dX11_risersOf_5 rfl rfl ?_
    refine wp_geti (pc := 6) dX11_risersOf_6 rfl f_X11_412 kd_111 la_111 (Or.inl rfl) ?_
    refine wp_eqst (st' := [vI (T 0 12), vI (i : Int)]) (by rw [rt_p hR]) ?_
    refine wp_icmp_ge (pc := 9) 32 dX11_risersOf_9 (by decide) (by omega) (by omega) (fun h_1 => ?_) (fun h_1 => ?_)
    · exfalso; omega
    · refine wp_iload_n (pc := 12) 2 dX11_risersOf_12 rfl rfl ?_
      refine wp_aload_n (pc := 13) 0 dX11_risersOf_13 rfl rfl ?_
      refine wp_iload_n (pc := 14) 3 dX11_risersOf_14 rfl rfl ?_
      refine wp_iload_n (pc := 15) 1 dX11_risersOf_15 rfl rfl ?_
      refine wp_callV (pc := 16) (st := [vI ((setOf (fun p => (risers T S q).testBit p) i : Nat) : Int)]) (nf' := 153) [vI (i : Int), vI (q : Int)] [some (vR 111), some (vI (i : Int)), some (vI (q : Int)), none] dX11_risersOf_16 rfl c_X11_464 rfl kd_111 (by decide) rfl la_111 rfl (Nat.le_of_ble_eq_true rfl) rfl (Nat.le_of_ble_eq_true rfl) (by omega) (Nat.le_refl _) (Nat.le_refl _) ?_
      refine rs_wouldRise i rfl q rfl hR hA hw hv hC (by omega) (by omega) (by omega) (fun h_2 => ?_) (fun h_2 => ?_)
      · refine wp_eqst (st' := [vI 1, vI ((setOf (fun p => (risers T S q).testBit p) i : Nat) : Int)]) rfl ?_
        refine wp_callS (pc := 19) (st := [vI ((setOf (fun p => (risers T S q).testBit p) i : Nat) : Int)]) (nf' := 153) [vI 1] [some (vI 1)] dX11_risersOf_19 rfl c_X11_320 rfl rfl (Nat.le_of_ble_eq_true rfl) rfl (Nat.le_of_ble_eq_true rfl) (by omega) (Nat.le_refl _) (Nat.le_refl _) ?_
        refine wp_iload_n (pc := 0) 0 dX11_truth_0 rfl rfl ?_
        refine wp_if_eq (pc := 1) 8 dX11_truth_1 (by decide) (by decide) (fun hh => absurd hh (by decide)) (fun _ => ?_)
        refine wp_iconst (pc := 4) dX11_truth_4 ?_
        refine wp_goto (pc := 5) 9 dX11_truth_5 (by decide) ?_
        refine wp_iret (pc := 9) dX11_truth_9 rfl rfl ?_
        refine wp_eqst (st' := [vI 1, vI ((setOf (fun p => (risers T S q).testBit p) i : Nat) : Int)]) rfl ?_
        refine wp_iload_n (pc := 22) 3 dX11_risersOf_22 rfl rfl ?_
        refine wn_shl1 (pc := 23) i dX11_risersOf_23 rfl (by omega) ?_
        refine wn_or (pc := 24) (setOf (fun p => (risers T S q).testBit p) i) (2 ^ i) dX11_risersOf_24 rfl rfl ?_
        refine wq_istore_n (pc := 25) 2 [some (vR 111), some (vI (q : Int)), some (vI (((setOf (fun p => (risers T S q).testBit p) i) ||| (2 ^ i) : Nat) : Int)), some (vI (i : Int))] dX11_risersOf_25 rfl rfl (by decide) rfl ?_
        refine wq_iinc (pc := 26) [some (vR 111), some (vI (q : Int)), some (vI (((setOf (fun p => (risers T S q).testBit p) i) ||| (2 ^ i) : Nat) : Int)), some (vI ((i : Int) + 1))] dX11_risersOf_26 rfl rfl (by decide) rfl ?_
        refine wp_goto (pc := 29) 4 dX11_risersOf_29 (by decide) ?_
        refine wp_eqls (ls' := [some (vR 111), some (vI (q : Int)), some (vI ((setOf (fun p => (risers T S q).testBit p) (i + 1) : Nat) : Int)), some (vI (((i + 1) : Nat) : Int))]) (by rw [setOf_y (f := (fun p => (risers T S q).testBit p)) (n := i) ((risers_bit hw S q i hi).mpr h_2)]; first | rfl | (rw [Nat.one_mul]; rfl)) ih
      · refine wp_eqst (st' := [vI 0, vI ((setOf (fun p => (risers T S q).testBit p) i : Nat) : Int)]) rfl ?_
        refine wp_callS (pc := 19) (st := [vI ((setOf (fun p => (risers T S q).testBit p) i : Nat) : Int)]) (nf' := 153) [vI 0] [some (vI 0)] dX11_risersOf_19 rfl c_X11_320 rfl rfl (Nat.le_of_ble_eq_true rfl) rfl (Nat.le_of_ble_eq_true rfl) (by omega) (Nat.le_refl _) (Nat.le_refl _) ?_
        refine wp_iload_n (pc := 0) 0 dX11_truth_0 rfl rfl ?_
        refine wp_if_eq (pc := 1) 8 dX11_truth_1 (by decide) (by decide) (fun _ => ?_) (fun hh => absurd hh (by decide))
        refine wp_iconst (pc := 8) dX11_truth_8 ?_
        refine wp_iret (pc := 9) dX11_truth_9 rfl rfl ?_
        refine wp_eqst (st' := [vI 0, vI ((setOf (fun p => (risers T S q).testBit p) i : Nat) : Int)]) rfl ?_
        refine wp_iload_n (pc := 22) 3 dX11_risersOf_22 rfl rfl ?_
        refine wn_shl (pc := 23) 0 i dX11_risersOf_23 rfl rfl (by omega) ?_
        refine wn_or (pc := 24) (setOf (fun p => (risers T S q).testBit p) i) (0 * 2 ^ i) dX11_risersOf_24 rfl rfl ?_
        refine wq_istore_n (pc := 25) 2 [some (vR 111), some (vI (q : Int)), some (vI (((setOf (fun p => (risers T S q).testBit p) i) ||| (0 * 2 ^ i) : Nat) : Int)), some (vI (i : Int))] dX11_risersOf_25 rfl rfl (by decide) rfl ?_
        refine wq_iinc (pc := 26) [some (vR 111), some (vI (q : Int)), some (vI (((setOf (fun p => (risers T S q).testBit p) i) ||| (0 * 2 ^ i) : Nat) : Int)), some (vI ((i : Int) + 1))] dX11_risersOf_26 rfl rfl (by decide) rfl ?_
        refine wp_goto (pc := 29) 4 dX11_risersOf_29 (by decide) ?_
        refine wp_eqls (ls' := [some (vR 111), some (vI (q : Int)), some (vI ((setOf (fun p => (risers T S q).testBit p) (i + 1) : Nat) : Int)), some (vI (((i + 1) : Nat) : Int))]) (by rw [setOf_n (f := (fun p => (risers T S q).testBit p)) (n := i) (by rw [← Bool.not_eq_true]; exact fun x => h_2 ((risers_bit hw S q i hi).mp x))]; first | rfl | (rw [Nat.zero_mul, Nat.or_zero]; rfl)) ih

theorem rs_risersOf {l : Launch} {G : mG} {d : Nat} {I : mI} {L : Nat → Nat → Int} {D : Nat → Nat} {Q : mQ} {T : mT} {S : mS} {B : Int} (q : Nat) {q_ : Int} (hq_ : q_ = (q : Int)) (hR : RT I T) (hA : I 140 = pS S) (hw : tw T) (hv : sw S B) (hC : TC T) (hq : q < nQ T) (hd : 4 ≤ d) (hQ : Q (some (vI ((risers T S q : Int)))) I (XX L D)) : WP l G m_X11_risersOf d 153 I (XX L D) 0 [some (vR 111), some (vI q_), none, none] [] Q := by
  subst hq_
  have b_p := tw_p hw
  have b_q := tw_q hw
  have b_c := tw_c hw
  have eP : nP T = (T 0 12).toNat := rfl
  have eQ : nQ T = (T 0 13).toNat := rfl
  have eC : nC T = (T 0 11).toNat := rfl
  refine wp_iconst (pc := 0) dX11_risersOf_0 ?_
  refine wq_istore_n (pc := 1) 2 [some (vR 111), some (vI (q : Int)), some (vI 0), none] dX11_risersOf_1 rfl rfl (by decide) rfl ?_
  refine wp_iconst (pc := 2) dX11_risersOf_2 ?_
  refine wq_istore_n (pc := 3) 3 [some (vR 111), some (vI (q : Int)), some (vI 0), some (vI 0)] dX11_risersOf_3 rfl rfl (by decide) rfl ?_
  exact rl_risersOf hR hA hw hv hC hq hd hQ 0 (Nat.zero_le _)

theorem rl_load {l : Launch} {G : mG} {d : Nat} {I : mI} {L : Nat → Nat → Int} {D : Nat → Nat} {Q : mQ}   (hd : 0 ≤ d) (hQ : Q none (upc I 140 (I 139)) (XX L D)) : ∀ i : Nat, i ≤ 30 → WP l G m_X11_load d 153 (upc I 140 (fun j => if j < i then I 139 j else I 140 j)) (XX L D) 2 [some (vR 111), some (vI (i : Int))] [] Q := by
  refine loop_dn (fun i => WP l G m_X11_load d 153 (upc I 140 (fun j => if j < i then I 139 j else I 140 j)) (XX L D) 2 [some (vR 111), some (vI (i : Int))] [] Q) 30 ?_ (fun i hi ih => ?_)
  · refine wp_iload_n (pc := 2) 1 dX11_load_2 rfl rfl ?_
    refine wp_bipush (pc := 3) dX11_load_3 (by decide) ?_
    refine wp_icmp_ge (pc := 5) 26 dX11_load_5 (by decide) (by decide) (by decide) (fun _ => ?_) (fun hh => absurd hh (by decide))
    refine wp_ext (I' := upc I 140 (I 139)) (fun b j hj => ?_) ?_
    · by_cases e : b = 140
      · subst e; rw [upc_s, upc_s]; exact (if_pos hj).symm
      · rw [upc_c e, upc_c e]
    refine wp_vret (pc := 26) dX11_load_26 rfl rfl ?_
    exact hQ
  · refine wp_iload_n (pc := 2) 1 dX11_load_2 rfl rfl ?_
    refine wp_bipush (pc := 3) dX11_load_3 (by decide) ?_
    refine wp_icmp_ge (pc := 5) 26 dX11_load_5 (by decide) (by omega) (by decide) (fun h_1 => ?_) (fun h_1 => ?_)
    · exfalso; omega
    · refine wp_aload_n (pc := 8) 0 dX11_load_8 rfl rfl ?_
      refine wp_getr (pc := 9) dX11_load_9 rfl f_X11_106 kd_111 la_111 rfl (r_111_61 D) ?_
      refine wp_iload_n (pc := 12) 1 dX11_load_12 rfl rfl ?_
      refine wp_aload_n (pc := 13) 0 dX11_load_13 rfl rfl ?_
      refine wp_getr (pc := 14) dX11_load_14 rfl f_X11_103 kd_111 la_111 rfl (r_111_60 D) ?_
      refine wp_iload_n (pc := 17) 1 dX11_load_17 rfl rfl ?_
      refine wq_iald (pc := 18) i dX11_load_18 kd_139 la_139 rfl (by omega) ?_
      refine wp_eqst (st' := [vI (I 139 i), vI (i : Int), vR 140]) (by rw [upc_c (by omega)]) ?_
      refine wq_iast (pc := 19) i dX11_load_19 kd_140 la_140 rfl (by omega) ?_
      refine wq_iinc (pc := 20) [some (vR 111), some (vI ((i : Int) + 1))] dX11_load_20 rfl rfl (by decide) rfl ?_
      refine wp_goto (pc := 23) 2 dX11_load_23 (by decide) ?_
      refine wp_eqI (I' := upc I 140 (fun j => if j < (i + 1) then I 139 j else I 140 j)) (by rw [up_upc]; exact congrArg (upc I 140) (funext fun j => by by_cases h1 : j = i <;> by_cases h2 : j < i <;> simp [h1, h2] <;> omega)) ?_
      exact wp_eqls (ls' := [some (vR 111), some (vI (((i + 1) : Nat) : Int))]) rfl ih

theorem rs_load {l : Launch} {G : mG} {d : Nat} {I : mI} {L : Nat → Nat → Int} {D : Nat → Nat} {Q : mQ}    (hd : 0 ≤ d) (hQ : Q none (upc I 140 (I 139)) (XX L D)) : WP l G m_X11_load d 153 I (XX L D) 0 [some (vR 111), none] [] Q := by
  refine wp_iconst (pc := 0) dX11_load_0 ?_
  refine wq_istore_n (pc := 1) 1 [some (vR 111), some (vI 0)] dX11_load_1 rfl rfl (by decide) rfl ?_
  refine wp_eqI (I' := upc I 140 (fun j => if j < 0 then I 139 j else I 140 j)) (by rw [show (fun j => if j < 0 then I 139 j else I 140 j) = I 140 from funext fun j => if_neg (Nat.not_lt_zero j), upc_id]) ?_
  exact rl_load hd hQ 0 (Nat.zero_le _)
