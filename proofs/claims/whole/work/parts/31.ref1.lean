theorem rs_isChurch {l : Launch} {G : mG} {d : Nat} {I : mI} {L : Nat → Nat → Int} {D : Nat → Nat} {Q : mQ} {T : mT} {c : Int}  (hR : RT I T) (hw : tw T) (hc : inR c) (hd : 1 ≤ d) (h1 : 0 ≤ c ∧ c < T 0 11 → Q (some (vI 1)) I (XX L D)) (h0 : ¬ (0 ≤ c ∧ c < T 0 11) → Q (some (vI 0)) I (XX L D)) : WP l G m_X11_isChurch d 153 I (XX L D) 0 [some (vR 111), some (vI c)] [] Q := by
  have b_p := tw_p hw
  have b_q := tw_q hw
  have b_c := tw_c hw
  have eP : nP T = (T 0 12).toNat := rfl
  have eQ : nQ T = (T 0 13).toNat := rfl
  have eC : nC T = (T 0 11).toNat := rfl
  refine wp_iload_n (pc := 0) 1 dX11_isChurch_0 rfl rfl ?_
  refine wp_iconst (pc := 1) dX11_isChurch_1 ?_
  refine wp_aload_n (pc := 2) 0 dX11_isChurch_2 rfl rfl ?_
  refine wp_geti (pc := 3) dX11_isChurch_3 rfl f_X11_409 kd_111 la_111 (Or.inl rfl) ?_
  refine wp_eqst (st' := [vI (T 0 11), vI 0, vI c]) (by rw [rt_c hR]) ?_
  refine wp_iconst (pc := 6) dX11_isChurch_6 ?_
  refine wp_isub (pc := 7) dX11_isChurch_7 ?_
  refine wp_callS (pc := 8) (st := []) (nf' := 153) [vI c, vI 0, vI ((T 0 11) - 1)] [some (vI c), some (vI 0), some (vI ((T 0 11) - 1))] dX11_isChurch_8 rfl c_X11_433 rfl rfl (Nat.le_of_ble_eq_true rfl) rfl (Nat.le_of_ble_eq_true rfl) (by omega) (Nat.le_refl _) (Nat.le_refl _) ?_
  refine wp_iload_n (pc := 0) 0 dX11_isIn_0 rfl rfl ?_
  refine wp_iload_n (pc := 1) 1 dX11_isIn_1 rfl rfl ?_
  refine wp_icmp_lt (pc := 2) 14 dX11_isIn_2 (by decide) (by omega) (by decide) (fun h_1 => ?_) (fun h_1 => ?_)
  · refine wp_iconst (pc := 14) dX11_isIn_14 ?_
    refine wp_zret (pc := 15) dX11_isIn_15 rfl rfl (by decide) ?_
    refine wp_eqst (st' := [vI 0]) rfl ?_
    refine wp_zret (pc := 11) dX11_isChurch_11 rfl rfl (by decide) ?_
    exact h0 (by omega)
  · refine wp_iload_n (pc := 5) 0 dX11_isIn_5 rfl rfl ?_
    refine wp_iload_n (pc := 6) 2 dX11_isIn_6 rfl rfl ?_
    refine wp_icmp_gt (pc := 7) 14 dX11_isIn_7 (by decide) (by omega) (by omega) (fun h_2 => ?_) (fun h_2 => ?_)
    · refine wp_iconst (pc := 14) dX11_isIn_14 ?_
      refine wp_zret (pc := 15) dX11_isIn_15 rfl rfl (by decide) ?_
      refine wp_eqst (st' := [vI 0]) rfl ?_
      refine wp_zret (pc := 11) dX11_isChurch_11 rfl rfl (by decide) ?_
      exact h0 (by omega)
    · refine wp_iconst (pc := 10) dX11_isIn_10 ?_
      refine wp_goto (pc := 11) 15 dX11_isIn_11 (by decide) ?_
      refine wp_zret (pc := 15) dX11_isIn_15 rfl rfl (by decide) ?_
      refine wp_eqst (st' := [vI 1]) rfl ?_
      refine wp_zret (pc := 11) dX11_isChurch_11 rfl rfl (by decide) ?_
      exact h1 (by omega)

theorem rs_isPerson {l : Launch} {G : mG} {d : Nat} {I : mI} {L : Nat → Nat → Int} {D : Nat → Nat} {Q : mQ} {T : mT} {c : Int}  (hR : RT I T) (hw : tw T) (hc : inR c) (hd : 1 ≤ d) (h1 : 0 ≤ c ∧ c < T 0 12 → Q (some (vI 1)) I (XX L D)) (h0 : ¬ (0 ≤ c ∧ c < T 0 12) → Q (some (vI 0)) I (XX L D)) : WP l G m_X11_isPerson d 153 I (XX L D) 0 [some (vR 111), some (vI c)] [] Q := by
  have b_p := tw_p hw
  have b_q := tw_q hw
  have b_c := tw_c hw
  have eP : nP T = (T 0 12).toNat := rfl
  have eQ : nQ T = (T 0 13).toNat := rfl
  have eC : nC T = (T 0 11).toNat := rfl
  refine wp_iload_n (pc := 0) 1 dX11_isPerson_0 rfl rfl ?_
  refine wp_iconst (pc := 1) dX11_isPerson_1 ?_
  refine wp_aload_n (pc := 2) 0 dX11_isPerson_2 rfl rfl ?_
  refine wp_geti (pc := 3) dX11_isPerson_3 rfl f_X11_412 kd_111 la_111 (Or.inl rfl) ?_
  refine wp_eqst (st' := [vI (T 0 12), vI 0, vI c]) (by rw [rt_p hR]) ?_
  refine wp_iconst (pc := 6) dX11_isPerson_6 ?_
  refine wp_isub (pc := 7) dX11_isPerson_7 ?_
  refine wp_callS (pc := 8) (st := []) (nf' := 153) [vI c, vI 0, vI ((T 0 12) - 1)] [some (vI c), some (vI 0), some (vI ((T 0 12) - 1))] dX11_isPerson_8 rfl c_X11_433 rfl rfl (Nat.le_of_ble_eq_true rfl) rfl (Nat.le_of_ble_eq_true rfl) (by omega) (Nat.le_refl _) (Nat.le_refl _) ?_
  refine wp_iload_n (pc := 0) 0 dX11_isIn_0 rfl rfl ?_
  refine wp_iload_n (pc := 1) 1 dX11_isIn_1 rfl rfl ?_
  refine wp_icmp_lt (pc := 2) 14 dX11_isIn_2 (by decide) (by omega) (by decide) (fun h_1 => ?_) (fun h_1 => ?_)
  · refine wp_iconst (pc := 14) dX11_isIn_14 ?_
    refine wp_zret (pc := 15) dX11_isIn_15 rfl rfl (by decide) ?_
    refine wp_eqst (st' := [vI 0]) rfl ?_
    refine wp_zret (pc := 11) dX11_isPerson_11 rfl rfl (by decide) ?_
    exact h0 (by omega)
  · refine wp_iload_n (pc := 5) 0 dX11_isIn_5 rfl rfl ?_
    refine wp_iload_n (pc := 6) 2 dX11_isIn_6 rfl rfl ?_
    refine wp_icmp_gt (pc := 7) 14 dX11_isIn_7 (by decide) (by omega) (by omega) (fun h_2 => ?_) (fun h_2 => ?_)
    · refine wp_iconst (pc := 14) dX11_isIn_14 ?_
      refine wp_zret (pc := 15) dX11_isIn_15 rfl rfl (by decide) ?_
      refine wp_eqst (st' := [vI 0]) rfl ?_
      refine wp_zret (pc := 11) dX11_isPerson_11 rfl rfl (by decide) ?_
      exact h0 (by omega)
    · refine wp_iconst (pc := 10) dX11_isIn_10 ?_
      refine wp_goto (pc := 11) 15 dX11_isIn_11 (by decide) ?_
      refine wp_zret (pc := 15) dX11_isIn_15 rfl rfl (by decide) ?_
      refine wp_eqst (st' := [vI 1]) rfl ?_
      refine wp_zret (pc := 11) dX11_isPerson_11 rfl rfl (by decide) ?_
      exact h1 (by omega)

theorem rs_isPair {l : Launch} {G : mG} {d : Nat} {I : mI} {L : Nat → Nat → Int} {D : Nat → Nat} {Q : mQ} {T : mT} {c : Int}  (hR : RT I T) (hw : tw T) (hc : inR c) (hd : 1 ≤ d) (h1 : 0 ≤ c ∧ c < T 0 13 → Q (some (vI 1)) I (XX L D)) (h0 : ¬ (0 ≤ c ∧ c < T 0 13) → Q (some (vI 0)) I (XX L D)) : WP l G m_X11_isPair d 153 I (XX L D) 0 [some (vR 111), some (vI c)] [] Q := by
  have b_p := tw_p hw
  have b_q := tw_q hw
  have b_c := tw_c hw
  have eP : nP T = (T 0 12).toNat := rfl
  have eQ : nQ T = (T 0 13).toNat := rfl
  have eC : nC T = (T 0 11).toNat := rfl
  refine wp_iload_n (pc := 0) 1 dX11_isPair_0 rfl rfl ?_
  refine wp_iconst (pc := 1) dX11_isPair_1 ?_
  refine wp_aload_n (pc := 2) 0 dX11_isPair_2 rfl rfl ?_
  refine wp_geti (pc := 3) dX11_isPair_3 rfl f_X11_415 kd_111 la_111 (Or.inl rfl) ?_
  refine wp_eqst (st' := [vI (T 0 13), vI 0, vI c]) (by rw [rt_q hR]) ?_
  refine wp_iconst (pc := 6) dX11_isPair_6 ?_
  refine wp_isub (pc := 7) dX11_isPair_7 ?_
  refine wp_callS (pc := 8) (st := []) (nf' := 153) [vI c, vI 0, vI ((T 0 13) - 1)] [some (vI c), some (vI 0), some (vI ((T 0 13) - 1))] dX11_isPair_8 rfl c_X11_433 rfl rfl (Nat.le_of_ble_eq_true rfl) rfl (Nat.le_of_ble_eq_true rfl) (by omega) (Nat.le_refl _) (Nat.le_refl _) ?_
  refine wp_iload_n (pc := 0) 0 dX11_isIn_0 rfl rfl ?_
  refine wp_iload_n (pc := 1) 1 dX11_isIn_1 rfl rfl ?_
  refine wp_icmp_lt (pc := 2) 14 dX11_isIn_2 (by decide) (by omega) (by decide) (fun h_1 => ?_) (fun h_1 => ?_)
  · refine wp_iconst (pc := 14) dX11_isIn_14 ?_
    refine wp_zret (pc := 15) dX11_isIn_15 rfl rfl (by decide) ?_
    refine wp_eqst (st' := [vI 0]) rfl ?_
    refine wp_zret (pc := 11) dX11_isPair_11 rfl rfl (by decide) ?_
    exact h0 (by omega)
  · refine wp_iload_n (pc := 5) 0 dX11_isIn_5 rfl rfl ?_
    refine wp_iload_n (pc := 6) 2 dX11_isIn_6 rfl rfl ?_
    refine wp_icmp_gt (pc := 7) 14 dX11_isIn_7 (by decide) (by omega) (by omega) (fun h_2 => ?_) (fun h_2 => ?_)
    · refine wp_iconst (pc := 14) dX11_isIn_14 ?_
      refine wp_zret (pc := 15) dX11_isIn_15 rfl rfl (by decide) ?_
      refine wp_eqst (st' := [vI 0]) rfl ?_
      refine wp_zret (pc := 11) dX11_isPair_11 rfl rfl (by decide) ?_
      exact h0 (by omega)
    · refine wp_iconst (pc := 10) dX11_isIn_10 ?_
      refine wp_goto (pc := 11) 15 dX11_isIn_11 (by decide) ?_
      refine wp_zret (pc := 15) dX11_isIn_15 rfl rfl (by decide) ?_
      refine wp_eqst (st' := [vI 1]) rfl ?_
      refine wp_zret (pc := 11) dX11_isPair_11 rfl rfl (by decide) ?_
      exact h1 (by omega)

theorem rl_degreeOf {l : Launch} {G : mG} {d : Nat} {I : mI} {L : Nat → Nat → Int} {D : Nat → Nat} {Q : mQ} {T : mT} {a b : Nat} (hR : RT I T) (hw : tw T) (hst : stB (T 15)) (ha : a < nP T) (hb : b < nP T) (hd : 0 ≤ d) (hQ : Q (some (vI (fewN (T 15) a b (nP T)))) I (XX L D)) : ∀ i : Nat, i ≤ nP T → WP l G m_X11_degreeOf d 153 I (XX L D) 5 [some (vR 111), some (vI (a : Int)), some (vI (b : Int)), some (vI (fewN (T 15) a b i)), some (vI (i : Int)), none, none] [] Q := by
  have b_p := tw_p hw
  have b_q := tw_q hw
  have b_c := tw_c hw
  have eP : nP T = (T 0 12).toNat := rfl
  have eQ : nQ T = (T 0 13).toNat := rfl
  have eC : nC T = (T 0 11).toNat := rfl
  refine loop_dn (fun i => WP l G m_X11_degreeOf d 153 I (XX L D) 5 [some (vR 111), some (vI (a : Int)), some (vI (b : Int)), some (vI (fewN (T 15) a b i)), some (vI (i : Int)), none, none] [] Q) (nP T) ?_ (fun i hi ih => ?_)
  · refine wp_iload (pc := 5) dX11_degreeOf_5 rfl ?_
    refine wp_aload_n (pc := 7) 0 dX11_degreeOf_7 rfl rfl ?_
    refine wp_geti (pc := 8) dX11_degreeOf_8 rfl f_X11_412 kd_111 la_111 (Or.inl rfl) ?_
    refine wp_eqst (st' := [vI (T 0 12), vI (((nP T) : Nat) : Int)]) (by rw [rt_p hR]) ?_
    refine wp_icmp_ge (pc := 11) 77 dX11_degreeOf_11 (by decide) (by omega) (by omega) (fun h_1 => ?_) (fun h_1 => ?_)
    · refine wp_iload_n (pc := 77) 3 dX11_degreeOf_77 rfl rfl ?_
      refine wp_iret (pc := 78) dX11_degreeOf_78 rfl rfl ?_
      exact hQ
    · exfalso; omega
  · have b1 := (hst (a * 8 + i)).1
    have b2 := (hst (b * 8 + i)).1
    have b3 := fewN_in hst a b i
    refine wp_iload (pc := 5) dX11_degreeOf_5 rfl ?_
    refine wp_aload_n (pc := 7) 0 dX11_degreeOf_7 rfl rfl ?_
    refine wp_geti (pc := 8) dX11_degreeOf_8 rfl f_X11_412 kd_111 la_111 (Or.inl rfl) ?_
    refine wp_eqst (st' := [vI (T 0 12), vI (i : Int)]) (by rw [rt_p hR]) ?_
    refine wp_icmp_ge (pc := 11) 77 dX11_degreeOf_11 (by decide) (by omega) (by omega) (fun h_1 => ?_) (fun h_1 => ?_)
    · exfalso; omega
    · refine wp_aload_n (pc := 14) 0 dX11_degreeOf_14 rfl rfl ?_
      refine wp_getr (pc := 15) dX11_degreeOf_15 rfl f_X11_100 kd_111 la_111 rfl (r_111_59 D) ?_
      refine wp_bipush (pc := 18) dX11_degreeOf_18 (by decide) ?_
      refine wp_iload_n (pc := 20) 1 dX11_degreeOf_20 rfl rfl ?_
      refine wp_imul (pc := 21) dX11_degreeOf_21 ?_
      refine wp_iload (pc := 22) dX11_degreeOf_22 rfl ?_
      refine wp_iadd (pc := 24) dX11_degreeOf_24 ?_
      refine wq_iald (pc := 25) ((8 * a) + i) dX11_degreeOf_25 kd_138 la_138 (by omega) (by omega) ?_
      refine wp_eqst (st' := [vI (T 15 (a * 8 + i))]) (by rw [rt_up hR (by omega) (by omega)]) ?_
      refine wq_istore (pc := 26) [some (vR 111), some (vI (a : Int)), some (vI (b : Int)), some (vI (fewN (T 15) a b i)), some (vI (i : Int)), some (vI (T 15 (a * 8 + i))), none] dX11_degreeOf_26 rfl (by decide) rfl ?_
      refine wp_aload_n (pc := 28) 0 dX11_degreeOf_28 rfl rfl ?_
      refine wp_getr (pc := 29) dX11_degreeOf_29 rfl f_X11_100 kd_111 la_111 rfl (r_111_59 D) ?_
      refine wp_bipush (pc := 32) dX11_degreeOf_32 (by decide) ?_
      refine wp_iload_n (pc := 34) 2 dX11_degreeOf_34 rfl rfl ?_
      refine wp_imul (pc := 35) dX11_degreeOf_35 ?_
      refine wp_iload (pc := 36) dX11_degreeOf_36 rfl ?_
      refine wp_iadd (pc := 38) dX11_degreeOf_38 ?_
      refine wq_iald (pc := 39) ((8 * b) + i) dX11_degreeOf_39 kd_138 la_138 (by omega) (by omega) ?_
      refine wp_eqst (st' := [vI (T 15 (b * 8 + i))]) (by rw [rt_up hR (by omega) (by omega)]) ?_
      refine wq_istore (pc := 40) [some (vR 111), some (vI (a : Int)), some (vI (b : Int)), some (vI (fewN (T 15) a b i)), some (vI (i : Int)), some (vI (T 15 (a * 8 + i))), some (vI (T 15 (b * 8 + i)))] dX11_degreeOf_40 rfl (by decide) rfl ?_
      refine wp_iload (pc := 42) dX11_degreeOf_42 rfl ?_
      refine wp_if_lt (pc := 44) 71 dX11_degreeOf_44 (by decide) (by omega) (fun h_2 => ?_) (fun h_2 => ?_)
      · refine wq_iinc (pc := 71) [some (vR 111), some (vI (a : Int)), some (vI (b : Int)), some (vI (fewN (T 15) a b i)), some (vI ((i : Int) + 1)), some (vI (T 15 (a * 8 + i))), some (vI (T 15 (b * 8 + i)))] dX11_degreeOf_71 rfl rfl (by decide) rfl ?_
        refine wp_goto (pc := 74) 5 dX11_degreeOf_74 (by decide) ?_
        refine wp_none 5 [some (vR 111), some (vI (a : Int)), some (vI (b : Int)), some (vI (fewN (T 15) a b i)), some (vI ((i : Int) + 1)), none, some (vI (T 15 (b * 8 + i)))] rfl ?_
        refine wp_none 6 [some (vR 111), some (vI (a : Int)), some (vI (b : Int)), some (vI (fewN (T 15) a b i)), some (vI ((i : Int) + 1)), none, none] rfl ?_
        refine wp_eqls (ls' := [some (vR 111), some (vI (a : Int)), some (vI (b : Int)), some (vI (fewN (T 15) a b (i + 1))), some (vI (((i + 1) : Nat) : Int)), none, none]) (by rw [show fewN (T 15) a b (i + 1) = fewN (T 15) a b i from if_neg (by omega)]; rfl) ih
      · refine wp_iload (pc := 47) dX11_degreeOf_47 rfl ?_
        refine wp_if_lt (pc := 49) 71 dX11_degreeOf_49 (by decide) (by omega) (fun h_3 => ?_) (fun h_3 => ?_)
        · refine wq_iinc (pc := 71) [some (vR 111), some (vI (a : Int)), some (vI (b : Int)), some (vI (fewN (T 15) a b i)), some (vI ((i : Int) + 1)), some (vI (T 15 (a * 8 + i))), some (vI (T 15 (b * 8 + i)))] dX11_degreeOf_71 rfl rfl (by decide) rfl ?_
          refine wp_goto (pc := 74) 5 dX11_degreeOf_74 (by decide) ?_
          refine wp_none 5 [some (vR 111), some (vI (a : Int)), some (vI (b : Int)), some (vI (fewN (T 15) a b i)), some (vI ((i : Int) + 1)), none, some (vI (T 15 (b * 8 + i)))] rfl ?_
          refine wp_none 6 [some (vR 111), some (vI (a : Int)), some (vI (b : Int)), some (vI (fewN (T 15) a b i)), some (vI ((i : Int) + 1)), none, none] rfl ?_
          refine wp_eqls (ls' := [some (vR 111), some (vI (a : Int)), some (vI (b : Int)), some (vI (fewN (T 15) a b (i + 1))), some (vI (((i + 1) : Nat) : Int)), none, none]) (by rw [show fewN (T 15) a b (i + 1) = fewN (T 15) a b i from if_neg (by omega)]; rfl) ih
        · refine wp_iload_n (pc := 52) 3 dX11_degreeOf_52 rfl rfl ?_
          refine wp_if_lt (pc := 53) 65 dX11_degreeOf_53 (by decide) (by omega) (fun h_4 => ?_) (fun h_4 => ?_)
          · refine wp_iload (pc := 65) dX11_degreeOf_65 rfl ?_
            refine wp_iload (pc := 67) dX11_degreeOf_67 rfl ?_
            refine wp_iadd (pc := 69) dX11_degreeOf_69 ?_
            refine wq_istore_n (pc := 70) 3 [some (vR 111), some (vI (a : Int)), some (vI (b : Int)), some (vI ((T 15 (a * 8 + i)) + (T 15 (b * 8 + i)))), some (vI (i : Int)), some (vI (T 15 (a * 8 + i))), some (vI (T 15 (b * 8 + i)))] dX11_degreeOf_70 rfl rfl (by decide) rfl ?_
            refine wq_iinc (pc := 71) [some (vR 111), some (vI (a : Int)), some (vI (b : Int)), some (vI ((T 15 (a * 8 + i)) + (T 15 (b * 8 + i)))), some (vI ((i : Int) + 1)), some (vI (T 15 (a * 8 + i))), some (vI (T 15 (b * 8 + i)))] dX11_degreeOf_71 rfl rfl (by decide) rfl ?_
            refine wp_goto (pc := 74) 5 dX11_degreeOf_74 (by decide) ?_
            refine wp_none 5 [some (vR 111), some (vI (a : Int)), some (vI (b : Int)), some (vI ((T 15 (a * 8 + i)) + (T 15 (b * 8 + i)))), some (vI ((i : Int) + 1)), none, some (vI (T 15 (b * 8 + i)))] rfl ?_
            refine wp_none 6 [some (vR 111), some (vI (a : Int)), some (vI (b : Int)), some (vI ((T 15 (a * 8 + i)) + (T 15 (b * 8 + i)))), some (vI ((i : Int) + 1)), none, none] rfl ?_
            refine wp_eqls (ls' := [some (vR 111), some (vI (a : Int)), some (vI (b : Int)), some (vI (fewN (T 15) a b (i + 1))), some (vI (((i + 1) : Nat) : Int)), none, none]) (by rw [show fewN (T 15) a b (i + 1) = (T 15 (a * 8 + i)) + (T 15 (b * 8 + i)) from if_pos (by omega)]; rfl) ih
          · refine wp_iload (pc := 56) dX11_degreeOf_56 rfl ?_
            refine wp_iload (pc := 58) dX11_degreeOf_58 rfl ?_
            refine wp_iadd (pc := 60) dX11_degreeOf_60 ?_
            refine wp_iload_n (pc := 61) 3 dX11_degreeOf_61 rfl rfl ?_
            refine wp_icmp_ge (pc := 62) 71 dX11_degreeOf_62 (by decide) (by omega) (by omega) (fun h_5 => ?_) (fun h_5 => ?_)
            · refine wq_iinc (pc := 71) [some (vR 111), some (vI (a : Int)), some (vI (b : Int)), some (vI (fewN (T 15) a b i)), some (vI ((i : Int) + 1)), some (vI (T 15 (a * 8 + i))), some (vI (T 15 (b * 8 + i)))] dX11_degreeOf_71 rfl rfl (by decide) rfl ?_
              refine wp_goto (pc := 74) 5 dX11_degreeOf_74 (by decide) ?_
              refine wp_none 5 [some (vR 111), some (vI (a : Int)), some (vI (b : Int)), some (vI (fewN (T 15) a b i)), some (vI ((i : Int) + 1)), none, some (vI (T 15 (b * 8 + i)))] rfl ?_
              refine wp_none 6 [some (vR 111), some (vI (a : Int)), some (vI (b : Int)), some (vI (fewN (T 15) a b i)), some (vI ((i : Int) + 1)), none, none] rfl ?_
              refine wp_eqls (ls' := [some (vR 111), some (vI (a : Int)), some (vI (b : Int)), some (vI (fewN (T 15) a b (i + 1))), some (vI (((i + 1) : Nat) : Int)), none, none]) (by rw [show fewN (T 15) a b (i + 1) = fewN (T 15) a b i from if_neg (by omega)]; rfl) ih
            · refine wp_iload (pc := 65) dX11_degreeOf_65 rfl ?_
              refine wp_iload (pc := 67) dX11_degreeOf_67 rfl ?_
              refine wp_iadd (pc := 69) dX11_degreeOf_69 ?_
              refine wq_istore_n (pc := 70) 3 [some (vR 111), some (vI (a : Int)), some (vI (b : Int)), some (vI ((T 15 (a * 8 + i)) + (T 15 (b * 8 + i)))), some (vI (i : Int)), some (vI (T 15 (a * 8 + i))), some (vI (T 15 (b * 8 + i)))] dX11_degreeOf_70 rfl rfl (by decide) rfl ?_
              refine wq_iinc (pc := 71) [some (vR 111), some (vI (a : Int)), some (vI (b : Int)), some (vI ((T 15 (a * 8 + i)) + (T 15 (b * 8 + i)))), some (vI ((i : Int) + 1)), some (vI (T 15 (a * 8 + i))), some (vI (T 15 (b * 8 + i)))] dX11_degreeOf_71 rfl rfl (by decide) rfl ?_
              refine wp_goto (pc := 74) 5 dX11_degreeOf_74 (by decide) ?_
              refine wp_none 5 [some (vR 111), some (vI (a : Int)), some (vI (b : Int)), some (vI ((T 15 (a * 8 + i)) + (T 15 (b * 8 + i)))), some (vI ((i : Int) + 1)), none, some (vI (T 15 (b * 8 + i)))] rfl ?_
              refine wp_none 6 [some (vR 111), some (vI (a : Int)), some (vI (b : Int)), some (vI ((T 15 (a * 8 + i)) + (T 15 (b * 8 + i)))), some (vI ((i : Int) + 1)), none, none] rfl ?_
              refine wp_eqls (ls' := [some (vR 111), some (vI (a : Int)), some (vI (b : Int)), some (vI (fewN (T 15) a b (i + 1))), some (vI (((i + 1) : Nat) : Int)), none, none]) (by rw [show fewN (T 15) a b (i + 1) = (T 15 (a * 8 + i)) + (T 15 (b * 8 + i)) from if_pos (by omega)]; rfl) ih

theorem rs_degreeOf {l : Launch} {G : mG} {d : Nat} {I : mI} {L : Nat → Nat → Int} {D : Nat → Nat} {Q : mQ} {T : mT} (a : Nat) {a_ : Int} (ha_ : a_ = (a : Int)) (b : Nat) {b_ : Int} (hb_ : b_ = (b : Int)) (hR : RT I T) (hw : tw T) (hC : TC T) (ha : a < nP T) (hb : b < nP T) (hd : 0 ≤ d) (hQ : Q (some (vI (T 16 (a * 8 + b)))) I (XX L D)) : WP l G m_X11_degreeOf d 153 I (XX L D) 0 [some (vR 111), some (vI a_), some (vI b_), none, none, none, none] [] Q := by
  subst ha_
  subst hb_
  have b_p := tw_p hw
  have b_q := tw_q hw
  have b_c := tw_c hw
  have eP : nP T = (T 0 12).toNat := rfl
  have eQ : nQ T = (T 0 13).toNat := rfl
  have eC : nC T = (T 0 11).toNat := rfl
  refine wp_iconst (pc := 0) dX11_degreeOf_0 ?_
  refine wq_istore_n (pc := 1) 3 [some (vR 111), some (vI (a : Int)), some (vI (b : Int)), some (vI (-1)), none, none, none] dX11_degreeOf_1 rfl rfl (by decide) rfl ?_
  refine wp_iconst (pc := 2) dX11_degreeOf_2 ?_
  refine wq_istore (pc := 3) [some (vR 111), some (vI (a : Int)), some (vI (b : Int)), some (vI (-1)), some (vI 0), none, none] dX11_degreeOf_3 rfl (by decide) rfl ?_
  rw [hC.1 a b ha hb] at hQ
  exact rl_degreeOf hR hw hC.2.2.1 ha hb hd hQ 0 (Nat.zero_le _)

theorem rs_areKin {l : Launch} {G : mG} {d : Nat} {I : mI} {L : Nat → Nat → Int} {D : Nat → Nat} {Q : mQ} {T : mT} {c : Int} (a : Nat) {a_ : Int} (ha_ : a_ = (a : Int)) (b : Nat) {b_ : Int} (hb_ : b_ = (b : Int)) (hR : RT I T) (hw : tw T) (hC : TC T) (ha : a < nP T) (hb : b < nP T) (hc : inR c) (hd : 1 ≤ d) (h1 : kinW T a b c → Q (some (vI 1)) I (XX L D)) (h0 : ¬ (kinW T a b c) → Q (some (vI 0)) I (XX L D)) : WP l G m_X11_areKin d 153 I (XX L D) 0 [some (vR 111), some (vI a_), some (vI b_), some (vI c)] [] Q := by
  subst ha_
  subst hb_
  have b_p := tw_p hw
  have b_q := tw_q hw
  have b_c := tw_c hw
  have eP : nP T = (T 0 12).toNat := rfl
  have eQ : nQ T = (T 0 13).toNat := rfl
  have eC : nC T = (T 0 11).toNat := rfl
  have b1 := tw_degs hw (a * 8 + b)
  refine wp_aload_n (pc := 0) 0 dX11_areKin_0 rfl rfl ?_
  refine wp_iload_n (pc := 1) 1 dX11_areKin_1 rfl rfl ?_
  refine wp_iload_n (pc := 2) 2 dX11_areKin_2 rfl rfl ?_
  refine wp_callV (pc := 3) (st := []) (nf' := 153) [vI (a : Int), vI (b : Int)] [some (vR 111), some (vI (a : Int)), some (vI (b : Int)), none, none, none, none] dX11_areKin_3 rfl c_X11_440 rfl kd_111 (by decide) rfl la_111 rfl (Nat.le_of_ble_eq_true rfl) rfl (Nat.le_of_ble_eq_true rfl) (by omega) (Nat.le_refl _) (Nat.le_refl _) ?_
  refine rs_degreeOf a rfl b rfl hR hw hC (by omega) (by omega) (by omega) ?_
  refine wp_eqst (st' := [vI (T 16 (a * 8 + b))]) rfl ?_
  refine wp_iconst (pc := 6) dX11_areKin_6 ?_
  refine wp_iload_n (pc := 7) 3 dX11_areKin_7 rfl rfl ?_
  refine wp_callS (pc := 8) (st := []) (nf' := 153) [vI (T 16 (a * 8 + b)), vI 0, vI c] [some (vI (T 16 (a * 8 + b))), some (vI 0), some (vI c)] dX11_areKin_8 rfl c_X11_433 rfl rfl (Nat.le_of_ble_eq_true rfl) rfl (Nat.le_of_ble_eq_true rfl) (by omega) (Nat.le_refl _) (Nat.le_refl _) ?_
  refine wp_iload_n (pc := 0) 0 dX11_isIn_0 rfl rfl ?_
  refine wp_iload_n (pc := 1) 1 dX11_isIn_1 rfl rfl ?_
  refine wp_icmp_lt (pc := 2) 14 dX11_isIn_2 (by decide) (by omega) (by decide) (fun h_1 => ?_) (fun h_1 => ?_)
  · refine wp_iconst (pc := 14) dX11_isIn_14 ?_
    refine wp_zret (pc := 15) dX11_isIn_15 rfl rfl (by decide) ?_
    refine wp_eqst (st' := [vI 0]) rfl ?_
    refine wp_zret (pc := 11) dX11_areKin_11 rfl rfl (by decide) ?_
    exact h0 (by omega)
  · refine wp_iload_n (pc := 5) 0 dX11_isIn_5 rfl rfl ?_
    refine wp_iload_n (pc := 6) 2 dX11_isIn_6 rfl rfl ?_
    refine wp_icmp_gt (pc := 7) 14 dX11_isIn_7 (by decide) (by omega) (by omega) (fun h_2 => ?_) (fun h_2 => ?_)
    · refine wp_iconst (pc := 14) dX11_isIn_14 ?_
      refine wp_zret (pc := 15) dX11_isIn_15 rfl rfl (by decide) ?_
      refine wp_eqst (st' := [vI 0]) rfl ?_
      refine wp_zret (pc := 11) dX11_areKin_11 rfl rfl (by decide) ?_
      exact h0 (by omega)
    · refine wp_iconst (pc := 10) dX11_isIn_10 ?_
      refine wp_goto (pc := 11) 15 dX11_isIn_11 (by decide) ?_
      refine wp_zret (pc := 15) dX11_isIn_15 rfl rfl (by decide) ?_
      refine wp_eqst (st' := [vI 1]) rfl ?_
      refine wp_zret (pc := 11) dX11_areKin_11 rfl rfl (by decide) ?_
      exact h1 (by omega)

theorem rs_isParent {l : Launch} {G : mG} {d : Nat} {I : mI} {L : Nat → Nat → Int} {D : Nat → Nat} {Q : mQ} {T : mT} (p : Nat) {p_ : Int} (hp_ : p_ = (p : Int)) (q : Nat) {q_ : Int} (hq_ : q_ = (q : Int)) (hR : RT I T) (hw : tw T) (hp : p < 8) (hq : q < nP T) (hd : 0 ≤ d) (h1 : T 11 q = p ∨ T 12 q = p → Q (some (vI 1)) I (XX L D)) (h0 : ¬ (T 11 q = p ∨ T 12 q = p) → Q (some (vI 0)) I (XX L D)) : WP l G m_X11_isParent d 153 I (XX L D) 0 [some (vR 111), some (vI p_), some (vI q_)] [] Q := by
  subst hp_
  subst hq_
  have b_p := tw_p hw
  have b_q := tw_q hw
  have b_c := tw_c hw
  have eP : nP T = (T 0 12).toNat := rfl
  have eQ : nQ T = (T 0 13).toNat := rfl
  have eC : nC T = (T 0 11).toNat := rfl
  have b1 := tw_par1 hw q
  have b2 := tw_par2 hw q
  refine wp_aload_n (pc := 0) 0 dX11_isParent_0 rfl rfl ?_
  refine wp_getr (pc := 1) dX11_isParent_1 rfl f_X11_69 kd_111 la_111 rfl (r_111_34 D) ?_
  refine wp_iconst (pc := 4) dX11_isParent_4 ?_
  refine wp_iload_n (pc := 5) 2 dX11_isParent_5 rfl rfl ?_
  refine wp_imul (pc := 6) dX11_isParent_6 ?_
  refine wq_iald (pc := 7) (2 * q) dX11_isParent_7 kd_130 la_130 (by omega) (by omega) ?_
  refine wp_eqst (st' := [vI (T 11 q)]) (by rw [rt_par1 hR (by omega)]) ?_
  refine wp_iload_n (pc := 8) 1 dX11_isParent_8 rfl rfl ?_
  refine wp_icmp_eq (pc := 9) 26 dX11_isParent_9 (by decide) (by omega) (by omega) (fun h_1 => ?_) (fun h_1 => ?_)
  · refine wp_iconst (pc := 26) dX11_isParent_26 ?_
    refine wp_goto (pc := 27) 31 dX11_isParent_27 (by decide) ?_
    refine wp_zret (pc := 31) dX11_isParent_31 rfl rfl (by decide) ?_
    exact h1 (by omega)
  · refine wp_aload_n (pc := 12) 0 dX11_isParent_12 rfl rfl ?_
    refine wp_getr (pc := 13) dX11_isParent_13 rfl f_X11_69 kd_111 la_111 rfl (r_111_34 D) ?_
    refine wp_iconst (pc := 16) dX11_isParent_16 ?_
    refine wp_iload_n (pc := 17) 2 dX11_isParent_17 rfl rfl ?_
    refine wp_imul (pc := 18) dX11_isParent_18 ?_
    refine wp_iconst (pc := 19) dX11_isParent_19 ?_
    refine wp_iadd (pc := 20) dX11_isParent_20 ?_
    refine wq_iald (pc := 21) ((2 * q) + 1) dX11_isParent_21 kd_130 la_130 (by omega) (by omega) ?_
    refine wp_eqst (st' := [vI (T 12 q)]) (by rw [rt_par2 hR (by omega)]) ?_
    refine wp_iload_n (pc := 22) 1 dX11_isParent_22 rfl rfl ?_
    refine wp_icmp_ne (pc := 23) 30 dX11_isParent_23 (by decide) (by omega) (by omega) (fun h_2 => ?_) (fun h_2 => ?_)
    · refine wp_iconst (pc := 30) dX11_isParent_30 ?_
      refine wp_zret (pc := 31) dX11_isParent_31 rfl rfl (by decide) ?_
      exact h0 (by omega)
    · refine wp_iconst (pc := 26) dX11_isParent_26 ?_
      refine wp_goto (pc := 27) 31 dX11_isParent_27 (by decide) ?_
      refine wp_zret (pc := 31) dX11_isParent_31 rfl rfl (by decide) ?_
      exact h1 (by omega)

theorem rl_knownTo {l : Launch} {G : mG} {d : Nat} {I : mI} {L : Nat → Nat → Int} {D : Nat → Nat} {Q : mQ} {T : mT} {p : Nat} (hR : RT I T) (hw : tw T) (hp : p < nP T) (hd : 1 ≤ d) (hQ : Q (some (vI ((knT T p (nP T) : Int)))) I (XX L D)) : ∀ i : Nat, i ≤ nP T → WP l G m_X11_knownTo d 153 I (XX L D) 9 [some (vR 111), some (vI (p : Int)), some (vI ((knT T p i : Nat) : Int)), some (vI (i : Int))] [] Q := by
  have b_p := tw_p hw
  have b_q := tw_q hw
  have b_c := tw_c hw
  have eP : nP T = (T 0 12).toNat := rfl
  have eQ : nQ T = (T 0 13).toNat := rfl
  have eC : nC T = (T 0 11).toNat := rfl
  refine loop_dn (fun i => WP l G m_X11_knownTo d 153 I (XX L D) 9 [some (vR 111), some (vI (p : Int)), some (vI ((knT T p i : Nat) : Int)), some (vI (i : Int))] [] Q) (nP T) ?_ (fun i hi ih => ?_)
  · refine wp_iload_n (pc := 9) 3 dX11_knownTo_9 rfl rfl ?_
    refine wp_aload_n (pc := 10) 0 dX11_knownTo_10 rfl rfl ?_
    refine wp_geti (pc := 11) dX11_knownTo_11 rfl f_X11_412 kd_111 la_111 (Or.inl rfl) ?_
    refine wp_eqst (st' := [vI (T 0 12), vI (((nP T) : Nat) : Int)]) (by rw [rt_p hR]) ?_
    refine wp_icmp_ge (pc := 14) 47 dX11_knownTo_14 (by decide) (by omega) (by omega) (fun h_1 => ?_) (fun h_1 => ?_)
    · refine wp_iload_n (pc := 47) 2 dX11_knownTo_47 rfl rfl ?_
      refine wp_iret (pc := 48) dX11_knownTo_48 rfl rfl ?_
      exact hQ
    · exfalso; omega
  · have b1 := knT_lt hw p i (by omega)
    refine wp_iload_n (pc := 9) 3 dX11_knownTo_9 rfl rfl ?_
    refine wp_aload_n (pc := 10) 0 dX11_knownTo_10 rfl rfl ?_
    refine wp_geti (pc := 11) dX11_knownTo_11 rfl f_X11_412 kd_111 la_111 (Or.inl rfl) ?_
    refine wp_eqst (st' := [vI (T 0 12), vI (i : Int)]) (by rw [rt_p hR]) ?_
    refine wp_icmp_ge (pc := 14) 47 dX11_knownTo_14 (by decide) (by omega) (by omega) (fun h_1 => ?_) (fun h_1 => ?_)
    · exfalso; omega
    · refine wp_aload_n (pc := 17) 0 dX11_knownTo_17 rfl rfl ?_
      refine wp_iload_n (pc := 18) 3 dX11_knownTo_18 rfl rfl ?_
      refine wp_iload_n (pc := 19) 1 dX11_knownTo_19 rfl rfl ?_
      refine wp_callV (pc := 20) (st := []) (nf' := 153) [vI (i : Int), vI (p : Int)] [some (vR 111), some (vI (i : Int)), some (vI (p : Int))] dX11_knownTo_20 rfl c_X11_443 rfl kd_111 (by decide) rfl la_111 rfl (Nat.le_of_ble_eq_true rfl) rfl (Nat.le_of_ble_eq_true rfl) (by omega) (Nat.le_refl _) (Nat.le_refl _) ?_
      refine rs_isParent i rfl p rfl hR hw (by omega) (by omega) (by omega) (fun h_2 => ?_) (fun h_2 => ?_)
      · refine wp_eqst (st' := [vI 1]) rfl ?_
        refine wp_if_ne (pc := 23) 35 dX11_knownTo_23 (by decide) (by decide) (fun _ => ?_) (fun hh => absurd hh (by decide))
        refine wp_iload_n (pc := 35) 2 dX11_knownTo_35 rfl rfl ?_
        refine wp_iconst (pc := 36) dX11_knownTo_36 ?_
        refine wp_iload_n (pc := 37) 3 dX11_knownTo_37 rfl rfl ?_
        refine wn_shl1 (pc := 38) i dX11_knownTo_38 rfl (by omega) ?_
        refine wn_or (pc := 39) (knT T p i) (2 ^ i) dX11_knownTo_39 rfl rfl ?_
        refine wq_istore_n (pc := 40) 2 [some (vR 111), some (vI (p : Int)), some (vI (((knT T p i) ||| (2 ^ i) : Nat) : Int)), some (vI (i : Int))] dX11_knownTo_40 rfl rfl (by decide) rfl ?_
        refine wq_iinc (pc := 41) [some (vR 111), some (vI (p : Int)), some (vI (((knT T p i) ||| (2 ^ i) : Nat) : Int)), some (vI ((i : Int) + 1))] dX11_knownTo_41 rfl rfl (by decide) rfl ?_
        refine wp_goto (pc := 44) 9 dX11_knownTo_44 (by decide) ?_
        refine wp_eqls (ls' := [some (vR 111), some (vI (p : Int)), some (vI ((knT T p (i + 1) : Nat) : Int)), some (vI (((i + 1) : Nat) : Int))]) (by rw [show knT T p (i + 1) = (knT T p i) ||| (2 ^ i) from if_pos (by omega)]; rfl) ih
      · refine wp_eqst (st' := [vI 0]) rfl ?_
        refine wp_if_ne (pc := 23) 35 dX11_knownTo_23 (by decide) (by decide) (fun hh => absurd hh (by decide)) (fun _ => ?_)
        refine wp_aload_n (pc := 26) 0 dX11_knownTo_26 rfl rfl ?_
        refine wp_iload_n (pc := 27) 1 dX11_knownTo_27 rfl rfl ?_
        refine wp_iload_n (pc := 28) 3 dX11_knownTo_28 rfl rfl ?_
        refine wp_callV (pc := 29) (st := []) (nf' := 153) [vI (p : Int), vI (i : Int)] [some (vR 111), some (vI (p : Int)), some (vI (i : Int))] dX11_knownTo_29 rfl c_X11_443 rfl kd_111 (by decide) rfl la_111 rfl (Nat.le_of_ble_eq_true rfl) rfl (Nat.le_of_ble_eq_true rfl) (by omega) (Nat.le_refl _) (Nat.le_refl _) ?_
        refine rs_isParent p rfl i rfl hR hw (by omega) (by omega) (by omega) (fun h_3 => ?_) (fun h_3 => ?_)
        · refine wp_eqst (st' := [vI 1]) rfl ?_
          refine wp_if_eq (pc := 32) 41 dX11_knownTo_32 (by decide) (by decide) (fun hh => absurd hh (by decide)) (fun _ => ?_)
          refine wp_iload_n (pc := 35) 2 dX11_knownTo_35 rfl rfl ?_
          refine wp_iconst (pc := 36) dX11_knownTo_36 ?_
          refine wp_iload_n (pc := 37) 3 dX11_knownTo_37 rfl rfl ?_
          refine wn_shl1 (pc := 38) i dX11_knownTo_38 rfl (by omega) ?_
          refine wn_or (pc := 39) (knT T p i) (2 ^ i) dX11_knownTo_39 rfl rfl ?_
          refine wq_istore_n (pc := 40) 2 [some (vR 111), some (vI (p : Int)), some (vI (((knT T p i) ||| (2 ^ i) : Nat) : Int)), some (vI (i : Int))] dX11_knownTo_40 rfl rfl (by decide) rfl ?_
          refine wq_iinc (pc := 41) [some (vR 111), some (vI (p : Int)), some (vI (((knT T p i) ||| (2 ^ i) : Nat) : Int)), some (vI ((i : Int) + 1))] dX11_knownTo_41 rfl rfl (by decide) rfl ?_
          refine wp_goto (pc := 44) 9 dX11_knownTo_44 (by decide) ?_
          refine wp_eqls (ls' := [some (vR 111), some (vI (p : Int)), some (vI ((knT T p (i + 1) : Nat) : Int)), some (vI (((i + 1) : Nat) : Int))]) (by rw [show knT T p (i + 1) = (knT T p i) ||| (2 ^ i) from if_pos (by omega)]; rfl) ih
        · refine wp_eqst (st' := [vI 0]) rfl ?_
          refine wp_if_eq (pc := 32) 41 dX11_knownTo_32 (by decide) (by decide) (fun _ => ?_) (fun hh => absurd hh (by decide))
          refine wq_iinc (pc := 41) [some (vR 111), some (vI (p : Int)), some (vI ((knT T p i : Nat) : Int)), some (vI ((i : Int) + 1))] dX11_knownTo_41 rfl rfl (by decide) rfl ?_
          refine wp_goto (pc := 44) 9 dX11_knownTo_44 (by decide) ?_
          refine wp_eqls (ls' := [some (vR 111), some (vI (p : Int)), some (vI ((knT T p (i + 1) : Nat) : Int)), some (vI (((i + 1) : Nat) : Int))]) (by rw [show knT T p (i + 1) = knT T p i from if_neg (by omega)]; rfl) ih

theorem rs_knownTo {l : Launch} {G : mG} {d : Nat} {I : mI} {L : Nat → Nat → Int} {D : Nat → Nat} {Q : mQ} {T : mT} (p : Nat) {p_ : Int} (hp_ : p_ = (p : Int)) (hR : RT I T) (hw : tw T) (hC : TC T) (hp : p < nP T) (hd : 1 ≤ d) (hQ : Q (some (vI (T 14 p))) I (XX L D)) : WP l G m_X11_knownTo d 153 I (XX L D) 0 [some (vR 111), some (vI p_), none, none] [] Q := by
  subst hp_
  have b_p := tw_p hw
  have b_q := tw_q hw
  have b_c := tw_c hw
  have eP : nP T = (T 0 12).toNat := rfl
  have eQ : nQ T = (T 0 13).toNat := rfl
  have eC : nC T = (T 0 11).toNat := rfl
  refine wp_aload_n (pc := 0) 0 dX11_knownTo_0 rfl rfl ?_
  refine wp_getr (pc := 1) dX11_knownTo_1 rfl f_X11_75 kd_111 la_111 rfl (r_111_36 D) ?_
  refine wp_iload_n (pc := 4) 1 dX11_knownTo_4 rfl rfl ?_
  refine wq_iald (pc := 5) p dX11_knownTo_5 kd_132 la_132 rfl (by omega) ?_
  refine wp_eqst (st' := [vI (T 13 p)]) (by rw [rt_told hR (by omega)]) ?_
  refine wq_istore_n (pc := 6) 2 [some (vR 111), some (vI (p : Int)), some (vI (T 13 p)), none] dX11_knownTo_6 rfl rfl (by decide) rfl ?_
  refine wp_iconst (pc := 7) dX11_knownTo_7 ?_
  refine wq_istore_n (pc := 8) 3 [some (vR 111), some (vI (p : Int)), some (vI (T 13 p)), some (vI 0)] dX11_knownTo_8 rfl rfl (by decide) rfl ?_
  have b9 := tw_told hw p
  have b8 := tw_knows hw p
  have e2 := hC.2.1 p hp
  have e1 : T 14 p = (knT T p (nP T) : Int) := by omega
  rw [e1] at hQ
  refine wp_eqls (ls' := [some (vR 111), some (vI (p : Int)), some (vI ((knT T p 0 : Nat) : Int)), some (vI 0)]) (by rw [show knT T p 0 = (T 13 p).toNat from rfl, show (((T 13 p).toNat : Nat) : Int) = T 13 p from by omega]) (rl_knownTo hR hw hp hd hQ 0 (Nat.zero_le _))

theorem rs_isAwayOn {l : Launch} {G : mG} {d : Nat} {I : mI} {L : Nat → Nat → Int} {D : Nat → Nat} {Q : mQ} {T : mT} {c : Int} (p : Nat) {p_ : Int} (hp_ : p_ = (p : Int)) (hR : RT I T) (hw : tw T) (hp : p < nP T) (hc : inR c) (hd : 0 ≤ d) (h1 : away T p c → Q (some (vI 1)) I (XX L D)) (h0 : ¬ (away T p c) → Q (some (vI 0)) I (XX L D)) : WP l G m_X11_isAwayOn d 153 I (XX L D) 0 [some (vR 111), some (vI p_), some (vI c)] [] Q := by
  subst hp_
  have b_p := tw_p hw
  have b_q := tw_q hw
  have b_c := tw_c hw
  have eP : nP T = (T 0 12).toNat := rfl
  have eQ : nQ T = (T 0 13).toNat := rfl
  have eC : nC T = (T 0 11).toNat := rfl
  have b1 := tw_sails hw p
  refine wp_aload_n (pc := 0) 0 dX11_isAwayOn_0 rfl rfl ?_
  refine wp_getr (pc := 1) dX11_isAwayOn_1 rfl f_X11_72 kd_111 la_111 rfl (r_111_35 D) ?_
  refine wp_iload_n (pc := 4) 1 dX11_isAwayOn_4 rfl rfl ?_
  refine wq_iald (pc := 5) p dX11_isAwayOn_5 kd_131 la_131 rfl (by omega) ?_
  refine wp_eqst (st' := [vI (T 4 p)]) (by rw [rt_sails hR (by omega)]) ?_
  refine wp_if_le (pc := 6) 23 dX11_isAwayOn_6 (by decide) (by omega) (fun h_1 => ?_) (fun h_1 => ?_)
  · refine wp_iconst (pc := 23) dX11_isAwayOn_23 ?_
    refine wp_zret (pc := 24) dX11_isAwayOn_24 rfl rfl (by decide) ?_
    exact h0 (by omega)
  · refine wp_iload_n (pc := 9) 2 dX11_isAwayOn_9 rfl rfl ?_
    refine wp_aload_n (pc := 10) 0 dX11_isAwayOn_10 rfl rfl ?_
    refine wp_getr (pc := 11) dX11_isAwayOn_11 rfl f_X11_72 kd_111 la_111 rfl (r_111_35 D) ?_
    refine wp_iload_n (pc := 14) 1 dX11_isAwayOn_14 rfl rfl ?_
    refine wq_iald (pc := 15) p dX11_isAwayOn_15 kd_131 la_131 rfl (by omega) ?_
    refine wp_eqst (st' := [vI (T 4 p), vI c]) (by rw [rt_sails hR (by omega)]) ?_
    refine wp_icmp_lt (pc := 16) 23 dX11_isAwayOn_16 (by decide) (by omega) (by omega) (fun h_2 => ?_) (fun h_2 => ?_)
    · refine wp_iconst (pc := 23) dX11_isAwayOn_23 ?_
      refine wp_zret (pc := 24) dX11_isAwayOn_24 rfl rfl (by decide) ?_
      exact h0 (by omega)
    · refine wp_iconst (pc := 19) dX11_isAwayOn_19 ?_
      refine wp_goto (pc := 20) 24 dX11_isAwayOn_20 (by decide) ?_
      refine wp_zret (pc := 24) dX11_isAwayOn_24 rfl rfl (by decide) ?_
      exact h1 (by omega)

theorem rs_isAway {l : Launch} {G : mG} {d : Nat} {I : mI} {L : Nat → Nat → Int} {D : Nat → Nat} {Q : mQ} {T : mT} {S : mS} {B : Int} (p : Nat) {p_ : Int} (hp_ : p_ = (p : Int)) (hR : RT I T) (hA : I 140 = pS S) (hw : tw T) (hv : sw S B) (hB : B ≤ 100000) (hp : p < nP T) (hd : 1 ≤ d) (h1 : away T p (S 28 + 1) → Q (some (vI 1)) I (XX L D)) (h0 : ¬ (away T p (S 28 + 1)) → Q (some (vI 0)) I (XX L D)) : WP l G m_X11_isAway d 153 I (XX L D) 0 [some (vR 111), some (vI p_)] [] Q := by
  subst hp_
  have b_p := tw_p hw
  have b_q := tw_q hw
  have b_c := tw_c hw
  have eP : nP T = (T 0 12).toNat := rfl
  have eQ : nQ T = (T 0 13).toNat := rfl
  have eC : nC T = (T 0 11).toNat := rfl
  have b1 := sw_sun hv
  refine wp_aload_n (pc := 0) 0 dX11_isAway_0 rfl rfl ?_
  refine wp_iload_n (pc := 1) 1 dX11_isAway_1 rfl rfl ?_
  refine wp_aload_n (pc := 2) 0 dX11_isAway_2 rfl rfl ?_
  refine wp_callV (pc := 3) (st := [vI (p : Int), vR 111]) (nf' := 153) [] [some (vR 111)] dX11_isAway_3 rfl c_X11_467 rfl kd_111 (by decide) rfl la_111 rfl (Nat.le_of_ble_eq_true rfl) rfl (Nat.le_of_ble_eq_true rfl) (by omega) (Nat.le_refl _) (Nat.le_refl _) ?_
  refine wp_aload_n (pc := 0) 0 dX11_nextSunday_0 rfl rfl ?_
  refine wp_getr (pc := 1) dX11_nextSunday_1 rfl f_X11_106 kd_111 la_111 rfl (r_111_61 D) ?_
  refine wp_bipush (pc := 4) dX11_nextSunday_4 (by decide) ?_
  refine wq_iald (pc := 6) 28 dX11_nextSunday_6 kd_140 la_140 rfl (by decide) ?_
  refine wp_eqst (st' := [vI (S 28)]) (by rw [hA, pS_28]) ?_
  refine wp_iconst (pc := 7) dX11_nextSunday_7 ?_
  refine wp_iadd (pc := 8) dX11_nextSunday_8 ?_
  refine wp_iret (pc := 9) dX11_nextSunday_9 rfl rfl ?_
  refine wp_eqst (st' := [vI ((S 28) + 1), vI (p : Int), vR 111]) rfl ?_
  refine wp_callV (pc := 6) (st := []) (nf' := 153) [vI (p : Int), vI ((S 28) + 1)] [some (vR 111), some (vI (p : Int)), some (vI ((S 28) + 1))] dX11_isAway_6 rfl c_X11_470 rfl kd_111 (by decide) rfl la_111 rfl (Nat.le_of_ble_eq_true rfl) rfl (Nat.le_of_ble_eq_true rfl) (by omega) (Nat.le_refl _) (Nat.le_refl _) ?_
  refine rs_isAwayOn p rfl hR hw (by omega) (by omega) (by omega) (fun h_1 => ?_) (fun h_1 => ?_)
  · refine wp_eqst (st' := [vI 1]) rfl ?_
    refine wp_zret (pc := 9) dX11_isAway_9 rfl rfl (by decide) ?_
    exact h1 h_1
  · refine wp_eqst (st' := [vI 0]) rfl ?_
    refine wp_zret (pc := 9) dX11_isAway_9 rfl rfl (by decide) ?_
    exact h0 h_1

theorem rs_isAt {l : Launch} {G : mG} {d : Nat} {I : mI} {L : Nat → Nat → Int} {D : Nat → Nat} {Q : mQ} {T : mT} {S : mS} {B : Int} {c : Int} (q : Nat) {q_ : Int} (hq_ : q_ = (q : Int)) (hR : RT I T) (hA : I 140 = pS S) (hw : tw T) (hv : sw S B) (hq : q < 5) (hc : inR c) (hd : 0 ≤ d) (h1 : S (13 + q) = c ∨ S (18 + q) = c → Q (some (vI 1)) I (XX L D)) (h0 : ¬ (S (13 + q) = c ∨ S (18 + q) = c) → Q (some (vI 0)) I (XX L D)) : WP l G m_X11_isAt d 153 I (XX L D) 0 [some (vR 111), some (vI q_), some (vI c)] [] Q := by
  subst hq_
  have b_p := tw_p hw
  have b_q := tw_q hw
  have b_c := tw_c hw
  have eP : nP T = (T 0 12).toNat := rfl
  have eQ : nQ T = (T 0 13).toNat := rfl
  have eC : nC T = (T 0 11).toNat := rfl
  have b1 := sw_c1 hv hq
  have b2 := sw_c2 hv hq
  refine wp_aload_n (pc := 0) 0 dX11_isAt_0 rfl rfl ?_
  refine wp_getr (pc := 1) dX11_isAt_1 rfl f_X11_106 kd_111 la_111 rfl (r_111_61 D) ?_
  refine wp_bipush (pc := 4) dX11_isAt_4 (by decide) ?_
  refine wp_iload_n (pc := 6) 1 dX11_isAt_6 rfl rfl ?_
  refine wp_iadd (pc := 7) dX11_isAt_7 ?_
  refine wq_iald (pc := 8) (18 + q) dX11_isAt_8 kd_140 la_140 (by omega) (by omega) ?_
  refine wp_eqst (st' := [vI (S (13 + q))]) (by rw [hA, pS_18 (by omega)]) ?_
  refine wp_iload_n (pc := 9) 2 dX11_isAt_9 rfl rfl ?_
  refine wp_icmp_eq (pc := 10) 26 dX11_isAt_10 (by decide) (by omega) (by omega) (fun h_1 => ?_) (fun h_1 => ?_)
  · refine wp_iconst (pc := 26) dX11_isAt_26 ?_
    refine wp_goto (pc := 27) 31 dX11_isAt_27 (by decide) ?_
    refine wp_zret (pc := 31) dX11_isAt_31 rfl rfl (by decide) ?_
    exact h1 (by omega)
  · refine wp_aload_n (pc := 13) 0 dX11_isAt_13 rfl rfl ?_
    refine wp_getr (pc := 14) dX11_isAt_14 rfl f_X11_106 kd_111 la_111 rfl (r_111_61 D) ?_
    refine wp_bipush (pc := 17) dX11_isAt_17 (by decide) ?_
    refine wp_iload_n (pc := 19) 1 dX11_isAt_19 rfl rfl ?_
    refine wp_iadd (pc := 20) dX11_isAt_20 ?_
    refine wq_iald (pc := 21) (23 + q) dX11_isAt_21 kd_140 la_140 (by omega) (by omega) ?_
    refine wp_eqst (st' := [vI (S (18 + q))]) (by rw [hA, pS_23 (by omega)]) ?_
    refine wp_iload_n (pc := 22) 2 dX11_isAt_22 rfl rfl ?_
    refine wp_icmp_ne (pc := 23) 30 dX11_isAt_23 (by decide) (by omega) (by omega) (fun h_2 => ?_) (fun h_2 => ?_)
    · refine wp_iconst (pc := 30) dX11_isAt_30 ?_
      refine wp_zret (pc := 31) dX11_isAt_31 rfl rfl (by decide) ?_
      exact h0 (by omega)
    · refine wp_iconst (pc := 26) dX11_isAt_26 ?_
      refine wp_goto (pc := 27) 31 dX11_isAt_27 (by decide) ?_
      refine wp_zret (pc := 31) dX11_isAt_31 rfl rfl (by decide) ?_
      exact h1 (by omega)

theorem rs_isOf {l : Launch} {G : mG} {d : Nat} {I : mI} {L : Nat → Nat → Int} {D : Nat → Nat} {Q : mQ} {T : mT} {p : Int} (q : Nat) {q_ : Int} (hq_ : q_ = (q : Int)) (hR : RT I T) (hw : tw T) (hq : q < nQ T) (hp : inR p) (hd : 0 ≤ d) (h1 : T 6 q = p ∨ T 7 q = p → Q (some (vI 1)) I (XX L D)) (h0 : ¬ (T 6 q = p ∨ T 7 q = p) → Q (some (vI 0)) I (XX L D)) : WP l G m_X11_isOf d 153 I (XX L D) 0 [some (vR 111), some (vI q_), some (vI p)] [] Q := by
  subst hq_
  have b_p := tw_p hw
  have b_q := tw_q hw
  have b_c := tw_c hw
  have eP : nP T = (T 0 12).toNat := rfl
  have eQ : nQ T = (T 0 13).toNat := rfl
  have eC : nC T = (T 0 11).toNat := rfl
  have b1 := tw_one hw q
  have b2 := tw_other hw q
  refine wp_aload_n (pc := 0) 0 dX11_isOf_0 rfl rfl ?_
  refine wp_getr (pc := 1) dX11_isOf_1 rfl f_X11_81 kd_111 la_111 rfl (r_111_38 D) ?_
  refine wp_iload_n (pc := 4) 1 dX11_isOf_4 rfl rfl ?_
  refine wq_iald (pc := 5) q dX11_isOf_5 kd_134 la_134 rfl (by omega) ?_
  refine wp_eqst (st' := [vI (T 6 q)]) (by rw [rt_one hR (by omega)]) ?_
  refine wp_iload_n (pc := 6) 2 dX11_isOf_6 rfl rfl ?_
  refine wp_icmp_eq (pc := 7) 20 dX11_isOf_7 (by decide) (by omega) (by omega) (fun h_1 => ?_) (fun h_1 => ?_)
  · refine wp_iconst (pc := 20) dX11_isOf_20 ?_
    refine wp_goto (pc := 21) 25 dX11_isOf_21 (by decide) ?_
    refine wp_zret (pc := 25) dX11_isOf_25 rfl rfl (by decide) ?_
    exact h1 (by omega)
  · refine wp_aload_n (pc := 10) 0 dX11_isOf_10 rfl rfl ?_
    refine wp_getr (pc := 11) dX11_isOf_11 rfl f_X11_84 kd_111 la_111 rfl (r_111_39 D) ?_
    refine wp_iload_n (pc := 14) 1 dX11_isOf_14 rfl rfl ?_
    refine wq_iald (pc := 15) q dX11_isOf_15 kd_135 la_135 rfl (by omega) ?_
    refine wp_eqst (st' := [vI (T 7 q)]) (by rw [rt_other hR (by omega)]) ?_
    refine wp_iload_n (pc := 16) 2 dX11_isOf_16 rfl rfl ?_
    refine wp_icmp_ne (pc := 17) 24 dX11_isOf_17 (by decide) (by omega) (by omega) (fun h_2 => ?_) (fun h_2 => ?_)
    · refine wp_iconst (pc := 24) dX11_isOf_24 ?_
      refine wp_zret (pc := 25) dX11_isOf_25 rfl rfl (by decide) ?_
      exact h0 (by omega)
    · refine wp_iconst (pc := 20) dX11_isOf_20 ?_
      refine wp_goto (pc := 21) 25 dX11_isOf_21 (by decide) ?_
      refine wp_zret (pc := 25) dX11_isOf_25 rfl rfl (by decide) ?_
      exact h1 (by omega)

theorem rl_wedWith {l : Launch} {G : mG} {d : Nat} {I : mI} {L : Nat → Nat → Int} {D : Nat → Nat} {Q : mQ} {T : mT} {S : mS} {B : Int} {p e : Int} (hR : RT I T) (hA : I 140 = pS S) (hw : tw T) (hv : sw S B) (hp : inR p) (he : inR e) (hd : 1 ≤ d) (hQ : Q (some (vI (wwF T S p e (nQ T)))) I (XX L D)) : ∀ i : Nat, i ≤ nQ T → WP l G m_X11_wedWith d 153 I (XX L D) 5 [some (vR 111), some (vI p), some (vI e), some (vI (wwF T S p e i)), some (vI (i : Int))] [] Q := by
  have b_p := tw_p hw
  have b_q := tw_q hw
  have b_c := tw_c hw
  have eP : nP T = (T 0 12).toNat := rfl
  have eQ : nQ T = (T 0 13).toNat := rfl
  have eC : nC T = (T 0 11).toNat := rfl
  refine loop_dn (fun i => WP l G m_X11_wedWith d 153 I (XX L D) 5 [some (vR 111), some (vI p), some (vI e), some (vI (wwF T S p e i)), some (vI (i : Int))] [] Q) (nQ T) ?_ (fun i hi ih => ?_)
  · refine wp_iload (pc := 5) dX11_wedWith_5 rfl ?_
    refine wp_aload_n (pc := 7) 0 dX11_wedWith_7 rfl rfl ?_
    refine wp_geti (pc := 8) dX11_wedWith_8 rfl f_X11_415 kd_111 la_111 (Or.inl rfl) ?_
    refine wp_eqst (st' := [vI (T 0 13), vI (((nQ T) : Nat) : Int)]) (by rw [rt_q hR]) ?_
    refine wp_icmp_ge (pc := 11) 75 dX11_wedWith_11 (by decide) (by omega) (by omega) (fun h_1 => ?_) (fun h_1 => ?_)
    · refine wp_iload_n (pc := 75) 3 dX11_wedWith_75 rfl rfl ?_
      refine wp_iret (pc := 76) dX11_wedWith_76 rfl rfl ?_
      exact hQ
    · exfalso; omega
  · have b1 := tw_one hw i
    have b2 := tw_other hw i
    have b3 := sw_stat hv (j := i) (by omega)
    refine wp_iload (pc := 5) dX11_wedWith_5 rfl ?_
    refine wp_aload_n (pc := 7) 0 dX11_wedWith_7 rfl rfl ?_
    refine wp_geti (pc := 8) dX11_wedWith_8 rfl f_X11_415 kd_111 la_111 (Or.inl rfl) ?_
    refine wp_eqst (st' := [vI (T 0 13), vI (i : Int)]) (by rw [rt_q hR]) ?_
    refine wp_icmp_ge (pc := 11) 75 dX11_wedWith_11 (by decide) (by omega) (by omega) (fun h_1 => ?_) (fun h_1 => ?_)
    · exfalso; omega
    · refine wp_iload (pc := 14) dX11_wedWith_14 rfl ?_
      refine wp_iload_n (pc := 16) 2 dX11_wedWith_16 rfl rfl ?_
      refine wp_icmp_eq (pc := 17) 69 dX11_wedWith_17 (by decide) (by omega) (by omega) (fun h_2 => ?_) (fun h_2 => ?_)
      · refine wq_iinc (pc := 69) [some (vR 111), some (vI p), some (vI e), some (vI (wwF T S p e i)), some (vI ((i : Int) + 1))] dX11_wedWith_69 rfl rfl (by decide) rfl ?_
        refine wp_goto (pc := 72) 5 dX11_wedWith_72 (by decide) ?_
        refine wp_eqls (ls' := [some (vR 111), some (vI p), some (vI e), some (vI (wwF T S p e (i + 1))), some (vI (((i + 1) : Nat) : Int))]) (by rw [show wwF T S p e (i + 1) = wwF T S p e i from if_neg (by omega)]; rfl) ih
      · refine wp_aload_n (pc := 20) 0 dX11_wedWith_20 rfl rfl ?_
        refine wp_iload (pc := 21) dX11_wedWith_21 rfl ?_
        refine wp_callV (pc := 23) (st := []) (nf' := 153) [vI (i : Int)] [some (vR 111), some (vI (i : Int))] dX11_wedWith_23 rfl c_X11_446 rfl kd_111 (by decide) rfl la_111 rfl (Nat.le_of_ble_eq_true rfl) rfl (Nat.le_of_ble_eq_true rfl) (by omega) (Nat.le_refl _) (Nat.le_refl _) ?_
        refine wp_aload_n (pc := 0) 0 dX11_stateOf_0 rfl rfl ?_
        refine wp_getr (pc := 1) dX11_stateOf_1 rfl f_X11_106 kd_111 la_111 rfl (r_111_61 D) ?_
        refine wp_bipush (pc := 4) dX11_stateOf_4 (by decide) ?_
        refine wp_iload_n (pc := 6) 1 dX11_stateOf_6 rfl rfl ?_
        refine wp_iadd (pc := 7) dX11_stateOf_7 ?_
        refine wq_iald (pc := 8) (8 + i) dX11_stateOf_8 kd_140 la_140 (by omega) (by omega) ?_
        refine wp_eqst (st' := [vI (S (8 + i))]) (by rw [hA, pS_8 (by omega)]) ?_
        refine wp_iret (pc := 9) dX11_stateOf_9 rfl rfl ?_
        refine wp_eqst (st' := [vI (S (8 + i))]) rfl ?_
        refine wp_iconst (pc := 26) dX11_wedWith_26 ?_
        refine wp_icmp_ne (pc := 27) 69 dX11_wedWith_27 (by decide) (by omega) (by decide) (fun h_3 => ?_) (fun h_3 => ?_)
        · refine wq_iinc (pc := 69) [some (vR 111), some (vI p), some (vI e), some (vI (wwF T S p e i)), some (vI ((i : Int) + 1))] dX11_wedWith_69 rfl rfl (by decide) rfl ?_
          refine wp_goto (pc := 72) 5 dX11_wedWith_72 (by decide) ?_
          refine wp_eqls (ls' := [some (vR 111), some (vI p), some (vI e), some (vI (wwF T S p e (i + 1))), some (vI (((i + 1) : Nat) : Int))]) (by rw [show wwF T S p e (i + 1) = wwF T S p e i from if_neg (by omega)]; rfl) ih
        · refine wp_aload_n (pc := 30) 0 dX11_wedWith_30 rfl rfl ?_
          refine wp_iload (pc := 31) dX11_wedWith_31 rfl ?_
          refine wp_iload_n (pc := 33) 1 dX11_wedWith_33 rfl rfl ?_
          refine wp_callV (pc := 34) (st := []) (nf' := 153) [vI (i : Int), vI p] [some (vR 111), some (vI (i : Int)), some (vI p)] dX11_wedWith_34 rfl c_X11_449 rfl kd_111 (by decide) rfl la_111 rfl (Nat.le_of_ble_eq_true rfl) rfl (Nat.le_of_ble_eq_true rfl) (by omega) (Nat.le_refl _) (Nat.le_refl _) ?_
          refine rs_isOf i rfl hR hw (by omega) (by omega) (by omega) (fun h_4 => ?_) (fun h_4 => ?_)
          · refine wp_eqst (st' := [vI 1]) rfl ?_
            refine wp_if_eq (pc := 37) 69 dX11_wedWith_37 (by decide) (by decide) (fun hh => absurd hh (by decide)) (fun _ => ?_)
            refine wp_aload_n (pc := 40) 0 dX11_wedWith_40 rfl rfl ?_
            refine wp_getr (pc := 41) dX11_wedWith_41 rfl f_X11_81 kd_111 la_111 rfl (r_111_38 D) ?_
            refine wp_iload (pc := 44) dX11_wedWith_44 rfl ?_
            refine wq_iald (pc := 46) i dX11_wedWith_46 kd_134 la_134 rfl (by omega) ?_
            refine wp_eqst (st' := [vI (T 6 i)]) (by rw [rt_one hR (by omega)]) ?_
            refine wp_iload_n (pc := 47) 1 dX11_wedWith_47 rfl rfl ?_
            refine wp_icmp_ne (pc := 48) 61 dX11_wedWith_48 (by decide) (by omega) (by omega) (fun h_5 => ?_) (fun h_5 => ?_)
            · refine wp_aload_n (pc := 61) 0 dX11_wedWith_61 rfl rfl ?_
              refine wp_getr (pc := 62) dX11_wedWith_62 rfl f_X11_81 kd_111 la_111 rfl (r_111_38 D) ?_
              refine wp_iload (pc := 65) dX11_wedWith_65 rfl ?_
              refine wq_iald (pc := 67) i dX11_wedWith_67 kd_134 la_134 rfl (by omega) ?_
              refine wp_eqst (st' := [vI (T 6 i)]) (by rw [rt_one hR (by omega)]) ?_
              refine wq_istore_n (pc := 68) 3 [some (vR 111), some (vI p), some (vI e), some (vI (T 6 i)), some (vI (i : Int))] dX11_wedWith_68 rfl rfl (by decide) rfl ?_
              refine wq_iinc (pc := 69) [some (vR 111), some (vI p), some (vI e), some (vI (T 6 i)), some (vI ((i : Int) + 1))] dX11_wedWith_69 rfl rfl (by decide) rfl ?_
              refine wp_goto (pc := 72) 5 dX11_wedWith_72 (by decide) ?_
              refine wp_eqls (ls' := [some (vR 111), some (vI p), some (vI e), some (vI (wwF T S p e (i + 1))), some (vI (((i + 1) : Nat) : Int))]) (by rw [show wwF T S p e (i + 1) = T 6 i from (if_pos (by omega)).trans (if_neg (by omega))]; rfl) ih
            · refine wp_aload_n (pc := 51) 0 dX11_wedWith_51 rfl rfl ?_
              refine wp_getr (pc := 52) dX11_wedWith_52 rfl f_X11_84 kd_111 la_111 rfl (r_111_39 D) ?_
              refine wp_iload (pc := 55) dX11_wedWith_55 rfl ?_
              refine wq_iald (pc := 57) i dX11_wedWith_57 kd_135 la_135 rfl (by omega) ?_
              refine wp_eqst (st' := [vI (T 7 i)]) (by rw [rt_other hR (by omega)]) ?_
              refine wp_goto (pc := 58) 68 dX11_wedWith_58 (by decide) ?_
              refine wq_istore_n (pc := 68) 3 [some (vR 111), some (vI p), some (vI e), some (vI (T 7 i)), some (vI (i : Int))] dX11_wedWith_68 rfl rfl (by decide) rfl ?_
              refine wq_iinc (pc := 69) [some (vR 111), some (vI p), some (vI e), some (vI (T 7 i)), some (vI ((i : Int) + 1))] dX11_wedWith_69 rfl rfl (by decide) rfl ?_
              refine wp_goto (pc := 72) 5 dX11_wedWith_72 (by decide) ?_
              refine wp_eqls (ls' := [some (vR 111), some (vI p), some (vI e), some (vI (wwF T S p e (i + 1))), some (vI (((i + 1) : Nat) : Int))]) (by rw [show wwF T S p e (i + 1) = T 7 i from (if_pos (by omega)).trans (if_pos (by omega))]; rfl) ih
          · refine wp_eqst (st' := [vI 0]) rfl ?_
            refine wp_if_eq (pc := 37) 69 dX11_wedWith_37 (by decide) (by decide) (fun _ => ?_) (fun hh => absurd hh (by decide))
            refine wq_iinc (pc := 69) [some (vR 111), some (vI p), some (vI e), some (vI (wwF T S p e i)), some (vI ((i : Int) + 1))] dX11_wedWith_69 rfl rfl (by decide) rfl ?_
            refine wp_goto (pc := 72) 5 dX11_wedWith_72 (by decide) ?_
            refine wp_eqls (ls' := [some (vR 111), some (vI p), some (vI e), some (vI (wwF T S p e (i + 1))), some (vI (((i + 1) : Nat) : Int))]) (by rw [show wwF T S p e (i + 1) = wwF T S p e i from if_neg (by omega)]; rfl) ih

theorem rs_wedWith {l : Launch} {G : mG} {d : Nat} {I : mI} {L : Nat → Nat → Int} {D : Nat → Nat} {Q : mQ} {T : mT} {S : mS} {B : Int} {p e : Int}  (hR : RT I T) (hA : I 140 = pS S) (hw : tw T) (hv : sw S B) (hp : inR p) (he : inR e) (hd : 1 ≤ d) (hQ : Q (some (vI (wwF T S p e (nQ T)))) I (XX L D)) : WP l G m_X11_wedWith d 153 I (XX L D) 0 [some (vR 111), some (vI p), some (vI e), none, none] [] Q := by
  have b_p := tw_p hw
  have b_q := tw_q hw
  have b_c := tw_c hw
  have eP : nP T = (T 0 12).toNat := rfl
  have eQ : nQ T = (T 0 13).toNat := rfl
  have eC : nC T = (T 0 11).toNat := rfl
  refine wp_iconst (pc := 0) dX11_wedWith_0 ?_
  refine wq_istore_n (pc := 1) 3 [some (vR 111), some (vI p), some (vI e), some (vI (-1)), none] dX11_wedWith_1 rfl rfl (by decide) rfl ?_
  refine wp_iconst (pc := 2) dX11_wedWith_2 ?_
  refine wq_istore (pc := 3) [some (vR 111), some (vI p), some (vI e), some (vI (-1)), some (vI 0)] dX11_wedWith_3 rfl (by decide) rfl ?_
  exact rl_wedWith hR hA hw hv hp he hd hQ 0 (Nat.zero_le _)
