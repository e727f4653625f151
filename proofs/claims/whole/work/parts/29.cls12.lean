theorem bindS_pos {p q i : Nat} {st : Nat → Int} (h : bindS p q st i (q * 8 + i) ≠ -1 ∧ (bindS p q st i (p * 8 + i) = -1 ∨ bindS p q st i (q * 8 + i) + 1 < bindS p q st i (p * 8 + i))) : bindS p q st (i + 1) = setF (bindS p q st i) (p * 8 + i) (bindS p q st i (q * 8 + i) + 1) := if_pos h
theorem bindS_neg {p q i : Nat} {st : Nat → Int} (h : ¬ (bindS p q st i (q * 8 + i) ≠ -1 ∧ (bindS p q st i (p * 8 + i) = -1 ∨ bindS p q st i (q * 8 + i) + 1 < bindS p q st i (p * 8 + i)))) : bindS p q st (i + 1) = bindS p q st i := if_neg h
theorem lp_bind {l : Launch} {G : mG} {d : Nat} {I : mI} {L : Nat → Nat → Int} {D : Nat → Nat} {Q : mQ} {t p q : Nat} {kn st : Nat → Int} (ht : isT t) (hp : p < 8) (hqp : q < p) (hst : stB st) (hd : 0 ≤ d) (hQ : Q none (upc (upc I (t + 14) kn) (t + 15) (bindS p q st 8)) (XX L D)) : ∀ i : Nat, i ≤ 8 → WP l G m_X0_bind d 153 (upc (upc I (t + 14) kn) (t + 15) (bindS p q st i)) (XX L D) 36 [some (vR (t + 10)), some (vI (p : Int)), some (vI (q : Int)), some (vI (i : Int)), none, none] [] Q := by
  have g2 : t = 1 ∨ t = 21 := ht
  refine loop_dn (fun i => WP l G m_X0_bind d 153 (upc (upc I (t + 14) kn) (t + 15) (bindS p q st i)) (XX L D) 36 [some (vR (t + 10)), some (vI (p : Int)), some (vI (q : Int)), some (vI (i : Int)), none, none] [] Q) 8 ?_ (fun i hi ih => ?_)
  · refine wp_iload_n (pc := 36) 3 dX0_bind_36 rfl rfl ?_
    refine wp_bipush (pc := 37) dX0_bind_37 (by decide) ?_
    refine wp_icmp_ge (pc := 39) 111 dX0_bind_39 (by decide) (by decide) (by decide) (fun _ => ?_) (fun hh => absurd hh (by decide))
    refine wp_vret (pc := 111) dX0_bind_111 rfl rfl ?_
    exact hQ
  · have b0 := bindS_ok hst hp hqp i (by omega)
    have b1 := b0 (q * 8 + i)
    have b2 := b0 (p * 8 + i)
    refine wp_iload_n (pc := 36) 3 dX0_bind_36 rfl rfl ?_
    refine wp_bipush (pc := 37) dX0_bind_37 (by decide) ?_
    refine wp_icmp_ge (pc := 39) 111 dX0_bind_39 (by decide) (by omega) (by decide) (fun h_1 => ?_) (fun h_1 => ?_)
    · exfalso; omega
    · refine wp_aload_n (pc := 42) 0 dX0_bind_42 rfl rfl ?_
      refine wp_getr (pc := 43) dX0_bind_43 rfl f_X0_24 (tk_10 ht) (tl_10 ht) rfl (tr_10_4 D ht) ?_
      refine wp_iload_n (pc := 46) 2 dX0_bind_46 rfl rfl ?_
      refine wp_bipush (pc := 47) dX0_bind_47 (by decide) ?_
      refine wp_imul (pc := 49) dX0_bind_49 ?_
      refine wp_iload_n (pc := 50) 3 dX0_bind_50 rfl rfl ?_
      refine wp_iadd (pc := 51) dX0_bind_51 ?_
      refine wq_iald (pc := 52) ((q * 8) + i) dX0_bind_52 (tk_15 ht) (tl_15 ht) (by omega) (by omega) ?_
      refine wp_eqst (st' := [vI ((bindS p q st i) ((q * 8) + i))]) (by rw [upc_s]) ?_
      refine wq_istore (pc := 53) [some (vR (t + 10)), some (vI (p : Int)), some (vI (q : Int)), some (vI (i : Int)), some (vI ((bindS p q st i) ((q * 8) + i))), none] dX0_bind_53 rfl (by decide) rfl ?_
      refine wp_iload_n (pc := 55) 1 dX0_bind_55 rfl rfl ?_
      refine wp_bipush (pc := 56) dX0_bind_56 (by decide) ?_
      refine wp_imul (pc := 58) dX0_bind_58 ?_
      refine wp_iload_n (pc := 59) 3 dX0_bind_59 rfl rfl ?_
      refine wp_iadd (pc := 60) dX0_bind_60 ?_
      refine wq_istore (pc := 61) [some (vR (t + 10)), some (vI (p : Int)), some (vI (q : Int)), some (vI (i : Int)), some (vI ((bindS p q st i) ((q * 8) + i))), some (vI (((p : Int) * 8) + (i : Int)))] dX0_bind_61 rfl (by decide) rfl ?_
      refine wp_iload (pc := 63) dX0_bind_63 rfl ?_
      refine wp_iconst (pc := 65) dX0_bind_65 ?_
      refine wp_icmp_eq (pc := 66) 105 dX0_bind_66 (by decide) (by omega) (by decide) (fun h_2 => ?_) (fun h_2 => ?_)
      · refine wq_iinc (pc := 105) [some (vR (t + 10)), some (vI (p : Int)), some (vI (q : Int)), some (vI ((i : Int) + 1)), some (vI ((bindS p q st i) ((q * 8) + i))), some (vI (((p : Int) * 8) + (i : Int)))] dX0_bind_105 rfl rfl (by decide) rfl ?_
        refine wp_goto (pc := 108) 36 dX0_bind_108 (by decide) ?_
        have e1 : bindS p q st (i + 1) = bindS p q st i := bindS_neg (by omega)
        refine wp_none 4 [some (vR (t + 10)), some (vI (p : Int)), some (vI (q : Int)), some (vI ((i : Int) + 1)), none, some (vI (((p : Int) * 8) + (i : Int)))] rfl ?_
        refine wp_none 5 [some (vR (t + 10)), some (vI (p : Int)), some (vI (q : Int)), some (vI ((i : Int) + 1)), none, none] rfl ?_
        refine wp_eqI (I' := upc (upc I (t + 14) kn) (t + 15) (bindS p q st (i + 1))) (by rw [e1]) ?_
        exact wp_eqls (ls' := [some (vR (t + 10)), some (vI (p : Int)), some (vI (q : Int)), some (vI (((i + 1) : Nat) : Int)), none, none]) rfl ih
      · refine wp_aload_n (pc := 69) 0 dX0_bind_69 rfl rfl ?_
        refine wp_getr (pc := 70) dX0_bind_70 rfl f_X0_24 (tk_10 ht) (tl_10 ht) rfl (tr_10_4 D ht) ?_
        refine wp_iload (pc := 73) dX0_bind_73 rfl ?_
        refine wq_iald (pc := 75) ((p * 8) + i) dX0_bind_75 (tk_15 ht) (tl_15 ht) (by omega) (by omega) ?_
        refine wp_eqst (st' := [vI ((bindS p q st i) ((p * 8) + i))]) (by rw [upc_s]) ?_
        refine wp_iconst (pc := 76) dX0_bind_76 ?_
        refine wp_icmp_eq (pc := 77) 94 dX0_bind_77 (by decide) (by omega) (by decide) (fun h_3 => ?_) (fun h_3 => ?_)
        · refine wp_aload_n (pc := 94) 0 dX0_bind_94 rfl rfl ?_
          refine wp_getr (pc := 95) dX0_bind_95 rfl f_X0_24 (tk_10 ht) (tl_10 ht) rfl (tr_10_4 D ht) ?_
          refine wp_iload (pc := 98) dX0_bind_98 rfl ?_
          refine wp_iload (pc := 100) dX0_bind_100 rfl ?_
          refine wp_iconst (pc := 102) dX0_bind_102 ?_
          refine wp_iadd (pc := 103) dX0_bind_103 ?_
          refine wq_iast (pc := 104) ((p * 8) + i) dX0_bind_104 (tk_15 ht) (tl_15 ht) (by omega) (by omega) ?_
          refine wq_iinc (pc := 105) [some (vR (t + 10)), some (vI (p : Int)), some (vI (q : Int)), some (vI ((i : Int) + 1)), some (vI ((bindS p q st i) ((q * 8) + i))), some (vI (((p : Int) * 8) + (i : Int)))] dX0_bind_105 rfl rfl (by decide) rfl ?_
          refine wp_goto (pc := 108) 36 dX0_bind_108 (by decide) ?_
          have e1 : bindS p q st (i + 1) = setF (bindS p q st i) (p * 8 + i) (bindS p q st i (q * 8 + i) + 1) := bindS_pos (by omega)
          refine wp_none 4 [some (vR (t + 10)), some (vI (p : Int)), some (vI (q : Int)), some (vI ((i : Int) + 1)), none, some (vI (((p : Int) * 8) + (i : Int)))] rfl ?_
          refine wp_none 5 [some (vR (t + 10)), some (vI (p : Int)), some (vI (q : Int)), some (vI ((i : Int) + 1)), none, none] rfl ?_
          refine wp_eqI (I' := upc (upc I (t + 14) kn) (t + 15) (bindS p q st (i + 1))) (by rw [e1]; exact nrm_b) ?_
          exact wp_eqls (ls' := [some (vR (t + 10)), some (vI (p : Int)), some (vI (q : Int)), some (vI (((i + 1) : Nat) : Int)), none, none]) rfl ih
        · refine wp_iload (pc := 80) dX0_bind_80 rfl ?_
          refine wp_iconst (pc := 82) dX0_bind_82 ?_
          refine wp_iadd (pc := 83) dX0_bind_83 ?_
          refine wp_aload_n (pc := 84) 0 dX0_bind_84 rfl rfl ?_
          refine wp_getr (pc := 85) dX0_bind_85 rfl f_X0_24 (tk_10 ht) (tl_10 ht) rfl (tr_10_4 D ht) ?_
          refine wp_iload (pc := 88) dX0_bind_88 rfl ?_
          refine wq_iald (pc := 90) ((p * 8) + i) dX0_bind_90 (tk_15 ht) (tl_15 ht) (by omega) (by omega) ?_
          refine wp_eqst (st' := [vI ((bindS p q st i) ((p * 8) + i)), vI (((bindS p q st i) ((q * 8) + i)) + 1)]) (by rw [upc_s]) ?_
          refine wp_icmp_ge (pc := 91) 105 dX0_bind_91 (by decide) (by omega) (by omega) (fun h_4 => ?_) (fun h_4 => ?_)
          · refine wq_iinc (pc := 105) [some (vR (t + 10)), some (vI (p : Int)), some (vI (q : Int)), some (vI ((i : Int) + 1)), some (vI ((bindS p q st i) ((q * 8) + i))), some (vI (((p : Int) * 8) + (i : Int)))] dX0_bind_105 rfl rfl (by decide) rfl ?_
            refine wp_goto (pc := 108) 36 dX0_bind_108 (by decide) ?_
            have e1 : bindS p q st (i + 1) = bindS p q st i := bindS_neg (by omega)
            refine wp_none 4 [some (vR (t + 10)), some (vI (p : Int)), some (vI (q : Int)), some (vI ((i : Int) + 1)), none, some (vI (((p : Int) * 8) + (i : Int)))] rfl ?_
            refine wp_none 5 [some (vR (t + 10)), some (vI (p : Int)), some (vI (q : Int)), some (vI ((i : Int) + 1)), none, none] rfl ?_
            refine wp_eqI (I' := upc (upc I (t + 14) kn) (t + 15) (bindS p q st (i + 1))) (by rw [e1]) ?_
            exact wp_eqls (ls' := [some (vR (t + 10)), some (vI (p : Int)), some (vI (q : Int)), some (vI (((i + 1) : Nat) : Int)), none, none]) rfl ih
          · refine wp_aload_n (pc := 94) 0 dX0_bind_94 rfl rfl ?_
            refine wp_getr (pc := 95) dX0_bind_95 rfl f_X0_24 (tk_10 ht) (tl_10 ht) rfl (tr_10_4 D ht) ?_
            refine wp_iload (pc := 98) dX0_bind_98 rfl ?_
            refine wp_iload (pc := 100) dX0_bind_100 rfl ?_
            refine wp_iconst (pc := 102) dX0_bind_102 ?_
            refine wp_iadd (pc := 103) dX0_bind_103 ?_
            refine wq_iast (pc := 104) ((p * 8) + i) dX0_bind_104 (tk_15 ht) (tl_15 ht) (by omega) (by omega) ?_
            refine wq_iinc (pc := 105) [some (vR (t + 10)), some (vI (p : Int)), some (vI (q : Int)), some (vI ((i : Int) + 1)), some (vI ((bindS p q st i) ((q * 8) + i))), some (vI (((p : Int) * 8) + (i : Int)))] dX0_bind_105 rfl rfl (by decide) rfl ?_
            refine wp_goto (pc := 108) 36 dX0_bind_108 (by decide) ?_
            have e1 : bindS p q st (i + 1) = setF (bindS p q st i) (p * 8 + i) (bindS p q st i (q * 8 + i) + 1) := bindS_pos (by omega)
            refine wp_none 4 [some (vR (t + 10)), some (vI (p : Int)), some (vI (q : Int)), some (vI ((i : Int) + 1)), none, some (vI (((p : Int) * 8) + (i : Int)))] rfl ?_
            refine wp_none 5 [some (vR (t + 10)), some (vI (p : Int)), some (vI (q : Int)), some (vI ((i : Int) + 1)), none, none] rfl ?_
            refine wp_eqI (I' := upc (upc I (t + 14) kn) (t + 15) (bindS p q st (i + 1))) (by rw [e1]; exact nrm_b) ?_
            exact wp_eqls (ls' := [some (vR (t + 10)), some (vI (p : Int)), some (vI (q : Int)), some (vI (((i + 1) : Nat) : Int)), none, none]) rfl ih

theorem sp_bind {l : Launch} {G : mG} {d : Nat} {I : mI} {L : Nat → Nat → Int} {D : Nat → Nat} {Q : mQ} {t : Nat} {kn st : Nat → Int} {q : Int} (p : Nat) {p_ : Int} (hp_ : p_ = (p : Int)) (ht : isT t) (hp : p < 8) (hq : inR q) (hkn : knB kn) (hst : stB st) (hd : 0 ≤ d) (hQ : Q none (upc (upc I (t + 14) (bindF p q (kn, st)).1) (t + 15) (bindF p q (kn, st)).2) (XX L D)) : WP l G m_X0_bind d 153 (upc (upc I (t + 14) kn) (t + 15) st) (XX L D) 0 [some (vR (t + 10)), some (vI p_), some (vI q), none, none, none] [] Q := by
  subst hp_
  have g2 : t = 1 ∨ t = 21 := ht
  have k0 := hkn p
  refine wp_iload_n (pc := 0) 2 dX0_bind_0 rfl rfl ?_
  refine wp_if_lt (pc := 1) 9 dX0_bind_1 (by decide) (by omega) (fun h_1 => ?_) (fun h_1 => ?_)
  · refine wp_vret (pc := 9) dX0_bind_9 rfl rfl ?_
    have e1 : bindF p q (kn, st) = (kn, st) := if_neg (by omega)
    rw [e1] at hQ; exact hQ
  · refine wp_iload_n (pc := 4) 2 dX0_bind_4 rfl rfl ?_
    refine wp_iload_n (pc := 5) 1 dX0_bind_5 rfl rfl ?_
    refine wp_icmp_lt (pc := 6) 10 dX0_bind_6 (by decide) (by omega) (by omega) (fun h_2 => ?_) (fun h_2 => ?_)
    · refine wp_aload_n (pc := 10) 0 dX0_bind_10 rfl rfl ?_
      refine wp_getr (pc := 11) dX0_bind_11 rfl f_X0_21 (tk_10 ht) (tl_10 ht) rfl (tr_10_3 D ht) ?_
      refine wp_iload_n (pc := 14) 1 dX0_bind_14 rfl rfl ?_
      refine wp_dup2 (pc := 15) dX0_bind_15 rfl rfl ?_
      refine wq_iald (pc := 16) p dX0_bind_16 (tk_14 ht) (tl_14 ht) rfl (by omega) ?_
      refine wp_eqst (st' := [vI (kn p), vI (p : Int), vR (t + 14)]) (by rw [upc_c (by omega), upc_s]) ?_
      refine wp_iconst (pc := 17) dX0_bind_17 ?_
      refine wp_iload_n (pc := 18) 2 dX0_bind_18 rfl rfl ?_
      refine wn_shl1 (pc := 19) q.toNat dX0_bind_19 (by omega) (by omega) ?_
      refine wn_or (pc := 20) (Int.toNat (kn p)) (2 ^ q.toNat) dX0_bind_20 (by omega) rfl ?_
      refine wq_iast (pc := 21) p dX0_bind_21 (tk_14 ht) (tl_14 ht) rfl (by omega) ?_
      refine wp_eqI (I' := upc (upc I (t + 14) (setF kn p (((Int.toNat (kn p)) ||| (2 ^ q.toNat) : Nat) : Int))) (t + 15) st) (nrm_a (by omega)) ?_
      have k1 := (knB_or hkn (q := q.toNat) (p := p) (by omega) _ (hkn p)) q.toNat
      refine wp_aload_n (pc := 22) 0 dX0_bind_22 rfl rfl ?_
      refine wp_getr (pc := 23) dX0_bind_23 rfl f_X0_21 (tk_10 ht) (tl_10 ht) rfl (tr_10_3 D ht) ?_
      refine wp_iload_n (pc := 26) 2 dX0_bind_26 rfl rfl ?_
      refine wp_dup2 (pc := 27) dX0_bind_27 rfl rfl ?_
      refine wq_iald (pc := 28) q.toNat dX0_bind_28 (tk_14 ht) (tl_14 ht) (by omega) (by omega) ?_
      refine wp_eqst (st' := [vI ((setF kn p (((Int.toNat (kn p)) ||| (2 ^ q.toNat) : Nat) : Int)) q.toNat), vI q, vR (t + 14)]) (by rw [upc_c (by omega), upc_s]) ?_
      refine wp_iconst (pc := 29) dX0_bind_29 ?_
      refine wp_iload_n (pc := 30) 1 dX0_bind_30 rfl rfl ?_
      refine wn_shl1 (pc := 31) p dX0_bind_31 rfl (by omega) ?_
      refine wn_or (pc := 32) (Int.toNat ((setF kn p (((Int.toNat (kn p)) ||| (2 ^ q.toNat) : Nat) : Int)) q.toNat)) (2 ^ p) dX0_bind_32 (by omega) rfl ?_
      refine wq_iast (pc := 33) q.toNat dX0_bind_33 (tk_14 ht) (tl_14 ht) (by omega) (by omega) ?_
      refine wp_eqI (I' := upc (upc I (t + 14) (bindK p q.toNat kn)) (t + 15) st) (nrm_a (by omega)) ?_
      refine wp_iconst (pc := 34) dX0_bind_34 ?_
      refine wq_istore_n (pc := 35) 3 [some (vR (t + 10)), some (vI (p : Int)), some (vI q), some (vI 0), none, none] dX0_bind_35 rfl rfl (by decide) rfl ?_
      have e1 : bindF p q (kn, st) = (bindK p q.toNat kn, bindS p q.toNat st 8) := if_pos (by omega)
      rw [e1] at hQ
      have e2 := @lp_bind l G d I L D Q t p q.toNat (bindK p q.toNat kn) st ht hp (by omega) hst (by omega) hQ 0 (Nat.zero_le _)
      rw [show ((q.toNat : Nat) : Int) = q from by omega] at e2
      exact e2
    · refine wp_vret (pc := 9) dX0_bind_9 rfl rfl ?_
      have e1 : bindF p q (kn, st) = (kn, st) := if_neg (by omega)
      rw [e1] at hQ; exact hQ

theorem lp_few {l : Launch} {G : mG} {d : Nat} {I : mI} {L : Nat → Nat → Int} {D : Nat → Nat} {Q : mQ} {t a b : Nat} (ht : isT t) (ha : a < 8) (hb : b < 8) (hst : stB (I (t + 15))) (hd : 0 ≤ d) (hQ : Q (some (vI (fewN (I (t + 15)) a b 8))) I (XX L D)) : ∀ i : Nat, i ≤ 8 → WP l G m_X0_fewestSteps d 153 I (XX L D) 5 [some (vR (t + 10)), some (vI (a : Int)), some (vI (b : Int)), some (vI (fewN (I (t + 15)) a b i)), some (vI (i : Int)), none, none] [] Q := by
  refine loop_dn (fun i => WP l G m_X0_fewestSteps d 153 I (XX L D) 5 [some (vR (t + 10)), some (vI (a : Int)), some (vI (b : Int)), some (vI (fewN (I (t + 15)) a b i)), some (vI (i : Int)), none, none] [] Q) 8 ?_ (fun i hi ih => ?_)
  · refine wp_iload (pc := 5) dX0_fewestSteps_5 rfl ?_
    refine wp_bipush (pc := 7) dX0_fewestSteps_7 (by decide) ?_
    refine wp_icmp_ge (pc := 9) 78 dX0_fewestSteps_9 (by decide) (by decide) (by decide) (fun _ => ?_) (fun hh => absurd hh (by decide))
    refine wp_iload_n (pc := 78) 3 dX0_fewestSteps_78 rfl rfl ?_
    refine wp_iret (pc := 79) dX0_fewestSteps_79 rfl rfl ?_
    exact hQ
  · have b1 := (hst (a * 8 + i)).1
    have b2 := (hst (b * 8 + i)).1
    have b3 := fewN_in hst a b i
    refine wp_iload (pc := 5) dX0_fewestSteps_5 rfl ?_
    refine wp_bipush (pc := 7) dX0_fewestSteps_7 (by decide) ?_
    refine wp_icmp_ge (pc := 9) 78 dX0_fewestSteps_9 (by decide) (by omega) (by decide) (fun h_1 => ?_) (fun h_1 => ?_)
    · exfalso; omega
    · refine wp_aload_n (pc := 12) 0 dX0_fewestSteps_12 rfl rfl ?_
      refine wp_getr (pc := 13) dX0_fewestSteps_13 rfl f_X0_24 (tk_10 ht) (tl_10 ht) rfl (tr_10_4 D ht) ?_
      refine wp_iload_n (pc := 16) 1 dX0_fewestSteps_16 rfl rfl ?_
      refine wp_bipush (pc := 17) dX0_fewestSteps_17 (by decide) ?_
      refine wp_imul (pc := 19) dX0_fewestSteps_19 ?_
      refine wp_iload (pc := 20) dX0_fewestSteps_20 rfl ?_
      refine wp_iadd (pc := 22) dX0_fewestSteps_22 ?_
      refine wq_iald (pc := 23) ((a * 8) + i) dX0_fewestSteps_23 (tk_15 ht) (tl_15 ht) (by omega) (by omega) ?_
      refine wq_istore (pc := 24) [some (vR (t + 10)), some (vI (a : Int)), some (vI (b : Int)), some (vI (fewN (I (t + 15)) a b i)), some (vI (i : Int)), some (vI (I (t + 15) ((a * 8) + i))), none] dX0_fewestSteps_24 rfl (by decide) rfl ?_
      refine wp_aload_n (pc := 26) 0 dX0_fewestSteps_26 rfl rfl ?_
      refine wp_getr (pc := 27) dX0_fewestSteps_27 rfl f_X0_24 (tk_10 ht) (tl_10 ht) rfl (tr_10_4 D ht) ?_
      refine wp_iload_n (pc := 30) 2 dX0_fewestSteps_30 rfl rfl ?_
      refine wp_bipush (pc := 31) dX0_fewestSteps_31 (by decide) ?_
      refine wp_imul (pc := 33) dX0_fewestSteps_33 ?_
      refine wp_iload (pc := 34) dX0_fewestSteps_34 rfl ?_
      refine wp_iadd (pc := 36) dX0_fewestSteps_36 ?_
      refine wq_iald (pc := 37) ((b * 8) + i) dX0_fewestSteps_37 (tk_15 ht) (tl_15 ht) (by omega) (by omega) ?_
      refine wq_istore (pc := 38) [some (vR (t + 10)), some (vI (a : Int)), some (vI (b : Int)), some (vI (fewN (I (t + 15)) a b i)), some (vI (i : Int)), some (vI (I (t + 15) ((a * 8) + i))), some (vI (I (t + 15) ((b * 8) + i)))] dX0_fewestSteps_38 rfl (by decide) rfl ?_
      refine wp_iload (pc := 40) dX0_fewestSteps_40 rfl ?_
      refine wp_iconst (pc := 42) dX0_fewestSteps_42 ?_
      refine wp_icmp_eq (pc := 43) 72 dX0_fewestSteps_43 (by decide) (by omega) (by decide) (fun h_2 => ?_) (fun h_2 => ?_)
      · refine wq_iinc (pc := 72) [some (vR (t + 10)), some (vI (a : Int)), some (vI (b : Int)), some (vI (fewN (I (t + 15)) a b i)), some (vI ((i : Int) + 1)), some (vI (I (t + 15) ((a * 8) + i))), some (vI (I (t + 15) ((b * 8) + i)))] dX0_fewestSteps_72 rfl rfl (by decide) rfl ?_
        refine wp_goto (pc := 75) 5 dX0_fewestSteps_75 (by decide) ?_
        refine wp_none 5 [some (vR (t + 10)), some (vI (a : Int)), some (vI (b : Int)), some (vI (fewN (I (t + 15)) a b i)), some (vI ((i : Int) + 1)), none, some (vI (I (t + 15) ((b * 8) + i)))] rfl ?_
        refine wp_none 6 [some (vR (t + 10)), some (vI (a : Int)), some (vI (b : Int)), some (vI (fewN (I (t + 15)) a b i)), some (vI ((i : Int) + 1)), none, none] rfl ?_
        refine wp_eqls (ls' := [some (vR (t + 10)), some (vI (a : Int)), some (vI (b : Int)), some (vI (fewN (I (t + 15)) a b (i + 1))), some (vI (((i + 1) : Nat) : Int)), none, none]) (by rw [show fewN (I (t + 15)) a b (i + 1) = fewN (I (t + 15)) a b i from if_neg (by omega)]; rfl) ih
      · refine wp_iload (pc := 46) dX0_fewestSteps_46 rfl ?_
        refine wp_iconst (pc := 48) dX0_fewestSteps_48 ?_
        refine wp_icmp_eq (pc := 49) 72 dX0_fewestSteps_49 (by decide) (by omega) (by decide) (fun h_3 => ?_) (fun h_3 => ?_)
        · refine wq_iinc (pc := 72) [some (vR (t + 10)), some (vI (a : Int)), some (vI (b : Int)), some (vI (fewN (I (t + 15)) a b i)), some (vI ((i : Int) + 1)), some (vI (I (t + 15) ((a * 8) + i))), some (vI (I (t + 15) ((b * 8) + i)))] dX0_fewestSteps_72 rfl rfl (by decide) rfl ?_
          refine wp_goto (pc := 75) 5 dX0_fewestSteps_75 (by decide) ?_
          refine wp_none 5 [some (vR (t + 10)), some (vI (a : Int)), some (vI (b : Int)), some (vI (fewN (I (t + 15)) a b i)), some (vI ((i : Int) + 1)), none, some (vI (I (t + 15) ((b * 8) + i)))] rfl ?_
          refine wp_none 6 [some (vR (t + 10)), some (vI (a : Int)), some (vI (b : Int)), some (vI (fewN (I (t + 15)) a b i)), some (vI ((i : Int) + 1)), none, none] rfl ?_
          refine wp_eqls (ls' := [some (vR (t + 10)), some (vI (a : Int)), some (vI (b : Int)), some (vI (fewN (I (t + 15)) a b (i + 1))), some (vI (((i + 1) : Nat) : Int)), none, none]) (by rw [show fewN (I (t + 15)) a b (i + 1) = fewN (I (t + 15)) a b i from if_neg (by omega)]; rfl) ih
        · refine wp_iload_n (pc := 52) 3 dX0_fewestSteps_52 rfl rfl ?_
          refine wp_iconst (pc := 53) dX0_fewestSteps_53 ?_
          refine wp_icmp_eq (pc := 54) 66 dX0_fewestSteps_54 (by decide) (by omega) (by decide) (fun h_4 => ?_) (fun h_4 => ?_)
          · refine wp_iload (pc := 66) dX0_fewestSteps_66 rfl ?_
            refine wp_iload (pc := 68) dX0_fewestSteps_68 rfl ?_
            refine wp_iadd (pc := 70) dX0_fewestSteps_70 ?_
            refine wq_istore_n (pc := 71) 3 [some (vR (t + 10)), some (vI (a : Int)), some (vI (b : Int)), some (vI ((I (t + 15) ((a * 8) + i)) + (I (t + 15) ((b * 8) + i)))), some (vI (i : Int)), some (vI (I (t + 15) ((a * 8) + i))), some (vI (I (t + 15) ((b * 8) + i)))] dX0_fewestSteps_71 rfl rfl (by decide) rfl ?_
            refine wq_iinc (pc := 72) [some (vR (t + 10)), some (vI (a : Int)), some (vI (b : Int)), some (vI ((I (t + 15) ((a * 8) + i)) + (I (t + 15) ((b * 8) + i)))), some (vI ((i : Int) + 1)), some (vI (I (t + 15) ((a * 8) + i))), some (vI (I (t + 15) ((b * 8) + i)))] dX0_fewestSteps_72 rfl rfl (by decide) rfl ?_
            refine wp_goto (pc := 75) 5 dX0_fewestSteps_75 (by decide) ?_
            refine wp_none 5 [some (vR (t + 10)), some (vI (a : Int)), some (vI (b : Int)), some (vI ((I (t + 15) ((a * 8) + i)) + (I (t + 15) ((b * 8) + i)))), some (vI ((i : Int) + 1)), none, some (vI (I (t + 15) ((b * 8) + i)))] rfl ?_
            refine wp_none 6 [some (vR (t + 10)), some (vI (a : Int)), some (vI (b : Int)), some (vI ((I (t + 15) ((a * 8) + i)) + (I (t + 15) ((b * 8) + i)))), some (vI ((i : Int) + 1)), none, none] rfl ?_
            refine wp_eqls (ls' := [some (vR (t + 10)), some (vI (a : Int)), some (vI (b : Int)), some (vI (fewN (I (t + 15)) a b (i + 1))), some (vI (((i + 1) : Nat) : Int)), none, none]) (by rw [show fewN (I (t + 15)) a b (i + 1) = (I (t + 15) ((a * 8) + i)) + (I (t + 15) ((b * 8) + i)) from if_pos (by omega)]; rfl) ih
          · refine wp_iload (pc := 57) dX0_fewestSteps_57 rfl ?_
            refine wp_iload (pc := 59) dX0_fewestSteps_59 rfl ?_
            refine wp_iadd (pc := 61) dX0_fewestSteps_61 ?_
            refine wp_iload_n (pc := 62) 3 dX0_fewestSteps_62 rfl rfl ?_
            refine wp_icmp_ge (pc := 63) 72 dX0_fewestSteps_63 (by decide) (by omega) (by omega) (fun h_5 => ?_) (fun h_5 => ?_)
            · refine wq_iinc (pc := 72) [some (vR (t + 10)), some (vI (a : Int)), some (vI (b : Int)), some (vI (fewN (I (t + 15)) a b i)), some (vI ((i : Int) + 1)), some (vI (I (t + 15) ((a * 8) + i))), some (vI (I (t + 15) ((b * 8) + i)))] dX0_fewestSteps_72 rfl rfl (by decide) rfl ?_
              refine wp_goto (pc := 75) 5 dX0_fewestSteps_75 (by decide) ?_
              refine wp_none 5 [some (vR (t + 10)), some (vI (a : Int)), some (vI (b : Int)), some (vI (fewN (I (t + 15)) a b i)), some (vI ((i : Int) + 1)), none, some (vI (I (t + 15) ((b * 8) + i)))] rfl ?_
              refine wp_none 6 [some (vR (t + 10)), some (vI (a : Int)), some (vI (b : Int)), some (vI (fewN (I (t + 15)) a b i)), some (vI ((i : Int) + 1)), none, none] rfl ?_
              refine wp_eqls (ls' := [some (vR (t + 10)), some (vI (a : Int)), some (vI (b : Int)), some (vI (fewN (I (t + 15)) a b (i + 1))), some (vI (((i + 1) : Nat) : Int)), none, none]) (by rw [show fewN (I (t + 15)) a b (i + 1) = fewN (I (t + 15)) a b i from if_neg (by omega)]; rfl) ih
            · refine wp_iload (pc := 66) dX0_fewestSteps_66 rfl ?_
              refine wp_iload (pc := 68) dX0_fewestSteps_68 rfl ?_
              refine wp_iadd (pc := 70) dX0_fewestSteps_70 ?_
              refine wq_istore_n (pc := 71) 3 [some (vR (t + 10)), some (vI (a : Int)), some (vI (b : Int)), some (vI ((I (t + 15) ((a * 8) + i)) + (I (t + 15) ((b * 8) + i)))), some (vI (i : Int)), some (vI (I (t + 15) ((a * 8) + i))), some (vI (I (t + 15) ((b * 8) + i)))] dX0_fewestSteps_71 rfl rfl (by decide) rfl ?_
              refine wq_iinc (pc := 72) [some (vR (t + 10)), some (vI (a : Int)), some (vI (b : Int)), some (vI ((I (t + 15) ((a * 8) + i)) + (I (t + 15) ((b * 8) + i)))), some (vI ((i : Int) + 1)), some (vI (I (t + 15) ((a * 8) + i))), some (vI (I (t + 15) ((b * 8) + i)))] dX0_fewestSteps_72 rfl rfl (by decide) rfl ?_
              refine wp_goto (pc := 75) 5 dX0_fewestSteps_75 (by decide) ?_
              refine wp_none 5 [some (vR (t + 10)), some (vI (a : Int)), some (vI (b : Int)), some (vI ((I (t + 15) ((a * 8) + i)) + (I (t + 15) ((b * 8) + i)))), some (vI ((i : Int) + 1)), none, some (vI (I (t + 15) ((b * 8) + i)))] rfl ?_
              refine wp_none 6 [some (vR (t + 10)), some (vI (a : Int)), some (vI (b : Int)), some (vI ((I (t + 15) ((a * 8) + i)) + (I (t + 15) ((b * 8) + i)))), some (vI ((i : Int) + 1)), none, none] rfl ?_
              refine wp_eqls (ls' := [some (vR (t + 10)), some (vI (a : Int)), some (vI (b : Int)), some (vI (fewN (I (t + 15)) a b (i + 1))), some (vI (((i + 1) : Nat) : Int)), none, none]) (by rw [show fewN (I (t + 15)) a b (i + 1) = (I (t + 15) ((a * 8) + i)) + (I (t + 15) ((b * 8) + i)) from if_pos (by omega)]; rfl) ih

theorem sp_few {l : Launch} {G : mG} {d : Nat} {I : mI} {L : Nat → Nat → Int} {D : Nat → Nat} {Q : mQ} {t : Nat} {st : Nat → Int} (a : Nat) {a_ : Int} (ha_ : a_ = (a : Int)) (b : Nat) {b_ : Int} (hb_ : b_ = (b : Int)) (ht : isT t) (ha : a < 8) (hb : b < 8) (hr : I (t + 15) = st) (hst : stB st) (hd : 0 ≤ d) (hQ : Q (some (vI (fewN st a b 8))) I (XX L D)) : WP l G m_X0_fewestSteps d 153 I (XX L D) 0 [some (vR (t + 10)), some (vI a_), some (vI b_), none, none, none, none] [] Q := by
  subst ha_
  subst hb_
  subst hr
  refine wp_iconst (pc := 0) dX0_fewestSteps_0 ?_
  refine wq_istore_n (pc := 1) 3 [some (vR (t + 10)), some (vI (a : Int)), some (vI (b : Int)), some (vI (-1)), none, none, none] dX0_fewestSteps_1 rfl rfl (by decide) rfl ?_
  refine wp_iconst (pc := 2) dX0_fewestSteps_2 ?_
  refine wq_istore (pc := 3) [some (vR (t + 10)), some (vI (a : Int)), some (vI (b : Int)), some (vI (-1)), some (vI 0), none, none] dX0_fewestSteps_3 rfl (by decide) rfl ?_
  exact lp_few ht ha hb hst hd hQ 0 (Nat.zero_le _)

theorem lp_cl_in {l : Launch} {G : mG} {d : Nat} {I : mI} {L : Nat → Nat → Int} {D : Nat → Nat} {Q : mQ} {t n a : Nat} (ht : isT t) (hst : stB (I (t + 15))) (ha : a < 8) (hd : 1 ≤ d) (hN : WP l G m_X0_close d 153 (upc I (t + 16) (degT (I (t + 15)) (I (t + 16)) ((a + 1) * 8))) (XX L D) 72 [some (vR (t + 10)), some (vI (n : Int)), some (vI (((a + 1) : Nat) : Int)), none] [] Q) : ∀ i : Nat, i ≤ 8 → WP l G m_X0_close d 153 (upc I (t + 16) (degT (I (t + 15)) (I (t + 16)) (a * 8 + i))) (XX L D) 80 [some (vR (t + 10)), some (vI (n : Int)), some (vI (a : Int)), some (vI (i : Int))] [] Q := by
  have g2 : t = 1 ∨ t = 21 := ht
  refine loop_dn (fun i => WP l G m_X0_close d 153 (upc I (t + 16) (degT (I (t + 15)) (I (t + 16)) (a * 8 + i))) (XX L D) 80 [some (vR (t + 10)), some (vI (n : Int)), some (vI (a : Int)), some (vI (i : Int))] [] Q) 8 ?_ (fun i hi ih => ?_)
  · refine wp_iload_n (pc := 80) 3 dX0_close_80 rfl rfl ?_
    refine wp_bipush (pc := 81) dX0_close_81 (by decide) ?_
    refine wp_icmp_ge (pc := 83) 109 dX0_close_83 (by decide) (by decide) (by decide) (fun _ => ?_) (fun hh => absurd hh (by decide))
    refine wq_iinc (pc := 109) [some (vR (t + 10)), some (vI (n : Int)), some (vI ((a : Int) + 1)), some (vI 8)] dX0_close_109 rfl rfl (by decide) rfl ?_
    refine wp_goto (pc := 112) 72 dX0_close_112 (by decide) ?_
    refine wp_none 3 [some (vR (t + 10)), some (vI (n : Int)), some (vI ((a : Int) + 1)), none] rfl ?_
    refine wp_eqI (I' := upc I (t + 16) (degT (I (t + 15)) (I (t + 16)) ((a + 1) * 8))) (by rw [show a * 8 + 8 = (a + 1) * 8 by omega]) hN
  · refine wp_iload_n (pc := 80) 3 dX0_close_80 rfl rfl ?_
    refine wp_bipush (pc := 81) dX0_close_81 (by decide) ?_
    refine wp_icmp_ge (pc := 83) 109 dX0_close_83 (by decide) (by omega) (by decide) (fun h_1 => ?_) (fun h_1 => ?_)
    · exfalso; omega
    · refine wp_aload_n (pc := 86) 0 dX0_close_86 rfl rfl ?_
      refine wp_getr (pc := 87) dX0_close_87 rfl f_X0_27 (tk_10 ht) (tl_10 ht) rfl (tr_10_5 D ht) ?_
      refine wp_iload_n (pc := 90) 2 dX0_close_90 rfl rfl ?_
      refine wp_bipush (pc := 91) dX0_close_91 (by decide) ?_
      refine wp_imul (pc := 93) dX0_close_93 ?_
      refine wp_iload_n (pc := 94) 3 dX0_close_94 rfl rfl ?_
      refine wp_iadd (pc := 95) dX0_close_95 ?_
      refine wp_aload_n (pc := 96) 0 dX0_close_96 rfl rfl ?_
      refine wp_iload_n (pc := 97) 2 dX0_close_97 rfl rfl ?_
      refine wp_iload_n (pc := 98) 3 dX0_close_98 rfl rfl ?_
      refine wp_callV (pc := 99) (st := [vI (((a : Int) * 8) + (i : Int)), vR (t + 16)]) (nf' := 153) [vI (a : Int), vI (i : Int)] [some (vR (t + 10)), some (vI (a : Int)), some (vI (i : Int)), none, none, none, none] dX0_close_99 rfl c_X0_46 rfl (tk_10 ht) (by decide) rfl (tl_10 ht) rfl (Nat.le_of_ble_eq_true rfl) rfl (Nat.le_of_ble_eq_true rfl) (by omega) (Nat.le_refl _) (Nat.le_refl _) ?_
      refine sp_few a rfl i rfl (st := I (t + 15)) ht (by omega) (by omega) (funext fun j => upc_c (by omega)) hst (by omega) ?_
      refine wp_eqst (st' := [vI (fewN (I (t + 15)) a i 8), vI (((a : Int) * 8) + (i : Int)), vR (t + 16)]) rfl ?_
      refine wq_iast (pc := 102) ((a * 8) + i) dX0_close_102 (tk_16 ht) (tl_16 ht) (by omega) (by omega) ?_
      refine wq_iinc (pc := 103) [some (vR (t + 10)), some (vI (n : Int)), some (vI (a : Int)), some (vI ((i : Int) + 1))] dX0_close_103 rfl rfl (by decide) rfl ?_
      refine wp_goto (pc := 106) 80 dX0_close_106 (by decide) ?_
      refine wp_eqI (I' := upc I (t + 16) (degT (I (t + 15)) (I (t + 16)) (a * 8 + (i + 1)))) (by rw [nrm_b, degT_s _ _ _ _ (by omega)]) ?_
      exact wp_eqls (ls' := [some (vR (t + 10)), some (vI (n : Int)), some (vI (a : Int)), some (vI (((i + 1) : Nat) : Int))]) rfl ih

theorem lp_cl_out {l : Launch} {G : mG} {d : Nat} {I : mI} {L : Nat → Nat → Int} {D : Nat → Nat} {Q : mQ} {t n : Nat} (ht : isT t) (hst : stB (I (t + 15))) (hd : 1 ≤ d) (hQ : Q none (upc I (t + 16) (degT (I (t + 15)) (I (t + 16)) 64)) (XX L D)) : ∀ i : Nat, i ≤ 8 → WP l G m_X0_close d 153 (upc I (t + 16) (degT (I (t + 15)) (I (t + 16)) (i * 8))) (XX L D) 72 [some (vR (t + 10)), some (vI (n : Int)), some (vI (i : Int)), none] [] Q := by
  have g2 : t = 1 ∨ t = 21 := ht
  refine loop_dn (fun i => WP l G m_X0_close d 153 (upc I (t + 16) (degT (I (t + 15)) (I (t + 16)) (i * 8))) (XX L D) 72 [some (vR (t + 10)), some (vI (n : Int)), some (vI (i : Int)), none] [] Q) 8 ?_ (fun i hi ih => ?_)
  · refine wp_iload_n (pc := 72) 2 dX0_close_72 rfl rfl ?_
    refine wp_bipush (pc := 73) dX0_close_73 (by decide) ?_
    refine wp_icmp_ge (pc := 75) 115 dX0_close_75 (by decide) (by decide) (by decide) (fun _ => ?_) (fun hh => absurd hh (by decide))
    refine wp_vret (pc := 115) dX0_close_115 rfl rfl ?_
    exact hQ
  · refine wp_iload_n (pc := 72) 2 dX0_close_72 rfl rfl ?_
    refine wp_bipush (pc := 73) dX0_close_73 (by decide) ?_
    refine wp_icmp_ge (pc := 75) 115 dX0_close_75 (by decide) (by omega) (by decide) (fun h_1 => ?_) (fun h_1 => ?_)
    · exfalso; omega
    · refine wp_iconst (pc := 78) dX0_close_78 ?_
      refine wq_istore_n (pc := 79) 3 [some (vR (t + 10)), some (vI (n : Int)), some (vI (i : Int)), some (vI 0)] dX0_close_79 rfl rfl (by decide) rfl ?_
      refine wp_eqI (I' := upc I (t + 16) (degT (I (t + 15)) (I (t + 16)) (i * 8 + 0))) rfl ?_
      exact lp_cl_in ht hst hi hd ih 0 (Nat.zero_le _)

theorem close_0 {I : mI} {t : Nat} {T : mT} (hT : TT I t = T) : cpy (upc I (t + 15) (fun j => if j < 64 then (-1) else I (t + 15) j)) (t + 13) (t + 14) 0 0 8 = upc (upc I (t + 14) (closeN T 0).1) (t + 15) (closeN T 0).2 := by
  have e3 : ∀ k j, k < 19 → I (t + k) j = T k j := fun k j hk => by
    rw [← hT]
    exact (if_pos hk).symm
  funext b j
  show (if b = t + 14 ∧ 0 ≤ j ∧ j < 0 + 8 then upc I (t + 15) _ (t + 13) (0 + (j - 0)) else upc I (t + 15) _ b j) = _
  by_cases e : b = t + 14
  · subst e
    rw [upc_c (by omega), upc_c (by omega), upc_c (b := t + 14) (by omega), upc_s]
    show _ = if j < 8 then T 13 j else T 14 j
    by_cases e2 : j < 8
    · rw [if_pos ⟨rfl, by omega, by omega⟩, if_pos e2, ← e3 13 _ (by decide), Nat.zero_add, Nat.sub_zero]
    · rw [if_neg (by omega), if_neg e2, ← e3 14 _ (by decide)]
  · rw [if_neg (fun x => e x.1)]
    by_cases e2 : b = t + 15
    · subst e2
      rw [upc_s, upc_s]
      show _ = if j < 64 then -1 else T 15 j
      rw [← e3 15 _ (by decide)]
    · rw [upc_c e2, upc_c e2, upc_c e]
theorem closeT_TT {I : mI} {t : Nat} {T : mT} (hT : TT I t = T) : TT (upc (upc (upc I (t + 14) (closeN T (nP T)).1) (t + 15) (closeN T (nP T)).2) (t + 16) (degT (closeN T (nP T)).2 (T 16) 64)) t = closeT T := by
  rw [show closeT T = closeT (TT I t) by rw [hT]]
  rw [show closeN T = closeN (TT I t) by rw [hT], show nP T = nP (TT I t) by rw [hT]]
  funext k j
  unfold closeT
  show (if k < 19 then _ else 0) = _
  by_cases h16 : k = 16
  · subst h16
    rw [if_pos (by decide), upc_s, if_neg (by decide), if_neg (by decide), if_pos rfl, hT]
  by_cases h15 : k = 15
  · subst h15
    rw [if_pos (by decide), upc_c (by omega), upc_s, if_neg (by decide), if_pos rfl]
  by_cases h14 : k = 14
  · subst h14
    rw [if_pos (by decide), upc_c (by omega), upc_c (by omega), upc_s, if_pos rfl]
  rw [if_neg h14, if_neg h15, if_neg h16]
  by_cases h : k < 19
  · rw [if_pos h, upc_c (by omega), upc_c (by omega), upc_c (by omega)]
    exact (if_pos h).symm
  · rw [if_neg h]
    exact (if_neg h).symm

theorem lp_close {l : Launch} {G : mG} {d : Nat} {I : mI} {L : Nat → Nat → Int} {D : Nat → Nat} {Q : mQ} {t n : Nat} {T : mT} (ht : isT t) (hT : TT I t = T) (hw : tw T) (hn : n ≤ 8) (hd : 1 ≤ d) (hQ : Q none (upc (upc (upc I (t + 14) (closeN T n).1) (t + 15) (closeN T n).2) (t + 16) (degT (closeN T n).2 (T 16) 64)) (XX L D)) : ∀ i : Nat, i ≤ n → WP l G m_X0_close d 153 (upc (upc I (t + 14) (closeN T i).1) (t + 15) (closeN T i).2) (XX L D) 25 [some (vR (t + 10)), some (vI (n : Int)), some (vI (i : Int)), none] [] Q := by
  have g2 : t = 1 ∨ t = 21 := ht
  refine loop_dn (fun i => WP l G m_X0_close d 153 (upc (upc I (t + 14) (closeN T i).1) (t + 15) (closeN T i).2) (XX L D) 25 [some (vR (t + 10)), some (vI (n : Int)), some (vI (i : Int)), none] [] Q) n ?_ (fun i hi ih => ?_)
  · have hk := closeN_ok hw n hn
    refine wp_iload_n (pc := 25) 2 dX0_close_25 rfl rfl ?_
    refine wp_iload_n (pc := 26) 1 dX0_close_26 rfl rfl ?_
    refine wp_icmp_ge (pc := 27) 70 dX0_close_27 (by decide) (by omega) (by omega) (fun h_1 => ?_) (fun h_1 => ?_)
    · refine wp_iconst (pc := 70) dX0_close_70 ?_
      refine wq_istore_n (pc := 71) 2 [some (vR (t + 10)), some (vI (n : Int)), some (vI 0), none] dX0_close_71 rfl rfl (by decide) rfl ?_
      have hr : (upc (upc I (t + 14) (closeN T n).1) (t + 15) (closeN T n).2) (t + 15) = (closeN T n).2 := funext fun j => upc_s
      have hg : (upc (upc I (t + 14) (closeN T n).1) (t + 15) (closeN T n).2) (t + 16) = T 16 := funext fun j => by rw [upc_c (by omega), upc_c (by omega), ← hT]; rfl
      refine wp_eqI (I' := upc (upc (upc I (t + 14) (closeN T n).1) (t + 15) (closeN T n).2) (t + 16) (degT ((upc (upc I (t + 14) (closeN T n).1) (t + 15) (closeN T n).2) (t + 15)) ((upc (upc I (t + 14) (closeN T n).1) (t + 15) (closeN T n).2) (t + 16)) (0 * 8))) ?_ (lp_cl_out ht (by rw [hr]; exact hk.2) (by omega) (by rw [hr, hg]; exact hQ) 0 (Nat.zero_le _))
      rw [show degT _ _ (0 * 8) = _ from funext fun j => if_neg (by omega)]; exact upc_id.symm
    · exfalso; omega
  · have hk := closeN_ok hw i (by omega)
    have b1 := tw_par1 hw i
    have b2 := tw_par2 hw i
    refine wp_iload_n (pc := 25) 2 dX0_close_25 rfl rfl ?_
    refine wp_iload_n (pc := 26) 1 dX0_close_26 rfl rfl ?_
    refine wp_icmp_ge (pc := 27) 70 dX0_close_27 (by decide) (by omega) (by omega) (fun h_1 => ?_) (fun h_1 => ?_)
    · exfalso; omega
    · refine wp_aload_n (pc := 30) 0 dX0_close_30 rfl rfl ?_
      refine wp_getr (pc := 31) dX0_close_31 rfl f_X0_24 (tk_10 ht) (tl_10 ht) rfl (tr_10_4 D ht) ?_
      refine wp_iload_n (pc := 34) 2 dX0_close_34 rfl rfl ?_
      refine wp_bipush (pc := 35) dX0_close_35 (by decide) ?_
      refine wp_imul (pc := 37) dX0_close_37 ?_
      refine wp_iload_n (pc := 38) 2 dX0_close_38 rfl rfl ?_
      refine wp_iadd (pc := 39) dX0_close_39 ?_
      refine wp_iconst (pc := 40) dX0_close_40 ?_
      refine wq_iast (pc := 41) ((i * 8) + i) dX0_close_41 (tk_15 ht) (tl_15 ht) (by omega) (by omega) ?_
      refine wp_eqI (I' := upc (upc I (t + 14) (closeN T i).1) (t + 15) (setF (closeN T i).2 (i * 8 + i) 0)) nrm_b ?_
      refine wp_aload_n (pc := 42) 0 dX0_close_42 rfl rfl ?_
      refine wp_iload_n (pc := 43) 2 dX0_close_43 rfl rfl ?_
      refine wp_aload_n (pc := 44) 0 dX0_close_44 rfl rfl ?_
      refine wp_getr (pc := 45) dX0_close_45 rfl f_X0_9 (tk_10 ht) (tl_10 ht) rfl (tr_10_0 D ht) ?_
      refine wp_iload_n (pc := 48) 2 dX0_close_48 rfl rfl ?_
      refine wq_iald (pc := 49) i dX0_close_49 (tk_11 ht) (tl_11 ht) rfl (by omega) ?_
      refine wp_eqst (st' := [vI (T 11 i), vI (i : Int), vR (t + 10)]) (by rw [upc_c (by omega), upc_c (by omega), ← hT] <;> rfl) ?_
      refine wp_callV (pc := 50) (st := []) (nf' := 153) [vI (i : Int), vI (T 11 i)] [some (vR (t + 10)), some (vI (i : Int)), some (vI (T 11 i)), none, none, none] dX0_close_50 rfl c_X0_42 rfl (tk_10 ht) (by decide) rfl (tl_10 ht) rfl (Nat.le_of_ble_eq_true rfl) rfl (Nat.le_of_ble_eq_true rfl) (by omega) (Nat.le_refl _) (Nat.le_refl _) ?_
      refine sp_bind i rfl (kn := (closeN T i).1) (st := (setF (closeN T i).2 (i * 8 + i) 0)) ht (by omega) (by omega) hk.1 (stB_0 hk.2) (by omega) ?_
      refine wp_eqst (st' := []) rfl ?_
      refine wp_aload_n (pc := 53) 0 dX0_close_53 rfl rfl ?_
      refine wp_iload_n (pc := 54) 2 dX0_close_54 rfl rfl ?_
      refine wp_aload_n (pc := 55) 0 dX0_close_55 rfl rfl ?_
      refine wp_getr (pc := 56) dX0_close_56 rfl f_X0_15 (tk_10 ht) (tl_10 ht) rfl (tr_10_1 D ht) ?_
      refine wp_iload_n (pc := 59) 2 dX0_close_59 rfl rfl ?_
      refine wq_iald (pc := 60) i dX0_close_60 (tk_12 ht) (tl_12 ht) rfl (by omega) ?_
      refine wp_eqst (st' := [vI (T 12 i), vI (i : Int), vR (t + 10)]) (by rw [upc_c (by omega), upc_c (by omega), ← hT] <;> rfl) ?_
      refine wp_callV (pc := 61) (st := []) (nf' := 153) [vI (i : Int), vI (T 12 i)] [some (vR (t + 10)), some (vI (i : Int)), some (vI (T 12 i)), none, none, none] dX0_close_61 rfl c_X0_42 rfl (tk_10 ht) (by decide) rfl (tl_10 ht) rfl (Nat.le_of_ble_eq_true rfl) rfl (Nat.le_of_ble_eq_true rfl) (by omega) (Nat.le_refl _) (Nat.le_refl _) ?_
      refine sp_bind i rfl (kn := (bindF i (T 11 i) ((closeN T i).1, (setF (closeN T i).2 (i * 8 + i) 0))).1) (st := (bindF i (T 11 i) ((closeN T i).1, (setF (closeN T i).2 (i * 8 + i) 0))).2) ht (by omega) (by omega) (bindF_ok (x := ((closeN T i).1, (setF (closeN T i).2 (i * 8 + i) 0))) (q := T 11 i) hk.1 (stB_0 hk.2) (by omega)).1 (bindF_ok (x := ((closeN T i).1, (setF (closeN T i).2 (i * 8 + i) 0))) (q := T 11 i) hk.1 (stB_0 hk.2) (by omega)).2 (by omega) ?_
      refine wp_eqst (st' := []) rfl ?_
      refine wq_iinc (pc := 64) [some (vR (t + 10)), some (vI (n : Int)), some (vI ((i : Int) + 1)), none] dX0_close_64 rfl rfl (by decide) rfl ?_
      refine wp_goto (pc := 67) 25 dX0_close_67 (by decide) ?_
      refine wp_eqI (I' := upc (upc I (t + 14) (closeN T (i + 1)).1) (t + 15) (closeN T (i + 1)).2) rfl ?_
      exact wp_eqls (ls' := [some (vR (t + 10)), some (vI (n : Int)), some (vI (((i + 1) : Nat) : Int)), none]) rfl ih

theorem sp_close {l : Launch} {G : mG} {d : Nat} {I : mI} {L : Nat → Nat → Int} {D : Nat → Nat} {Q : mQ} {t : Nat} {T : mT} (n : Nat) {n_ : Int} (hn_ : n_ = (n : Int)) (ht : isT t) (hT : TT I t = T) (hw : tw T) (hn : n ≤ 8) (hd : 1 ≤ d) (hQ : Q none (upc (upc (upc I (t + 14) (closeN T n).1) (t + 15) (closeN T n).2) (t + 16) (degT (closeN T n).2 (T 16) 64)) (XX L D)) : WP l G m_X0_close d 153 I (XX L D) 0 [some (vR (t + 10)), some (vI n_), none, none] [] Q := by
  subst hn_
  refine wp_aload_n (pc := 0) 0 dX0_close_0 rfl rfl ?_
  refine wp_getr (pc := 1) dX0_close_1 rfl f_X0_24 (tk_10 ht) (tl_10 ht) rfl (tr_10_4 D ht) ?_
  refine wp_iconst (pc := 4) dX0_close_4 ?_
  refine wp_callS (pc := 5) (st := []) (nf' := 153) [vR (t + 15), vI (-1)] [some (vR (t + 15)), some (vI (-1)), none, none] dX0_close_5 rfl c_X0_30 rfl rfl (Nat.le_of_ble_eq_true rfl) rfl (Nat.le_of_ble_eq_true rfl) (by omega) (Nat.le_refl _) (Nat.le_refl _) ?_
  refine sp_fill (tk_15 ht) (tl_15 ht) (by decide) (by omega) ?_
  refine wp_eqst (st' := []) rfl ?_
  refine wp_aload_n (pc := 8) 0 dX0_close_8 rfl rfl ?_
  refine wp_getr (pc := 9) dX0_close_9 rfl f_X0_18 (tk_10 ht) (tl_10 ht) rfl (tr_10_2 D ht) ?_
  refine wp_iconst (pc := 12) dX0_close_12 ?_
  refine wp_aload_n (pc := 13) 0 dX0_close_13 rfl rfl ?_
  refine wp_getr (pc := 14) dX0_close_14 rfl f_X0_21 (tk_10 ht) (tl_10 ht) rfl (tr_10_3 D ht) ?_
  refine wp_iconst (pc := 17) dX0_close_17 ?_
  refine wp_bipush (pc := 18) dX0_close_18 (by decide) ?_
  refine wp_copy (pc := 20) (st := []) dX0_close_20 rfl c_X0_36 (tk_13 ht) (tk_14 ht) (tl_13 ht) (tl_14 ht) (by decide) (by decide) (by decide) (by decide) (by decide) (Nat.le_of_ble_eq_true rfl) (by omega) ?_
  refine wp_iconst (pc := 23) dX0_close_23 ?_
  refine wq_istore_n (pc := 24) 2 [some (vR (t + 10)), some (vI (n : Int)), some (vI 0), none] dX0_close_24 rfl rfl (by decide) rfl ?_
  refine wp_eqI (I' := upc (upc I (t + 14) (closeN T 0).1) (t + 15) (closeN T 0).2) (close_0 hT) ?_
  exact lp_close ht hT hw hn hd hQ 0 (Nat.zero_le _)
