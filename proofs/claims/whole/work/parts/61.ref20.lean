theorem rs_isFree {l : Launch} {G : mG} {d : Nat} {I : mI} {L : Nat → Nat → Int} {D : Nat → Nat} {Q : mQ} {T : mT} {S : mS} {B : Int} (p : Nat) {p_ : Int} (hp_ : p_ = (p : Int)) (hR : RT I T) (hA : I 140 = pS S) (hw : tw T) (hv : sw S B) (hp : p < nP T) (hd : 2 ≤ d) (h1 : frB T S p = true → Q (some (vI 1)) I (XX L D)) (h0 : ¬ (frB T S p = true) → Q (some (vI 0)) I (XX L D)) : WP l G m_X11_isFree d 153 I (XX L D) 0 [some (vR 111), some (vI p_)] [] Q := by
  subst hp_
  have b_p := tw_p hw
  have b_q := tw_q hw
  have b_c := tw_c hw
  have eP : nP T = (T 0 12).toNat := rfl
  have eQ : nQ T = (T 0 13).toNat := rfl
  have eC : nC T = (T 0 11).toNat := rfl
  have b1 := vowB_in T p
  have b2 := wwF_in hw S p (-1) (nQ T)
  refine wp_aload_n (pc := 0) 0 dX11_isFree_0 rfl rfl ?_
  refine wp_getr (pc := 1) dX11_isFree_1 rfl f_X11_91 kd_111 la_111 rfl (r_111_41 D) ?_
  refine wp_iload_n (pc := 4) 1 dX11_isFree_4 rfl rfl ?_
  refine wq_zald (pc := 5) p dX11_isFree_5 kd_137 la_137 rfl (by omega) ?_
  refine wp_eqst (st' := [vI (vowB T p)]) (by rw [rt_vow hR (by omega)]) ?_
  refine wp_if_ne (pc := 6) 22 dX11_isFree_6 (by decide) (by omega) (fun h_1 => ?_) (fun h_1 => ?_)
  · refine wp_iconst (pc := 22) dX11_isFree_22 ?_
    refine wp_zret (pc := 23) dX11_isFree_23 rfl rfl (by decide) ?_
    exact h0 (by unfold frB; rw [decide_eq_true_eq]; omega)
  · refine wp_aload_n (pc := 9) 0 dX11_isFree_9 rfl rfl ?_
    refine wp_iload_n (pc := 10) 1 dX11_isFree_10 rfl rfl ?_
    refine wp_iconst (pc := 11) dX11_isFree_11 ?_
    refine wp_callV (pc := 12) (st := []) (nf' := 153) [vI (p : Int), vI (-1)] [some (vR 111), some (vI (p : Int)), some (vI (-1)), none, none] dX11_isFree_12 rfl c_X11_455 rfl kd_111 (by decide) rfl la_111 rfl (Nat.le_of_ble_eq_true rfl) rfl (Nat.le_of_ble_eq_true rfl) (by omega) (Nat.le_refl _) (Nat.le_refl _) ?_
    refine rs_wedWith hR hA hw hv (by omega) (by omega) (by omega) ?_
    refine wp_eqst (st' := [vI (wwF T S (p : Int) (-1) (nQ T))]) rfl ?_
    refine wp_if_ge (pc := 15) 22 dX11_isFree_15 (by decide) (by omega) (fun h_2 => ?_) (fun h_2 => ?_)
    · refine wp_iconst (pc := 22) dX11_isFree_22 ?_
      refine wp_zret (pc := 23) dX11_isFree_23 rfl rfl (by decide) ?_
      exact h0 (by unfold frB; rw [decide_eq_true_eq]; omega)
    · refine wp_iconst (pc := 18) dX11_isFree_18 ?_
      refine wp_goto (pc := 19) 23 dX11_isFree_19 (by decide) ?_
      refine wp_zret (pc := 23) dX11_isFree_23 rfl rfl (by decide) ?_
      exact h1 (by unfold frB; exact decide_eq_true (by omega))

theorem rl_free_in {l : Launch} {G : mG} {d : Nat} {I : mI} {L : Nat → Nat → Int} {D : Nat → Nat} {Q : mQ} {T : mT} {S : mS} {B : Int} {a : Nat} (hR : RT I T) (hA : I 140 = pS S) (hw : tw T) (hv : sw S B) (hC : TC T) (hd : 3 ≤ d) (ha : a < nP T) (hN : WP l G m_X11_free d 153 I (XX L D) 8 [some (vR 111), some (vI ((frR T S (a + 1) : Nat) : Int)), some (vI (((a + 1) : Nat) : Int)), none] [] Q) : ∀ i : Nat, i ≤ a → WP l G m_X11_free d 153 I (XX L D) 18 [some (vR 111), some (vI ((frR T S a + cntF (frG T S a) i : Nat) : Int)), some (vI (a : Int)), some (vI (i : Int))] [] Q := by
  have b_p := tw_p hw
  have b_q := tw_q hw
  have b_c := tw_c hw
  have eP : nP T = (T 0 12).toNat := rfl
  have eQ : nQ T = (T 0 13).toNat := rfl
  have eC : nC T = (T 0 11).toNat := rfl
  have b_d := tw_deg hw
  have b_f := frR_le T S a
  have b_g : a * a ≤ 7 * 7 := Nat.mul_le_mul (by omega) (by omega)
  refine loop_dn (fun i => WP l G m_X11_free d 153 I (XX L D) 18 [some (vR 111), some (vI ((frR T S a + cntF (frG T S a) i : Nat) : Int)), some (vI (a : Int)), some (vI (i : Int))] [] Q) a ?_ (fun i hi ih => ?_)
  · refine wp_iload_n (pc := 18) 3 dX11_free_18 rfl rfl ?_
    refine wp_iload_n (pc := 19) 2 dX11_free_19 rfl rfl ?_
    refine wp_icmp_ge (pc := 20) 69 dX11_free_20 (by decide) (by omega) (by omega) (fun h_1 => ?_) (fun h_1 => ?_)
    · refine wq_iinc (pc := 69) [some (vR 111), some (vI ((frR T S a + cntF (frG T S a) a : Nat) : Int)), some (vI ((a : Int) + 1)), some (vI (a : Int))] dX11_free_69 rfl rfl (by decide) rfl ?_
      refine wp_goto (pc := 72) 8 dX11_free_72 (by decide) ?_
      refine wp_none 3 [some (vR 111), some (vI ((frR T S a + cntF (frG T S a) a : Nat) : Int)), some (vI ((a : Int) + 1)), none] rfl ?_
      refine wp_eqls (ls' := [some (vR 111), some (vI ((frR T S (a + 1) : Nat) : Int)), some (vI (((a + 1) : Nat) : Int)), none]) (by rw [frR]; rfl) hN
    · exfalso; omega
  · have b_c2 := cntF_le (frG T S a) i
    refine wp_iload_n (pc := 18) 3 dX11_free_18 rfl rfl ?_
    refine wp_iload_n (pc := 19) 2 dX11_free_19 rfl rfl ?_
    refine wp_icmp_ge (pc := 20) 69 dX11_free_20 (by decide) (by omega) (by omega) (fun h_1 => ?_) (fun h_1 => ?_)
    · exfalso; omega
    · refine wp_iload_n (pc := 23) 1 dX11_free_23 rfl rfl ?_
      refine wp_aload_n (pc := 24) 0 dX11_free_24 rfl rfl ?_
      refine wp_iload_n (pc := 25) 2 dX11_free_25 rfl rfl ?_
      refine wp_iload_n (pc := 26) 3 dX11_free_26 rfl rfl ?_
      refine wp_aload_n (pc := 27) 0 dX11_free_27 rfl rfl ?_
      refine wp_geti (pc := 28) dX11_free_28 rfl f_X11_94 kd_111 la_111 (Or.inl rfl) ?_
      refine wp_eqst (st' := [vI (T 0 15), vI (i : Int), vI (a : Int), vR 111, vI ((frR T S a + cntF (frG T S a) i : Nat) : Int)]) (by rw [rt_d hR]) ?_
      refine wp_callV (pc := 31) (st := [vI ((frR T S a + cntF (frG T S a) i : Nat) : Int)]) (nf' := 153) [vI (a : Int), vI (i : Int), vI (T 0 15)] [some (vR 111), some (vI (a : Int)), some (vI (i : Int)), some (vI (T 0 15))] dX11_free_31 rfl c_X11_452 rfl kd_111 (by decide) rfl la_111 rfl (Nat.le_of_ble_eq_true rfl) rfl (Nat.le_of_ble_eq_true rfl) (by omega) (Nat.le_refl _) (Nat.le_refl _) ?_
      refine rs_areKin a rfl i rfl hR hw hC (by omega) (by omega) (by omega) (by omega) (fun h_2 => ?_) (fun h_2 => ?_)
      · refine wp_eqst (st' := [vI 1, vI ((frR T S a + cntF (frG T S a) i : Nat) : Int)]) rfl ?_
        refine wp_if_ne (pc := 34) 57 dX11_free_34 (by decide) (by decide) (fun _ => ?_) (fun hh => absurd hh (by decide))
        refine wp_iconst (pc := 57) dX11_free_57 ?_
        refine wp_callS (pc := 58) (st := [vI ((frR T S a + cntF (frG T S a) i : Nat) : Int)]) (nf' := 153) [vI 0] [some (vI 0)] dX11_free_58 rfl c_X11_320 rfl rfl (Nat.le_of_ble_eq_true rfl) rfl (Nat.le_of_ble_eq_true rfl) (by omega) (Nat.le_refl _) (Nat.le_refl _) ?_
        refine wp_iload_n (pc := 0) 0 dX11_truth_0 rfl rfl ?_
        refine wp_if_eq (pc := 1) 8 dX11_truth_1 (by decide) (by decide) (fun _ => ?_) (fun hh => absurd hh (by decide))
        refine wp_iconst (pc := 8) dX11_truth_8 ?_
        refine wp_iret (pc := 9) dX11_truth_9 rfl rfl ?_
        refine wp_eqst (st' := [vI 0, vI ((frR T S a + cntF (frG T S a) i : Nat) : Int)]) rfl ?_
        refine wp_iadd (pc := 61) dX11_free_61 ?_
        refine wq_istore_n (pc := 62) 1 [some (vR 111), some (vI (((frR T S a + cntF (frG T S a) i : Nat) : Int) + 0)), some (vI (a : Int)), some (vI (i : Int))] dX11_free_62 rfl rfl (by decide) rfl ?_
        refine wq_iinc (pc := 63) [some (vR 111), some (vI (((frR T S a + cntF (frG T S a) i : Nat) : Int) + 0)), some (vI (a : Int)), some (vI ((i : Int) + 1))] dX11_free_63 rfl rfl (by decide) rfl ?_
        refine wp_goto (pc := 66) 18 dX11_free_66 (by decide) ?_
        refine wp_eqls (ls' := [some (vR 111), some (vI ((frR T S a + cntF (frG T S a) (i + 1) : Nat) : Int)), some (vI (a : Int)), some (vI (((i + 1) : Nat) : Int))]) (by rw [cntF_n (f := frG T S a) (n := i) (by unfold frG; rw [decide_eq_false (fun z => z h_2), Bool.false_and])]; rfl) ih
      · refine wp_eqst (st' := [vI 0, vI ((frR T S a + cntF (frG T S a) i : Nat) : Int)]) rfl ?_
        refine wp_if_ne (pc := 34) 57 dX11_free_34 (by decide) (by decide) (fun hh => absurd hh (by decide)) (fun _ => ?_)
        refine wp_aload_n (pc := 37) 0 dX11_free_37 rfl rfl ?_
        refine wp_iload_n (pc := 38) 2 dX11_free_38 rfl rfl ?_
        refine wp_callV (pc := 39) (st := [vI ((frR T S a + cntF (frG T S a) i : Nat) : Int)]) (nf' := 153) [vI (a : Int)] [some (vR 111), some (vI (a : Int))] dX11_free_39 rfl c_X11_564 rfl kd_111 (by decide) rfl la_111 rfl (Nat.le_of_ble_eq_true rfl) rfl (Nat.le_of_ble_eq_true rfl) (by omega) (Nat.le_refl _) (Nat.le_refl _) ?_
        refine rs_isFree a rfl hR hA hw hv (by omega) (by omega) (fun h_3 => ?_) (fun h_3 => ?_)
        · refine wp_eqst (st' := [vI 1, vI ((frR T S a + cntF (frG T S a) i : Nat) : Int)]) rfl ?_
          refine wp_if_eq (pc := 42) 57 dX11_free_42 (by decide) (by decide) (fun hh => absurd hh (by decide)) (fun _ => ?_)
          refine wp_aload_n (pc := 45) 0 dX11_free_45 rfl rfl ?_
          refine wp_iload_n (pc := 46) 3 dX11_free_46 rfl rfl ?_
          refine wp_callV (pc := 47) (st := [vI ((frR T S a + cntF (frG T S a) i : Nat) : Int)]) (nf' := 153) [vI (i : Int)] [some (vR 111), some (vI (i : Int))] dX11_free_47 rfl c_X11_564 rfl kd_111 (by decide) rfl la_111 rfl (Nat.le_of_ble_eq_true rfl) rfl (Nat.le_of_ble_eq_true rfl) (by omega) (Nat.le_refl _) (Nat.le_refl _) ?_
          refine rs_isFree i rfl hR hA hw hv (by omega) (by omega) (fun h_4 => ?_) (fun h_4 => ?_)
          · refine wp_eqst (st' := [vI 1, vI ((frR T S a + cntF (frG T S a) i : Nat) : Int)]) rfl ?_
            refine wp_if_eq (pc := 50) 57 dX11_free_50 (by decide) (by decide) (fun hh => absurd hh (by decide)) (fun _ => ?_)
            refine wp_iconst (pc := 53) dX11_free_53 ?_
            refine wp_goto (pc := 54) 58 dX11_free_54 (by decide) ?_
            refine wp_callS (pc := 58) (st := [vI ((frR T S a + cntF (frG T S a) i : Nat) : Int)]) (nf' := 153) [vI 1] [some (vI 1)] dX11_free_58 rfl c_X11_320 rfl rfl (Nat.le_of_ble_eq_true rfl) rfl (Nat.le_of_ble_eq_true rfl) (by omega) (Nat.le_refl _) (Nat.le_refl _) ?_
            refine wp_iload_n (pc := 0) 0 dX11_truth_0 rfl rfl ?_
            refine wp_if_eq (pc := 1) 8 dX11_truth_1 (by decide) (by decide) (fun hh => absurd hh (by decide)) (fun _ => ?_)
            refine wp_iconst (pc := 4) dX11_truth_4 ?_
            refine wp_goto (pc := 5) 9 dX11_truth_5 (by decide) ?_
            refine wp_iret (pc := 9) dX11_truth_9 rfl rfl ?_
            refine wp_eqst (st' := [vI 1, vI ((frR T S a + cntF (frG T S a) i : Nat) : Int)]) rfl ?_
            refine wp_iadd (pc := 61) dX11_free_61 ?_
            refine wq_istore_n (pc := 62) 1 [some (vR 111), some (vI (((frR T S a + cntF (frG T S a) i : Nat) : Int) + 1)), some (vI (a : Int)), some (vI (i : Int))] dX11_free_62 rfl rfl (by decide) rfl ?_
            refine wq_iinc (pc := 63) [some (vR 111), some (vI (((frR T S a + cntF (frG T S a) i : Nat) : Int) + 1)), some (vI (a : Int)), some (vI ((i : Int) + 1))] dX11_free_63 rfl rfl (by decide) rfl ?_
            refine wp_goto (pc := 66) 18 dX11_free_66 (by decide) ?_
            refine wp_eqls (ls' := [some (vR 111), some (vI ((frR T S a + cntF (frG T S a) (i + 1) : Nat) : Int)), some (vI (a : Int)), some (vI (((i + 1) : Nat) : Int))]) (by rw [cntF_y (f := frG T S a) (n := i) (by unfold frG; rw [decide_eq_true h_2, h_3, h_4]; rfl)]; rfl) ih
          · refine wp_eqst (st' := [vI 0, vI ((frR T S a + cntF (frG T S a) i : Nat) : Int)]) rfl ?_
            refine wp_if_eq (pc := 50) 57 dX11_free_50 (by decide) (by decide) (fun _ => ?_) (fun hh => absurd hh (by decide))
            refine wp_iconst (pc := 57) dX11_free_57 ?_
            refine wp_callS (pc := 58) (st := [vI ((frR T S a + cntF (frG T S a) i : Nat) : Int)]) (nf' := 153) [vI 0] [some (vI 0)] dX11_free_58 rfl c_X11_320 rfl rfl (Nat.le_of_ble_eq_true rfl) rfl (Nat.le_of_ble_eq_true rfl) (by omega) (Nat.le_refl _) (Nat.le_refl _) ?_
            refine wp_iload_n (pc := 0) 0 dX11_truth_0 rfl rfl ?_
            refine wp_if_eq (pc := 1) 8 dX11_truth_1 (by decide) (by decide) (fun _ => ?_) (fun hh => absurd hh (by decide))
            refine wp_iconst (pc := 8) dX11_truth_8 ?_
            refine wp_iret (pc := 9) dX11_truth_9 rfl rfl ?_
            refine wp_eqst (st' := [vI 0, vI ((frR T S a + cntF (frG T S a) i : Nat) : Int)]) rfl ?_
            refine wp_iadd (pc := 61) dX11_free_61 ?_
            refine wq_istore_n (pc := 62) 1 [some (vR 111), some (vI (((frR T S a + cntF (frG T S a) i : Nat) : Int) + 0)), some (vI (a : Int)), some (vI (i : Int))] dX11_free_62 rfl rfl (by decide) rfl ?_
            refine wq_iinc (pc := 63) [some (vR 111), some (vI (((frR T S a + cntF (frG T S a) i : Nat) : Int) + 0)), some (vI (a : Int)), some (vI ((i : Int) + 1))] dX11_free_63 rfl rfl (by decide) rfl ?_
            refine wp_goto (pc := 66) 18 dX11_free_66 (by decide) ?_
            refine wp_eqls (ls' := [some (vR 111), some (vI ((frR T S a + cntF (frG T S a) (i + 1) : Nat) : Int)), some (vI (a : Int)), some (vI (((i + 1) : Nat) : Int))]) (by rw [cntF_n (f := frG T S a) (n := i) (by unfold frG; rw [Bool.eq_false_iff.mpr h_4, Bool.and_false, Bool.and_false])]; rfl) ih
        · refine wp_eqst (st' := [vI 0, vI ((frR T S a + cntF (frG T S a) i : Nat) : Int)]) rfl ?_
          refine wp_if_eq (pc := 42) 57 dX11_free_42 (by decide) (by decide) (fun _ => ?_) (fun hh => absurd hh (by decide))
          refine wp_iconst (pc := 57) dX11_free_57 ?_
          refine wp_callS (pc := 58) (st := [vI ((frR T S a + cntF (frG T S a) i : Nat) : Int)]) (nf' := 153) [vI 0] [some (vI 0)] dX11_free_58 rfl c_X11_320 rfl rfl (Nat.le_of_ble_eq_true rfl) rfl (Nat.le_of_ble_eq_true rfl) (by omega) (Nat.le_refl _) (Nat.le_refl _) ?_
          refine wp_iload_n (pc := 0) 0 dX11_truth_0 rfl rfl ?_
          refine wp_if_eq (pc := 1) 8 dX11_truth_1 (by decide) (by decide) (fun _ => ?_) (fun hh => absurd hh (by decide))
          refine wp_iconst (pc := 8) dX11_truth_8 ?_
          refine wp_iret (pc := 9) dX11_truth_9 rfl rfl ?_
          refine wp_eqst (st' := [vI 0, vI ((frR T S a + cntF (frG T S a) i : Nat) : Int)]) rfl ?_
          refine wp_iadd (pc := 61) dX11_free_61 ?_
          refine wq_istore_n (pc := 62) 1 [some (vR 111), some (vI (((frR T S a + cntF (frG T S a) i : Nat) : Int) + 0)), some (vI (a : Int)), some (vI (i : Int))] dX11_free_62 rfl rfl (by decide) rfl ?_
          refine wq_iinc (pc := 63) [some (vR 111), some (vI (((frR T S a + cntF (frG T S a) i : Nat) : Int) + 0)), some (vI (a : Int)), some (vI ((i : Int) + 1))] dX11_free_63 rfl rfl (by decide) rfl ?_
          refine wp_goto (pc := 66) 18 dX11_free_66 (by decide) ?_
          refine wp_eqls (ls' := [some (vR 111), some (vI ((frR T S a + cntF (frG T S a) (i + 1) : Nat) : Int)), some (vI (a : Int)), some (vI (((i + 1) : Nat) : Int))]) (by rw [cntF_n (f := frG T S a) (n := i) (by unfold frG; rw [Bool.eq_false_iff.mpr h_3, Bool.false_and, Bool.and_false])]; rfl) ih

theorem rl_free {l : Launch} {G : mG} {d : Nat} {I : mI} {L : Nat → Nat → Int} {D : Nat → Nat} {Q : mQ} {T : mT} {S : mS} {B : Int} (hR : RT I T) (hA : I 140 = pS S) (hw : tw T) (hv : sw S B) (hC : TC T) (hd : 3 ≤ d) (hQ : Q (some (vI (((freeA T S : Nat) : Int)))) I (XX L D)) : ∀ i : Nat, i ≤ nP T → WP l G m_X11_free d 153 I (XX L D) 8 [some (vR 111), some (vI ((frR T S i : Nat) : Int)), some (vI (i : Int)), none] [] Q := by
  have b_p := tw_p hw
  have b_q := tw_q hw
  have b_c := tw_c hw
  have eP : nP T = (T 0 12).toNat := rfl
  have eQ : nQ T = (T 0 13).toNat := rfl
  have eC : nC T = (T 0 11).toNat := rfl
  have b_d := tw_deg hw
  refine loop_dn (fun i => WP l G m_X11_free d 153 I (XX L D) 8 [some (vR 111), some (vI ((frR T S i : Nat) : Int)), some (vI (i : Int)), none] [] Q) (nP T) ?_ (fun i hi ih => ?_)
  · refine wp_iload_n (pc := 8) 2 dX11_free_8 rfl rfl ?_
    refine wp_aload_n (pc := 9) 0 dX11_free_9 rfl rfl ?_
    refine wp_geti (pc := 10) dX11_free_10 rfl f_X11_412 kd_111 la_111 (Or.inl rfl) ?_
    refine wp_eqst (st' := [vI (T 0 12), vI (((nP T) : Nat) : Int)]) (by rw [rt_p hR]) ?_
    refine wp_icmp_ge (pc := 13) 75 dX11_free_13 (by decide) (by omega) (by omega) (fun h_1 => ?_) (fun h_1 => ?_)
    · refine wp_iload_n (pc := 75) 1 dX11_free_75 rfl rfl ?_
      refine wp_iret (pc := 76) dX11_free_76 rfl rfl ?_
      rw [free_eq hw hC] at hQ; exact hQ
    · exfalso; omega
  · refine wp_iload_n (pc := 8) 2 dX11_free_8 rfl rfl ?_
    refine wp_aload_n (pc := 9) 0 dX11_free_9 rfl rfl ?_
    refine wp_geti (pc := 10) dX11_free_10 rfl f_X11_412 kd_111 la_111 (Or.inl rfl) ?_
    refine wp_eqst (st' := [vI (T 0 12), vI (i : Int)]) (by rw [rt_p hR]) ?_
    refine wp_icmp_ge (pc := 13) 75 dX11_free_13 (by decide) (by omega) (by omega) (fun h_1 => ?_) (fun h_1 => ?_)
    · exfalso; omega
    · refine wp_iconst (pc := 16) dX11_free_16 ?_
      refine wq_istore_n (pc := 17) 3 [some (vR 111), some (vI ((frR T S i : Nat) : Int)), some (vI (i : Int)), some (vI 0)] dX11_free_17 rfl rfl (by decide) rfl ?_
      refine wp_eqls (ls' := [some (vR 111), some (vI ((frR T S i + cntF (frG T S i) 0 : Nat) : Int)), some (vI (i : Int)), some (vI 0)]) rfl (rl_free_in hR hA hw hv hC hd hi ih 0 (Nat.zero_le _))

theorem rs_free {l : Launch} {G : mG} {d : Nat} {I : mI} {L : Nat → Nat → Int} {D : Nat → Nat} {Q : mQ} {T : mT} {S : mS}  (hI : RI I T S) (hd : 3 ≤ d) (hQ : ∀ J, Rg I J → Q (some (vI ((freeA T S : Nat) : Int))) J (XX L D)) : WP l G m_X11_free d 153 I (XX L D) 0 [some (vR 111), none, none, none] [] Q := by
  obtain ⟨hR, hN, hX, hw, hv, hrd, hC, hcd⟩ := id hI
  have b_p := tw_p hw
  have b_q := tw_q hw
  have b_c := tw_c hw
  have eP : nP T = (T 0 12).toNat := rfl
  have eQ : nQ T = (T 0 13).toNat := rfl
  have eC : nC T = (T 0 11).toNat := rfl
  have b_s := sw_sun hv
  refine wp_aload_n (pc := 0) 0 dX11_free_0 rfl rfl ?_
  refine wp_callV (pc := 1) (st := []) (nf' := 153) [] [some (vR 111), none] dX11_free_1 rfl c_X11_485 rfl kd_111 (by decide) rfl la_111 rfl (Nat.le_of_ble_eq_true rfl) rfl (Nat.le_of_ble_eq_true rfl) (by omega) (Nat.le_refl _) (Nat.le_refl _) ?_
  refine rs_load (by omega) ?_
  generalize hJe : upc I 140 (I 139) = J
  have hJ : ∀ b, b ≠ 140 → J b = I b := fun b g => by rw [← hJe]; exact funext fun j => upc_c g
  have hAJ : J 140 = pS S := by rw [← hJe, ← hN]; exact funext fun j => upc_s
  have hRJ := ld_rt hJ hR
  have hXJ := ld_fx hJ hX
  refine wp_eqst (st' := []) rfl ?_
  refine wp_iconst (pc := 4) dX11_free_4 ?_
  refine wq_istore_n (pc := 5) 1 [some (vR 111), some (vI 0), none, none] dX11_free_5 rfl rfl (by decide) rfl ?_
  refine wp_iconst (pc := 6) dX11_free_6 ?_
  refine wq_istore_n (pc := 7) 2 [some (vR 111), some (vI 0), some (vI 0), none] dX11_free_7 rfl rfl (by decide) rfl ?_
  exact rl_free hRJ hAJ hw hv hC hd (hQ J (Rg.ld hJ)) 0 (Nat.zero_le _)
