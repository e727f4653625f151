theorem is47 : isS 47 := Or.inl rfl
theorem is49 : isS 49 := Or.inr (Or.inl rfl)
/-- with whom p is WED, in the pairs from i on, k of them -/
def spF (T : mT) (S : mS) (p : Int) : Nat → Nat → Int
  | 0, _ => -1
  | k + 1, i => if S (8 + i) = 1 ∧ T 6 i = p then T 7 i else if S (8 + i) = 1 ∧ T 7 i = p then T 6 i else spF T S p k (i + 1)

theorem lp_spouseOf {l : Launch} {G : mG} {d : Nat} {I : mI} {L : Nat → Nat → Int} {D : Nat → Nat} {Q : mQ} {s : Nat} {T : mT} {S : mS} {B : Int} {p : Int} (h3 : isT (D 3)) (hs : isS s) (hT : TT I (D 3) = T) (hS : SS I s = S) (hw : tw T) (hv : sw S B) (hp : inR p) (hd : 1 ≤ d) : ∀ i : Nat, i ≤ nQ T → Q (some (vI (spF T S p (nQ T - i) i))) I (XX L D) → WP l G m_X3_spouseOf d 153 I (XX L D) 2 [some (vR 45), some (vR s), some (vI p), some (vI (i : Int))] [] Q := by
  have b0 := tw_q hw
  have eN : nQ T = (T 0 13).toNat := rfl
  refine loop_dn (fun i => Q (some (vI (spF T S p (nQ T - i) i))) I (XX L D) → WP l G m_X3_spouseOf d 153 I (XX L D) 2 [some (vR 45), some (vR s), some (vI p), some (vI (i : Int))] [] Q) (nQ T) ?_ (fun i hi ih => ?_)
  · intro hQ
    rw [Nat.sub_self] at hQ
    refine wp_iload_n (pc := 2) 3 dX3_spouseOf_2 rfl rfl ?_
    refine wp_aload_n (pc := 3) 0 dX3_spouseOf_3 rfl rfl ?_
    refine wp_getr (pc := 4) dX3_spouseOf_4 rfl f_X3_15 kd_45 la_45 rfl (r_45_1 D) ?_
    refine wp_geti (pc := 7) dX3_spouseOf_7 rfl f_X3_19 (tk_0 h3) (tl_0 h3) (Or.inl rfl) ?_
    refine wp_eqst (st' := [vI (T 0 13), vI (((nQ T) : Nat) : Int)]) (by rw [← hT] <;> rfl) ?_
    refine wp_icmp_ge (pc := 10) 83 dX3_spouseOf_10 (by decide) (by omega) (by omega) (fun h_1 => ?_) (fun h_1 => ?_)
    · refine wp_iconst (pc := 83) dX3_spouseOf_83 ?_
      refine wp_iret (pc := 84) dX3_spouseOf_84 rfl rfl ?_
      exact hQ
    · exfalso; omega
  · intro hQ
    have er : nQ T - i = (nQ T - (i + 1)) + 1 := by omega
    rw [er, spF] at hQ
    have b1 := sw_stat hv (j := i) (by omega)
    have b2 := tw_one hw i
    have b3 := tw_other hw i
    refine wp_iload_n (pc := 2) 3 dX3_spouseOf_2 rfl rfl ?_
    refine wp_aload_n (pc := 3) 0 dX3_spouseOf_3 rfl rfl ?_
    refine wp_getr (pc := 4) dX3_spouseOf_4 rfl f_X3_15 kd_45 la_45 rfl (r_45_1 D) ?_
    refine wp_geti (pc := 7) dX3_spouseOf_7 rfl f_X3_19 (tk_0 h3) (tl_0 h3) (Or.inl rfl) ?_
    refine wp_eqst (st' := [vI (T 0 13), vI (i : Int)]) (by rw [← hT] <;> rfl) ?_
    refine wp_icmp_ge (pc := 10) 83 dX3_spouseOf_10 (by decide) (by omega) (by omega) (fun h_1 => ?_) (fun h_1 => ?_)
    · exfalso; omega
    · refine wp_aload_n (pc := 13) 1 dX3_spouseOf_13 rfl rfl ?_
      refine wp_iload_n (pc := 14) 3 dX3_spouseOf_14 rfl rfl ?_
      refine wp_callV (pc := 15) (st := []) (nf' := 153) [vI (i : Int)] [some (vR s), some (vI (i : Int))] dX3_spouseOf_15 rfl c_X3_25 rfl (sk_0 hs) (by decide) rfl (sl_0 hs) rfl (Nat.le_of_ble_eq_true rfl) rfl (Nat.le_of_ble_eq_true rfl) (by omega) (Nat.le_refl _) (Nat.le_refl _) ?_
      refine wp_aload_n (pc := 0) 0 dX7_status_0 rfl rfl ?_
      refine wp_getr (pc := 1) dX7_status_1 rfl f_X7_11 (sk_0 hs) (sl_0 hs) rfl (sr_0_0 D hs) ?_
      refine wp_bipush (pc := 4) dX7_status_4 (by decide) ?_
      refine wp_iload_n (pc := 6) 1 dX7_status_6 rfl rfl ?_
      refine wp_iadd (pc := 7) dX7_status_7 ?_
      refine wq_iald (pc := 8) (8 + i) dX7_status_8 (sk_1 hs) (sl_1 hs) (by omega) (by omega) ?_
      refine wp_eqst (st' := [vI (S (8 + i))]) (by rw [← hS] <;> rfl) ?_
      refine wp_iret (pc := 9) dX7_status_9 rfl rfl ?_
      refine wp_eqst (st' := [vI (S (8 + i))]) rfl ?_
      refine wp_iconst (pc := 18) dX3_spouseOf_18 ?_
      refine wp_icmp_ne (pc := 19) 45 dX3_spouseOf_19 (by decide) (by omega) (by decide) (fun h_2 => ?_) (fun h_2 => ?_)
      · refine wp_aload_n (pc := 45) 1 dX3_spouseOf_45 rfl rfl ?_
        refine wp_iload_n (pc := 46) 3 dX3_spouseOf_46 rfl rfl ?_
        refine wp_callV (pc := 47) (st := []) (nf' := 153) [vI (i : Int)] [some (vR s), some (vI (i : Int))] dX3_spouseOf_47 rfl c_X3_25 rfl (sk_0 hs) (by decide) rfl (sl_0 hs) rfl (Nat.le_of_ble_eq_true rfl) rfl (Nat.le_of_ble_eq_true rfl) (by omega) (Nat.le_refl _) (Nat.le_refl _) ?_
        refine wp_aload_n (pc := 0) 0 dX7_status_0 rfl rfl ?_
        refine wp_getr (pc := 1) dX7_status_1 rfl f_X7_11 (sk_0 hs) (sl_0 hs) rfl (sr_0_0 D hs) ?_
        refine wp_bipush (pc := 4) dX7_status_4 (by decide) ?_
        refine wp_iload_n (pc := 6) 1 dX7_status_6 rfl rfl ?_
        refine wp_iadd (pc := 7) dX7_status_7 ?_
        refine wq_iald (pc := 8) (8 + i) dX7_status_8 (sk_1 hs) (sl_1 hs) (by omega) (by omega) ?_
        refine wp_eqst (st' := [vI (S (8 + i))]) (by rw [← hS] <;> rfl) ?_
        refine wp_iret (pc := 9) dX7_status_9 rfl rfl ?_
        refine wp_eqst (st' := [vI (S (8 + i))]) rfl ?_
        refine wp_iconst (pc := 50) dX3_spouseOf_50 ?_
        refine wp_icmp_ne (pc := 51) 77 dX3_spouseOf_51 (by decide) (by omega) (by decide) (fun h_3 => ?_) (fun h_3 => ?_)
        · refine wq_iinc (pc := 77) [some (vR 45), some (vR s), some (vI p), some (vI ((i : Int) + 1))] dX3_spouseOf_77 rfl rfl (by decide) rfl ?_
          refine wp_goto (pc := 80) 2 dX3_spouseOf_80 (by decide) ?_
          rw [if_neg (by omega), if_neg (by omega)] at hQ
          refine wp_eqls (ls' := [some (vR 45), some (vR s), some (vI p), some (vI (((i + 1) : Nat) : Int))]) rfl (ih hQ)
        · refine wp_aload_n (pc := 54) 0 dX3_spouseOf_54 rfl rfl ?_
          refine wp_getr (pc := 55) dX3_spouseOf_55 rfl f_X3_15 kd_45 la_45 rfl (r_45_1 D) ?_
          refine wp_getr (pc := 58) dX3_spouseOf_58 rfl f_X3_34 (tk_0 h3) (tl_0 h3) rfl (tr_0_6 D h3) ?_
          refine wp_iload_n (pc := 61) 3 dX3_spouseOf_61 rfl rfl ?_
          refine wq_iald (pc := 62) i dX3_spouseOf_62 (tk_7 h3) (tl_7 h3) rfl (by omega) ?_
          refine wp_eqst (st' := [vI (T 7 i)]) (by rw [← hT] <;> rfl) ?_
          refine wp_iload_n (pc := 63) 2 dX3_spouseOf_63 rfl rfl ?_
          refine wp_icmp_ne (pc := 64) 77 dX3_spouseOf_64 (by decide) (by omega) (by omega) (fun h_4 => ?_) (fun h_4 => ?_)
          · refine wq_iinc (pc := 77) [some (vR 45), some (vR s), some (vI p), some (vI ((i : Int) + 1))] dX3_spouseOf_77 rfl rfl (by decide) rfl ?_
            refine wp_goto (pc := 80) 2 dX3_spouseOf_80 (by decide) ?_
            rw [if_neg (by omega), if_neg (by omega)] at hQ
            refine wp_eqls (ls' := [some (vR 45), some (vR s), some (vI p), some (vI (((i + 1) : Nat) : Int))]) rfl (ih hQ)
          · refine wp_aload_n (pc := 67) 0 dX3_spouseOf_67 rfl rfl ?_
            refine wp_getr (pc := 68) dX3_spouseOf_68 rfl f_X3_15 kd_45 la_45 rfl (r_45_1 D) ?_
            refine wp_getr (pc := 71) dX3_spouseOf_71 rfl f_X3_31 (tk_0 h3) (tl_0 h3) rfl (tr_0_5 D h3) ?_
            refine wp_iload_n (pc := 74) 3 dX3_spouseOf_74 rfl rfl ?_
            refine wq_iald (pc := 75) i dX3_spouseOf_75 (tk_6 h3) (tl_6 h3) rfl (by omega) ?_
            refine wp_eqst (st' := [vI (T 6 i)]) (by rw [← hT] <;> rfl) ?_
            refine wp_iret (pc := 76) dX3_spouseOf_76 rfl rfl ?_
            first | (rw [if_pos (by omega)] at hQ; exact hQ) | (rw [if_neg (by omega), if_pos (by omega)] at hQ; exact hQ)
      · refine wp_aload_n (pc := 22) 0 dX3_spouseOf_22 rfl rfl ?_
        refine wp_getr (pc := 23) dX3_spouseOf_23 rfl f_X3_15 kd_45 la_45 rfl (r_45_1 D) ?_
        refine wp_getr (pc := 26) dX3_spouseOf_26 rfl f_X3_31 (tk_0 h3) (tl_0 h3) rfl (tr_0_5 D h3) ?_
        refine wp_iload_n (pc := 29) 3 dX3_spouseOf_29 rfl rfl ?_
        refine wq_iald (pc := 30) i dX3_spouseOf_30 (tk_6 h3) (tl_6 h3) rfl (by omega) ?_
        refine wp_eqst (st' := [vI (T 6 i)]) (by rw [← hT] <;> rfl) ?_
        refine wp_iload_n (pc := 31) 2 dX3_spouseOf_31 rfl rfl ?_
        refine wp_icmp_ne (pc := 32) 45 dX3_spouseOf_32 (by decide) (by omega) (by omega) (fun h_5 => ?_) (fun h_5 => ?_)
        · refine wp_aload_n (pc := 45) 1 dX3_spouseOf_45 rfl rfl ?_
          refine wp_iload_n (pc := 46) 3 dX3_spouseOf_46 rfl rfl ?_
          refine wp_callV (pc := 47) (st := []) (nf' := 153) [vI (i : Int)] [some (vR s), some (vI (i : Int))] dX3_spouseOf_47 rfl c_X3_25 rfl (sk_0 hs) (by decide) rfl (sl_0 hs) rfl (Nat.le_of_ble_eq_true rfl) rfl (Nat.le_of_ble_eq_true rfl) (by omega) (Nat.le_refl _) (Nat.le_refl _) ?_
          refine wp_aload_n (pc := 0) 0 dX7_status_0 rfl rfl ?_
          refine wp_getr (pc := 1) dX7_status_1 rfl f_X7_11 (sk_0 hs) (sl_0 hs) rfl (sr_0_0 D hs) ?_
          refine wp_bipush (pc := 4) dX7_status_4 (by decide) ?_
          refine wp_iload_n (pc := 6) 1 dX7_status_6 rfl rfl ?_
          refine wp_iadd (pc := 7) dX7_status_7 ?_
          refine wq_iald (pc := 8) (8 + i) dX7_status_8 (sk_1 hs) (sl_1 hs) (by omega) (by omega) ?_
          refine wp_eqst (st' := [vI (S (8 + i))]) (by rw [← hS] <;> rfl) ?_
          refine wp_iret (pc := 9) dX7_status_9 rfl rfl ?_
          refine wp_eqst (st' := [vI (S (8 + i))]) rfl ?_
          refine wp_iconst (pc := 50) dX3_spouseOf_50 ?_
          refine wp_icmp_ne (pc := 51) 77 dX3_spouseOf_51 (by decide) (by omega) (by decide) (fun h_6 => ?_) (fun h_6 => ?_)
          · refine wq_iinc (pc := 77) [some (vR 45), some (vR s), some (vI p), some (vI ((i : Int) + 1))] dX3_spouseOf_77 rfl rfl (by decide) rfl ?_
            refine wp_goto (pc := 80) 2 dX3_spouseOf_80 (by decide) ?_
            rw [if_neg (by omega), if_neg (by omega)] at hQ
            refine wp_eqls (ls' := [some (vR 45), some (vR s), some (vI p), some (vI (((i + 1) : Nat) : Int))]) rfl (ih hQ)
          · refine wp_aload_n (pc := 54) 0 dX3_spouseOf_54 rfl rfl ?_
            refine wp_getr (pc := 55) dX3_spouseOf_55 rfl f_X3_15 kd_45 la_45 rfl (r_45_1 D) ?_
            refine wp_getr (pc := 58) dX3_spouseOf_58 rfl f_X3_34 (tk_0 h3) (tl_0 h3) rfl (tr_0_6 D h3) ?_
            refine wp_iload_n (pc := 61) 3 dX3_spouseOf_61 rfl rfl ?_
            refine wq_iald (pc := 62) i dX3_spouseOf_62 (tk_7 h3) (tl_7 h3) rfl (by omega) ?_
            refine wp_eqst (st' := [vI (T 7 i)]) (by rw [← hT] <;> rfl) ?_
            refine wp_iload_n (pc := 63) 2 dX3_spouseOf_63 rfl rfl ?_
            refine wp_icmp_ne (pc := 64) 77 dX3_spouseOf_64 (by decide) (by omega) (by omega) (fun h_7 => ?_) (fun h_7 => ?_)
            · refine wq_iinc (pc := 77) [some (vR 45), some (vR s), some (vI p), some (vI ((i : Int) + 1))] dX3_spouseOf_77 rfl rfl (by decide) rfl ?_
              refine wp_goto (pc := 80) 2 dX3_spouseOf_80 (by decide) ?_
              rw [if_neg (by omega), if_neg (by omega)] at hQ
              refine wp_eqls (ls' := [some (vR 45), some (vR s), some (vI p), some (vI (((i + 1) : Nat) : Int))]) rfl (ih hQ)
            · refine wp_aload_n (pc := 67) 0 dX3_spouseOf_67 rfl rfl ?_
              refine wp_getr (pc := 68) dX3_spouseOf_68 rfl f_X3_15 kd_45 la_45 rfl (r_45_1 D) ?_
              refine wp_getr (pc := 71) dX3_spouseOf_71 rfl f_X3_31 (tk_0 h3) (tl_0 h3) rfl (tr_0_5 D h3) ?_
              refine wp_iload_n (pc := 74) 3 dX3_spouseOf_74 rfl rfl ?_
              refine wq_iald (pc := 75) i dX3_spouseOf_75 (tk_6 h3) (tl_6 h3) rfl (by omega) ?_
              refine wp_eqst (st' := [vI (T 6 i)]) (by rw [← hT] <;> rfl) ?_
              refine wp_iret (pc := 76) dX3_spouseOf_76 rfl rfl ?_
              first | (rw [if_pos (by omega)] at hQ; exact hQ) | (rw [if_neg (by omega), if_pos (by omega)] at hQ; exact hQ)
        · refine wp_aload_n (pc := 35) 0 dX3_spouseOf_35 rfl rfl ?_
          refine wp_getr (pc := 36) dX3_spouseOf_36 rfl f_X3_15 kd_45 la_45 rfl (r_45_1 D) ?_
          refine wp_getr (pc := 39) dX3_spouseOf_39 rfl f_X3_34 (tk_0 h3) (tl_0 h3) rfl (tr_0_6 D h3) ?_
          refine wp_iload_n (pc := 42) 3 dX3_spouseOf_42 rfl rfl ?_
          refine wq_iald (pc := 43) i dX3_spouseOf_43 (tk_7 h3) (tl_7 h3) rfl (by omega) ?_
          refine wp_eqst (st' := [vI (T 7 i)]) (by rw [← hT] <;> rfl) ?_
          refine wp_iret (pc := 44) dX3_spouseOf_44 rfl rfl ?_
          first | (rw [if_pos (by omega)] at hQ; exact hQ) | (rw [if_neg (by omega), if_pos (by omega)] at hQ; exact hQ)

theorem sp_spouseOf {l : Launch} {G : mG} {d : Nat} {I : mI} {L : Nat → Nat → Int} {D : Nat → Nat} {Q : mQ} {s : Nat} {T : mT} {S : mS} {B : Int} {p : Int}  (h3 : isT (D 3)) (hs : isS s) (hT : TT I (D 3) = T) (hS : SS I s = S) (hw : tw T) (hv : sw S B) (hp : inR p) (hd : 1 ≤ d) (hQ : Q (some (vI (spF T S p (nQ T) 0))) I (XX L D)) : WP l G m_X3_spouseOf d 153 I (XX L D) 0 [some (vR 45), some (vR s), some (vI p), none] [] Q := by
  refine wp_iconst (pc := 0) dX3_spouseOf_0 ?_
  refine wq_istore_n (pc := 1) 3 [some (vR 45), some (vR s), some (vI p), some (vI 0)] dX3_spouseOf_1 rfl rfl (by decide) rfl ?_
  exact lp_spouseOf h3 hs hT hS hw hv hp hd 0 (Nat.zero_le _) hQ

def ancF (T : mT) (p : Nat) : Nat := setOf (fun c => decide (T 15 (p * 8 + c) ≠ -1)) 8
def knwF (T : mT) (p : Nat) : Nat := setOf (fun k => (T 14 k).toNat.testBit p) 8
theorem kn_step (T : mT) (p i : Nat) : setOf (fun k => (T 14 k).toNat.testBit p) (i + 1) = (setOf (fun k => (T 14 k).toNat.testBit p) i ||| ((T 14 i).toNat / 2 ^ p % 2 ^ 1) * 2 ^ i) := by
  rw [setOf]
  congr 1
  rw [show (2 : Nat) ^ 1 = 2 from rfl, Nat.testBit_eq_decide_div_mod_eq]
  have h9 := Nat.mod_lt ((T 14 i).toNat / 2 ^ p) (show 2 > 0 by decide)
  by_cases h8 : (T 14 i).toNat / 2 ^ p % 2 = 1
  · rw [h8]; simp
  · rw [show (T 14 i).toNat / 2 ^ p % 2 = 0 from by omega]; simp

theorem lp_ancestorsOf {l : Launch} {G : mG} {d : Nat} {I : mI} {L : Nat → Nat → Int} {D : Nat → Nat} {Q : mQ} {t : Nat} {T : mT} {p : Nat} (ht : isT t) (hT : TT I t = T) (hw : tw T) (hp : p < 8) (hd : 0 ≤ d) (hQ : Q (some (vI ((ancF T p : Int)))) I (XX L D)) : ∀ i : Nat, i ≤ 8 → WP l G m_X0_ancestorsOf d 153 I (XX L D) 4 [some (vR (t + 10)), some (vI (p : Int)), some (vI ((setOf (fun c => decide (T 15 (p * 8 + c) ≠ -1)) i : Nat) : Int)), some (vI (i : Int))] [] Q := by
  refine loop_dn (fun i => WP l G m_X0_ancestorsOf d 153 I (XX L D) 4 [some (vR (t + 10)), some (vI (p : Int)), some (vI ((setOf (fun c => decide (T 15 (p * 8 + c) ≠ -1)) i : Nat) : Int)), some (vI (i : Int))] [] Q) 8 ?_ (fun i hi ih => ?_)
  · refine wp_iload_n (pc := 4) 3 dX0_ancestorsOf_4 rfl rfl ?_
    refine wp_bipush (pc := 5) dX0_ancestorsOf_5 (by decide) ?_
    refine wp_icmp_ge (pc := 7) 37 dX0_ancestorsOf_7 (by decide) (by decide) (by decide) (fun _ => ?_) (fun hh => absurd hh (by decide))
    refine wp_iload_n (pc := 37) 2 dX0_ancestorsOf_37 rfl rfl ?_
    refine wp_iret (pc := 38) dX0_ancestorsOf_38 rfl rfl ?_
    exact hQ
  · have b1 := tw_steps hw (p * 8 + i)
    refine wp_iload_n (pc := 4) 3 dX0_ancestorsOf_4 rfl rfl ?_
    refine wp_bipush (pc := 5) dX0_ancestorsOf_5 (by decide) ?_
    refine wp_icmp_ge (pc := 7) 37 dX0_ancestorsOf_7 (by decide) (by omega) (by decide) (fun h_1 => ?_) (fun h_1 => ?_)
    · exfalso; omega
    · refine wp_aload_n (pc := 10) 0 dX0_ancestorsOf_10 rfl rfl ?_
      refine wp_getr (pc := 11) dX0_ancestorsOf_11 rfl f_X0_24 (tk_10 ht) (tl_10 ht) rfl (tr_10_4 D ht) ?_
      refine wp_iload_n (pc := 14) 1 dX0_ancestorsOf_14 rfl rfl ?_
      refine wp_bipush (pc := 15) dX0_ancestorsOf_15 (by decide) ?_
      refine wp_imul (pc := 17) dX0_ancestorsOf_17 ?_
      refine wp_iload_n (pc := 18) 3 dX0_ancestorsOf_18 rfl rfl ?_
      refine wp_iadd (pc := 19) dX0_ancestorsOf_19 ?_
      refine wq_iald (pc := 20) ((p * 8) + i) dX0_ancestorsOf_20 (tk_15 ht) (tl_15 ht) (by omega) (by omega) ?_
      refine wp_eqst (st' := [vI (T 15 ((p * 8) + i))]) (by rw [← hT] <;> rfl) ?_
      refine wp_iconst (pc := 21) dX0_ancestorsOf_21 ?_
      refine wp_icmp_eq (pc := 22) 31 dX0_ancestorsOf_22 (by decide) (by omega) (by decide) (fun h_2 => ?_) (fun h_2 => ?_)
      · refine wq_iinc (pc := 31) [some (vR (t + 10)), some (vI (p : Int)), some (vI ((setOf (fun c => decide (T 15 (p * 8 + c) ≠ -1)) i : Nat) : Int)), some (vI ((i : Int) + 1))] dX0_ancestorsOf_31 rfl rfl (by decide) rfl ?_
        refine wp_goto (pc := 34) 4 dX0_ancestorsOf_34 (by decide) ?_
        refine wp_eqls (ls' := [some (vR (t + 10)), some (vI (p : Int)), some (vI ((setOf (fun c => decide (T 15 (p * 8 + c) ≠ -1)) (i + 1) : Nat) : Int)), some (vI (((i + 1) : Nat) : Int))]) (by rw [setOf_n (f := (fun c => decide (T 15 (p * 8 + c) ≠ -1))) (n := i) (by exact decide_eq_false (by intro x; exact x (by assumption)))]; rfl) ih
      · refine wp_iload_n (pc := 25) 2 dX0_ancestorsOf_25 rfl rfl ?_
        refine wp_iconst (pc := 26) dX0_ancestorsOf_26 ?_
        refine wp_iload_n (pc := 27) 3 dX0_ancestorsOf_27 rfl rfl ?_
        refine wn_shl1 (pc := 28) i dX0_ancestorsOf_28 rfl (by omega) ?_
        refine wn_or (pc := 29) (setOf (fun c => decide (T 15 (p * 8 + c) ≠ -1)) i) (2 ^ i) dX0_ancestorsOf_29 rfl rfl ?_
        refine wq_istore_n (pc := 30) 2 [some (vR (t + 10)), some (vI (p : Int)), some (vI (((setOf (fun c => decide (T 15 (p * 8 + c) ≠ -1)) i) ||| (2 ^ i) : Nat) : Int)), some (vI (i : Int))] dX0_ancestorsOf_30 rfl rfl (by decide) rfl ?_
        refine wq_iinc (pc := 31) [some (vR (t + 10)), some (vI (p : Int)), some (vI (((setOf (fun c => decide (T 15 (p * 8 + c) ≠ -1)) i) ||| (2 ^ i) : Nat) : Int)), some (vI ((i : Int) + 1))] dX0_ancestorsOf_31 rfl rfl (by decide) rfl ?_
        refine wp_goto (pc := 34) 4 dX0_ancestorsOf_34 (by decide) ?_
        refine wp_eqls (ls' := [some (vR (t + 10)), some (vI (p : Int)), some (vI ((setOf (fun c => decide (T 15 (p * 8 + c) ≠ -1)) (i + 1) : Nat) : Int)), some (vI (((i + 1) : Nat) : Int))]) (by rw [setOf_y (f := (fun c => decide (T 15 (p * 8 + c) ≠ -1))) (n := i) (by exact decide_eq_true (by assumption))]; rfl) ih

theorem sp_ancestorsOf {l : Launch} {G : mG} {d : Nat} {I : mI} {L : Nat → Nat → Int} {D : Nat → Nat} {Q : mQ} {t : Nat} {T : mT} (p : Nat) {p_ : Int} (hp_ : p_ = (p : Int)) (ht : isT t) (hT : TT I t = T) (hw : tw T) (hp : p < 8) (hd : 0 ≤ d) (hQ : Q (some (vI ((ancF T p : Int)))) I (XX L D)) : WP l G m_X0_ancestorsOf d 153 I (XX L D) 0 [some (vR (t + 10)), some (vI p_), none, none] [] Q := by
  subst hp_
  refine wp_iconst (pc := 0) dX0_ancestorsOf_0 ?_
  refine wq_istore_n (pc := 1) 2 [some (vR (t + 10)), some (vI (p : Int)), some (vI 0), none] dX0_ancestorsOf_1 rfl rfl (by decide) rfl ?_
  refine wp_iconst (pc := 2) dX0_ancestorsOf_2 ?_
  refine wq_istore_n (pc := 3) 3 [some (vR (t + 10)), some (vI (p : Int)), some (vI 0), some (vI 0)] dX0_ancestorsOf_3 rfl rfl (by decide) rfl ?_
  exact lp_ancestorsOf ht hT hw hp hd hQ 0 (Nat.zero_le _)

theorem lp_knownBy {l : Launch} {G : mG} {d : Nat} {I : mI} {L : Nat → Nat → Int} {D : Nat → Nat} {Q : mQ} {t : Nat} {T : mT} {p : Nat} (ht : isT t) (hT : TT I t = T) (hw : tw T) (hp : p < 8) (hd : 0 ≤ d) (hQ : Q (some (vI ((knwF T p : Int)))) I (XX L D)) : ∀ i : Nat, i ≤ 8 → WP l G m_X0_knownBy d 153 I (XX L D) 4 [some (vR (t + 10)), some (vI (p : Int)), some (vI ((setOf (fun k => (T 14 k).toNat.testBit p) i : Nat) : Int)), some (vI (i : Int))] [] Q := by
  refine loop_dn (fun i => WP l G m_X0_knownBy d 153 I (XX L D) 4 [some (vR (t + 10)), some (vI (p : Int)), some (vI ((setOf (fun k => (T 14 k).toNat.testBit p) i : Nat) : Int)), some (vI (i : Int))] [] Q) 8 ?_ (fun i hi ih => ?_)
  · refine wp_iload_n (pc := 4) 3 dX0_knownBy_4 rfl rfl ?_
    refine wp_bipush (pc := 5) dX0_knownBy_5 (by decide) ?_
    refine wp_icmp_ge (pc := 7) 31 dX0_knownBy_7 (by decide) (by decide) (by decide) (fun _ => ?_) (fun hh => absurd hh (by decide))
    refine wp_iload_n (pc := 31) 2 dX0_knownBy_31 rfl rfl ?_
    refine wp_iret (pc := 32) dX0_knownBy_32 rfl rfl ?_
    exact hQ
  · have b1 := tw_knows hw i
    refine wp_iload_n (pc := 4) 3 dX0_knownBy_4 rfl rfl ?_
    refine wp_bipush (pc := 5) dX0_knownBy_5 (by decide) ?_
    refine wp_icmp_ge (pc := 7) 31 dX0_knownBy_7 (by decide) (by omega) (by decide) (fun h_1 => ?_) (fun h_1 => ?_)
    · exfalso; omega
    · refine wp_iload_n (pc := 10) 2 dX0_knownBy_10 rfl rfl ?_
      refine wp_aload_n (pc := 11) 0 dX0_knownBy_11 rfl rfl ?_
      refine wp_getr (pc := 12) dX0_knownBy_12 rfl f_X0_21 (tk_10 ht) (tl_10 ht) rfl (tr_10_3 D ht) ?_
      refine wp_iload_n (pc := 15) 3 dX0_knownBy_15 rfl rfl ?_
      refine wq_iald (pc := 16) i dX0_knownBy_16 (tk_14 ht) (tl_14 ht) rfl (by omega) ?_
      refine wp_eqst (st' := [vI (T 14 i), vI ((setOf (fun k => (T 14 k).toNat.testBit p) i : Nat) : Int)]) (by rw [← hT] <;> rfl) ?_
      refine wp_iload_n (pc := 17) 1 dX0_knownBy_17 rfl rfl ?_
      refine wn_shr (pc := 18) (Int.toNat (T 14 i)) p dX0_knownBy_18 (by omega) rfl (by omega) (by omega) ?_
      refine wp_iconst (pc := 19) dX0_knownBy_19 ?_
      refine wn_mask (pc := 20) ((Int.toNat (T 14 i)) / 2 ^ p) 1 dX0_knownBy_20 rfl rfl (by decide) ?_
      refine wp_iload_n (pc := 21) 3 dX0_knownBy_21 rfl rfl ?_
      refine wn_shl (pc := 22) (((Int.toNat (T 14 i)) / 2 ^ p) % 2 ^ 1) i dX0_knownBy_22 rfl rfl (by omega) ?_
      refine wn_or (pc := 23) (setOf (fun k => (T 14 k).toNat.testBit p) i) ((((Int.toNat (T 14 i)) / 2 ^ p) % 2 ^ 1) * 2 ^ i) dX0_knownBy_23 rfl rfl ?_
      refine wq_istore_n (pc := 24) 2 [some (vR (t + 10)), some (vI (p : Int)), some (vI (((setOf (fun k => (T 14 k).toNat.testBit p) i) ||| ((((Int.toNat (T 14 i)) / 2 ^ p) % 2 ^ 1) * 2 ^ i) : Nat) : Int)), some (vI (i : Int))] dX0_knownBy_24 rfl rfl (by decide) rfl ?_
      refine wq_iinc (pc := 25) [some (vR (t + 10)), some (vI (p : Int)), some (vI (((setOf (fun k => (T 14 k).toNat.testBit p) i) ||| ((((Int.toNat (T 14 i)) / 2 ^ p) % 2 ^ 1) * 2 ^ i) : Nat) : Int)), some (vI ((i : Int) + 1))] dX0_knownBy_25 rfl rfl (by decide) rfl ?_
      refine wp_goto (pc := 28) 4 dX0_knownBy_28 (by decide) ?_
      refine wp_eqls (ls' := [some (vR (t + 10)), some (vI (p : Int)), some (vI ((setOf (fun k => (T 14 k).toNat.testBit p) (i + 1) : Nat) : Int)), some (vI (((i + 1) : Nat) : Int))]) (by rw [kn_step]; rfl) ih

theorem sp_knownBy {l : Launch} {G : mG} {d : Nat} {I : mI} {L : Nat → Nat → Int} {D : Nat → Nat} {Q : mQ} {t : Nat} {T : mT} (p : Nat) {p_ : Int} (hp_ : p_ = (p : Int)) (ht : isT t) (hT : TT I t = T) (hw : tw T) (hp : p < 8) (hd : 0 ≤ d) (hQ : Q (some (vI ((knwF T p : Int)))) I (XX L D)) : WP l G m_X0_knownBy d 153 I (XX L D) 0 [some (vR (t + 10)), some (vI p_), none, none] [] Q := by
  subst hp_
  refine wp_iconst (pc := 0) dX0_knownBy_0 ?_
  refine wq_istore_n (pc := 1) 2 [some (vR (t + 10)), some (vI (p : Int)), some (vI 0), none] dX0_knownBy_1 rfl rfl (by decide) rfl ?_
  refine wp_iconst (pc := 2) dX0_knownBy_2 ?_
  refine wq_istore_n (pc := 3) 3 [some (vR (t + 10)), some (vI (p : Int)), some (vI 0), some (vI 0)] dX0_knownBy_3 rfl rfl (by decide) rfl ?_
  exact lp_knownBy ht hT hw hp hd hQ 0 (Nat.zero_le _)

theorem knwF_lt (T : mT) (p : Nat) : knwF T p < 256 := setOf_lt _ 8
theorem ancF_lt (T : mT) (p : Nat) : ancF T p < 256 := setOf_lt _ 8

def ZZ (I : mI) : mT := fun k j => if k < 7 then I (104 + k) j else 0
def zw (Z : mT) : Prop := (0 ≤ Z 0 6 ∧ Z 0 6 ≤ 30) ∧ (0 ≤ Z 0 7 ∧ Z 0 7 ≤ 100000) ∧ (∀ j, 0 ≤ Z 1 j ∧ Z 1 j ≤ 2) ∧ (∀ j, 0 ≤ Z 2 j ∧ Z 2 j ≤ 7) ∧ (∀ j, 0 ≤ Z 3 j ∧ Z 3 j ≤ 8) ∧ (∀ j, Z 4 j = 0 ∨ Z 4 j = 1) ∧ (∀ j, 0 ≤ Z 5 j ∧ Z 5 j ≤ 100000) ∧ (∀ j, -1 ≤ Z 6 j ∧ Z 6 j ≤ 100000)
abbrev nZ (Z : mT) : Nat := (Z 0 6).toNat
abbrev cntS (Z : mT) (j : Nat) (k : Int) : Prop := Z 5 j ≤ k ∧ ¬ (Z 6 j ≠ -1 ∧ Z 6 j ≤ k)
def isSo (T : mT) (S : mS) (Z : mT) (j p : Nat) : Prop := if Z 1 j = 0 then S p = Z 2 j else if Z 1 j = 1 then (T 14 p).toNat.testBit (Z 2 j).toNat = true else kinW T p (Z 2 j).toNat (Z 3 j)
/-- all that counts from j on, k of it, is so of p -/
def fitG (T : mT) (S : mS) (Z : mT) (p : Nat) (m : Int) : Nat → Nat → Prop
  | 0, _ => True
  | k + 1, j => (cntS Z j m → (isSo T S Z j p ↔ Z 4 j = 1)) ∧ fitG T S Z p m k (j + 1)

theorem sp_counts {l : Launch} {G : mG} {d : Nat} {I : mI} {L : Nat → Nat → Int} {D : Nat → Nat} {Q : mQ} {Z : mT} {m : Int} (j : Nat) {j_ : Int} (hj_ : j_ = (j : Int)) (hZ : ZZ I = Z) (hz : zw Z) (hj : j < 30) (hm : inR m) (hd : 0 ≤ d) (h1 : cntS Z j m → Q (some (vI 1)) I (XX L D)) (h0 : ¬ (cntS Z j m) → Q (some (vI 0)) I (XX L D)) : WP l G m_X5_counts d 153 I (XX L D) 0 [some (vR 104), some (vI j_), some (vI m), none] [] Q := by
  subst hj_
  have z1 := hz.2.2.1 j
  have z2 := hz.2.2.2.1 j
  have z3 := hz.2.2.2.2.1 j
  have z4 := hz.2.2.2.2.2.1 j
  have z5 := hz.2.2.2.2.2.2.1 j
  have z6 := hz.2.2.2.2.2.2.2 j
  refine wp_aload_n (pc := 0) 0 dX5_counts_0 rfl rfl ?_
  refine wp_getr (pc := 1) dX5_counts_1 rfl f_X5_28 kd_104 la_104 rfl (r_104_5 D) ?_
  refine wp_iload_n (pc := 4) 1 dX5_counts_4 rfl rfl ?_
  refine wq_iald (pc := 5) j dX5_counts_5 kd_110 la_110 rfl (by omega) ?_
  refine wp_eqst (st' := [vI ((Z 6) j)]) (by rw [← hZ] <;> rfl) ?_
  refine wp_iconst (pc := 6) dX5_counts_6 ?_
  refine wp_icmp_eq (pc := 7) 24 dX5_counts_7 (by decide) (by omega) (by decide) (fun h_1 => ?_) (fun h_1 => ?_)
  · refine wp_iconst (pc := 24) dX5_counts_24 ?_
    refine wq_istore_n (pc := 25) 3 [some (vR 104), some (vI (j : Int)), some (vI m), some (vI 0)] dX5_counts_25 rfl rfl (by decide) rfl ?_
    refine wp_aload_n (pc := 26) 0 dX5_counts_26 rfl rfl ?_
    refine wp_getr (pc := 27) dX5_counts_27 rfl f_X5_25 kd_104 la_104 rfl (r_104_4 D) ?_
    refine wp_iload_n (pc := 30) 1 dX5_counts_30 rfl rfl ?_
    refine wq_iald (pc := 31) j dX5_counts_31 kd_109 la_109 rfl (by omega) ?_
    refine wp_eqst (st' := [vI ((Z 5) j)]) (by rw [← hZ] <;> rfl) ?_
    refine wp_iload_n (pc := 32) 2 dX5_counts_32 rfl rfl ?_
    refine wp_icmp_gt (pc := 33) 44 dX5_counts_33 (by decide) (by omega) (by omega) (fun h_2 => ?_) (fun h_2 => ?_)
    · refine wp_iconst (pc := 44) dX5_counts_44 ?_
      refine wp_zret (pc := 45) dX5_counts_45 rfl rfl (by decide) ?_
      exact h0 (by omega)
    · refine wp_iload_n (pc := 36) 3 dX5_counts_36 rfl rfl ?_
      refine wp_if_ne (pc := 37) 44 dX5_counts_37 (by decide) (by decide) (fun hh => absurd hh (by decide)) (fun _ => ?_)
      refine wp_iconst (pc := 40) dX5_counts_40 ?_
      refine wp_goto (pc := 41) 45 dX5_counts_41 (by decide) ?_
      refine wp_zret (pc := 45) dX5_counts_45 rfl rfl (by decide) ?_
      exact h1 (by omega)
  · refine wp_aload_n (pc := 10) 0 dX5_counts_10 rfl rfl ?_
    refine wp_getr (pc := 11) dX5_counts_11 rfl f_X5_28 kd_104 la_104 rfl (r_104_5 D) ?_
    refine wp_iload_n (pc := 14) 1 dX5_counts_14 rfl rfl ?_
    refine wq_iald (pc := 15) j dX5_counts_15 kd_110 la_110 rfl (by omega) ?_
    refine wp_eqst (st' := [vI ((Z 6) j)]) (by rw [← hZ] <;> rfl) ?_
    refine wp_iload_n (pc := 16) 2 dX5_counts_16 rfl rfl ?_
    refine wp_icmp_gt (pc := 17) 24 dX5_counts_17 (by decide) (by omega) (by omega) (fun h_3 => ?_) (fun h_3 => ?_)
    · refine wp_iconst (pc := 24) dX5_counts_24 ?_
      refine wq_istore_n (pc := 25) 3 [some (vR 104), some (vI (j : Int)), some (vI m), some (vI 0)] dX5_counts_25 rfl rfl (by decide) rfl ?_
      refine wp_aload_n (pc := 26) 0 dX5_counts_26 rfl rfl ?_
      refine wp_getr (pc := 27) dX5_counts_27 rfl f_X5_25 kd_104 la_104 rfl (r_104_4 D) ?_
      refine wp_iload_n (pc := 30) 1 dX5_counts_30 rfl rfl ?_
      refine wq_iald (pc := 31) j dX5_counts_31 kd_109 la_109 rfl (by omega) ?_
      refine wp_eqst (st' := [vI ((Z 5) j)]) (by rw [← hZ] <;> rfl) ?_
      refine wp_iload_n (pc := 32) 2 dX5_counts_32 rfl rfl ?_
      refine wp_icmp_gt (pc := 33) 44 dX5_counts_33 (by decide) (by omega) (by omega) (fun h_4 => ?_) (fun h_4 => ?_)
      · refine wp_iconst (pc := 44) dX5_counts_44 ?_
        refine wp_zret (pc := 45) dX5_counts_45 rfl rfl (by decide) ?_
        exact h0 (by omega)
      · refine wp_iload_n (pc := 36) 3 dX5_counts_36 rfl rfl ?_
        refine wp_if_ne (pc := 37) 44 dX5_counts_37 (by decide) (by decide) (fun hh => absurd hh (by decide)) (fun _ => ?_)
        refine wp_iconst (pc := 40) dX5_counts_40 ?_
        refine wp_goto (pc := 41) 45 dX5_counts_41 (by decide) ?_
        refine wp_zret (pc := 45) dX5_counts_45 rfl rfl (by decide) ?_
        exact h1 (by omega)
    · refine wp_iconst (pc := 20) dX5_counts_20 ?_
      refine wp_goto (pc := 21) 25 dX5_counts_21 (by decide) ?_
      refine wq_istore_n (pc := 25) 3 [some (vR 104), some (vI (j : Int)), some (vI m), some (vI 1)] dX5_counts_25 rfl rfl (by decide) rfl ?_
      refine wp_aload_n (pc := 26) 0 dX5_counts_26 rfl rfl ?_
      refine wp_getr (pc := 27) dX5_counts_27 rfl f_X5_25 kd_104 la_104 rfl (r_104_4 D) ?_
      refine wp_iload_n (pc := 30) 1 dX5_counts_30 rfl rfl ?_
      refine wq_iald (pc := 31) j dX5_counts_31 kd_109 la_109 rfl (by omega) ?_
      refine wp_eqst (st' := [vI ((Z 5) j)]) (by rw [← hZ] <;> rfl) ?_
      refine wp_iload_n (pc := 32) 2 dX5_counts_32 rfl rfl ?_
      refine wp_icmp_gt (pc := 33) 44 dX5_counts_33 (by decide) (by omega) (by omega) (fun h_5 => ?_) (fun h_5 => ?_)
      · refine wp_iconst (pc := 44) dX5_counts_44 ?_
        refine wp_zret (pc := 45) dX5_counts_45 rfl rfl (by decide) ?_
        exact h0 (by omega)
      · refine wp_iload_n (pc := 36) 3 dX5_counts_36 rfl rfl ?_
        refine wp_if_ne (pc := 37) 44 dX5_counts_37 (by decide) (by decide) (fun _ => ?_) (fun hh => absurd hh (by decide))
        refine wp_iconst (pc := 44) dX5_counts_44 ?_
        refine wp_zret (pc := 45) dX5_counts_45 rfl rfl (by decide) ?_
        exact h0 (by omega)

theorem sp_isSo {l : Launch} {G : mG} {d : Nat} {I : mI} {L : Nat → Nat → Int} {D : Nat → Nat} {Q : mQ} {t s : Nat} {T : mT} {S : mS} {Z : mT} {B : Int} (j : Nat) {j_ : Int} (hj_ : j_ = (j : Int)) (p : Nat) {p_ : Int} (hp_ : p_ = (p : Int)) (ht : isT t) (hs : isS s) (hT : TT I t = T) (hS : SS I s = S) (hw : tw T) (hv : sw S B) (hZ : ZZ I = Z) (hz : zw Z) (hj : j < 30) (hp : p < 8) (hd : 1 ≤ d) (h1 : isSo T S Z j p → Q (some (vI 1)) I (XX L D)) (h0 : ¬ (isSo T S Z j p) → Q (some (vI 0)) I (XX L D)) : WP l G m_X5_isSo d 153 I (XX L D) 0 [some (vR 104), some (vR t), some (vR s), some (vI j_), some (vI p_), none] [] Q := by
  subst hj_
  subst hp_
  have z1 := hz.2.2.1 j
  have z2 := hz.2.2.2.1 j
  have z3 := hz.2.2.2.2.1 j
  have z4 := hz.2.2.2.2.2.1 j
  have z5 := hz.2.2.2.2.2.2.1 j
  have z6 := hz.2.2.2.2.2.2.2 j
  have b1 := sw_seat hv hp
  have b2 := tw_knows hw p
  have b3 := bit_lt (T 14 p).toNat (Z 2 j).toNat
  refine wp_aload_n (pc := 0) 0 dX5_isSo_0 rfl rfl ?_
  refine wp_getr (pc := 1) dX5_isSo_1 rfl f_X5_15 kd_104 la_104 rfl (r_104_1 D) ?_
  refine wp_iload_n (pc := 4) 3 dX5_isSo_4 rfl rfl ?_
  refine wq_iald (pc := 5) j dX5_isSo_5 kd_106 la_106 rfl (by omega) ?_
  refine wp_eqst (st' := [vI ((Z 2) j)]) (by rw [← hZ] <;> rfl) ?_
  refine wq_istore (pc := 6) [some (vR 104), some (vR t), some (vR s), some (vI (j : Int)), some (vI (p : Int)), some (vI ((Z 2) j))] dX5_isSo_6 rfl (by decide) rfl ?_
  refine wp_aload_n (pc := 8) 0 dX5_isSo_8 rfl rfl ?_
  refine wp_getr (pc := 9) dX5_isSo_9 rfl f_X5_11 kd_104 la_104 rfl (r_104_0 D) ?_
  refine wp_iload_n (pc := 12) 3 dX5_isSo_12 rfl rfl ?_
  refine wq_iald (pc := 13) j dX5_isSo_13 kd_105 la_105 rfl (by omega) ?_
  refine wp_eqst (st' := [vI ((Z 1) j)]) (by rw [← hZ] <;> rfl) ?_
  by_cases h_1 : (Z 1) j = 0
  · refine wp_lsw (pc := 14) 40 dX5_isSo_14 (by omega) (by decide) (by rw [h_1] <;> decide) (by decide) ?_
    refine wp_aload_n (pc := 40) 2 dX5_isSo_40 rfl rfl ?_
    refine wp_iload (pc := 41) dX5_isSo_41 rfl ?_
    refine wp_callV (pc := 43) (st := []) (nf' := 153) [vI (p : Int)] [some (vR s), some (vI (p : Int))] dX5_isSo_43 rfl c_X5_55 rfl (sk_0 hs) (by decide) rfl (sl_0 hs) rfl (Nat.le_of_ble_eq_true rfl) rfl (Nat.le_of_ble_eq_true rfl) (by omega) (Nat.le_refl _) (Nat.le_refl _) ?_
    refine wp_aload_n (pc := 0) 0 dX7_seat_0 rfl rfl ?_
    refine wp_getr (pc := 1) dX7_seat_1 rfl f_X7_11 (sk_0 hs) (sl_0 hs) rfl (sr_0_0 D hs) ?_
    refine wp_iconst (pc := 4) dX7_seat_4 ?_
    refine wp_iload_n (pc := 5) 1 dX7_seat_5 rfl rfl ?_
    refine wp_iadd (pc := 6) dX7_seat_6 ?_
    refine wq_iald (pc := 7) p dX7_seat_7 (sk_1 hs) (sl_1 hs) (by omega) (by omega) ?_
    refine wp_eqst (st' := [vI (S p)]) (by rw [← hS] <;> rfl) ?_
    refine wp_iret (pc := 8) dX7_seat_8 rfl rfl ?_
    refine wp_eqst (st' := [vI (S p)]) rfl ?_
    refine wp_iload (pc := 46) dX5_isSo_46 rfl ?_
    refine wp_icmp_ne (pc := 48) 55 dX5_isSo_48 (by decide) (by omega) (by omega) (fun h_2 => ?_) (fun h_2 => ?_)
    · refine wp_iconst (pc := 55) dX5_isSo_55 ?_
      refine wp_zret (pc := 56) dX5_isSo_56 rfl rfl (by decide) ?_
      have e1 : isSo T S Z j p = (S p = Z 2 j) := if_pos (by assumption)
      rw [e1] at h1 h0
      exact h0 (by omega)
    · refine wp_iconst (pc := 51) dX5_isSo_51 ?_
      refine wp_goto (pc := 52) 56 dX5_isSo_52 (by decide) ?_
      refine wp_zret (pc := 56) dX5_isSo_56 rfl rfl (by decide) ?_
      have e1 : isSo T S Z j p = (S p = Z 2 j) := if_pos (by assumption)
      rw [e1] at h1 h0
      exact h1 (by omega)
  by_cases h_3 : (Z 1) j = 1
  · refine wp_lsw (pc := 14) 57 dX5_isSo_14 (by omega) (by decide) (by rw [h_3] <;> decide) (by decide) ?_
    refine wp_aload_n (pc := 57) 1 dX5_isSo_57 rfl rfl ?_
    refine wp_getr (pc := 58) dX5_isSo_58 rfl f_X5_61 (tk_0 ht) (tl_0 ht) rfl (tr_0_9 D ht) ?_
    refine wp_getr (pc := 61) dX5_isSo_61 rfl f_X5_65 (tk_10 ht) (tl_10 ht) rfl (tr_10_3 D ht) ?_
    refine wp_iload (pc := 64) dX5_isSo_64 rfl ?_
    refine wq_iald (pc := 66) p dX5_isSo_66 (tk_14 ht) (tl_14 ht) rfl (by omega) ?_
    refine wp_eqst (st' := [vI (T 14 p)]) (by rw [← hT] <;> rfl) ?_
    refine wp_iload (pc := 67) dX5_isSo_67 rfl ?_
    refine wn_shr (pc := 69) (Int.toNat (T 14 p)) (Int.toNat ((Z 2) j)) dX5_isSo_69 (by omega) (by omega) (by omega) (by omega) ?_
    refine wp_iconst (pc := 70) dX5_isSo_70 ?_
    refine wn_mask (pc := 71) ((Int.toNat (T 14 p)) / 2 ^ (Int.toNat ((Z 2) j))) 1 dX5_isSo_71 rfl rfl (by decide) ?_
    refine wp_iconst (pc := 72) dX5_isSo_72 ?_
    refine wp_icmp_ne (pc := 73) 80 dX5_isSo_73 (by decide) (by omega) (by decide) (fun h_4 => ?_) (fun h_4 => ?_)
    · refine wp_iconst (pc := 80) dX5_isSo_80 ?_
      refine wp_zret (pc := 81) dX5_isSo_81 rfl rfl (by decide) ?_
      have e1 : isSo T S Z j p = ((T 14 p).toNat.testBit (Z 2 j).toNat = true) := (if_neg (by omega)).trans (if_pos (by assumption))
      rw [e1] at h1 h0
      exact h0 (by rw [← bit_iff]; assumption)
    · refine wp_iconst (pc := 76) dX5_isSo_76 ?_
      refine wp_goto (pc := 77) 81 dX5_isSo_77 (by decide) ?_
      refine wp_zret (pc := 81) dX5_isSo_81 rfl rfl (by decide) ?_
      have e1 : isSo T S Z j p = ((T 14 p).toNat.testBit (Z 2 j).toNat = true) := (if_neg (by omega)).trans (if_pos (by assumption))
      rw [e1] at h1 h0
      exact h1 (by rw [← bit_iff]; assumption)
  refine wp_lsw (pc := 14) (off := 68) 82 dX5_isSo_14 (by omega) (by decide) (by simp only [Op.lookupswitch.offset_cons, Op.lookupswitch.offset]; repeat rw [if_neg (by omega)]) (by decide) ?_
  refine wp_aload_n (pc := 82) 1 dX5_isSo_82 rfl rfl ?_
  refine wp_getr (pc := 83) dX5_isSo_83 rfl f_X5_61 (tk_0 ht) (tl_0 ht) rfl (tr_0_9 D ht) ?_
  refine wp_iload (pc := 86) dX5_isSo_86 rfl ?_
  refine wp_iload (pc := 88) dX5_isSo_88 rfl ?_
  refine wp_aload_n (pc := 90) 0 dX5_isSo_90 rfl rfl ?_
  refine wp_getr (pc := 91) dX5_isSo_91 rfl f_X5_18 kd_104 la_104 rfl (r_104_2 D) ?_
  refine wp_iload_n (pc := 94) 3 dX5_isSo_94 rfl rfl ?_
  refine wq_iald (pc := 95) j dX5_isSo_95 kd_107 la_107 rfl (by omega) ?_
  refine wp_eqst (st' := [vI ((Z 3) j), vI ((Z 2) j), vI (p : Int), vR (t + 10)]) (by rw [← hZ] <;> rfl) ?_
  refine wp_callV (pc := 96) (st := []) (nf' := 153) [vI (p : Int), vI ((Z 2) j), vI ((Z 3) j)] [some (vR (t + 10)), some (vI (p : Int)), some (vI ((Z 2) j)), some (vI ((Z 3) j)), none] dX5_isSo_96 rfl c_X5_70 rfl (tk_10 ht) (by decide) rfl (tl_10 ht) rfl (Nat.le_of_ble_eq_true rfl) rfl (Nat.le_of_ble_eq_true rfl) (by omega) (Nat.le_refl _) (Nat.le_refl _) ?_
  refine sp_isWithin p rfl (Int.toNat ((Z 2) j)) (by omega) ht hT hw (by omega) (by omega) (by omega) (by omega) (fun h_5 => ?_) (fun h_5 => ?_)
  · refine wp_eqst (st' := [vI 1]) rfl ?_
    refine wp_zret (pc := 99) dX5_isSo_99 rfl rfl (by decide) ?_
    have e1 : isSo T S Z j p = kinW T p (Z 2 j).toNat (Z 3 j) := (if_neg (by omega)).trans (if_neg (by omega))
    rw [e1] at h1 h0
    exact h1 (by assumption)
  · refine wp_eqst (st' := [vI 0]) rfl ?_
    refine wp_zret (pc := 99) dX5_isSo_99 rfl rfl (by decide) ?_
    have e1 : isSo T S Z j p = kinW T p (Z 2 j).toNat (Z 3 j) := (if_neg (by omega)).trans (if_neg (by omega))
    rw [e1] at h1 h0
    exact h0 (by assumption)

theorem lp_isFitting {l : Launch} {G : mG} {d : Nat} {I : mI} {L : Nat → Nat → Int} {D : Nat → Nat} {Q : mQ} {t s : Nat} {T : mT} {S : mS} {Z : mT} {B : Int} {p : Nat} {m : Int} (ht : isT t) (hs : isS s) (hT : TT I t = T) (hS : SS I s = S) (hw : tw T) (hv : sw S B) (hZ : ZZ I = Z) (hz : zw Z) (hp : p < 8) (hm : inR m) (hd : 2 ≤ d) : ∀ i : Nat, i ≤ nZ Z → (fitG T S Z p m (nZ Z - i) i → Q (some (vI 1)) I (XX L D)) → (¬ fitG T S Z p m (nZ Z - i) i → Q (some (vI 0)) I (XX L D)) → WP l G m_X5_isFitting d 153 I (XX L D) 3 [some (vR 104), some (vR t), some (vR s), some (vI (p : Int)), some (vI m), some (vI (i : Int))] [] Q := by
  have b0 := hz.1
  have eN : nZ Z = (Z 0 6).toNat := rfl
  refine loop_dn (fun i => (fitG T S Z p m (nZ Z - i) i → Q (some (vI 1)) I (XX L D)) → (¬ fitG T S Z p m (nZ Z - i) i → Q (some (vI 0)) I (XX L D)) → WP l G m_X5_isFitting d 153 I (XX L D) 3 [some (vR 104), some (vR t), some (vR s), some (vI (p : Int)), some (vI m), some (vI (i : Int))] [] Q) (nZ Z) ?_ (fun i hi ih => ?_)
  · intro h1 h0
    rw [Nat.sub_self] at h1 h0
    refine wp_iload (pc := 3) dX5_isFitting_3 rfl ?_
    refine wp_aload_n (pc := 5) 0 dX5_isFitting_5 rfl rfl ?_
    refine wp_geti (pc := 6) dX5_isFitting_6 rfl f_X5_31 kd_104 la_104 (Or.inl rfl) ?_
    refine wp_eqst (st' := [vI ((Z 0) 6), vI (((nZ Z) : Nat) : Int)]) (by rw [← hZ] <;> rfl) ?_
    refine wp_icmp_ge (pc := 9) 50 dX5_isFitting_9 (by decide) (by omega) (by omega) (fun h_1 => ?_) (fun h_1 => ?_)
    · refine wp_iconst (pc := 50) dX5_isFitting_50 ?_
      refine wp_zret (pc := 51) dX5_isFitting_51 rfl rfl (by decide) ?_
      exact h1 trivial
    · exfalso; omega
  · intro h1 h0
    have er : nZ Z - i = (nZ Z - (i + 1)) + 1 := by omega
    rw [er, fitG] at h1 h0
    have z4 := hz.2.2.2.2.2.1 i
    refine wp_iload (pc := 3) dX5_isFitting_3 rfl ?_
    refine wp_aload_n (pc := 5) 0 dX5_isFitting_5 rfl rfl ?_
    refine wp_geti (pc := 6) dX5_isFitting_6 rfl f_X5_31 kd_104 la_104 (Or.inl rfl) ?_
    refine wp_eqst (st' := [vI ((Z 0) 6), vI (i : Int)]) (by rw [← hZ] <;> rfl) ?_
    refine wp_icmp_ge (pc := 9) 50 dX5_isFitting_9 (by decide) (by omega) (by omega) (fun h_1 => ?_) (fun h_1 => ?_)
    · exfalso; omega
    · refine wp_aload_n (pc := 12) 0 dX5_isFitting_12 rfl rfl ?_
      refine wp_iload (pc := 13) dX5_isFitting_13 rfl ?_
      refine wp_iload (pc := 15) dX5_isFitting_15 rfl ?_
      refine wp_callV (pc := 17) (st := []) (nf' := 153) [vI (i : Int), vI m] [some (vR 104), some (vI (i : Int)), some (vI m), none] dX5_isFitting_17 rfl c_X5_48 rfl kd_104 (by decide) rfl la_104 rfl (Nat.le_of_ble_eq_true rfl) rfl (Nat.le_of_ble_eq_true rfl) (by omega) (Nat.le_refl _) (Nat.le_refl _) ?_
      refine sp_counts i rfl hZ hz (by omega) (by omega) (by omega) (fun h_2 => ?_) (fun h_2 => ?_)
      · refine wp_eqst (st' := [vI 1]) rfl ?_
        refine wp_if_eq (pc := 20) 44 dX5_isFitting_20 (by decide) (by decide) (fun hh => absurd hh (by decide)) (fun _ => ?_)
        refine wp_aload_n (pc := 23) 0 dX5_isFitting_23 rfl rfl ?_
        refine wp_aload_n (pc := 24) 1 dX5_isFitting_24 rfl rfl ?_
        refine wp_aload_n (pc := 25) 2 dX5_isFitting_25 rfl rfl ?_
        refine wp_iload (pc := 26) dX5_isFitting_26 rfl ?_
        refine wp_iload_n (pc := 28) 3 dX5_isFitting_28 rfl rfl ?_
        refine wp_callV (pc := 29) (st := []) (nf' := 153) [vR t, vR s, vI (i : Int), vI (p : Int)] [some (vR 104), some (vR t), some (vR s), some (vI (i : Int)), some (vI (p : Int)), none] dX5_isFitting_29 rfl c_X5_52 rfl kd_104 (by decide) rfl la_104 rfl (Nat.le_of_ble_eq_true rfl) rfl (Nat.le_of_ble_eq_true rfl) (by omega) (Nat.le_refl _) (Nat.le_refl _) ?_
        refine sp_isSo i rfl p rfl ht hs hT hS hw hv hZ hz (by omega) (by omega) (by omega) (fun h_3 => ?_) (fun h_3 => ?_)
        · refine wp_eqst (st' := [vI 1]) rfl ?_
          refine wp_aload_n (pc := 32) 0 dX5_isFitting_32 rfl rfl ?_
          refine wp_getr (pc := 33) dX5_isFitting_33 rfl f_X5_21 kd_104 la_104 rfl (r_104_3 D) ?_
          refine wp_iload (pc := 36) dX5_isFitting_36 rfl ?_
          refine wq_zald (pc := 38) i dX5_isFitting_38 kd_108 la_108 rfl (by omega) ?_
          refine wp_eqst (st' := [vI ((Z 4) i), vI 1]) (by rw [← hZ] <;> rfl) ?_
          refine wp_icmp_eq (pc := 39) 44 dX5_isFitting_39 (by decide) (by decide) (by omega) (fun h_4 => ?_) (fun h_4 => ?_)
          · refine wq_iinc (pc := 44) [some (vR 104), some (vR t), some (vR s), some (vI (p : Int)), some (vI m), some (vI ((i : Int) + 1))] dX5_isFitting_44 rfl rfl (by decide) rfl ?_
            refine wp_goto (pc := 47) 3 dX5_isFitting_47 (by decide) ?_
            refine wp_eqls (ls' := [some (vR 104), some (vR t), some (vR s), some (vI (p : Int)), some (vI m), some (vI (((i + 1) : Nat) : Int))]) rfl (ih (fun x => h1 ⟨(fun _ => by constructor <;> intro x <;> first | omega | exact h_3 | exact absurd x h_3 | exact absurd h_3 (by omega)), x⟩) (fun x => h0 (fun y => x y.2)))
          · refine wp_iconst (pc := 42) dX5_isFitting_42 ?_
            refine wp_zret (pc := 43) dX5_isFitting_43 rfl rfl (by decide) ?_
            refine h0 (fun y => ?_)
            have y1 := y.1 h_2
            first | (have y2 := y1.mp h_3; omega) | (exact h_3 (y1.mpr (by omega)))
        · refine wp_eqst (st' := [vI 0]) rfl ?_
          refine wp_aload_n (pc := 32) 0 dX5_isFitting_32 rfl rfl ?_
          refine wp_getr (pc := 33) dX5_isFitting_33 rfl f_X5_21 kd_104 la_104 rfl (r_104_3 D) ?_
          refine wp_iload (pc := 36) dX5_isFitting_36 rfl ?_
          refine wq_zald (pc := 38) i dX5_isFitting_38 kd_108 la_108 rfl (by omega) ?_
          refine wp_eqst (st' := [vI ((Z 4) i), vI 0]) (by rw [← hZ] <;> rfl) ?_
          refine wp_icmp_eq (pc := 39) 44 dX5_isFitting_39 (by decide) (by decide) (by omega) (fun h_5 => ?_) (fun h_5 => ?_)
          · refine wq_iinc (pc := 44) [some (vR 104), some (vR t), some (vR s), some (vI (p : Int)), some (vI m), some (vI ((i : Int) + 1))] dX5_isFitting_44 rfl rfl (by decide) rfl ?_
            refine wp_goto (pc := 47) 3 dX5_isFitting_47 (by decide) ?_
            refine wp_eqls (ls' := [some (vR 104), some (vR t), some (vR s), some (vI (p : Int)), some (vI m), some (vI (((i + 1) : Nat) : Int))]) rfl (ih (fun x => h1 ⟨(fun _ => by constructor <;> intro x <;> first | omega | exact h_3 | exact absurd x h_3 | exact absurd h_3 (by omega)), x⟩) (fun x => h0 (fun y => x y.2)))
          · refine wp_iconst (pc := 42) dX5_isFitting_42 ?_
            refine wp_zret (pc := 43) dX5_isFitting_43 rfl rfl (by decide) ?_
            refine h0 (fun y => ?_)
            have y1 := y.1 h_2
            first | (have y2 := y1.mp h_3; omega) | (exact h_3 (y1.mpr (by omega)))
      · refine wp_eqst (st' := [vI 0]) rfl ?_
        refine wp_if_eq (pc := 20) 44 dX5_isFitting_20 (by decide) (by decide) (fun _ => ?_) (fun hh => absurd hh (by decide))
        refine wq_iinc (pc := 44) [some (vR 104), some (vR t), some (vR s), some (vI (p : Int)), some (vI m), some (vI ((i : Int) + 1))] dX5_isFitting_44 rfl rfl (by decide) rfl ?_
        refine wp_goto (pc := 47) 3 dX5_isFitting_47 (by decide) ?_
        refine wp_eqls (ls' := [some (vR 104), some (vR t), some (vR s), some (vI (p : Int)), some (vI m), some (vI (((i + 1) : Nat) : Int))]) rfl (ih (fun x => h1 ⟨(fun x => absurd x h_2), x⟩) (fun x => h0 (fun y => x y.2)))

theorem sp_isFitting {l : Launch} {G : mG} {d : Nat} {I : mI} {L : Nat → Nat → Int} {D : Nat → Nat} {Q : mQ} {t s : Nat} {T : mT} {S : mS} {Z : mT} {B : Int} {m : Int} (p : Nat) {p_ : Int} (hp_ : p_ = (p : Int)) (ht : isT t) (hs : isS s) (hT : TT I t = T) (hS : SS I s = S) (hw : tw T) (hv : sw S B) (hZ : ZZ I = Z) (hz : zw Z) (hp : p < 8) (hm : inR m) (hd : 2 ≤ d) (h1 : fitG T S Z p m (nZ Z) 0 → Q (some (vI 1)) I (XX L D)) (h0 : ¬ (fitG T S Z p m (nZ Z) 0) → Q (some (vI 0)) I (XX L D)) : WP l G m_X5_isFitting d 153 I (XX L D) 0 [some (vR 104), some (vR t), some (vR s), some (vI p_), some (vI m), none] [] Q := by
  subst hp_
  refine wp_iconst (pc := 0) dX5_isFitting_0 ?_
  refine wq_istore (pc := 1) [some (vR 104), some (vR t), some (vR s), some (vI (p : Int)), some (vI m), some (vI 0)] dX5_isFitting_1 rfl (by decide) rfl ?_
  exact lp_isFitting ht hs hT hS hw hv hZ hz hp hm hd 0 (Nat.zero_le _) h1 h0

theorem fit_dec (T : mT) (S : mS) (Z : mT) (p : Nat) (m : Int) : ∃ b : Bool, b = true ↔ fitG T S Z p m (nZ Z) 0 := by
  by_cases h : fitG T S Z p m (nZ Z) 0
  · exact ⟨true, fun _ => h, fun _ => rfl⟩
  · exact ⟨false, fun x => absurd x (by decide), fun x => absurd x h⟩
noncomputable def fitB (T : mT) (S : mS) (Z : mT) (m : Int) (p : Nat) : Bool := (fit_dec T S Z p m).choose
theorem fitB_iff (T : mT) (S : mS) (Z : mT) (m : Int) (p : Nat) : fitB T S Z m p = true ↔ fitG T S Z p m (nZ Z) 0 := (fit_dec T S Z p m).choose_spec
noncomputable def meantF (T : mT) (S : mS) (Z : mT) (m : Int) : Nat := setOf (fitB T S Z m) (nP T)
theorem meantF_lt {T : mT} (h : tw T) (S : mS) (Z : mT) (m : Int) : meantF T S Z m < 256 := set_lt8 _ (nP_le h)

theorem lp_fitting {l : Launch} {G : mG} {d : Nat} {I : mI} {L : Nat → Nat → Int} {D : Nat → Nat} {Q : mQ} {t s : Nat} {T : mT} {S : mS} {Z : mT} {B : Int} {m : Int} (ht : isT t) (hs : isS s) (hT : TT I t = T) (hS : SS I s = S) (hw : tw T) (hv : sw S B) (hZ : ZZ I = Z) (hz : zw Z) (hm : inR m) (hd : 3 ≤ d) (hQ : Q (some (vI ((meantF T S Z m : Int)))) I (XX L D)) : ∀ i : Nat, i ≤ nP T → WP l G m_X5_fitting d 153 I (XX L D) 6 [some (vR 104), some (vR t), some (vR s), some (vI m), some (vI ((setOf (fitB T S Z m) i : Nat) : Int)), some (vI (i : Int))] [] Q := by
  have b0 := tw_p hw
  have eN : nP T = (T 0 12).toNat := rfl
  refine loop_dn (fun i => WP l G m_X5_fitting d 153 I (XX L D) 6 [some (vR 104), some (vR t), some (vR s), some (vI m), some (vI ((setOf (fitB T S Z m) i : Nat) : Int)), some (vI (i : Int))] [] Q) (nP T) ?_ (fun i hi ih => ?_)
  · refine wp_iload (pc := 6) dX5_fitting_6 rfl ?_
    refine wp_aload_n (pc := 8) 1 dX5_fitting_8 rfl rfl ?_
    refine wp_geti (pc := 9) dX5_fitting_9 rfl f_X5_39 (tk_0 ht) (tl_0 ht) (Or.inl rfl) ?_
    refine wp_eqst (st' := [vI (T 0 12), vI (((nP T) : Nat) : Int)]) (by rw [← hT] <;> rfl) ?_
    refine wp_icmp_ge (pc := 12) 42 dX5_fitting_12 (by decide) (by omega) (by omega) (fun h_1 => ?_) (fun h_1 => ?_)
    · refine wp_iload (pc := 42) dX5_fitting_42 rfl ?_
      refine wp_iret (pc := 44) dX5_fitting_44 rfl rfl ?_
      exact hQ
    · exfalso; omega
  · refine wp_iload (pc := 6) dX5_fitting_6 rfl ?_
    refine wp_aload_n (pc := 8) 1 dX5_fitting_8 rfl rfl ?_
    refine wp_geti (pc := 9) dX5_fitting_9 rfl f_X5_39 (tk_0 ht) (tl_0 ht) (Or.inl rfl) ?_
    refine wp_eqst (st' := [vI (T 0 12), vI (i : Int)]) (by rw [← hT] <;> rfl) ?_
    refine wp_icmp_ge (pc := 12) 42 dX5_fitting_12 (by decide) (by omega) (by omega) (fun h_1 => ?_) (fun h_1 => ?_)
    · exfalso; omega
    · refine wp_aload_n (pc := 15) 0 dX5_fitting_15 rfl rfl ?_
      refine wp_aload_n (pc := 16) 1 dX5_fitting_16 rfl rfl ?_
      refine wp_aload_n (pc := 17) 2 dX5_fitting_17 rfl rfl ?_
      refine wp_iload (pc := 18) dX5_fitting_18 rfl ?_
      refine wp_iload_n (pc := 20) 3 dX5_fitting_20 rfl rfl ?_
      refine wp_callV (pc := 21) (st := []) (nf' := 153) [vR t, vR s, vI (i : Int), vI m] [some (vR 104), some (vR t), some (vR s), some (vI (i : Int)), some (vI m), none] dX5_fitting_21 rfl c_X5_44 rfl kd_104 (by decide) rfl la_104 rfl (Nat.le_of_ble_eq_true rfl) rfl (Nat.le_of_ble_eq_true rfl) (by omega) (Nat.le_refl _) (Nat.le_refl _) ?_
      refine sp_isFitting i rfl ht hs hT hS hw hv hZ hz (by omega) (by omega) (by omega) (fun h_2 => ?_) (fun h_2 => ?_)
      · refine wp_eqst (st' := [vI 1]) rfl ?_
        refine wp_if_eq (pc := 24) 36 dX5_fitting_24 (by decide) (by decide) (fun hh => absurd hh (by decide)) (fun _ => ?_)
        refine wp_iload (pc := 27) dX5_fitting_27 rfl ?_
        refine wp_iconst (pc := 29) dX5_fitting_29 ?_
        refine wp_iload (pc := 30) dX5_fitting_30 rfl ?_
        refine wn_shl1 (pc := 32) i dX5_fitting_32 rfl (by omega) ?_
        refine wn_or (pc := 33) (setOf (fitB T S Z m) i) (2 ^ i) dX5_fitting_33 rfl rfl ?_
        refine wq_istore (pc := 34) [some (vR 104), some (vR t), some (vR s), some (vI m), some (vI (((setOf (fitB T S Z m) i) ||| (2 ^ i) : Nat) : Int)), some (vI (i : Int))] dX5_fitting_34 rfl (by decide) rfl ?_
        refine wq_iinc (pc := 36) [some (vR 104), some (vR t), some (vR s), some (vI m), some (vI (((setOf (fitB T S Z m) i) ||| (2 ^ i) : Nat) : Int)), some (vI ((i : Int) + 1))] dX5_fitting_36 rfl rfl (by decide) rfl ?_
        refine wp_goto (pc := 39) 6 dX5_fitting_39 (by decide) ?_
        refine wp_eqls (ls' := [some (vR 104), some (vR t), some (vR s), some (vI m), some (vI ((setOf (fitB T S Z m) (i + 1) : Nat) : Int)), some (vI (((i + 1) : Nat) : Int))]) (by rw [setOf_y (f := (fitB T S Z m)) (n := i) (by rw [fitB_iff]; exact h_2)]; rfl) ih
      · refine wp_eqst (st' := [vI 0]) rfl ?_
        refine wp_if_eq (pc := 24) 36 dX5_fitting_24 (by decide) (by decide) (fun _ => ?_) (fun hh => absurd hh (by decide))
        refine wq_iinc (pc := 36) [some (vR 104), some (vR t), some (vR s), some (vI m), some (vI ((setOf (fitB T S Z m) i : Nat) : Int)), some (vI ((i : Int) + 1))] dX5_fitting_36 rfl rfl (by decide) rfl ?_
        refine wp_goto (pc := 39) 6 dX5_fitting_39 (by decide) ?_
        refine wp_eqls (ls' := [some (vR 104), some (vR t), some (vR s), some (vI m), some (vI ((setOf (fitB T S Z m) (i + 1) : Nat) : Int)), some (vI (((i + 1) : Nat) : Int))]) (by rw [setOf_n (f := (fitB T S Z m)) (n := i) (by rw [← Bool.not_eq_true, fitB_iff]; exact h_2)]; rfl) ih

theorem sp_fitting {l : Launch} {G : mG} {d : Nat} {I : mI} {L : Nat → Nat → Int} {D : Nat → Nat} {Q : mQ} {t s : Nat} {T : mT} {S : mS} {Z : mT} {B : Int} {m : Int}  (ht : isT t) (hs : isS s) (hT : TT I t = T) (hS : SS I s = S) (hw : tw T) (hv : sw S B) (hZ : ZZ I = Z) (hz : zw Z) (hm : inR m) (hd : 3 ≤ d) (hQ : Q (some (vI ((meantF T S Z m : Int)))) I (XX L D)) : WP l G m_X5_fitting d 153 I (XX L D) 0 [some (vR 104), some (vR t), some (vR s), some (vI m), none, none] [] Q := by
  refine wp_iconst (pc := 0) dX5_fitting_0 ?_
  refine wq_istore (pc := 1) [some (vR 104), some (vR t), some (vR s), some (vI m), some (vI 0), none] dX5_fitting_1 rfl (by decide) rfl ?_
  refine wp_iconst (pc := 3) dX5_fitting_3 ?_
  refine wq_istore (pc := 4) [some (vR 104), some (vR t), some (vR s), some (vI m), some (vI 0), some (vI 0)] dX5_fitting_4 rfl (by decide) rfl ?_
  exact lp_fitting ht hs hT hS hw hv hZ hz hm hd hQ 0 (Nat.zero_le _)
