/-- what holds of the class between calls, of what no parse and no box needs -/
def CI (I : mI) (D : Nat → Nat) (T : mT) (S : mS) (Z : mT) : Prop := isT (D 0) ∧ D 3 = D 0 ∧ TT I (D 0) = T ∧ SS I 47 = S ∧ ZZ I = Z ∧ tw T ∧ sw S 999 ∧ zw Z ∧ rdOk S ∧ (∀ j, inR (T 18 j))
def thatAre (S : mS) (c : Int) : Nat := setOf (fun q => decide (S (8 + q) = c)) 5
def personA (T : mT) (S : mS) (a w : Int) : Int := if 0 ≤ a ∧ a < T 0 12 then (if w = 0 then S a.toNat else if w = 1 then T 3 a.toNat else if w = 2 then T 11 a.toNat else if w = 3 then T 12 a.toNat else if w = 4 then (((T 0 14).toNat / 2 ^ a.toNat % 2 ^ 1 : Nat) : Int) else if w = 5 then T 4 a.toNat else if w = 6 then truthF (away T a.toNat (S 28 + 1)) else if w = 7 then spF T S a (nQ T) 0 else if w = 8 then T 14 a.toNat else if w = 9 then T 5 a.toNat else -2) else -2
def pairA (T : mT) (S : mS) (a w : Int) : Int := if 0 ≤ a ∧ a < T 0 13 then (if w = 0 then T 6 a.toNat else if w = 1 then T 7 a.toNat else if w = 2 then S (13 + a.toNat) else if w = 3 then S (18 + a.toNat) else if w = 4 then S (23 + a.toNat) else if w = 5 then S (8 + a.toNat) else if w = 6 then barQ T S a.toNat else if w = 7 then ((risers T S a.toNat : Nat) : Int) else if w = 8 then ((called T S / 2 ^ a.toNat % 2 ^ 1 : Nat) : Int) else -1) else -1
def degreeA (T : mT) (a b : Int) : Int := if (0 ≤ a ∧ a < T 0 12) ∧ (0 ≤ b ∧ b < T 0 12) then T 16 (a.toNat * 8 + b.toNat) else -1
def ancestorsA (T : mT) (a : Int) : Int := if 0 ≤ a ∧ a < T 0 12 then ((ancF T a.toNat : Nat) : Int) else -1
def hearingA (T : mT) (S : mS) (a : Int) : Int := if 0 ≤ a ∧ a < T 0 12 then ear T S a.toNat (called T S) else -1
def churchA (T : mT) (S : mS) (c w : Int) : Int := if 0 ≤ c ∧ c < T 0 11 then (if w = 0 then ((sitters T S c : Nat) : Int) else if w = 1 then ((readIn T S c (called T S) : Nat) : Int) else -1) else -1

theorem lp_thatAre {l : Launch} {G : mG} {d : Nat} {I : mI} {L : Nat → Nat → Int} {D : Nat → Nat} {Q : mQ} {s : Nat} {S : mS} {B c : Int} (hs : isS s) (hS : SS I s = S) (hv : sw S B) (hc : inR c) (hd : 1 ≤ d) (hQ : Q (some (vI ((thatAre S c : Int)))) I (XX L D)) : ∀ i : Nat, i ≤ 5 → WP l G m_X7_pairsThatAre d 153 I (XX L D) 4 [some (vR s), some (vI c), some (vI ((setOf (fun q => decide (S (8 + q) = c)) i : Nat) : Int)), some (vI (i : Int))] [] Q := by
  refine loop_dn (fun i => WP l G m_X7_pairsThatAre d 153 I (XX L D) 4 [some (vR s), some (vI c), some (vI ((setOf (fun q => decide (S (8 + q) = c)) i : Nat) : Int)), some (vI (i : Int))] [] Q) 5 ?_ (fun i hi ih => ?_)
  · refine wp_iload_n (pc := 4) 3 dX7_pairsThatAre_4 rfl rfl ?_
    refine wp_iconst (pc := 5) dX7_pairsThatAre_5 ?_
    refine wp_icmp_ge (pc := 6) 30 dX7_pairsThatAre_6 (by decide) (by decide) (by decide) (fun _ => ?_) (fun hh => absurd hh (by decide))
    refine wp_iload_n (pc := 30) 2 dX7_pairsThatAre_30 rfl rfl ?_
    refine wp_iret (pc := 31) dX7_pairsThatAre_31 rfl rfl ?_
    exact hQ
  · have b2 := sw_stat hv (j := i) (by omega)
    refine wp_iload_n (pc := 4) 3 dX7_pairsThatAre_4 rfl rfl ?_
    refine wp_iconst (pc := 5) dX7_pairsThatAre_5 ?_
    refine wp_icmp_ge (pc := 6) 30 dX7_pairsThatAre_6 (by decide) (by omega) (by decide) (fun h_1 => ?_) (fun h_1 => ?_)
    · exfalso; omega
    · refine wp_aload_n (pc := 9) 0 dX7_pairsThatAre_9 rfl rfl ?_
      refine wp_iload_n (pc := 10) 3 dX7_pairsThatAre_10 rfl rfl ?_
      refine wp_callV (pc := 11) (st := []) (nf' := 153) [vI (i : Int)] [some (vR s), some (vI (i : Int))] dX7_pairsThatAre_11 rfl c_X7_42 rfl (sk_0 hs) (by decide) rfl (sl_0 hs) rfl (Nat.le_of_ble_eq_true rfl) rfl (Nat.le_of_ble_eq_true rfl) (by omega) (Nat.le_refl _) (Nat.le_refl _) ?_
      refine wp_aload_n (pc := 0) 0 dX7_status_0 rfl rfl ?_
      refine wp_getr (pc := 1) dX7_status_1 rfl f_X7_11 (sk_0 hs) (sl_0 hs) rfl (sr_0_0 D hs) ?_
      refine wp_bipush (pc := 4) dX7_status_4 (by decide) ?_
      refine wp_iload_n (pc := 6) 1 dX7_status_6 rfl rfl ?_
      refine wp_iadd (pc := 7) dX7_status_7 ?_
      refine wq_iald (pc := 8) (8 + i) dX7_status_8 (sk_1 hs) (sl_1 hs) (by omega) (by omega) ?_
      refine wp_eqst (st' := [vI (S (8 + i))]) (by rw [← hS] <;> rfl) ?_
      refine wp_iret (pc := 9) dX7_status_9 rfl rfl ?_
      refine wp_eqst (st' := [vI (S (8 + i))]) rfl ?_
      refine wp_iload_n (pc := 14) 1 dX7_pairsThatAre_14 rfl rfl ?_
      refine wp_icmp_ne (pc := 15) 24 dX7_pairsThatAre_15 (by decide) (by omega) (by omega) (fun h_2 => ?_) (fun h_2 => ?_)
      · refine wq_iinc (pc := 24) [some (vR s), some (vI c), some (vI ((setOf (fun q => decide (S (8 + q) = c)) i : Nat) : Int)), some (vI ((i : Int) + 1))] dX7_pairsThatAre_24 rfl rfl (by decide) rfl ?_
        refine wp_goto (pc := 27) 4 dX7_pairsThatAre_27 (by decide) ?_
        refine wp_eqls (ls' := [some (vR s), some (vI c), some (vI ((setOf (fun q => decide (S (8 + q) = c)) (i + 1) : Nat) : Int)), some (vI (((i + 1) : Nat) : Int))]) (by rw [setOf_n (f := (fun q => decide (S (8 + q) = c))) (n := i) (by exact decide_eq_false (by omega))]; rfl) ih
      · refine wp_iload_n (pc := 18) 2 dX7_pairsThatAre_18 rfl rfl ?_
        refine wp_iconst (pc := 19) dX7_pairsThatAre_19 ?_
        refine wp_iload_n (pc := 20) 3 dX7_pairsThatAre_20 rfl rfl ?_
        refine wn_shl1 (pc := 21) i dX7_pairsThatAre_21 rfl (by omega) ?_
        refine wn_or (pc := 22) (setOf (fun q => decide (S (8 + q) = c)) i) (2 ^ i) dX7_pairsThatAre_22 rfl rfl ?_
        refine wq_istore_n (pc := 23) 2 [some (vR s), some (vI c), some (vI (((setOf (fun q => decide (S (8 + q) = c)) i) ||| (2 ^ i) : Nat) : Int)), some (vI (i : Int))] dX7_pairsThatAre_23 rfl rfl (by decide) rfl ?_
        refine wq_iinc (pc := 24) [some (vR s), some (vI c), some (vI (((setOf (fun q => decide (S (8 + q) = c)) i) ||| (2 ^ i) : Nat) : Int)), some (vI ((i : Int) + 1))] dX7_pairsThatAre_24 rfl rfl (by decide) rfl ?_
        refine wp_goto (pc := 27) 4 dX7_pairsThatAre_27 (by decide) ?_
        refine wp_eqls (ls' := [some (vR s), some (vI c), some (vI ((setOf (fun q => decide (S (8 + q) = c)) (i + 1) : Nat) : Int)), some (vI (((i + 1) : Nat) : Int))]) (by rw [setOf_y (f := (fun q => decide (S (8 + q) = c))) (n := i) (by exact decide_eq_true (by omega))]; rfl) ih

theorem sp_thatAre {l : Launch} {G : mG} {d : Nat} {I : mI} {L : Nat → Nat → Int} {D : Nat → Nat} {Q : mQ} {s : Nat} {S : mS} {B c : Int}  (hs : isS s) (hS : SS I s = S) (hv : sw S B) (hc : inR c) (hd : 1 ≤ d) (hQ : Q (some (vI ((thatAre S c : Int)))) I (XX L D)) : WP l G m_X7_pairsThatAre d 153 I (XX L D) 0 [some (vR s), some (vI c), none, none] [] Q := by
  refine wp_iconst (pc := 0) dX7_pairsThatAre_0 ?_
  refine wq_istore_n (pc := 1) 2 [some (vR s), some (vI c), some (vI 0), none] dX7_pairsThatAre_1 rfl rfl (by decide) rfl ?_
  refine wp_iconst (pc := 2) dX7_pairsThatAre_2 ?_
  refine wq_istore_n (pc := 3) 3 [some (vR s), some (vI c), some (vI 0), some (vI 0)] dX7_pairsThatAre_3 rfl rfl (by decide) rfl ?_
  exact lp_thatAre hs hS hv hc hd hQ 0 (Nat.zero_le _)

theorem sp_person {l : Launch} {G : mG} {d : Nat} {I : mI} {L : Nat → Nat → Int} {D : Nat → Nat} {Q : mQ} {T : mT} {S : mS} {Z : mT} {a w : Int}  (hC : CI I D T S Z) (h_a : inR a) (h_w : inR w) (hd : 2 ≤ d) (hQ : ∀ J, Sc I J (D 3) → Q (some (vI (personA T S a w))) J (XX L D)) : WP l G m_X10_person d 153 I (XX L D) 0 [some (vR 0), some (vI a), some (vI w)] [] Q := by
  obtain ⟨hD0, h30, hT0, hS, hZ, hw, hv, hz, hrd, hcd⟩ := hC
  have h3 : isT (D 3) := by rw [h30]; exact hD0
  have hT : TT I (D 3) = T := by rw [h30]; exact hT0
  have b_p := tw_p hw
  have b_c := tw_c hw
  have b_q := tw_q hw
  have b_s := sw_sun hv
  have b_v := tw_vows hw
  refine wp_aload_n (pc := 0) 0 dX10_person_0 rfl rfl ?_
  refine wp_getr (pc := 1) dX10_person_1 rfl f_X10_10 kd_0 la_0 rfl (r_0_0 D) ?_
  refine wp_iload_n (pc := 4) 1 dX10_person_4 rfl rfl ?_
  refine wp_callV (pc := 5) (st := []) (nf' := 153) [vI a] [some (vR (D 0)), some (vI a)] dX10_person_5 rfl c_X10_122 rfl (tk_0 hD0) (by decide) rfl (tl_0 hD0) rfl (Nat.le_of_ble_eq_true rfl) rfl (Nat.le_of_ble_eq_true rfl) (by omega) (Nat.le_refl _) (Nat.le_refl _) ?_
  refine sp_hasPerson hD0 hT0 hw (by omega) (by omega) (fun h_1 => ?_) (fun h_1 => ?_)
  · refine wp_eqst (st' := [vI 1]) rfl ?_
    refine wp_if_ne (pc := 8) 14 dX10_person_8 (by decide) (by decide) (fun _ => ?_) (fun hh => absurd hh (by decide))
    refine wp_iload_n (pc := 14) 2 dX10_person_14 rfl rfl ?_
    by_cases h_2 : w = 0
    · refine wp_tin (pc := 15) 0 68 dX10_person_15 (by omega) (by rw [h_2]; decide) (by decide) rfl (by decide) ?_
      refine wp_aload_n (pc := 68) 0 dX10_person_68 rfl rfl ?_
      refine wp_getr (pc := 69) dX10_person_69 rfl f_X10_47 kd_0 la_0 rfl (r_0_5 D) ?_
      refine wp_iload_n (pc := 72) 1 dX10_person_72 rfl rfl ?_
      refine wp_callV (pc := 73) (st := []) (nf' := 153) [vI a] [some (vR 47), some (vI a)] dX10_person_73 rfl c_X10_125 rfl kd_47 (by decide) rfl la_47 rfl (Nat.le_of_ble_eq_true rfl) rfl (Nat.le_of_ble_eq_true rfl) (by omega) (Nat.le_refl _) (Nat.le_refl _) ?_
      refine wp_aload_n (pc := 0) 0 dX7_seat_0 rfl rfl ?_
      refine wp_getr (pc := 1) dX7_seat_1 rfl f_X7_11 kd_47 la_47 rfl (r_47_0 D) ?_
      refine wp_iconst (pc := 4) dX7_seat_4 ?_
      refine wp_iload_n (pc := 5) 1 dX7_seat_5 rfl rfl ?_
      refine wp_iadd (pc := 6) dX7_seat_6 ?_
      refine wq_iald (pc := 7) (Int.toNat (0 + a)) dX7_seat_7 kd_48 la_48 (by omega) (by omega) ?_
      refine wp_eqst (st' := [vI (S (Int.toNat (0 + a)))]) (by rw [← hS] <;> rfl) ?_
      refine wp_iret (pc := 8) dX7_seat_8 rfl rfl ?_
      refine wp_eqst (st' := [vI (S (Int.toNat (0 + a)))]) rfl ?_
      refine wp_iret (pc := 76) dX10_person_76 rfl rfl ?_
      have hq := hQ _ Sc.refl
      have e1 : personA T S a w = S (Int.toNat (0 + a)) := by
        unfold personA
        first | (rw [if_neg (by omega)]; done) | skip
        rw [if_pos (by omega)]
        rw [h_2]
        first | rfl | (show S _ = S _; congr 1; omega)
      rw [e1] at hq; exact hq
    by_cases h_3 : w = 1
    · refine wp_tin (pc := 15) 1 77 dX10_person_15 (by omega) (by rw [h_3]; decide) (by decide) rfl (by decide) ?_
      refine wp_aload_n (pc := 77) 0 dX10_person_77 rfl rfl ?_
      refine wp_getr (pc := 78) dX10_person_78 rfl f_X10_10 kd_0 la_0 rfl (r_0_0 D) ?_
      refine wp_getr (pc := 81) dX10_person_81 rfl f_X10_129 (tk_0 hD0) (tl_0 hD0) rfl (tr_0_2 D hD0) ?_
      refine wp_iload_n (pc := 84) 1 dX10_person_84 rfl rfl ?_
      refine wq_iald (pc := 85) (Int.toNat a) dX10_person_85 (tk_3 hD0) (tl_3 hD0) (by omega) (by omega) ?_
      refine wp_eqst (st' := [vI (T 3 (Int.toNat a))]) (by rw [← hT0] <;> rfl) ?_
      refine wp_iret (pc := 86) dX10_person_86 rfl rfl ?_
      have hq := hQ _ Sc.refl
      have e1 : personA T S a w = T 3 (Int.toNat a) := by
        unfold personA
        first | (rw [if_neg (by omega)]; done) | skip
        rw [if_pos (by omega)]
        rw [h_3]
        first | rfl | (show S _ = S _; congr 1; omega)
      rw [e1] at hq; exact hq
    by_cases h_4 : w = 2
    · refine wp_tin (pc := 15) 2 87 dX10_person_15 (by omega) (by rw [h_4]; decide) (by decide) rfl (by decide) ?_
      refine wp_aload_n (pc := 87) 0 dX10_person_87 rfl rfl ?_
      refine wp_getr (pc := 88) dX10_person_88 rfl f_X10_10 kd_0 la_0 rfl (r_0_0 D) ?_
      refine wp_getr (pc := 91) dX10_person_91 rfl f_X10_104 (tk_0 hD0) (tl_0 hD0) rfl (tr_0_9 D hD0) ?_
      refine wp_getr (pc := 94) dX10_person_94 rfl f_X10_133 (tk_10 hD0) (tl_10 hD0) rfl (tr_10_0 D hD0) ?_
      refine wp_iload_n (pc := 97) 1 dX10_person_97 rfl rfl ?_
      refine wq_iald (pc := 98) (Int.toNat a) dX10_person_98 (tk_11 hD0) (tl_11 hD0) (by omega) (by omega) ?_
      refine wp_eqst (st' := [vI (T 11 (Int.toNat a))]) (by rw [← hT0] <;> rfl) ?_
      refine wp_iret (pc := 99) dX10_person_99 rfl rfl ?_
      have hq := hQ _ Sc.refl
      have e1 : personA T S a w = T 11 (Int.toNat a) := by
        unfold personA
        first | (rw [if_neg (by omega)]; done) | skip
        rw [if_pos (by omega)]
        rw [h_4]
        first | rfl | (show S _ = S _; congr 1; omega)
      rw [e1] at hq; exact hq
    by_cases h_5 : w = 3
    · refine wp_tin (pc := 15) 3 100 dX10_person_15 (by omega) (by rw [h_5]; decide) (by decide) rfl (by decide) ?_
      refine wp_aload_n (pc := 100) 0 dX10_person_100 rfl rfl ?_
      refine wp_getr (pc := 101) dX10_person_101 rfl f_X10_10 kd_0 la_0 rfl (r_0_0 D) ?_
      refine wp_getr (pc := 104) dX10_person_104 rfl f_X10_104 (tk_0 hD0) (tl_0 hD0) rfl (tr_0_9 D hD0) ?_
      refine wp_getr (pc := 107) dX10_person_107 rfl f_X10_136 (tk_10 hD0) (tl_10 hD0) rfl (tr_10_1 D hD0) ?_
      refine wp_iload_n (pc := 110) 1 dX10_person_110 rfl rfl ?_
      refine wq_iald (pc := 111) (Int.toNat a) dX10_person_111 (tk_12 hD0) (tl_12 hD0) (by omega) (by omega) ?_
      refine wp_eqst (st' := [vI (T 12 (Int.toNat a))]) (by rw [← hT0] <;> rfl) ?_
      refine wp_iret (pc := 112) dX10_person_112 rfl rfl ?_
      have hq := hQ _ Sc.refl
      have e1 : personA T S a w = T 12 (Int.toNat a) := by
        unfold personA
        first | (rw [if_neg (by omega)]; done) | skip
        rw [if_pos (by omega)]
        rw [h_5]
        first | rfl | (show S _ = S _; congr 1; omega)
      rw [e1] at hq; exact hq
    by_cases h_6 : w = 4
    · refine wp_tin (pc := 15) 4 113 dX10_person_15 (by omega) (by rw [h_6]; decide) (by decide) rfl (by decide) ?_
      refine wp_aload_n (pc := 113) 0 dX10_person_113 rfl rfl ?_
      refine wp_getr (pc := 114) dX10_person_114 rfl f_X10_10 kd_0 la_0 rfl (r_0_0 D) ?_
      refine wp_geti (pc := 117) dX10_person_117 rfl f_X10_139 (tk_0 hD0) (tl_0 hD0) (Or.inl rfl) ?_
      refine wp_eqst (st' := [vI (T 0 14)]) (by rw [← hT0] <;> rfl) ?_
      refine wp_iload_n (pc := 120) 1 dX10_person_120 rfl rfl ?_
      refine wn_shr (pc := 121) (Int.toNat (T 0 14)) (Int.toNat a) dX10_person_121 (by omega) (by omega) (by omega) (by omega) ?_
      refine wp_iconst (pc := 122) dX10_person_122 ?_
      refine wn_mask (pc := 123) ((Int.toNat (T 0 14)) / 2 ^ (Int.toNat a)) 1 dX10_person_123 rfl rfl (by decide) ?_
      refine wp_iret (pc := 124) dX10_person_124 rfl rfl ?_
      have hq := hQ _ Sc.refl
      have e1 : personA T S a w = ((((Int.toNat (T 0 14)) / 2 ^ (Int.toNat a)) % 2 ^ 1 : Nat) : Int) := by
        unfold personA
        first | (rw [if_neg (by omega)]; done) | skip
        rw [if_pos (by omega)]
        rw [h_6]
        first | rfl | (show S _ = S _; congr 1; omega)
      rw [e1] at hq; exact hq
    by_cases h_7 : w = 5
    · refine wp_tin (pc := 15) 5 125 dX10_person_15 (by omega) (by rw [h_7]; decide) (by decide) rfl (by decide) ?_
      refine wp_aload_n (pc := 125) 0 dX10_person_125 rfl rfl ?_
      refine wp_getr (pc := 126) dX10_person_126 rfl f_X10_10 kd_0 la_0 rfl (r_0_0 D) ?_
      refine wp_getr (pc := 129) dX10_person_129 rfl f_X10_142 (tk_0 hD0) (tl_0 hD0) rfl (tr_0_3 D hD0) ?_
      refine wp_iload_n (pc := 132) 1 dX10_person_132 rfl rfl ?_
      refine wq_iald (pc := 133) (Int.toNat a) dX10_person_133 (tk_4 hD0) (tl_4 hD0) (by omega) (by omega) ?_
      refine wp_eqst (st' := [vI (T 4 (Int.toNat a))]) (by rw [← hT0] <;> rfl) ?_
      refine wp_iret (pc := 134) dX10_person_134 rfl rfl ?_
      have hq := hQ _ Sc.refl
      have e1 : personA T S a w = T 4 (Int.toNat a) := by
        unfold personA
        first | (rw [if_neg (by omega)]; done) | skip
        rw [if_pos (by omega)]
        rw [h_7]
        first | rfl | (show S _ = S _; congr 1; omega)
      rw [e1] at hq; exact hq
    by_cases h_8 : w = 6
    · refine wp_tin (pc := 15) 6 135 dX10_person_15 (by omega) (by rw [h_8]; decide) (by decide) rfl (by decide) ?_
      refine wp_aload_n (pc := 135) 0 dX10_person_135 rfl rfl ?_
      refine wp_getr (pc := 136) dX10_person_136 rfl f_X10_10 kd_0 la_0 rfl (r_0_0 D) ?_
      refine wp_iload_n (pc := 139) 1 dX10_person_139 rfl rfl ?_
      refine wp_aload_n (pc := 140) 0 dX10_person_140 rfl rfl ?_
      refine wp_getr (pc := 141) dX10_person_141 rfl f_X10_47 kd_0 la_0 rfl (r_0_5 D) ?_
      refine wp_callV (pc := 144) (st := [vI a, vR (D 0)]) (nf' := 153) [] [some (vR 47)] dX10_person_144 rfl c_X10_145 rfl kd_47 (by decide) rfl la_47 rfl (Nat.le_of_ble_eq_true rfl) rfl (Nat.le_of_ble_eq_true rfl) (by omega) (Nat.le_refl _) (Nat.le_refl _) ?_
      refine wp_aload_n (pc := 0) 0 dX7_nextSunday_0 rfl rfl ?_
      refine wp_getr (pc := 1) dX7_nextSunday_1 rfl f_X7_11 kd_47 la_47 rfl (r_47_0 D) ?_
      refine wp_bipush (pc := 4) dX7_nextSunday_4 (by decide) ?_
      refine wq_iald (pc := 6) 28 dX7_nextSunday_6 kd_48 la_48 rfl (by decide) ?_
      refine wp_eqst (st' := [vI (S 28)]) (by rw [← hS] <;> rfl) ?_
      refine wp_iconst (pc := 7) dX7_nextSunday_7 ?_
      refine wp_iadd (pc := 8) dX7_nextSunday_8 ?_
      refine wp_iret (pc := 9) dX7_nextSunday_9 rfl rfl ?_
      refine wp_eqst (st' := [vI ((S 28) + 1), vI a, vR (D 0)]) rfl ?_
      refine wp_callV (pc := 147) (st := []) (nf' := 153) [vI a, vI ((S 28) + 1)] [some (vR (D 0)), some (vI a), some (vI ((S 28) + 1))] dX10_person_147 rfl c_X10_149 rfl (tk_0 hD0) (by decide) rfl (tl_0 hD0) rfl (Nat.le_of_ble_eq_true rfl) rfl (Nat.le_of_ble_eq_true rfl) (by omega) (Nat.le_refl _) (Nat.le_refl _) ?_
      refine sp_isAway (Int.toNat a) (by omega) hD0 hT0 hw (by omega) (by omega) (by omega) (fun h_9 => ?_) (fun h_9 => ?_)
      · refine wp_eqst (st' := [vI 1]) rfl ?_
        refine wp_if_eq (pc := 150) 157 dX10_person_150 (by decide) (by decide) (fun hh => absurd hh (by decide)) (fun _ => ?_)
        refine wp_iconst (pc := 153) dX10_person_153 ?_
        refine wp_goto (pc := 154) 158 dX10_person_154 (by decide) ?_
        refine wp_iret (pc := 158) dX10_person_158 rfl rfl ?_
        have hq := hQ _ Sc.refl
        have e1 : personA T S a w = 1 := by
          unfold personA
          first | (rw [if_neg (by omega)]; done) | skip
          rw [if_pos (by omega)]
          rw [h_8]
          show truthF (away T _ _) = _; exact if_pos h_9
        rw [e1] at hq; exact hq
      · refine wp_eqst (st' := [vI 0]) rfl ?_
        refine wp_if_eq (pc := 150) 157 dX10_person_150 (by decide) (by decide) (fun _ => ?_) (fun hh => absurd hh (by decide))
        refine wp_iconst (pc := 157) dX10_person_157 ?_
        refine wp_iret (pc := 158) dX10_person_158 rfl rfl ?_
        have hq := hQ _ Sc.refl
        have e1 : personA T S a w = 0 := by
          unfold personA
          first | (rw [if_neg (by omega)]; done) | skip
          rw [if_pos (by omega)]
          rw [h_8]
          show truthF (away T _ _) = _; exact if_neg h_9
        rw [e1] at hq; exact hq
    by_cases h_10 : w = 7
    · refine wp_tin (pc := 15) 7 159 dX10_person_15 (by omega) (by rw [h_10]; decide) (by decide) rfl (by decide) ?_
      refine wp_aload_n (pc := 159) 0 dX10_person_159 rfl rfl ?_
      refine wp_getr (pc := 160) dX10_person_160 rfl f_X10_40 kd_0 la_0 rfl (r_0_4 D) ?_
      refine wp_aload_n (pc := 163) 0 dX10_person_163 rfl rfl ?_
      refine wp_getr (pc := 164) dX10_person_164 rfl f_X10_47 kd_0 la_0 rfl (r_0_5 D) ?_
      refine wp_iload_n (pc := 167) 1 dX10_person_167 rfl rfl ?_
      refine wp_callV (pc := 168) (st := []) (nf' := 153) [vR 47, vI a] [some (vR 45), some (vR 47), some (vI a), none] dX10_person_168 rfl c_X10_153 rfl kd_45 (by decide) rfl la_45 rfl (Nat.le_of_ble_eq_true rfl) rfl (Nat.le_of_ble_eq_true rfl) (by omega) (Nat.le_refl _) (Nat.le_refl _) ?_
      refine sp_spouseOf h3 is47 hT hS hw hv (by omega) (by omega) ?_
      refine wp_eqst (st' := [vI (spF T S a (nQ T) 0)]) rfl ?_
      refine wp_iret (pc := 171) dX10_person_171 rfl rfl ?_
      have hq := hQ _ Sc.refl
      have e1 : personA T S a w = spF T S a (nQ T) 0 := by
        unfold personA
        first | (rw [if_neg (by omega)]; done) | skip
        rw [if_pos (by omega)]
        rw [h_10]
        first | rfl | (show S _ = S _; congr 1; omega)
      rw [e1] at hq; exact hq
    by_cases h_11 : w = 8
    · refine wp_tin (pc := 15) 8 172 dX10_person_15 (by omega) (by rw [h_11]; decide) (by decide) rfl (by decide) ?_
      refine wp_aload_n (pc := 172) 0 dX10_person_172 rfl rfl ?_
      refine wp_getr (pc := 173) dX10_person_173 rfl f_X10_10 kd_0 la_0 rfl (r_0_0 D) ?_
      refine wp_getr (pc := 176) dX10_person_176 rfl f_X10_104 (tk_0 hD0) (tl_0 hD0) rfl (tr_0_9 D hD0) ?_
      refine wp_getr (pc := 179) dX10_person_179 rfl f_X10_157 (tk_10 hD0) (tl_10 hD0) rfl (tr_10_3 D hD0) ?_
      refine wp_iload_n (pc := 182) 1 dX10_person_182 rfl rfl ?_
      refine wq_iald (pc := 183) (Int.toNat a) dX10_person_183 (tk_14 hD0) (tl_14 hD0) (by omega) (by omega) ?_
      refine wp_eqst (st' := [vI (T 14 (Int.toNat a))]) (by rw [← hT0] <;> rfl) ?_
      refine wp_iret (pc := 184) dX10_person_184 rfl rfl ?_
      have hq := hQ _ Sc.refl
      have e1 : personA T S a w = T 14 (Int.toNat a) := by
        unfold personA
        first | (rw [if_neg (by omega)]; done) | skip
        rw [if_pos (by omega)]
        rw [h_11]
        first | rfl | (show S _ = S _; congr 1; omega)
      rw [e1] at hq; exact hq
    by_cases h_12 : w = 9
    · refine wp_tin (pc := 15) 9 185 dX10_person_15 (by omega) (by rw [h_12]; decide) (by decide) rfl (by decide) ?_
      refine wp_aload_n (pc := 185) 0 dX10_person_185 rfl rfl ?_
      refine wp_getr (pc := 186) dX10_person_186 rfl f_X10_10 kd_0 la_0 rfl (r_0_0 D) ?_
      refine wp_getr (pc := 189) dX10_person_189 rfl f_X10_160 (tk_0 hD0) (tl_0 hD0) rfl (tr_0_4 D hD0) ?_
      refine wp_iload_n (pc := 192) 1 dX10_person_192 rfl rfl ?_
      refine wq_iald (pc := 193) (Int.toNat a) dX10_person_193 (tk_5 hD0) (tl_5 hD0) (by omega) (by omega) ?_
      refine wp_eqst (st' := [vI (T 5 (Int.toNat a))]) (by rw [← hT0] <;> rfl) ?_
      refine wp_iret (pc := 194) dX10_person_194 rfl rfl ?_
      have hq := hQ _ Sc.refl
      have e1 : personA T S a w = T 5 (Int.toNat a) := by
        unfold personA
        first | (rw [if_neg (by omega)]; done) | skip
        rw [if_pos (by omega)]
        rw [h_12]
        first | rfl | (show S _ = S _; congr 1; omega)
      rw [e1] at hq; exact hq
    refine wp_tout (pc := 15) 195 dX10_person_15 (by omega) (by omega) (by decide) ?_
    refine wp_bipush (pc := 195) dX10_person_195 (by decide) ?_
    refine wp_iret (pc := 197) dX10_person_197 rfl rfl ?_
    have hq := hQ _ Sc.refl
    have e1 : personA T S a w = (-2) := by
      unfold personA
      first | (rw [if_neg (by omega)]; done) | skip
      first | done | (rw [if_pos (by omega)]; first | done | rfl | (show T 16 _ = T 16 _; congr 1; omega) | (repeat rw [if_neg (by omega)]))
    rw [e1] at hq; exact hq
  · refine wp_eqst (st' := [vI 0]) rfl ?_
    refine wp_if_ne (pc := 8) 14 dX10_person_8 (by decide) (by decide) (fun hh => absurd hh (by decide)) (fun _ => ?_)
    refine wp_bipush (pc := 11) dX10_person_11 (by decide) ?_
    refine wp_iret (pc := 13) dX10_person_13 rfl rfl ?_
    have hq := hQ _ Sc.refl
    have e1 : personA T S a w = (-2) := by
      unfold personA
      first | (rw [if_neg (by omega)]; done) | skip
      first | done | (rw [if_pos (by omega)]; first | done | rfl | (show T 16 _ = T 16 _; congr 1; omega) | (repeat rw [if_neg (by omega)]))
    rw [e1] at hq; exact hq

theorem sp_pair {l : Launch} {G : mG} {d : Nat} {I : mI} {L : Nat → Nat → Int} {D : Nat → Nat} {Q : mQ} {T : mT} {S : mS} {Z : mT} {a w : Int}  (hC : CI I D T S Z) (h_a : inR a) (h_w : inR w) (hd : 4 ≤ d) (hQ : ∀ J, Sc I J (D 3) → Q (some (vI (pairA T S a w))) J (XX L D)) : WP l G m_X10_pair d 153 I (XX L D) 0 [some (vR 0), some (vI a), some (vI w)] [] Q := by
  obtain ⟨hD0, h30, hT0, hS, hZ, hw, hv, hz, hrd, hcd⟩ := hC
  have h3 : isT (D 3) := by rw [h30]; exact hD0
  have hT : TT I (D 3) = T := by rw [h30]; exact hT0
  have b_p := tw_p hw
  have b_c := tw_c hw
  have b_q := tw_q hw
  have b_s := sw_sun hv
  have b_cl := called_lt hw S
  refine wp_aload_n (pc := 0) 0 dX10_pair_0 rfl rfl ?_
  refine wp_getr (pc := 1) dX10_pair_1 rfl f_X10_10 kd_0 la_0 rfl (r_0_0 D) ?_
  refine wp_iload_n (pc := 4) 1 dX10_pair_4 rfl rfl ?_
  refine wp_callV (pc := 5) (st := []) (nf' := 153) [vI a] [some (vR (D 0)), some (vI a)] dX10_pair_5 rfl c_X10_163 rfl (tk_0 hD0) (by decide) rfl (tl_0 hD0) rfl (Nat.le_of_ble_eq_true rfl) rfl (Nat.le_of_ble_eq_true rfl) (by omega) (Nat.le_refl _) (Nat.le_refl _) ?_
  refine sp_hasPair hD0 hT0 hw (by omega) (by omega) (fun h_1 => ?_) (fun h_1 => ?_)
  · refine wp_eqst (st' := [vI 1]) rfl ?_
    refine wp_if_ne (pc := 8) 13 dX10_pair_8 (by decide) (by decide) (fun _ => ?_) (fun hh => absurd hh (by decide))
    refine wp_iload_n (pc := 13) 2 dX10_pair_13 rfl rfl ?_
    by_cases h_2 : w = 0
    · refine wp_tin (pc := 14) 0 64 dX10_pair_14 (by omega) (by rw [h_2]; decide) (by decide) rfl (by decide) ?_
      refine wp_aload_n (pc := 64) 0 dX10_pair_64 rfl rfl ?_
      refine wp_getr (pc := 65) dX10_pair_65 rfl f_X10_10 kd_0 la_0 rfl (r_0_0 D) ?_
      refine wp_getr (pc := 68) dX10_pair_68 rfl f_X10_166 (tk_0 hD0) (tl_0 hD0) rfl (tr_0_5 D hD0) ?_
      refine wp_iload_n (pc := 71) 1 dX10_pair_71 rfl rfl ?_
      refine wq_iald (pc := 72) (Int.toNat a) dX10_pair_72 (tk_6 hD0) (tl_6 hD0) (by omega) (by omega) ?_
      refine wp_eqst (st' := [vI (T 6 (Int.toNat a))]) (by rw [← hT0] <;> rfl) ?_
      refine wp_iret (pc := 73) dX10_pair_73 rfl rfl ?_
      have hq := hQ _ Sc.refl
      have e1 : pairA T S a w = T 6 (Int.toNat a) := by
        unfold pairA
        first | (rw [if_neg (by omega)]; done) | skip
        rw [if_pos (by omega)]
        rw [h_2]
        first | rfl | (show S _ = S _; congr 1; omega)
      rw [e1] at hq; exact hq
    by_cases h_3 : w = 1
    · refine wp_tin (pc := 14) 1 74 dX10_pair_14 (by omega) (by rw [h_3]; decide) (by decide) rfl (by decide) ?_
      refine wp_aload_n (pc := 74) 0 dX10_pair_74 rfl rfl ?_
      refine wp_getr (pc := 75) dX10_pair_75 rfl f_X10_10 kd_0 la_0 rfl (r_0_0 D) ?_
      refine wp_getr (pc := 78) dX10_pair_78 rfl f_X10_169 (tk_0 hD0) (tl_0 hD0) rfl (tr_0_6 D hD0) ?_
      refine wp_iload_n (pc := 81) 1 dX10_pair_81 rfl rfl ?_
      refine wq_iald (pc := 82) (Int.toNat a) dX10_pair_82 (tk_7 hD0) (tl_7 hD0) (by omega) (by omega) ?_
      refine wp_eqst (st' := [vI (T 7 (Int.toNat a))]) (by rw [← hT0] <;> rfl) ?_
      refine wp_iret (pc := 83) dX10_pair_83 rfl rfl ?_
      have hq := hQ _ Sc.refl
      have e1 : pairA T S a w = T 7 (Int.toNat a) := by
        unfold pairA
        first | (rw [if_neg (by omega)]; done) | skip
        rw [if_pos (by omega)]
        rw [h_3]
        first | rfl | (show S _ = S _; congr 1; omega)
      rw [e1] at hq; exact hq
    by_cases h_4 : w = 2
    · refine wp_tin (pc := 14) 2 84 dX10_pair_14 (by omega) (by rw [h_4]; decide) (by decide) rfl (by decide) ?_
      refine wp_aload_n (pc := 84) 0 dX10_pair_84 rfl rfl ?_
      refine wp_getr (pc := 85) dX10_pair_85 rfl f_X10_47 kd_0 la_0 rfl (r_0_5 D) ?_
      refine wp_iload_n (pc := 88) 1 dX10_pair_88 rfl rfl ?_
      refine wp_callV (pc := 89) (st := []) (nf' := 153) [vI a] [some (vR 47), some (vI a)] dX10_pair_89 rfl c_X10_172 rfl kd_47 (by decide) rfl la_47 rfl (Nat.le_of_ble_eq_true rfl) rfl (Nat.le_of_ble_eq_true rfl) (by omega) (Nat.le_refl _) (Nat.le_refl _) ?_
      refine wp_aload_n (pc := 0) 0 dX7_churchOne_0 rfl rfl ?_
      refine wp_getr (pc := 1) dX7_churchOne_1 rfl f_X7_11 kd_47 la_47 rfl (r_47_0 D) ?_
      refine wp_bipush (pc := 4) dX7_churchOne_4 (by decide) ?_
      refine wp_iload_n (pc := 6) 1 dX7_churchOne_6 rfl rfl ?_
      refine wp_iadd (pc := 7) dX7_churchOne_7 ?_
      refine wq_iald (pc := 8) (Int.toNat (13 + a)) dX7_churchOne_8 kd_48 la_48 (by omega) (by omega) ?_
      refine wp_eqst (st' := [vI (S (Int.toNat (13 + a)))]) (by rw [← hS] <;> rfl) ?_
      refine wp_iret (pc := 9) dX7_churchOne_9 rfl rfl ?_
      refine wp_eqst (st' := [vI (S (Int.toNat (13 + a)))]) rfl ?_
      refine wp_iret (pc := 92) dX10_pair_92 rfl rfl ?_
      have hq := hQ _ Sc.refl
      have e1 : pairA T S a w = S (Int.toNat (13 + a)) := by
        unfold pairA
        first | (rw [if_neg (by omega)]; done) | skip
        rw [if_pos (by omega)]
        rw [h_4]
        first | rfl | (show S _ = S _; congr 1; omega)
      rw [e1] at hq; exact hq
    by_cases h_5 : w = 3
    · refine wp_tin (pc := 14) 3 93 dX10_pair_14 (by omega) (by rw [h_5]; decide) (by decide) rfl (by decide) ?_
      refine wp_aload_n (pc := 93) 0 dX10_pair_93 rfl rfl ?_
      refine wp_getr (pc := 94) dX10_pair_94 rfl f_X10_47 kd_0 la_0 rfl (r_0_5 D) ?_
      refine wp_iload_n (pc := 97) 1 dX10_pair_97 rfl rfl ?_
      refine wp_callV (pc := 98) (st := []) (nf' := 153) [vI a] [some (vR 47), some (vI a)] dX10_pair_98 rfl c_X10_175 rfl kd_47 (by decide) rfl la_47 rfl (Nat.le_of_ble_eq_true rfl) rfl (Nat.le_of_ble_eq_true rfl) (by omega) (Nat.le_refl _) (Nat.le_refl _) ?_
      refine wp_aload_n (pc := 0) 0 dX7_churchOther_0 rfl rfl ?_
      refine wp_getr (pc := 1) dX7_churchOther_1 rfl f_X7_11 kd_47 la_47 rfl (r_47_0 D) ?_
      refine wp_bipush (pc := 4) dX7_churchOther_4 (by decide) ?_
      refine wp_iload_n (pc := 6) 1 dX7_churchOther_6 rfl rfl ?_
      refine wp_iadd (pc := 7) dX7_churchOther_7 ?_
      refine wq_iald (pc := 8) (Int.toNat (18 + a)) dX7_churchOther_8 kd_48 la_48 (by omega) (by omega) ?_
      refine wp_eqst (st' := [vI (S (Int.toNat (18 + a)))]) (by rw [← hS] <;> rfl) ?_
      refine wp_iret (pc := 9) dX7_churchOther_9 rfl rfl ?_
      refine wp_eqst (st' := [vI (S (Int.toNat (18 + a)))]) rfl ?_
      refine wp_iret (pc := 101) dX10_pair_101 rfl rfl ?_
      have hq := hQ _ Sc.refl
      have e1 : pairA T S a w = S (Int.toNat (18 + a)) := by
        unfold pairA
        first | (rw [if_neg (by omega)]; done) | skip
        rw [if_pos (by omega)]
        rw [h_5]
        first | rfl | (show S _ = S _; congr 1; omega)
      rw [e1] at hq; exact hq
    by_cases h_6 : w = 4
    · refine wp_tin (pc := 14) 4 102 dX10_pair_14 (by omega) (by rw [h_6]; decide) (by decide) rfl (by decide) ?_
      refine wp_aload_n (pc := 102) 0 dX10_pair_102 rfl rfl ?_
      refine wp_getr (pc := 103) dX10_pair_103 rfl f_X10_47 kd_0 la_0 rfl (r_0_5 D) ?_
      refine wp_iload_n (pc := 106) 1 dX10_pair_106 rfl rfl ?_
      refine wp_callV (pc := 107) (st := []) (nf' := 153) [vI a] [some (vR 47), some (vI a)] dX10_pair_107 rfl c_X10_178 rfl kd_47 (by decide) rfl la_47 rfl (Nat.le_of_ble_eq_true rfl) rfl (Nat.le_of_ble_eq_true rfl) (by omega) (Nat.le_refl _) (Nat.le_refl _) ?_
      refine wp_aload_n (pc := 0) 0 dX7_readings_0 rfl rfl ?_
      refine wp_getr (pc := 1) dX7_readings_1 rfl f_X7_11 kd_47 la_47 rfl (r_47_0 D) ?_
      refine wp_bipush (pc := 4) dX7_readings_4 (by decide) ?_
      refine wp_iload_n (pc := 6) 1 dX7_readings_6 rfl rfl ?_
      refine wp_iadd (pc := 7) dX7_readings_7 ?_
      refine wq_iald (pc := 8) (Int.toNat (23 + a)) dX7_readings_8 kd_48 la_48 (by omega) (by omega) ?_
      refine wp_eqst (st' := [vI (S (Int.toNat (23 + a)))]) (by rw [← hS] <;> rfl) ?_
      refine wp_iret (pc := 9) dX7_readings_9 rfl rfl ?_
      refine wp_eqst (st' := [vI (S (Int.toNat (23 + a)))]) rfl ?_
      refine wp_iret (pc := 110) dX10_pair_110 rfl rfl ?_
      have hq := hQ _ Sc.refl
      have e1 : pairA T S a w = S (Int.toNat (23 + a)) := by
        unfold pairA
        first | (rw [if_neg (by omega)]; done) | skip
        rw [if_pos (by omega)]
        rw [h_6]
        first | rfl | (show S _ = S _; congr 1; omega)
      rw [e1] at hq; exact hq
    by_cases h_7 : w = 5
    · refine wp_tin (pc := 14) 5 111 dX10_pair_14 (by omega) (by rw [h_7]; decide) (by decide) rfl (by decide) ?_
      refine wp_aload_n (pc := 111) 0 dX10_pair_111 rfl rfl ?_
      refine wp_getr (pc := 112) dX10_pair_112 rfl f_X10_47 kd_0 la_0 rfl (r_0_5 D) ?_
      refine wp_iload_n (pc := 115) 1 dX10_pair_115 rfl rfl ?_
      refine wp_callV (pc := 116) (st := []) (nf' := 153) [vI a] [some (vR 47), some (vI a)] dX10_pair_116 rfl c_X10_181 rfl kd_47 (by decide) rfl la_47 rfl (Nat.le_of_ble_eq_true rfl) rfl (Nat.le_of_ble_eq_true rfl) (by omega) (Nat.le_refl _) (Nat.le_refl _) ?_
      refine wp_aload_n (pc := 0) 0 dX7_status_0 rfl rfl ?_
      refine wp_getr (pc := 1) dX7_status_1 rfl f_X7_11 kd_47 la_47 rfl (r_47_0 D) ?_
      refine wp_bipush (pc := 4) dX7_status_4 (by decide) ?_
      refine wp_iload_n (pc := 6) 1 dX7_status_6 rfl rfl ?_
      refine wp_iadd (pc := 7) dX7_status_7 ?_
      refine wq_iald (pc := 8) (Int.toNat (8 + a)) dX7_status_8 kd_48 la_48 (by omega) (by omega) ?_
      refine wp_eqst (st' := [vI (S (Int.toNat (8 + a)))]) (by rw [← hS] <;> rfl) ?_
      refine wp_iret (pc := 9) dX7_status_9 rfl rfl ?_
      refine wp_eqst (st' := [vI (S (Int.toNat (8 + a)))]) rfl ?_
      refine wp_iret (pc := 119) dX10_pair_119 rfl rfl ?_
      have hq := hQ _ Sc.refl
      have e1 : pairA T S a w = S (Int.toNat (8 + a)) := by
        unfold pairA
        first | (rw [if_neg (by omega)]; done) | skip
        rw [if_pos (by omega)]
        rw [h_7]
        first | rfl | (show S _ = S _; congr 1; omega)
      rw [e1] at hq; exact hq
    by_cases h_8 : w = 6
    · refine wp_tin (pc := 14) 6 120 dX10_pair_14 (by omega) (by rw [h_8]; decide) (by decide) rfl (by decide) ?_
      refine wp_aload_n (pc := 120) 0 dX10_pair_120 rfl rfl ?_
      refine wp_getr (pc := 121) dX10_pair_121 rfl f_X10_40 kd_0 la_0 rfl (r_0_4 D) ?_
      refine wp_aload_n (pc := 124) 0 dX10_pair_124 rfl rfl ?_
      refine wp_getr (pc := 125) dX10_pair_125 rfl f_X10_47 kd_0 la_0 rfl (r_0_5 D) ?_
      refine wp_iload_n (pc := 128) 1 dX10_pair_128 rfl rfl ?_
      refine wp_callV (pc := 129) (st := []) (nf' := 153) [vR 47, vI a] [some (vR 45), some (vR 47), some (vI a)] dX10_pair_129 rfl c_X10_184 rfl kd_45 (by decide) rfl la_45 rfl (Nat.le_of_ble_eq_true rfl) rfl (Nat.le_of_ble_eq_true rfl) (by omega) (Nat.le_refl _) (Nat.le_refl _) ?_
      refine sp_barOf (Int.toNat a) (by omega) h3 is47 hT hS hw hv (by omega) (by omega) ?_
      refine wp_eqst (st' := [vI (barQ T S (Int.toNat a))]) rfl ?_
      refine wp_iret (pc := 132) dX10_pair_132 rfl rfl ?_
      have hq := hQ _ Sc.refl
      have e1 : pairA T S a w = barQ T S (Int.toNat a) := by
        unfold pairA
        first | (rw [if_neg (by omega)]; done) | skip
        rw [if_pos (by omega)]
        rw [h_8]
        first | rfl | (show S _ = S _; congr 1; omega)
      rw [e1] at hq; exact hq
    by_cases h_9 : w = 7
    · refine wp_tin (pc := 14) 7 133 dX10_pair_14 (by omega) (by rw [h_9]; decide) (by decide) rfl (by decide) ?_
      refine wp_aload_n (pc := 133) 0 dX10_pair_133 rfl rfl ?_
      refine wp_getr (pc := 134) dX10_pair_134 rfl f_X10_40 kd_0 la_0 rfl (r_0_4 D) ?_
      refine wp_aload_n (pc := 137) 0 dX10_pair_137 rfl rfl ?_
      refine wp_getr (pc := 138) dX10_pair_138 rfl f_X10_47 kd_0 la_0 rfl (r_0_5 D) ?_
      refine wp_iload_n (pc := 141) 1 dX10_pair_141 rfl rfl ?_
      refine wp_callV (pc := 142) (st := []) (nf' := 153) [vR 47, vI a] [some (vR 45), some (vR 47), some (vI a), none, none, none, none, none, none] dX10_pair_142 rfl c_X10_187 rfl kd_45 (by decide) rfl la_45 rfl (Nat.le_of_ble_eq_true rfl) rfl (Nat.le_of_ble_eq_true rfl) (by omega) (Nat.le_refl _) (Nat.le_refl _) ?_
      refine sp_risersOf (Int.toNat a) (by omega) h3 is47 hT hS hw hv (by omega) (by omega) ?_
      refine wp_eqst (st' := [vI ((risers T S (Int.toNat a) : Nat) : Int)]) rfl ?_
      refine wp_iret (pc := 145) dX10_pair_145 rfl rfl ?_
      have hq := hQ _ Sc.refl
      have e1 : pairA T S a w = ((risers T S (Int.toNat a) : Nat) : Int) := by
        unfold pairA
        first | (rw [if_neg (by omega)]; done) | skip
        rw [if_pos (by omega)]
        rw [h_9]
        first | rfl | (show S _ = S _; congr 1; omega)
      rw [e1] at hq; exact hq
    by_cases h_10 : w = 8
    · refine wp_tin (pc := 14) 8 146 dX10_pair_14 (by omega) (by rw [h_10]; decide) (by decide) rfl (by decide) ?_
      refine wp_aload_n (pc := 146) 0 dX10_pair_146 rfl rfl ?_
      refine wp_getr (pc := 147) dX10_pair_147 rfl f_X10_40 kd_0 la_0 rfl (r_0_4 D) ?_
      refine wp_aload_n (pc := 150) 0 dX10_pair_150 rfl rfl ?_
      refine wp_getr (pc := 151) dX10_pair_151 rfl f_X10_47 kd_0 la_0 rfl (r_0_5 D) ?_
      refine wp_callV (pc := 154) (st := []) (nf' := 153) [vR 47] [some (vR 45), some (vR 47), none, none] dX10_pair_154 rfl c_X10_190 rfl kd_45 (by decide) rfl la_45 rfl (Nat.le_of_ble_eq_true rfl) rfl (Nat.le_of_ble_eq_true rfl) (by omega) (Nat.le_refl _) (Nat.le_refl _) ?_
      refine sp_calledNext h3 is47 hT hS hw hv (by omega) (by omega) (fun J1 hJ1 => ?_)
      have hT1 := hJ1.tt h3 hT
      have hT01 : TT J1 (D 0) = T := by rw [← h30]; exact hT1
      have hS1 := hJ1.ss h3 is47 hS
      refine wp_eqst (st' := [vI ((called T S : Nat) : Int)]) rfl ?_
      refine wp_iload_n (pc := 157) 1 dX10_pair_157 rfl rfl ?_
      refine wn_shr (pc := 158) (called T S) (Int.toNat a) dX10_pair_158 rfl (by omega) (by omega) (by omega) ?_
      refine wp_iconst (pc := 159) dX10_pair_159 ?_
      refine wn_mask (pc := 160) ((called T S) / 2 ^ (Int.toNat a)) 1 dX10_pair_160 rfl rfl (by decide) ?_
      refine wp_iret (pc := 161) dX10_pair_161 rfl rfl ?_
      have hq := hQ _ hJ1
      have e1 : pairA T S a w = ((((called T S) / 2 ^ (Int.toNat a)) % 2 ^ 1 : Nat) : Int) := by
        unfold pairA
        first | (rw [if_neg (by omega)]; done) | skip
        rw [if_pos (by omega)]
        rw [h_10]
        first | rfl | (show S _ = S _; congr 1; omega)
      rw [e1] at hq; exact hq
    refine wp_tout (pc := 14) 162 dX10_pair_14 (by omega) (by omega) (by decide) ?_
    refine wp_iconst (pc := 162) dX10_pair_162 ?_
    refine wp_iret (pc := 163) dX10_pair_163 rfl rfl ?_
    have hq := hQ _ Sc.refl
    have e1 : pairA T S a w = (-1) := by
      unfold pairA
      first | (rw [if_neg (by omega)]; done) | skip
      first | done | (rw [if_pos (by omega)]; first | done | rfl | (show T 16 _ = T 16 _; congr 1; omega) | (repeat rw [if_neg (by omega)]))
    rw [e1] at hq; exact hq
  · refine wp_eqst (st' := [vI 0]) rfl ?_
    refine wp_if_ne (pc := 8) 13 dX10_pair_8 (by decide) (by decide) (fun hh => absurd hh (by decide)) (fun _ => ?_)
    refine wp_iconst (pc := 11) dX10_pair_11 ?_
    refine wp_iret (pc := 12) dX10_pair_12 rfl rfl ?_
    have hq := hQ _ Sc.refl
    have e1 : pairA T S a w = (-1) := by
      unfold pairA
      first | (rw [if_neg (by omega)]; done) | skip
      first | done | (rw [if_pos (by omega)]; first | done | rfl | (show T 16 _ = T 16 _; congr 1; omega) | (repeat rw [if_neg (by omega)]))
    rw [e1] at hq; exact hq

theorem sp_degree {l : Launch} {G : mG} {d : Nat} {I : mI} {L : Nat → Nat → Int} {D : Nat → Nat} {Q : mQ} {T : mT} {S : mS} {Z : mT} {a b : Int}  (hC : CI I D T S Z) (h_a : inR a) (h_b : inR b) (hd : 1 ≤ d) (hQ : ∀ J, Sc I J (D 3) → Q (some (vI (degreeA T a b))) J (XX L D)) : WP l G m_X10_degree d 153 I (XX L D) 0 [some (vR 0), some (vI a), some (vI b)] [] Q := by
  obtain ⟨hD0, h30, hT0, hS, hZ, hw, hv, hz, hrd, hcd⟩ := hC
  have h3 : isT (D 3) := by rw [h30]; exact hD0
  have hT : TT I (D 3) = T := by rw [h30]; exact hT0
  have b_p := tw_p hw
  have b_c := tw_c hw
  have b_q := tw_q hw
  have b_s := sw_sun hv
  refine wp_aload_n (pc := 0) 0 dX10_degree_0 rfl rfl ?_
  refine wp_getr (pc := 1) dX10_degree_1 rfl f_X10_10 kd_0 la_0 rfl (r_0_0 D) ?_
  refine wp_iload_n (pc := 4) 1 dX10_degree_4 rfl rfl ?_
  refine wp_callV (pc := 5) (st := []) (nf' := 153) [vI a] [some (vR (D 0)), some (vI a)] dX10_degree_5 rfl c_X10_122 rfl (tk_0 hD0) (by decide) rfl (tl_0 hD0) rfl (Nat.le_of_ble_eq_true rfl) rfl (Nat.le_of_ble_eq_true rfl) (by omega) (Nat.le_refl _) (Nat.le_refl _) ?_
  refine sp_hasPerson hD0 hT0 hw (by omega) (by omega) (fun h_1 => ?_) (fun h_1 => ?_)
  · refine wp_eqst (st' := [vI 1]) rfl ?_
    refine wp_if_eq (pc := 8) 22 dX10_degree_8 (by decide) (by decide) (fun hh => absurd hh (by decide)) (fun _ => ?_)
    refine wp_aload_n (pc := 11) 0 dX10_degree_11 rfl rfl ?_
    refine wp_getr (pc := 12) dX10_degree_12 rfl f_X10_10 kd_0 la_0 rfl (r_0_0 D) ?_
    refine wp_iload_n (pc := 15) 2 dX10_degree_15 rfl rfl ?_
    refine wp_callV (pc := 16) (st := []) (nf' := 153) [vI b] [some (vR (D 0)), some (vI b)] dX10_degree_16 rfl c_X10_122 rfl (tk_0 hD0) (by decide) rfl (tl_0 hD0) rfl (Nat.le_of_ble_eq_true rfl) rfl (Nat.le_of_ble_eq_true rfl) (by omega) (Nat.le_refl _) (Nat.le_refl _) ?_
    refine sp_hasPerson hD0 hT0 hw (by omega) (by omega) (fun h_2 => ?_) (fun h_2 => ?_)
    · refine wp_eqst (st' := [vI 1]) rfl ?_
      refine wp_if_ne (pc := 19) 24 dX10_degree_19 (by decide) (by decide) (fun _ => ?_) (fun hh => absurd hh (by decide))
      refine wp_aload_n (pc := 24) 0 dX10_degree_24 rfl rfl ?_
      refine wp_getr (pc := 25) dX10_degree_25 rfl f_X10_10 kd_0 la_0 rfl (r_0_0 D) ?_
      refine wp_getr (pc := 28) dX10_degree_28 rfl f_X10_104 (tk_0 hD0) (tl_0 hD0) rfl (tr_0_9 D hD0) ?_
      refine wp_iload_n (pc := 31) 1 dX10_degree_31 rfl rfl ?_
      refine wp_iload_n (pc := 32) 2 dX10_degree_32 rfl rfl ?_
      refine wp_callV (pc := 33) (st := []) (nf' := 153) [vI a, vI b] [some (vR ((D 0) + 10)), some (vI a), some (vI b)] dX10_degree_33 rfl c_X10_194 rfl (tk_10 hD0) (by decide) rfl (tl_10 hD0) rfl (Nat.le_of_ble_eq_true rfl) rfl (Nat.le_of_ble_eq_true rfl) (by omega) (Nat.le_refl _) (Nat.le_refl _) ?_
      refine wp_aload_n (pc := 0) 0 dX0_degreeOf_0 rfl rfl ?_
      refine wp_getr (pc := 1) dX0_degreeOf_1 rfl f_X0_27 (tk_10 hD0) (tl_10 hD0) rfl (tr_10_5 D hD0) ?_
      refine wp_iload_n (pc := 4) 1 dX0_degreeOf_4 rfl rfl ?_
      refine wp_bipush (pc := 5) dX0_degreeOf_5 (by decide) ?_
      refine wp_imul (pc := 7) dX0_degreeOf_7 ?_
      refine wp_iload_n (pc := 8) 2 dX0_degreeOf_8 rfl rfl ?_
      refine wp_iadd (pc := 9) dX0_degreeOf_9 ?_
      refine wq_iald (pc := 10) (Int.toNat ((a * 8) + b)) dX0_degreeOf_10 (tk_16 hD0) (tl_16 hD0) (by omega) (by omega) ?_
      refine wp_eqst (st' := [vI (T 16 (Int.toNat ((a * 8) + b)))]) (by rw [← hT0] <;> rfl) ?_
      refine wp_iret (pc := 11) dX0_degreeOf_11 rfl rfl ?_
      refine wp_eqst (st' := [vI (T 16 (Int.toNat ((a * 8) + b)))]) rfl ?_
      refine wp_iret (pc := 36) dX10_degree_36 rfl rfl ?_
      have hq := hQ _ Sc.refl
      have e1 : degreeA T a b = T 16 (Int.toNat ((a * 8) + b)) := by
        unfold degreeA
        first | (rw [if_neg (by omega)]; done) | skip
        first | done | (rw [if_pos (by omega)]; first | done | rfl | (show T 16 _ = T 16 _; congr 1; omega) | (repeat rw [if_neg (by omega)]))
      rw [e1] at hq; exact hq
    · refine wp_eqst (st' := [vI 0]) rfl ?_
      refine wp_if_ne (pc := 19) 24 dX10_degree_19 (by decide) (by decide) (fun hh => absurd hh (by decide)) (fun _ => ?_)
      refine wp_iconst (pc := 22) dX10_degree_22 ?_
      refine wp_iret (pc := 23) dX10_degree_23 rfl rfl ?_
      have hq := hQ _ Sc.refl
      have e1 : degreeA T a b = (-1) := by
        unfold degreeA
        first | (rw [if_neg (by omega)]; done) | skip
        first | done | (rw [if_pos (by omega)]; first | done | rfl | (show T 16 _ = T 16 _; congr 1; omega) | (repeat rw [if_neg (by omega)]))
      rw [e1] at hq; exact hq
  · refine wp_eqst (st' := [vI 0]) rfl ?_
    refine wp_if_eq (pc := 8) 22 dX10_degree_8 (by decide) (by decide) (fun _ => ?_) (fun hh => absurd hh (by decide))
    refine wp_iconst (pc := 22) dX10_degree_22 ?_
    refine wp_iret (pc := 23) dX10_degree_23 rfl rfl ?_
    have hq := hQ _ Sc.refl
    have e1 : degreeA T a b = (-1) := by
      unfold degreeA
      first | (rw [if_neg (by omega)]; done) | skip
      first | done | (rw [if_pos (by omega)]; first | done | rfl | (show T 16 _ = T 16 _; congr 1; omega) | (repeat rw [if_neg (by omega)]))
    rw [e1] at hq; exact hq

theorem sp_ancestors {l : Launch} {G : mG} {d : Nat} {I : mI} {L : Nat → Nat → Int} {D : Nat → Nat} {Q : mQ} {T : mT} {S : mS} {Z : mT} {a : Int}  (hC : CI I D T S Z) (h_a : inR a) (hd : 1 ≤ d) (hQ : ∀ J, Sc I J (D 3) → Q (some (vI (ancestorsA T a))) J (XX L D)) : WP l G m_X10_ancestors d 153 I (XX L D) 0 [some (vR 0), some (vI a)] [] Q := by
  obtain ⟨hD0, h30, hT0, hS, hZ, hw, hv, hz, hrd, hcd⟩ := hC
  have h3 : isT (D 3) := by rw [h30]; exact hD0
  have hT : TT I (D 3) = T := by rw [h30]; exact hT0
  have b_p := tw_p hw
  have b_c := tw_c hw
  have b_q := tw_q hw
  have b_s := sw_sun hv
  refine wp_aload_n (pc := 0) 0 dX10_ancestors_0 rfl rfl ?_
  refine wp_getr (pc := 1) dX10_ancestors_1 rfl f_X10_10 kd_0 la_0 rfl (r_0_0 D) ?_
  refine wp_iload_n (pc := 4) 1 dX10_ancestors_4 rfl rfl ?_
  refine wp_callV (pc := 5) (st := []) (nf' := 153) [vI a] [some (vR (D 0)), some (vI a)] dX10_ancestors_5 rfl c_X10_122 rfl (tk_0 hD0) (by decide) rfl (tl_0 hD0) rfl (Nat.le_of_ble_eq_true rfl) rfl (Nat.le_of_ble_eq_true rfl) (by omega) (Nat.le_refl _) (Nat.le_refl _) ?_
  refine sp_hasPerson hD0 hT0 hw (by omega) (by omega) (fun h_1 => ?_) (fun h_1 => ?_)
  · refine wp_eqst (st' := [vI 1]) rfl ?_
    refine wp_if_eq (pc := 8) 25 dX10_ancestors_8 (by decide) (by decide) (fun hh => absurd hh (by decide)) (fun _ => ?_)
    refine wp_aload_n (pc := 11) 0 dX10_ancestors_11 rfl rfl ?_
    refine wp_getr (pc := 12) dX10_ancestors_12 rfl f_X10_10 kd_0 la_0 rfl (r_0_0 D) ?_
    refine wp_getr (pc := 15) dX10_ancestors_15 rfl f_X10_104 (tk_0 hD0) (tl_0 hD0) rfl (tr_0_9 D hD0) ?_
    refine wp_iload_n (pc := 18) 1 dX10_ancestors_18 rfl rfl ?_
    refine wp_callV (pc := 19) (st := []) (nf' := 153) [vI a] [some (vR ((D 0) + 10)), some (vI a), none, none] dX10_ancestors_19 rfl c_X10_198 rfl (tk_10 hD0) (by decide) rfl (tl_10 hD0) rfl (Nat.le_of_ble_eq_true rfl) rfl (Nat.le_of_ble_eq_true rfl) (by omega) (Nat.le_refl _) (Nat.le_refl _) ?_
    refine sp_ancestorsOf (Int.toNat a) (by omega) hD0 hT0 hw (by omega) (by omega) ?_
    refine wp_eqst (st' := [vI ((ancF T (Int.toNat a) : Nat) : Int)]) rfl ?_
    refine wp_goto (pc := 22) 26 dX10_ancestors_22 (by decide) ?_
    refine wp_iret (pc := 26) dX10_ancestors_26 rfl rfl ?_
    have hq := hQ _ Sc.refl
    have e1 : ancestorsA T a = ((ancF T (Int.toNat a) : Nat) : Int) := by
      unfold ancestorsA
      first | (rw [if_neg (by omega)]; done) | skip
      first | done | (rw [if_pos (by omega)]; first | done | rfl | (show T 16 _ = T 16 _; congr 1; omega) | (repeat rw [if_neg (by omega)]))
    rw [e1] at hq; exact hq
  · refine wp_eqst (st' := [vI 0]) rfl ?_
    refine wp_if_eq (pc := 8) 25 dX10_ancestors_8 (by decide) (by decide) (fun _ => ?_) (fun hh => absurd hh (by decide))
    refine wp_iconst (pc := 25) dX10_ancestors_25 ?_
    refine wp_iret (pc := 26) dX10_ancestors_26 rfl rfl ?_
    have hq := hQ _ Sc.refl
    have e1 : ancestorsA T a = (-1) := by
      unfold ancestorsA
      first | (rw [if_neg (by omega)]; done) | skip
      first | done | (rw [if_pos (by omega)]; first | done | rfl | (show T 16 _ = T 16 _; congr 1; omega) | (repeat rw [if_neg (by omega)]))
    rw [e1] at hq; exact hq

theorem sp_hearing {l : Launch} {G : mG} {d : Nat} {I : mI} {L : Nat → Nat → Int} {D : Nat → Nat} {Q : mQ} {T : mT} {S : mS} {Z : mT} {a : Int}  (hC : CI I D T S Z) (h_a : inR a) (hd : 4 ≤ d) (hQ : ∀ J, Sc I J (D 3) → Q (some (vI (hearingA T S a))) J (XX L D)) : WP l G m_X10_hearing d 153 I (XX L D) 0 [some (vR 0), some (vI a)] [] Q := by
  obtain ⟨hD0, h30, hT0, hS, hZ, hw, hv, hz, hrd, hcd⟩ := hC
  have h3 : isT (D 3) := by rw [h30]; exact hD0
  have hT : TT I (D 3) = T := by rw [h30]; exact hT0
  have b_p := tw_p hw
  have b_c := tw_c hw
  have b_q := tw_q hw
  have b_s := sw_sun hv
  have b_cl := called_lt hw S
  have eN : nP T = (T 0 12).toNat := rfl
  refine wp_aload_n (pc := 0) 0 dX10_hearing_0 rfl rfl ?_
  refine wp_getr (pc := 1) dX10_hearing_1 rfl f_X10_10 kd_0 la_0 rfl (r_0_0 D) ?_
  refine wp_iload_n (pc := 4) 1 dX10_hearing_4 rfl rfl ?_
  refine wp_callV (pc := 5) (st := []) (nf' := 153) [vI a] [some (vR (D 0)), some (vI a)] dX10_hearing_5 rfl c_X10_122 rfl (tk_0 hD0) (by decide) rfl (tl_0 hD0) rfl (Nat.le_of_ble_eq_true rfl) rfl (Nat.le_of_ble_eq_true rfl) (by omega) (Nat.le_refl _) (Nat.le_refl _) ?_
  refine sp_hasPerson hD0 hT0 hw (by omega) (by omega) (fun h_1 => ?_) (fun h_1 => ?_)
  · refine wp_eqst (st' := [vI 1]) rfl ?_
    refine wp_if_ne (pc := 8) 13 dX10_hearing_8 (by decide) (by decide) (fun _ => ?_) (fun hh => absurd hh (by decide))
    refine wp_aload_n (pc := 13) 0 dX10_hearing_13 rfl rfl ?_
    refine wp_getr (pc := 14) dX10_hearing_14 rfl f_X10_40 kd_0 la_0 rfl (r_0_4 D) ?_
    refine wp_aload_n (pc := 17) 0 dX10_hearing_17 rfl rfl ?_
    refine wp_getr (pc := 18) dX10_hearing_18 rfl f_X10_47 kd_0 la_0 rfl (r_0_5 D) ?_
    refine wp_iload_n (pc := 21) 1 dX10_hearing_21 rfl rfl ?_
    refine wp_aload_n (pc := 22) 0 dX10_hearing_22 rfl rfl ?_
    refine wp_getr (pc := 23) dX10_hearing_23 rfl f_X10_40 kd_0 la_0 rfl (r_0_4 D) ?_
    refine wp_aload_n (pc := 26) 0 dX10_hearing_26 rfl rfl ?_
    refine wp_getr (pc := 27) dX10_hearing_27 rfl f_X10_47 kd_0 la_0 rfl (r_0_5 D) ?_
    refine wp_callV (pc := 30) (st := [vI a, vR 47, vR 45]) (nf' := 153) [vR 47] [some (vR 45), some (vR 47), none, none] dX10_hearing_30 rfl c_X10_190 rfl kd_45 (by decide) rfl la_45 rfl (Nat.le_of_ble_eq_true rfl) rfl (Nat.le_of_ble_eq_true rfl) (by omega) (Nat.le_refl _) (Nat.le_refl _) ?_
    refine sp_calledNext h3 is47 hT hS hw hv (by omega) (by omega) (fun J1 hJ1 => ?_)
    have hT1 := hJ1.tt h3 hT
    have hT01 : TT J1 (D 0) = T := by rw [← h30]; exact hT1
    have hS1 := hJ1.ss h3 is47 hS
    refine wp_eqst (st' := [vI ((called T S : Nat) : Int), vI a, vR 47, vR 45]) rfl ?_
    refine wp_callV (pc := 33) (st := []) (nf' := 153) [vR 47, vI a, vI ((called T S : Nat) : Int)] [some (vR 45), some (vR 47), some (vI a), some (vI ((called T S : Nat) : Int)), none, none, none, none, none] dX10_hearing_33 rfl c_X10_201 rfl kd_45 (by decide) rfl la_45 rfl (Nat.le_of_ble_eq_true rfl) rfl (Nat.le_of_ble_eq_true rfl) (by omega) (Nat.le_refl _) (Nat.le_refl _) ?_
    refine sp_earOf (Int.toNat a) (by omega) (called T S) rfl h3 is47 hT1 hS1 hw hv (by omega) hcd (by omega) (by omega) (by omega) (fun J2 hJ2 => ?_)
    have hT12 := hJ2.tt h3 hT1
    have hT012 : TT J2 (D 0) = T := by rw [← h30]; exact hT12
    have hS12 := hJ2.ss h3 is47 hS1
    refine wp_eqst (st' := [vI (ear T S (Int.toNat a) (called T S))]) rfl ?_
    refine wp_iret (pc := 36) dX10_hearing_36 rfl rfl ?_
    have hq := hQ _ (hJ1.trans hJ2)
    have e1 : hearingA T S a = ear T S (Int.toNat a) (called T S) := by
      unfold hearingA
      first | (rw [if_neg (by omega)]; done) | skip
      first | done | (rw [if_pos (by omega)]; first | done | rfl | (show T 16 _ = T 16 _; congr 1; omega) | (repeat rw [if_neg (by omega)]))
    rw [e1] at hq; exact hq
  · refine wp_eqst (st' := [vI 0]) rfl ?_
    refine wp_if_ne (pc := 8) 13 dX10_hearing_8 (by decide) (by decide) (fun hh => absurd hh (by decide)) (fun _ => ?_)
    refine wp_iconst (pc := 11) dX10_hearing_11 ?_
    refine wp_iret (pc := 12) dX10_hearing_12 rfl rfl ?_
    have hq := hQ _ Sc.refl
    have e1 : hearingA T S a = (-1) := by
      unfold hearingA
      first | (rw [if_neg (by omega)]; done) | skip
      first | done | (rw [if_pos (by omega)]; first | done | rfl | (show T 16 _ = T 16 _; congr 1; omega) | (repeat rw [if_neg (by omega)]))
    rw [e1] at hq; exact hq

theorem sp_church {l : Launch} {G : mG} {d : Nat} {I : mI} {L : Nat → Nat → Int} {D : Nat → Nat} {Q : mQ} {T : mT} {S : mS} {Z : mT} {c w : Int}  (hC : CI I D T S Z) (h_c : inR c) (h_w : inR w) (hd : 3 ≤ d) (hQ : ∀ J, Sc I J (D 3) → Q (some (vI (churchA T S c w))) J (XX L D)) : WP l G m_X10_church d 153 I (XX L D) 0 [some (vR 0), some (vI c), some (vI w)] [] Q := by
  obtain ⟨hD0, h30, hT0, hS, hZ, hw, hv, hz, hrd, hcd⟩ := hC
  have h3 : isT (D 3) := by rw [h30]; exact hD0
  have hT : TT I (D 3) = T := by rw [h30]; exact hT0
  have b_p := tw_p hw
  have b_c := tw_c hw
  have b_q := tw_q hw
  have b_s := sw_sun hv
  have b_cl := called_lt hw S
  refine wp_aload_n (pc := 0) 0 dX10_church_0 rfl rfl ?_
  refine wp_getr (pc := 1) dX10_church_1 rfl f_X10_10 kd_0 la_0 rfl (r_0_0 D) ?_
  refine wp_iload_n (pc := 4) 1 dX10_church_4 rfl rfl ?_
  refine wp_callV (pc := 5) (st := []) (nf' := 153) [vI c] [some (vR (D 0)), some (vI c)] dX10_church_5 rfl c_X10_205 rfl (tk_0 hD0) (by decide) rfl (tl_0 hD0) rfl (Nat.le_of_ble_eq_true rfl) rfl (Nat.le_of_ble_eq_true rfl) (by omega) (Nat.le_refl _) (Nat.le_refl _) ?_
  refine sp_hasChurch hD0 hT0 hw (by omega) (by omega) (fun h_1 => ?_) (fun h_1 => ?_)
  · refine wp_eqst (st' := [vI 1]) rfl ?_
    refine wp_if_ne (pc := 8) 13 dX10_church_8 (by decide) (by decide) (fun _ => ?_) (fun hh => absurd hh (by decide))
    refine wp_iload_n (pc := 13) 2 dX10_church_13 rfl rfl ?_
    by_cases h_2 : w = 0
    · refine wp_lsw (pc := 14) 40 dX10_church_14 (by omega) (by decide) (by rw [h_2] <;> decide) (by decide) ?_
      refine wp_aload_n (pc := 40) 0 dX10_church_40 rfl rfl ?_
      refine wp_getr (pc := 41) dX10_church_41 rfl f_X10_40 kd_0 la_0 rfl (r_0_4 D) ?_
      refine wp_aload_n (pc := 44) 0 dX10_church_44 rfl rfl ?_
      refine wp_getr (pc := 45) dX10_church_45 rfl f_X10_47 kd_0 la_0 rfl (r_0_5 D) ?_
      refine wp_iload_n (pc := 48) 1 dX10_church_48 rfl rfl ?_
      refine wp_callV (pc := 49) (st := []) (nf' := 153) [vR 47, vI c] [some (vR 45), some (vR 47), some (vI c), none, none] dX10_church_49 rfl c_X10_208 rfl kd_45 (by decide) rfl la_45 rfl (Nat.le_of_ble_eq_true rfl) rfl (Nat.le_of_ble_eq_true rfl) (by omega) (Nat.le_refl _) (Nat.le_refl _) ?_
      refine sp_sittersIn h3 is47 hT hS hw hv (by omega) (by omega) ?_
      refine wp_eqst (st' := [vI ((sitters T S c : Nat) : Int)]) rfl ?_
      refine wp_iret (pc := 52) dX10_church_52 rfl rfl ?_
      have hq := hQ _ Sc.refl
      have e1 : churchA T S c w = ((sitters T S c : Nat) : Int) := by
        unfold churchA
        first | (rw [if_neg (by omega)]; done) | skip
        rw [if_pos (by omega)]
        rw [h_2]
        first | rfl | (show S _ = S _; congr 1; omega)
      rw [e1] at hq; exact hq
    by_cases h_3 : w = 1
    · refine wp_lsw (pc := 14) 53 dX10_church_14 (by omega) (by decide) (by rw [h_3] <;> decide) (by decide) ?_
      refine wp_aload_n (pc := 53) 0 dX10_church_53 rfl rfl ?_
      refine wp_getr (pc := 54) dX10_church_54 rfl f_X10_40 kd_0 la_0 rfl (r_0_4 D) ?_
      refine wp_aload_n (pc := 57) 0 dX10_church_57 rfl rfl ?_
      refine wp_getr (pc := 58) dX10_church_58 rfl f_X10_47 kd_0 la_0 rfl (r_0_5 D) ?_
      refine wp_iload_n (pc := 61) 1 dX10_church_61 rfl rfl ?_
      refine wp_aload_n (pc := 62) 0 dX10_church_62 rfl rfl ?_
      refine wp_getr (pc := 63) dX10_church_63 rfl f_X10_40 kd_0 la_0 rfl (r_0_4 D) ?_
      refine wp_aload_n (pc := 66) 0 dX10_church_66 rfl rfl ?_
      refine wp_getr (pc := 67) dX10_church_67 rfl f_X10_47 kd_0 la_0 rfl (r_0_5 D) ?_
      refine wp_callV (pc := 70) (st := [vI c, vR 47, vR 45]) (nf' := 153) [vR 47] [some (vR 45), some (vR 47), none, none] dX10_church_70 rfl c_X10_190 rfl kd_45 (by decide) rfl la_45 rfl (Nat.le_of_ble_eq_true rfl) rfl (Nat.le_of_ble_eq_true rfl) (by omega) (Nat.le_refl _) (Nat.le_refl _) ?_
      refine sp_calledNext h3 is47 hT hS hw hv (by omega) (by omega) (fun J1 hJ1 => ?_)
      have hT1 := hJ1.tt h3 hT
      have hT01 : TT J1 (D 0) = T := by rw [← h30]; exact hT1
      have hS1 := hJ1.ss h3 is47 hS
      refine wp_eqst (st' := [vI ((called T S : Nat) : Int), vI c, vR 47, vR 45]) rfl ?_
      refine wp_callV (pc := 73) (st := []) (nf' := 153) [vR 47, vI c, vI ((called T S : Nat) : Int)] [some (vR 45), some (vR 47), some (vI c), some (vI ((called T S : Nat) : Int)), none, none] dX10_church_73 rfl c_X10_211 rfl kd_45 (by decide) rfl la_45 rfl (Nat.le_of_ble_eq_true rfl) rfl (Nat.le_of_ble_eq_true rfl) (by omega) (Nat.le_refl _) (Nat.le_refl _) ?_
      refine sp_readIn (called T S) rfl h3 is47 hT1 hS1 hw hv (by omega) (by omega) (by omega) ?_
      refine wp_eqst (st' := [vI ((readIn T S c (called T S) : Nat) : Int)]) rfl ?_
      refine wp_iret (pc := 76) dX10_church_76 rfl rfl ?_
      have hq := hQ _ hJ1
      have e1 : churchA T S c w = ((readIn T S c (called T S) : Nat) : Int) := by
        unfold churchA
        first | (rw [if_neg (by omega)]; done) | skip
        rw [if_pos (by omega)]
        rw [h_3]
        first | rfl | (show S _ = S _; congr 1; omega)
      rw [e1] at hq; exact hq
    refine wp_lsw (pc := 14) (off := 63) 77 dX10_church_14 (by omega) (by decide) (by simp only [Op.lookupswitch.offset_cons, Op.lookupswitch.offset]; repeat rw [if_neg (by omega)]) (by decide) ?_
    refine wp_iconst (pc := 77) dX10_church_77 ?_
    refine wp_iret (pc := 78) dX10_church_78 rfl rfl ?_
    have hq := hQ _ Sc.refl
    have e1 : churchA T S c w = (-1) := by
      unfold churchA
      first | (rw [if_neg (by omega)]; done) | skip
      first | done | (rw [if_pos (by omega)]; first | done | rfl | (show T 16 _ = T 16 _; congr 1; omega) | (repeat rw [if_neg (by omega)]))
    rw [e1] at hq; exact hq
  · refine wp_eqst (st' := [vI 0]) rfl ?_
    refine wp_if_ne (pc := 8) 13 dX10_church_8 (by decide) (by decide) (fun hh => absurd hh (by decide)) (fun _ => ?_)
    refine wp_iconst (pc := 11) dX10_church_11 ?_
    refine wp_iret (pc := 12) dX10_church_12 rfl rfl ?_
    have hq := hQ _ Sc.refl
    have e1 : churchA T S c w = (-1) := by
      unfold churchA
      first | (rw [if_neg (by omega)]; done) | skip
      first | done | (rw [if_pos (by omega)]; first | done | rfl | (show T 16 _ = T 16 _; congr 1; omega) | (repeat rw [if_neg (by omega)]))
    rw [e1] at hq; exact hq

theorem sp_meant {l : Launch} {G : mG} {d : Nat} {I : mI} {L : Nat → Nat → Int} {D : Nat → Nat} {Q : mQ} {T : mT} {S : mS} {Z : mT} {k : Int}  (hC : CI I D T S Z) (h_k : inR k) (hd : 4 ≤ d) (hQ : ∀ J, Sc I J (D 3) → Q (some (vI (((meantF T S Z k : Nat) : Int)))) J (XX L D)) : WP l G m_X10_meant d 153 I (XX L D) 0 [some (vR 0), some (vI k)] [] Q := by
  obtain ⟨hD0, h30, hT0, hS, hZ, hw, hv, hz, hrd, hcd⟩ := hC
  have h3 : isT (D 3) := by rw [h30]; exact hD0
  have hT : TT I (D 3) = T := by rw [h30]; exact hT0
  have b_p := tw_p hw
  have b_c := tw_c hw
  have b_q := tw_q hw
  have b_s := sw_sun hv
  refine wp_aload_n (pc := 0) 0 dX10_meant_0 rfl rfl ?_
  refine wp_getr (pc := 1) dX10_meant_1 rfl f_X10_75 kd_0 la_0 rfl (r_0_10 D) ?_
  refine wp_aload_n (pc := 4) 0 dX10_meant_4 rfl rfl ?_
  refine wp_getr (pc := 5) dX10_meant_5 rfl f_X10_10 kd_0 la_0 rfl (r_0_0 D) ?_
  refine wp_aload_n (pc := 8) 0 dX10_meant_8 rfl rfl ?_
  refine wp_getr (pc := 9) dX10_meant_9 rfl f_X10_47 kd_0 la_0 rfl (r_0_5 D) ?_
  refine wp_iload_n (pc := 12) 1 dX10_meant_12 rfl rfl ?_
  refine wp_callV (pc := 13) (st := []) (nf' := 153) [vR (D 0), vR 47, vI k] [some (vR 104), some (vR (D 0)), some (vR 47), some (vI k), none, none] dX10_meant_13 rfl c_X10_290 rfl kd_104 (by decide) rfl la_104 rfl (Nat.le_of_ble_eq_true rfl) rfl (Nat.le_of_ble_eq_true rfl) (by omega) (Nat.le_refl _) (Nat.le_refl _) ?_
  refine sp_fitting hD0 is47 hT0 hS hw hv hZ hz (by omega) (by omega) ?_
  refine wp_eqst (st' := [vI ((meantF T S Z k : Nat) : Int)]) rfl ?_
  refine wp_iret (pc := 16) dX10_meant_16 rfl rfl ?_
  exact hQ _ Sc.refl
