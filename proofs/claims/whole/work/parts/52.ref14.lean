theorem rl_church0 {l : Launch} {G : mG} {d : Nat} {I : mI} {L : Nat → Nat → Int} {D : Nat → Nat} {Q : mQ} {T : mT} {S : mS} {B : Int} {c w : Int} (hR : RT I T) (hA : I 140 = pS S) (hw : tw T) (hv : sw S B) (h_c : inR c) (h_w : w = 0) (hd : 4 ≤ d) (hQ : Q (some (vI (((sitters T S c : Nat) : Int)))) I (XX L D)) : ∀ i : Nat, i ≤ nP T → WP l G m_X11_church_ d 153 I (XX L D) 28 [some (vR 111), some (vI c), some (vI w), some (vI ((setOf (fun p => decide (S p = c)) i : Nat) : Int)), some (vI (i : Int))] [] Q := by
  have b_p := tw_p hw
  have b_q := tw_q hw
  have b_c := tw_c hw
  have eP : nP T = (T 0 12).toNat := rfl
  have eQ : nQ T = (T 0 13).toNat := rfl
  have eC : nC T = (T 0 11).toNat := rfl
  refine loop_dn (fun i => WP l G m_X11_church_ d 153 I (XX L D) 28 [some (vR 111), some (vI c), some (vI w), some (vI ((setOf (fun p => decide (S p = c)) i : Nat) : Int)), some (vI (i : Int))] [] Q) (nP T) ?_ (fun i hi ih => ?_)
  · refine wp_iload (pc := 28) dX11_church__28 rfl ?_
    refine wp_aload_n (pc := 30) 0 dX11_church__30 rfl rfl ?_
    refine wp_geti (pc := 31) dX11_church__31 rfl f_X11_412 kd_111 la_111 (Or.inl rfl) ?_
    refine wp_eqst (st' := [vI (T 0 12), vI (((nP T) : Nat) : Int)]) (by rw [rt_p hR]) ?_
    refine wp_icmp_ge (pc := 34) 72 dX11_church__34 (by decide) (by omega) (by omega) (fun h_1 => ?_) (fun h_1 => ?_)
    · refine wp_iconst (pc := 72) dX11_church__72 ?_
      refine wq_istore (pc := 73) [some (vR 111), some (vI c), some (vI w), some (vI ((setOf (fun p => decide (S p = c)) (nP T) : Nat) : Int)), some (vI 0)] dX11_church__73 rfl (by decide) rfl ?_
      refine wp_iload (pc := 75) dX11_church__75 rfl ?_
      refine wp_aload_n (pc := 77) 0 dX11_church__77 rfl rfl ?_
      refine wp_geti (pc := 78) dX11_church__78 rfl f_X11_415 kd_111 la_111 (Or.inl rfl) ?_
      refine wp_eqst (st' := [vI (T 0 13), vI 0]) (by rw [rt_q hR]) ?_
      refine wp_icmp_ge (pc := 81) 121 dX11_church__81 (by decide) (by decide) (by omega) (fun h_2 => ?_) (fun h_2 => ?_)
      · refine wp_iload_n (pc := 121) 3 dX11_church__121 rfl rfl ?_
        refine wp_iret (pc := 122) dX11_church__122 rfl rfl ?_
        exact hQ
      · refine wp_iload_n (pc := 84) 2 dX11_church__84 rfl rfl ?_
        refine wp_iconst (pc := 85) dX11_church__85 ?_
        refine wp_icmp_ne (pc := 86) 121 dX11_church__86 (by decide) (by omega) (by decide) (fun h_3 => ?_) (fun h_3 => ?_)
        · refine wp_iload_n (pc := 121) 3 dX11_church__121 rfl rfl ?_
          refine wp_iret (pc := 122) dX11_church__122 rfl rfl ?_
          exact hQ
        · exfalso; omega
    · exfalso; omega
  · have b1 := sw_seat hv (j := i) (by omega)
    refine wp_iload (pc := 28) dX11_church__28 rfl ?_
    refine wp_aload_n (pc := 30) 0 dX11_church__30 rfl rfl ?_
    refine wp_geti (pc := 31) dX11_church__31 rfl f_X11_412 kd_111 la_111 (Or.inl rfl) ?_
    refine wp_eqst (st' := [vI (T 0 12), vI (i : Int)]) (by rw [rt_p hR]) ?_
    refine wp_icmp_ge (pc := 34) 72 dX11_church__34 (by decide) (by omega) (by omega) (fun h_1 => ?_) (fun h_1 => ?_)
    · exfalso; omega
    · refine wp_iload_n (pc := 37) 2 dX11_church__37 rfl rfl ?_
      refine wp_if_ne (pc := 38) 72 dX11_church__38 (by decide) (by omega) (fun h_2 => ?_) (fun h_2 => ?_)
      · exfalso; omega
      · refine wp_iload_n (pc := 41) 3 dX11_church__41 rfl rfl ?_
        refine wp_aload_n (pc := 42) 0 dX11_church__42 rfl rfl ?_
        refine wp_getr (pc := 43) dX11_church__43 rfl f_X11_106 kd_111 la_111 rfl (r_111_61 D) ?_
        refine wp_iload (pc := 46) dX11_church__46 rfl ?_
        refine wq_iald (pc := 48) i dX11_church__48 kd_140 la_140 rfl (by omega) ?_
        refine wp_eqst (st' := [vI (S i), vI ((setOf (fun p => decide (S p = c)) i : Nat) : Int)]) (by rw [hA, pS_s (by omega)]) ?_
        refine wp_iload_n (pc := 49) 1 dX11_church__49 rfl rfl ?_
        refine wp_icmp_ne (pc := 50) 57 dX11_church__50 (by decide) (by omega) (by omega) (fun h_3 => ?_) (fun h_3 => ?_)
        · refine wp_iconst (pc := 57) dX11_church__57 ?_
          refine wp_callS (pc := 58) (st := [vI ((setOf (fun p => decide (S p = c)) i : Nat) : Int)]) (nf' := 153) [vI 0] [some (vI 0)] dX11_church__58 rfl c_X11_320 rfl rfl (Nat.le_of_ble_eq_true rfl) rfl (Nat.le_of_ble_eq_true rfl) (by omega) (Nat.le_refl _) (Nat.le_refl _) ?_
          refine wp_iload_n (pc := 0) 0 dX11_truth_0 rfl rfl ?_
          refine wp_if_eq (pc := 1) 8 dX11_truth_1 (by decide) (by decide) (fun _ => ?_) (fun hh => absurd hh (by decide))
          refine wp_iconst (pc := 8) dX11_truth_8 ?_
          refine wp_iret (pc := 9) dX11_truth_9 rfl rfl ?_
          refine wp_eqst (st' := [vI 0, vI ((setOf (fun p => decide (S p = c)) i : Nat) : Int)]) rfl ?_
          refine wp_iload (pc := 61) dX11_church__61 rfl ?_
          refine wn_shl (pc := 63) 0 i dX11_church__63 rfl rfl (by omega) ?_
          refine wn_or (pc := 64) (setOf (fun p => decide (S p = c)) i) (0 * 2 ^ i) dX11_church__64 rfl rfl ?_
          refine wq_istore_n (pc := 65) 3 [some (vR 111), some (vI c), some (vI w), some (vI (((setOf (fun p => decide (S p = c)) i) ||| (0 * 2 ^ i) : Nat) : Int)), some (vI (i : Int))] dX11_church__65 rfl rfl (by decide) rfl ?_
          refine wq_iinc (pc := 66) [some (vR 111), some (vI c), some (vI w), some (vI (((setOf (fun p => decide (S p = c)) i) ||| (0 * 2 ^ i) : Nat) : Int)), some (vI ((i : Int) + 1))] dX11_church__66 rfl rfl (by decide) rfl ?_
          refine wp_goto (pc := 69) 28 dX11_church__69 (by decide) ?_
          refine wp_eqls (ls' := [some (vR 111), some (vI c), some (vI w), some (vI ((setOf (fun p => decide (S p = c)) (i + 1) : Nat) : Int)), some (vI (((i + 1) : Nat) : Int))]) (by rw [setOf_n (f := (fun p => decide (S p = c))) (n := i) (decide_eq_false (by omega))]; first | rfl | (rw [Nat.zero_mul, Nat.or_zero]; rfl)) ih
        · refine wp_iconst (pc := 53) dX11_church__53 ?_
          refine wp_goto (pc := 54) 58 dX11_church__54 (by decide) ?_
          refine wp_callS (pc := 58) (st := [vI ((setOf (fun p => decide (S p = c)) i : Nat) : Int)]) (nf' := 153) [vI 1] [some (vI 1)] dX11_church__58 rfl c_X11_320 rfl rfl (Nat.le_of_ble_eq_true rfl) rfl (Nat.le_of_ble_eq_true rfl) (by omega) (Nat.le_refl _) (Nat.le_refl _) ?_
          refine wp_iload_n (pc := 0) 0 dX11_truth_0 rfl rfl ?_
          refine wp_if_eq (pc := 1) 8 dX11_truth_1 (by decide) (by decide) (fun hh => absurd hh (by decide)) (fun _ => ?_)
          refine wp_iconst (pc := 4) dX11_truth_4 ?_
          refine wp_goto (pc := 5) 9 dX11_truth_5 (by decide) ?_
          refine wp_iret (pc := 9) dX11_truth_9 rfl rfl ?_
          refine wp_eqst (st' := [vI 1, vI ((setOf (fun p => decide (S p = c)) i : Nat) : Int)]) rfl ?_
          refine wp_iload (pc := 61) dX11_church__61 rfl ?_
          refine wn_shl1 (pc := 63) i dX11_church__63 rfl (by omega) ?_
          refine wn_or (pc := 64) (setOf (fun p => decide (S p = c)) i) (2 ^ i) dX11_church__64 rfl rfl ?_
          refine wq_istore_n (pc := 65) 3 [some (vR 111), some (vI c), some (vI w), some (vI (((setOf (fun p => decide (S p = c)) i) ||| (2 ^ i) : Nat) : Int)), some (vI (i : Int))] dX11_church__65 rfl rfl (by decide) rfl ?_
          refine wq_iinc (pc := 66) [some (vR 111), some (vI c), some (vI w), some (vI (((setOf (fun p => decide (S p = c)) i) ||| (2 ^ i) : Nat) : Int)), some (vI ((i : Int) + 1))] dX11_church__66 rfl rfl (by decide) rfl ?_
          refine wp_goto (pc := 69) 28 dX11_church__69 (by decide) ?_
          refine wp_eqls (ls' := [some (vR 111), some (vI c), some (vI w), some (vI ((setOf (fun p => decide (S p = c)) (i + 1) : Nat) : Int)), some (vI (((i + 1) : Nat) : Int))]) (by rw [setOf_y (f := (fun p => decide (S p = c))) (n := i) (decide_eq_true (by omega))]; first | rfl | (rw [Nat.one_mul]; rfl)) ih

theorem or_b1 {m i a : Nat} (h : m.testBit i = true) : a ||| m / 2 ^ i % 2 ^ 1 % 2 ^ 1 * 2 ^ i = a ||| 2 ^ i := by
  have e := (bit_iff m i).mpr h
  have e2 : m / 2 ^ i % 2 ^ 1 = 1 := by show m / 2 ^ i % 2 = 1; omega
  rw [e2]
  show a ||| 1 * 2 ^ i = _
  rw [Nat.one_mul]
theorem or_b0 {m i a : Nat} (h : ¬ m.testBit i = true) : a ||| m / 2 ^ i % 2 ^ 1 % 2 ^ 1 * 2 ^ i = a := by
  have e := bit_lt m i
  have e2 : m / 2 ^ i % 2 ^ 1 = 0 := by
    show m / 2 ^ i % 2 = 0
    have : ¬ ((m / 2 ^ i % 2 : Nat) : Int) = 1 := fun x => h ((bit_iff m i).mp x)
    omega
  rw [e2]
  show a ||| 0 * 2 ^ i = _
  rw [Nat.zero_mul, Nat.or_zero]
theorem or_bz {b i a : Nat} : a ||| (b &&& 0) * 2 ^ i = a := by rw [Nat.and_zero, Nat.zero_mul, Nat.or_zero]

theorem rl_church1 {l : Launch} {G : mG} {d : Nat} {I : mI} {L : Nat → Nat → Int} {D : Nat → Nat} {Q : mQ} {T : mT} {S : mS} {B : Int} {c w : Int} (hR : RT I T) (hA : I 140 = pS S) (hw : tw T) (hv : sw S B) (h63 : I 111 63 = ((called T S : Nat) : Int)) (h_c : inR c) (h_w : w = 1) (hd : 4 ≤ d) (hQ : Q (some (vI (((readIn T S c (called T S) : Nat) : Int)))) I (XX L D)) : ∀ i : Nat, i ≤ nQ T → WP l G m_X11_church_ d 153 I (XX L D) 75 [some (vR 111), some (vI c), some (vI w), some (vI ((setOf (fun q => (called T S).testBit q && decide (S (13 + q) = c ∨ S (18 + q) = c)) i : Nat) : Int)), some (vI (i : Int))] [] Q := by
  have b_p := tw_p hw
  have b_q := tw_q hw
  have b_c := tw_c hw
  have eP : nP T = (T 0 12).toNat := rfl
  have eQ : nQ T = (T 0 13).toNat := rfl
  have eC : nC T = (T 0 11).toNat := rfl
  have b2 := called_lt hw S
  refine loop_dn (fun i => WP l G m_X11_church_ d 153 I (XX L D) 75 [some (vR 111), some (vI c), some (vI w), some (vI ((setOf (fun q => (called T S).testBit q && decide (S (13 + q) = c ∨ S (18 + q) = c)) i : Nat) : Int)), some (vI (i : Int))] [] Q) (nQ T) ?_ (fun i hi ih => ?_)
  · refine wp_iload (pc := 75) dX11_church__75 rfl ?_
    refine wp_aload_n (pc := 77) 0 dX11_church__77 rfl rfl ?_
    refine wp_geti (pc := 78) dX11_church__78 rfl f_X11_415 kd_111 la_111 (Or.inl rfl) ?_
    refine wp_eqst (st' := [vI (T 0 13), vI (((nQ T) : Nat) : Int)]) (by rw [rt_q hR]) ?_
    refine wp_icmp_ge (pc := 81) 121 dX11_church__81 (by decide) (by omega) (by omega) (fun h_1 => ?_) (fun h_1 => ?_)
    · refine wp_iload_n (pc := 121) 3 dX11_church__121 rfl rfl ?_
      refine wp_iret (pc := 122) dX11_church__122 rfl rfl ?_
      exact hQ
    · exfalso; omega
  · have b3 := bit_lt (called T S) i
    refine wp_iload (pc := 75) dX11_church__75 rfl ?_
    refine wp_aload_n (pc := 77) 0 dX11_church__77 rfl rfl ?_
    refine wp_geti (pc := 78) dX11_church__78 rfl f_X11_415 kd_111 la_111 (Or.inl rfl) ?_
    refine wp_eqst (st' := [vI (T 0 13), vI (i : Int)]) (by rw [rt_q hR]) ?_
    refine wp_icmp_ge (pc := 81) 121 dX11_church__81 (by decide) (by omega) (by omega) (fun h_1 => ?_) (fun h_1 => ?_)
    · exfalso; omega
    · refine wp_iload_n (pc := 84) 2 dX11_church__84 rfl rfl ?_
      refine wp_iconst (pc := 85) dX11_church__85 ?_
      refine wp_icmp_ne (pc := 86) 121 dX11_church__86 (by decide) (by omega) (by decide) (fun h_2 => ?_) (fun h_2 => ?_)
      · exfalso; omega
      · refine wp_iload_n (pc := 89) 3 dX11_church__89 rfl rfl ?_
        refine wp_aload_n (pc := 90) 0 dX11_church__90 rfl rfl ?_
        refine wp_geti (pc := 91) dX11_church__91 rfl f_X11_473 kd_111 la_111 (Or.inl rfl) ?_
        refine wp_eqst (st' := [vI ((called T S : Nat) : Int), vI ((setOf (fun q => (called T S).testBit q && decide (S (13 + q) = c ∨ S (18 + q) = c)) i : Nat) : Int)]) (by rw [h63]) ?_
        refine wp_iload (pc := 94) dX11_church__94 rfl ?_
        refine wn_shr (pc := 96) (called T S) i dX11_church__96 rfl rfl (by omega) (by omega) ?_
        refine wp_iconst (pc := 97) dX11_church__97 ?_
        refine wn_mask (pc := 98) ((called T S) / 2 ^ i) 1 dX11_church__98 rfl rfl (by decide) ?_
        refine wp_aload_n (pc := 99) 0 dX11_church__99 rfl rfl ?_
        refine wp_iload (pc := 100) dX11_church__100 rfl ?_
        refine wp_iload_n (pc := 102) 1 dX11_church__102 rfl rfl ?_
        refine wp_callV (pc := 103) (st := [vI ((((called T S) / 2 ^ i) % 2 ^ 1 : Nat) : Int), vI ((setOf (fun q => (called T S).testBit q && decide (S (13 + q) = c ∨ S (18 + q) = c)) i : Nat) : Int)]) (nf' := 153) [vI (i : Int), vI c] [some (vR 111), some (vI (i : Int)), some (vI c)] dX11_church__103 rfl c_X11_494 rfl kd_111 (by decide) rfl la_111 rfl (Nat.le_of_ble_eq_true rfl) rfl (Nat.le_of_ble_eq_true rfl) (by omega) (Nat.le_refl _) (Nat.le_refl _) ?_
        refine rs_isAt i rfl hR hA hw hv (by omega) (by omega) (by omega) (fun h_3 => ?_) (fun h_3 => ?_)
        · refine wp_eqst (st' := [vI 1, vI ((((called T S) / 2 ^ i) % 2 ^ 1 : Nat) : Int), vI ((setOf (fun q => (called T S).testBit q && decide (S (13 + q) = c ∨ S (18 + q) = c)) i : Nat) : Int)]) rfl ?_
          refine wp_callS (pc := 106) (st := [vI ((((called T S) / 2 ^ i) % 2 ^ 1 : Nat) : Int), vI ((setOf (fun q => (called T S).testBit q && decide (S (13 + q) = c ∨ S (18 + q) = c)) i : Nat) : Int)]) (nf' := 153) [vI 1] [some (vI 1)] dX11_church__106 rfl c_X11_320 rfl rfl (Nat.le_of_ble_eq_true rfl) rfl (Nat.le_of_ble_eq_true rfl) (by omega) (Nat.le_refl _) (Nat.le_refl _) ?_
          refine wp_iload_n (pc := 0) 0 dX11_truth_0 rfl rfl ?_
          refine wp_if_eq (pc := 1) 8 dX11_truth_1 (by decide) (by decide) (fun hh => absurd hh (by decide)) (fun _ => ?_)
          refine wp_iconst (pc := 4) dX11_truth_4 ?_
          refine wp_goto (pc := 5) 9 dX11_truth_5 (by decide) ?_
          refine wp_iret (pc := 9) dX11_truth_9 rfl rfl ?_
          refine wp_eqst (st' := [vI 1, vI ((((called T S) / 2 ^ i) % 2 ^ 1 : Nat) : Int), vI ((setOf (fun q => (called T S).testBit q && decide (S (13 + q) = c ∨ S (18 + q) = c)) i : Nat) : Int)]) rfl ?_
          refine wn_mask (pc := 109) (((called T S) / 2 ^ i) % 2 ^ 1) 1 dX11_church__109 rfl rfl (by decide) ?_
          refine wp_iload (pc := 110) dX11_church__110 rfl ?_
          refine wn_shl (pc := 112) ((((called T S) / 2 ^ i) % 2 ^ 1) % 2 ^ 1) i dX11_church__112 rfl rfl (by omega) ?_
          refine wn_or (pc := 113) (setOf (fun q => (called T S).testBit q && decide (S (13 + q) = c ∨ S (18 + q) = c)) i) (((((called T S) / 2 ^ i) % 2 ^ 1) % 2 ^ 1) * 2 ^ i) dX11_church__113 rfl rfl ?_
          refine wq_istore_n (pc := 114) 3 [some (vR 111), some (vI c), some (vI w), some (vI (((setOf (fun q => (called T S).testBit q && decide (S (13 + q) = c ∨ S (18 + q) = c)) i) ||| (((((called T S) / 2 ^ i) % 2 ^ 1) % 2 ^ 1) * 2 ^ i) : Nat) : Int)), some (vI (i : Int))] dX11_church__114 rfl rfl (by decide) rfl ?_
          refine wq_iinc (pc := 115) [some (vR 111), some (vI c), some (vI w), some (vI (((setOf (fun q => (called T S).testBit q && decide (S (13 + q) = c ∨ S (18 + q) = c)) i) ||| (((((called T S) / 2 ^ i) % 2 ^ 1) % 2 ^ 1) * 2 ^ i) : Nat) : Int)), some (vI ((i : Int) + 1))] dX11_church__115 rfl rfl (by decide) rfl ?_
          refine wp_goto (pc := 118) 75 dX11_church__118 (by decide) ?_
          refine wp_eqls (ls' := [some (vR 111), some (vI c), some (vI w), some (vI ((setOf (fun q => (called T S).testBit q && decide (S (13 + q) = c ∨ S (18 + q) = c)) (i + 1) : Nat) : Int)), some (vI (((i + 1) : Nat) : Int))]) ?_ ih
          by_cases e : (called T S).testBit i = true
          · rw [setOf_y (f := (fun q => (called T S).testBit q && decide (S (13 + q) = c ∨ S (18 + q) = c))) (n := i) (by rw [decide_eq_true h_3, e]; rfl), or_b1 e]; rfl
          · rw [setOf_n (f := (fun q => (called T S).testBit q && decide (S (13 + q) = c ∨ S (18 + q) = c))) (n := i) (by rw [decide_eq_true h_3, Bool.and_true]; exact Bool.eq_false_iff.mpr e), or_b0 e]; rfl
        · refine wp_eqst (st' := [vI 0, vI ((((called T S) / 2 ^ i) % 2 ^ 1 : Nat) : Int), vI ((setOf (fun q => (called T S).testBit q && decide (S (13 + q) = c ∨ S (18 + q) = c)) i : Nat) : Int)]) rfl ?_
          refine wp_callS (pc := 106) (st := [vI ((((called T S) / 2 ^ i) % 2 ^ 1 : Nat) : Int), vI ((setOf (fun q => (called T S).testBit q && decide (S (13 + q) = c ∨ S (18 + q) = c)) i : Nat) : Int)]) (nf' := 153) [vI 0] [some (vI 0)] dX11_church__106 rfl c_X11_320 rfl rfl (Nat.le_of_ble_eq_true rfl) rfl (Nat.le_of_ble_eq_true rfl) (by omega) (Nat.le_refl _) (Nat.le_refl _) ?_
          refine wp_iload_n (pc := 0) 0 dX11_truth_0 rfl rfl ?_
          refine wp_if_eq (pc := 1) 8 dX11_truth_1 (by decide) (by decide) (fun _ => ?_) (fun hh => absurd hh (by decide))
          refine wp_iconst (pc := 8) dX11_truth_8 ?_
          refine wp_iret (pc := 9) dX11_truth_9 rfl rfl ?_
          refine wp_eqst (st' := [vI 0, vI ((((called T S) / 2 ^ i) % 2 ^ 1 : Nat) : Int), vI ((setOf (fun q => (called T S).testBit q && decide (S (13 + q) = c ∨ S (18 + q) = c)) i : Nat) : Int)]) rfl ?_
          refine wn_and (pc := 109) (((called T S) / 2 ^ i) % 2 ^ 1) 0 dX11_church__109 rfl rfl ?_
          refine wp_iload (pc := 110) dX11_church__110 rfl ?_
          refine wn_shl (pc := 112) ((((called T S) / 2 ^ i) % 2 ^ 1) &&& 0) i dX11_church__112 rfl rfl (by omega) ?_
          refine wn_or (pc := 113) (setOf (fun q => (called T S).testBit q && decide (S (13 + q) = c ∨ S (18 + q) = c)) i) (((((called T S) / 2 ^ i) % 2 ^ 1) &&& 0) * 2 ^ i) dX11_church__113 rfl rfl ?_
          refine wq_istore_n (pc := 114) 3 [some (vR 111), some (vI c), some (vI w), some (vI (((setOf (fun q => (called T S).testBit q && decide (S (13 + q) = c ∨ S (18 + q) = c)) i) ||| (((((called T S) / 2 ^ i) % 2 ^ 1) &&& 0) * 2 ^ i) : Nat) : Int)), some (vI (i : Int))] dX11_church__114 rfl rfl (by decide) rfl ?_
          refine wq_iinc (pc := 115) [some (vR 111), some (vI c), some (vI w), some (vI (((setOf (fun q => (called T S).testBit q && decide (S (13 + q) = c ∨ S (18 + q) = c)) i) ||| (((((called T S) / 2 ^ i) % 2 ^ 1) &&& 0) * 2 ^ i) : Nat) : Int)), some (vI ((i : Int) + 1))] dX11_church__115 rfl rfl (by decide) rfl ?_
          refine wp_goto (pc := 118) 75 dX11_church__118 (by decide) ?_
          refine wp_eqls (ls' := [some (vR 111), some (vI c), some (vI w), some (vI ((setOf (fun q => (called T S).testBit q && decide (S (13 + q) = c ∨ S (18 + q) = c)) (i + 1) : Nat) : Int)), some (vI (((i + 1) : Nat) : Int))]) (by rw [setOf_n (f := (fun q => (called T S).testBit q && decide (S (13 + q) = c ∨ S (18 + q) = c))) (n := i) (by rw [decide_eq_false h_3, Bool.and_false]), or_bz]; rfl) ih

theorem rs_church_ {l : Launch} {G : mG} {d : Nat} {I : mI} {L : Nat → Nat → Int} {D : Nat → Nat} {Q : mQ} {T : mT} {S : mS} {c w : Int}  (hI : RI I T S) (h_c : inR c) (h_w : inR w) (hd : 4 ≤ d) (hQ : ∀ J, Rq I J → Q (some (vI (churchA T S c w))) J (XX L D)) : WP l G m_X11_church_ d 153 I (XX L D) 0 [some (vR 111), some (vI c), some (vI w), none, none] [] Q := by
  obtain ⟨hR, hN, hX, hw, hv, hrd, hC, hcd⟩ := id hI
  have b_p := tw_p hw
  have b_q := tw_q hw
  have b_c := tw_c hw
  have eP : nP T = (T 0 12).toNat := rfl
  have eQ : nQ T = (T 0 13).toNat := rfl
  have eC : nC T = (T 0 11).toNat := rfl
  have b_s := sw_sun hv
  refine wp_aload_n (pc := 0) 0 dX11_church__0 rfl rfl ?_
  refine wp_iload_n (pc := 1) 1 dX11_church__1 rfl rfl ?_
  refine wp_callV (pc := 2) (st := []) (nf' := 153) [vI c] [some (vR 111), some (vI c)] dX11_church__2 rfl c_X11_512 rfl kd_111 (by decide) rfl la_111 rfl (Nat.le_of_ble_eq_true rfl) rfl (Nat.le_of_ble_eq_true rfl) (by omega) (Nat.le_refl _) (Nat.le_refl _) ?_
  refine rs_isChurch hR hw (by omega) (by omega) (fun h_1 => ?_) (fun h_1 => ?_)
  · refine wp_eqst (st' := [vI 1]) rfl ?_
    refine wp_if_eq (pc := 5) 17 dX11_church__5 (by decide) (by decide) (fun hh => absurd hh (by decide)) (fun _ => ?_)
    refine wp_iload_n (pc := 8) 2 dX11_church__8 rfl rfl ?_
    refine wp_iconst (pc := 9) dX11_church__9 ?_
    refine wp_iconst (pc := 10) dX11_church__10 ?_
    refine wp_callS (pc := 11) (st := []) (nf' := 153) [vI w, vI 0, vI 1] [some (vI w), some (vI 0), some (vI 1)] dX11_church__11 rfl c_X11_433 rfl rfl (Nat.le_of_ble_eq_true rfl) rfl (Nat.le_of_ble_eq_true rfl) (by omega) (Nat.le_refl _) (Nat.le_refl _) ?_
    refine wp_iload_n (pc := 0) 0 dX11_isIn_0 rfl rfl ?_
    refine wp_iload_n (pc := 1) 1 dX11_isIn_1 rfl rfl ?_
    refine wp_icmp_lt (pc := 2) 14 dX11_isIn_2 (by decide) (by omega) (by decide) (fun h_2 => ?_) (fun h_2 => ?_)
    · refine wp_iconst (pc := 14) dX11_isIn_14 ?_
      refine wp_zret (pc := 15) dX11_isIn_15 rfl rfl (by decide) ?_
      refine wp_eqst (st' := [vI 0]) rfl ?_
      refine wp_if_ne (pc := 14) 19 dX11_church__14 (by decide) (by decide) (fun hh => absurd hh (by decide)) (fun _ => ?_)
      refine wp_iconst (pc := 17) dX11_church__17 ?_
      refine wp_iret (pc := 18) dX11_church__18 rfl rfl ?_
      have e1 : churchA T S c w = -1 := by unfold churchA; split <;> first | rfl | (rw [if_neg (by omega), if_neg (by omega)])
      have hq := hQ _ Rq.refl
      rw [e1] at hq; exact hq
    · refine wp_iload_n (pc := 5) 0 dX11_isIn_5 rfl rfl ?_
      refine wp_iload_n (pc := 6) 2 dX11_isIn_6 rfl rfl ?_
      refine wp_icmp_gt (pc := 7) 14 dX11_isIn_7 (by decide) (by omega) (by decide) (fun h_3 => ?_) (fun h_3 => ?_)
      · refine wp_iconst (pc := 14) dX11_isIn_14 ?_
        refine wp_zret (pc := 15) dX11_isIn_15 rfl rfl (by decide) ?_
        refine wp_eqst (st' := [vI 0]) rfl ?_
        refine wp_if_ne (pc := 14) 19 dX11_church__14 (by decide) (by decide) (fun hh => absurd hh (by decide)) (fun _ => ?_)
        refine wp_iconst (pc := 17) dX11_church__17 ?_
        refine wp_iret (pc := 18) dX11_church__18 rfl rfl ?_
        have e1 : churchA T S c w = -1 := by unfold churchA; split <;> first | rfl | (rw [if_neg (by omega), if_neg (by omega)])
        have hq := hQ _ Rq.refl
        rw [e1] at hq; exact hq
      · refine wp_iconst (pc := 10) dX11_isIn_10 ?_
        refine wp_goto (pc := 11) 15 dX11_isIn_11 (by decide) ?_
        refine wp_zret (pc := 15) dX11_isIn_15 rfl rfl (by decide) ?_
        refine wp_eqst (st' := [vI 1]) rfl ?_
        refine wp_if_ne (pc := 14) 19 dX11_church__14 (by decide) (by decide) (fun _ => ?_) (fun hh => absurd hh (by decide))
        refine wp_aload_n (pc := 19) 0 dX11_church__19 rfl rfl ?_
        refine wp_callV (pc := 20) (st := []) (nf' := 153) [] [some (vR 111)] dX11_church__20 rfl c_X11_509 rfl kd_111 (by decide) rfl la_111 rfl (Nat.le_of_ble_eq_true rfl) rfl (Nat.le_of_ble_eq_true rfl) (by omega) (Nat.le_refl _) (Nat.le_refl _) ?_
        refine wp_aload_n (pc := 0) 0 dX11_loadRead_0 rfl rfl ?_
        refine wp_callV (pc := 1) (st := []) (nf' := 153) [] [some (vR 111), none] dX11_loadRead_1 rfl c_X11_485 rfl kd_111 (by decide) rfl la_111 rfl (Nat.le_of_ble_eq_true rfl) rfl (Nat.le_of_ble_eq_true rfl) (by omega) (Nat.le_refl _) (Nat.le_refl _) ?_
        refine rs_load (by omega) ?_
        generalize hJe : upc I 140 (I 139) = J
        have hJ : ∀ b, b ≠ 140 → J b = I b := fun b g => by rw [← hJe]; exact funext fun j => upc_c g
        have hAJ : J 140 = pS S := by rw [← hJe, ← hN]; exact funext fun j => upc_s
        have hRJ := ld_rt hJ hR
        have hXJ := ld_fx hJ hX
        refine wp_eqst (st' := []) rfl ?_
        refine wp_aload_n (pc := 4) 0 dX11_loadRead_4 rfl rfl ?_
        refine wp_callV (pc := 5) (st := []) (nf' := 153) [] [some (vR 111), none, none, none] dX11_loadRead_5 rfl c_X11_488 rfl kd_111 (by decide) rfl la_111 rfl (Nat.le_of_ble_eq_true rfl) rfl (Nat.le_of_ble_eq_true rfl) (by omega) (Nat.le_refl _) (Nat.le_refl _) ?_
        refine rs_layRead hRJ hAJ hw hv hC (by omega) (by omega) (fun K hK hK63 hK141 => ?_)
        have hRK := hK.rt hRJ
        have hAK := hK.air hAJ
        have hXK := hK.fx hXJ
        have hkK : ∀ c, c < 4 → K 141 c = ((pc8 (readIn T S (c : Int) (called T S)) : Nat) : Int) := fun c hc => (hK141 c hc).trans (calls_read hw hv c)
        refine wp_eqst (st' := []) rfl ?_
        refine wp_vret (pc := 8) dX11_loadRead_8 rfl rfl ?_
        refine wp_eqst (st' := []) rfl ?_
        refine wp_iconst (pc := 23) dX11_church__23 ?_
        refine wq_istore_n (pc := 24) 3 [some (vR 111), some (vI c), some (vI w), some (vI 0), none] dX11_church__24 rfl rfl (by decide) rfl ?_
        refine wp_iconst (pc := 25) dX11_church__25 ?_
        refine wq_istore (pc := 26) [some (vR 111), some (vI c), some (vI w), some (vI 0), some (vI 0)] dX11_church__26 rfl (by decide) rfl ?_
        have hq := hQ K ((Rq.ld hJ).rc hK)
        by_cases h_0 : w = 0
        · have e1 : churchA T S c w = ((sitters T S c : Nat) : Int) := by unfold churchA; rw [if_pos (by omega), if_pos h_0]
          rw [e1] at hq
          exact rl_church0 hRK hAK hw hv h_c h_0 hd hq 0 (Nat.zero_le _)
        · have h_1 : w = 1 := by omega
          have e1 : churchA T S c w = ((readIn T S c (called T S) : Nat) : Int) := by unfold churchA; rw [if_pos (by omega), if_neg h_0, if_pos h_1]
          rw [e1] at hq
          refine wp_iload (pc := 28) dX11_church__28 rfl ?_
          refine wp_aload_n (pc := 30) 0 dX11_church__30 rfl rfl ?_
          refine wp_geti (pc := 31) dX11_church__31 rfl f_X11_412 kd_111 la_111 (Or.inl rfl) ?_
          refine wp_eqst (st' := [vI (T 0 12), vI 0]) (by rw [rt_p hRK]) ?_
          refine wp_icmp_ge (pc := 34) 72 dX11_church__34 (by decide) (by decide) (by omega) (fun h_4 => ?_) (fun h_4 => ?_)
          · refine wp_iconst (pc := 72) dX11_church__72 ?_
            refine wq_istore (pc := 73) [some (vR 111), some (vI c), some (vI w), some (vI 0), some (vI 0)] dX11_church__73 rfl (by decide) rfl ?_
            exact rl_church1 hRK hAK hw hv hK63 h_c h_1 hd hq 0 (Nat.zero_le _)
          · refine wp_iload_n (pc := 37) 2 dX11_church__37 rfl rfl ?_
            refine wp_if_ne (pc := 38) 72 dX11_church__38 (by decide) (by omega) (fun h_5 => ?_) (fun h_5 => ?_)
            · refine wp_iconst (pc := 72) dX11_church__72 ?_
              refine wq_istore (pc := 73) [some (vR 111), some (vI c), some (vI w), some (vI 0), some (vI 0)] dX11_church__73 rfl (by decide) rfl ?_
              exact rl_church1 hRK hAK hw hv hK63 h_c h_1 hd hq 0 (Nat.zero_le _)
            · exfalso; omega
  · refine wp_eqst (st' := [vI 0]) rfl ?_
    refine wp_if_eq (pc := 5) 17 dX11_church__5 (by decide) (by decide) (fun _ => ?_) (fun hh => absurd hh (by decide))
    refine wp_iconst (pc := 17) dX11_church__17 ?_
    refine wp_iret (pc := 18) dX11_church__18 rfl rfl ?_
    have e1 : churchA T S c w = -1 := by unfold churchA; split <;> first | rfl | (rw [if_neg (by omega), if_neg (by omega)])
    have hq := hQ _ Rq.refl
    rw [e1] at hq; exact hq

theorem rl_hush {l : Launch} {G : mG} {d : Nat} {I : mI} {L : Nat → Nat → Int} {D : Nat → Nat} {Q : mQ} {T : mT} {S : mS} {B : Int} {a w : Int} (hR : RT I T) (hA : I 140 = pS S) (hw : tw T) (hv : sw S B) (hC : TC T) (hX : FX I T) (hcd : ∀ j, inR (T 18 j)) (hB : B ≤ 100000) (h_a : 0 ≤ a ∧ a < T 0 13) (h_w : 0 ≤ w ∧ w ≤ 1) (ho : S (8 + a.toNat) = 0) (hk : ∀ c, c < 4 → I 141 c = ((pc8 (readIn T S (c : Int) (called T S)) : Nat) : Int)) (hd : 5 ≤ d) (hQ : ∀ J, Ra I J → Q (some (vI (hushA T S a w))) J (XX L D)) : ∀ i : Nat, i ≤ nP T → ∀ J, Ra I J → WP l G m_X11_hush d 153 J (XX L D) 35 [some (vR 111), some (vI a), some (vI w), some (vI ((risers T S a.toNat : Nat) : Int)), some (vI ((setOf (fun p => (risers T S a.toNat &&& present T S (S (13 + a.toNat)) (S (18 + a.toNat))).testBit p && decide (0 < ear T S p (called T S))) i : Nat) : Int)), some (vI (i : Int))] [] Q := by
  have b_p := tw_p hw
  have b_q := tw_q hw
  have b_c := tw_c hw
  have eP : nP T = (T 0 12).toNat := rfl
  have eQ : nQ T = (T 0 13).toNat := rfl
  have eC : nC T = (T 0 11).toNat := rfl
  have br := risers_lt hw S a.toNat
  have bs := sw_sun hv
  have bh := hearers_lt hw S a.toNat
  have eh : hearers T S a.toNat = setOf (fun p => (risers T S a.toNat &&& present T S (S (13 + a.toNat)) (S (18 + a.toNat))).testBit p && decide (0 < ear T S p (called T S))) (nP T) := rfl
  refine loop_dn (fun i => ∀ J, Ra I J → WP l G m_X11_hush d 153 J (XX L D) 35 [some (vR 111), some (vI a), some (vI w), some (vI ((risers T S a.toNat : Nat) : Int)), some (vI ((setOf (fun p => (risers T S a.toNat &&& present T S (S (13 + a.toNat)) (S (18 + a.toNat))).testBit p && decide (0 < ear T S p (called T S))) i : Nat) : Int)), some (vI (i : Int))] [] Q) (nP T) ?_ (fun i hi ih => ?_)
  · intro J hJ
    have hRj := hJ.rc.rt hR
    have hAj := hJ.rc.air hA
    rw [eh] at bh
    refine wp_iload (pc := 35) dX11_hush_35 rfl ?_
    refine wp_aload_n (pc := 37) 0 dX11_hush_37 rfl rfl ?_
    refine wp_geti (pc := 38) dX11_hush_38 rfl f_X11_412 kd_111 la_111 (Or.inl rfl) ?_
    refine wp_eqst (st' := [vI (T 0 12), vI (((nP T) : Nat) : Int)]) (by rw [rt_p hRj]) ?_
    refine wp_icmp_ge (pc := 41) 102 dX11_hush_41 (by decide) (by omega) (by omega) (fun h_1 => ?_) (fun h_1 => ?_)
    · refine wp_iload_n (pc := 102) 2 dX11_hush_102 rfl rfl ?_
      refine wp_if_ne (pc := 103) 114 dX11_hush_103 (by decide) (by omega) (fun h_2 => ?_) (fun h_2 => ?_)
      · refine wp_iload (pc := 114) dX11_hush_114 rfl ?_
        refine wp_iret (pc := 116) dX11_hush_116 rfl rfl ?_
        have e1 : hushA T S a w = ((setOf (fun p => (risers T S a.toNat &&& present T S (S (13 + a.toNat)) (S (18 + a.toNat))).testBit p && decide (0 < ear T S p (called T S))) (nP T) : Nat) : Int) := by unfold hushA; rw [if_pos (by omega), if_neg (by omega)]; rfl
        have hq := hQ J hJ
        rw [e1] at hq; exact hq
      · refine wp_iload (pc := 106) dX11_hush_106 rfl ?_
        refine wp_callS (pc := 108) (st := []) (nf' := 153) [vI ((setOf (fun p => (risers T S a.toNat &&& present T S (S (13 + a.toNat)) (S (18 + a.toNat))).testBit p && decide (0 < ear T S p (called T S))) (nP T) : Nat) : Int)] [some (vI ((setOf (fun p => (risers T S a.toNat &&& present T S (S (13 + a.toNat)) (S (18 + a.toNat))).testBit p && decide (0 < ear T S p (called T S))) (nP T) : Nat) : Int)), none, none] dX11_hush_108 rfl c_X11_540 rfl rfl (Nat.le_of_ble_eq_true rfl) rfl (Nat.le_of_ble_eq_true rfl) (by omega) (Nat.le_refl _) (Nat.le_refl _) ?_
        refine rs_members (setOf (fun p => (risers T S a.toNat &&& present T S (S (13 + a.toNat)) (S (18 + a.toNat))).testBit p && decide (0 < ear T S p (called T S))) (nP T)) rfl (by omega) (by omega) ?_
        refine wp_eqst (st' := [vI ((pc8 (setOf (fun p => (risers T S a.toNat &&& present T S (S (13 + a.toNat)) (S (18 + a.toNat))).testBit p && decide (0 < ear T S p (called T S))) (nP T)) : Nat) : Int)]) rfl ?_
        refine wp_goto (pc := 111) 116 dX11_hush_111 (by decide) ?_
        refine wp_iret (pc := 116) dX11_hush_116 rfl rfl ?_
        have e1 : hushA T S a w = ((pc8 (setOf (fun p => (risers T S a.toNat &&& present T S (S (13 + a.toNat)) (S (18 + a.toNat))).testBit p && decide (0 < ear T S p (called T S))) (nP T)) : Nat) : Int) := by unfold hushA; rw [if_pos (by omega), if_pos (by omega)]; rfl
        have hq := hQ J hJ
        rw [e1] at hq; exact hq
    · exfalso; omega
  · intro J hJ
    have hRj := hJ.rc.rt hR
    have hAj := hJ.rc.air hA
    have b9 := bit_lt (risers T S a.toNat) i
    have b8 := ear_in T S i (called T S)
    have bi := sw_seat hv (j := i) (by omega)
    refine wp_iload (pc := 35) dX11_hush_35 rfl ?_
    refine wp_aload_n (pc := 37) 0 dX11_hush_37 rfl rfl ?_
    refine wp_geti (pc := 38) dX11_hush_38 rfl f_X11_412 kd_111 la_111 (Or.inl rfl) ?_
    refine wp_eqst (st' := [vI (T 0 12), vI (i : Int)]) (by rw [rt_p hRj]) ?_
    refine wp_icmp_ge (pc := 41) 102 dX11_hush_41 (by decide) (by omega) (by omega) (fun h_1 => ?_) (fun h_1 => ?_)
    · exfalso; omega
    · refine wp_iload_n (pc := 44) 3 dX11_hush_44 rfl rfl ?_
      refine wp_iload (pc := 45) dX11_hush_45 rfl ?_
      refine wn_shr (pc := 47) (risers T S a.toNat) i dX11_hush_47 rfl rfl (by omega) (by omega) ?_
      refine wp_iconst (pc := 48) dX11_hush_48 ?_
      refine wn_mask (pc := 49) ((risers T S a.toNat) / 2 ^ i) 1 dX11_hush_49 rfl rfl (by decide) ?_
      refine wp_iconst (pc := 50) dX11_hush_50 ?_
      refine wp_icmp_ne (pc := 51) 96 dX11_hush_51 (by decide) (by omega) (by decide) (fun h_2 => ?_) (fun h_2 => ?_)
      · refine wq_iinc (pc := 96) [some (vR 111), some (vI a), some (vI w), some (vI ((risers T S a.toNat : Nat) : Int)), some (vI ((setOf (fun p => (risers T S a.toNat &&& present T S (S (13 + a.toNat)) (S (18 + a.toNat))).testBit p && decide (0 < ear T S p (called T S))) i : Nat) : Int)), some (vI ((i : Int) + 1))] dX11_hush_96 rfl rfl (by decide) rfl ?_
        refine wp_goto (pc := 99) 35 dX11_hush_99 (by decide) ?_
        have hl : ¬ (lisF T S a.toNat).testBit i = true := fun x => by have y := (lis_bit hi).mp x; have y2 := (bit_iff _ i).mpr y.1; omega
        refine wp_eqls (ls' := [some (vR 111), some (vI a), some (vI w), some (vI ((risers T S a.toNat : Nat) : Int)), some (vI ((setOf (fun p => (risers T S a.toNat &&& present T S (S (13 + a.toNat)) (S (18 + a.toNat))).testBit p && decide (0 < ear T S p (called T S))) (i + 1) : Nat) : Int)), some (vI (((i + 1) : Nat) : Int))]) (by rw [setOf_n (f := (fun p => (risers T S a.toNat &&& present T S (S (13 + a.toNat)) (S (18 + a.toNat))).testBit p && decide (0 < ear T S p (called T S)))) (n := i) (by rw [show (risers T S a.toNat &&& present T S (S (13 + a.toNat)) (S (18 + a.toNat))).testBit i = false from Bool.eq_false_iff.mpr hl]; rfl)]; rfl) (ih J hJ)
      · refine wp_aload_n (pc := 54) 0 dX11_hush_54 rfl rfl ?_
        refine wp_iload (pc := 55) dX11_hush_55 rfl ?_
        refine wp_callV (pc := 57) (st := []) (nf' := 153) [vI (i : Int)] [some (vR 111), some (vI (i : Int))] dX11_hush_57 rfl c_X11_476 rfl kd_111 (by decide) rfl la_111 rfl (Nat.le_of_ble_eq_true rfl) rfl (Nat.le_of_ble_eq_true rfl) (by omega) (Nat.le_refl _) (Nat.le_refl _) ?_
        refine rs_isAway i rfl hRj hAj hw hv (by omega) (by omega) (by omega) (fun h_3 => ?_) (fun h_3 => ?_)
        · refine wp_eqst (st' := [vI 1]) rfl ?_
          refine wp_if_ne (pc := 60) 96 dX11_hush_60 (by decide) (by decide) (fun _ => ?_) (fun hh => absurd hh (by decide))
          refine wq_iinc (pc := 96) [some (vR 111), some (vI a), some (vI w), some (vI ((risers T S a.toNat : Nat) : Int)), some (vI ((setOf (fun p => (risers T S a.toNat &&& present T S (S (13 + a.toNat)) (S (18 + a.toNat))).testBit p && decide (0 < ear T S p (called T S))) i : Nat) : Int)), some (vI ((i : Int) + 1))] dX11_hush_96 rfl rfl (by decide) rfl ?_
          refine wp_goto (pc := 99) 35 dX11_hush_99 (by decide) ?_
          have hl : ¬ (lisF T S a.toNat).testBit i = true := fun x => by have y := (lis_bit hi).mp x; exact y.2.2 h_3
          refine wp_eqls (ls' := [some (vR 111), some (vI a), some (vI w), some (vI ((risers T S a.toNat : Nat) : Int)), some (vI ((setOf (fun p => (risers T S a.toNat &&& present T S (S (13 + a.toNat)) (S (18 + a.toNat))).testBit p && decide (0 < ear T S p (called T S))) (i + 1) : Nat) : Int)), some (vI (((i + 1) : Nat) : Int))]) (by rw [setOf_n (f := (fun p => (risers T S a.toNat &&& present T S (S (13 + a.toNat)) (S (18 + a.toNat))).testBit p && decide (0 < ear T S p (called T S)))) (n := i) (by rw [show (risers T S a.toNat &&& present T S (S (13 + a.toNat)) (S (18 + a.toNat))).testBit i = false from Bool.eq_false_iff.mpr hl]; rfl)]; rfl) (ih J hJ)
        · refine wp_eqst (st' := [vI 0]) rfl ?_
          refine wp_if_ne (pc := 60) 96 dX11_hush_60 (by decide) (by decide) (fun hh => absurd hh (by decide)) (fun _ => ?_)
          refine wp_aload_n (pc := 63) 0 dX11_hush_63 rfl rfl ?_
          refine wp_iload_n (pc := 64) 1 dX11_hush_64 rfl rfl ?_
          refine wp_aload_n (pc := 65) 0 dX11_hush_65 rfl rfl ?_
          refine wp_getr (pc := 66) dX11_hush_66 rfl f_X11_106 kd_111 la_111 rfl (r_111_61 D) ?_
          refine wp_iload (pc := 69) dX11_hush_69 rfl ?_
          refine wq_iald (pc := 71) i dX11_hush_71 kd_140 la_140 rfl (by omega) ?_
          refine wp_eqst (st' := [vI (S i), vI a, vR 111]) (by rw [hAj, pS_s (by omega)]) ?_
          refine wp_callV (pc := 72) (st := []) (nf' := 153) [vI a, vI (S i)] [some (vR 111), some (vI a), some (vI (S i))] dX11_hush_72 rfl c_X11_494 rfl kd_111 (by decide) rfl la_111 rfl (Nat.le_of_ble_eq_true rfl) rfl (Nat.le_of_ble_eq_true rfl) (by omega) (Nat.le_refl _) (Nat.le_refl _) ?_
          refine rs_isAt a.toNat (by omega) hRj hAj hw hv (by omega) (by omega) (by omega) (fun h_4 => ?_) (fun h_4 => ?_)
          · refine wp_eqst (st' := [vI 1]) rfl ?_
            refine wp_if_eq (pc := 75) 96 dX11_hush_75 (by decide) (by decide) (fun hh => absurd hh (by decide)) (fun _ => ?_)
            refine wp_aload_n (pc := 78) 0 dX11_hush_78 rfl rfl ?_
            refine wp_iload (pc := 79) dX11_hush_79 rfl ?_
            refine wp_callV (pc := 81) (st := []) (nf' := 153) [vI (i : Int)] [some (vR 111), some (vI (i : Int))] dX11_hush_81 rfl c_X11_500 rfl kd_111 (by decide) rfl la_111 rfl (Nat.le_of_ble_eq_true rfl) rfl (Nat.le_of_ble_eq_true rfl) (by omega) (Nat.le_refl _) (Nat.le_refl _) ?_
            refine rs_hearingOf (cl := called T S) i rfl hRj hAj hw hv (hJ.fx hX) hcd (by omega) (by omega) (fun c hc => by rw [hJ 141 (by decide) (by decide)]; exact hk c hc) (by omega) (fun N hN => ?_)
            refine wp_eqst (st' := [vI (ear T S i (called T S))]) rfl ?_
            refine wp_if_le (pc := 84) 96 dX11_hush_84 (by decide) (by omega) (fun h_5 => ?_) (fun h_5 => ?_)
            · refine wq_iinc (pc := 96) [some (vR 111), some (vI a), some (vI w), some (vI ((risers T S a.toNat : Nat) : Int)), some (vI ((setOf (fun p => (risers T S a.toNat &&& present T S (S (13 + a.toNat)) (S (18 + a.toNat))).testBit p && decide (0 < ear T S p (called T S))) i : Nat) : Int)), some (vI ((i : Int) + 1))] dX11_hush_96 rfl rfl (by decide) rfl ?_
              refine wp_goto (pc := 99) 35 dX11_hush_99 (by decide) ?_
              have hl : (lisF T S a.toNat).testBit i = true := (lis_bit hi).mpr ⟨(bit_iff _ i).mp (by omega), by omega, h_3⟩
              refine wp_eqls (ls' := [some (vR 111), some (vI a), some (vI w), some (vI ((risers T S a.toNat : Nat) : Int)), some (vI ((setOf (fun p => (risers T S a.toNat &&& present T S (S (13 + a.toNat)) (S (18 + a.toNat))).testBit p && decide (0 < ear T S p (called T S))) (i + 1) : Nat) : Int)), some (vI (((i + 1) : Nat) : Int))]) (by rw [setOf_n (f := (fun p => (risers T S a.toNat &&& present T S (S (13 + a.toNat)) (S (18 + a.toNat))).testBit p && decide (0 < ear T S p (called T S)))) (n := i) (by rw [show (risers T S a.toNat &&& present T S (S (13 + a.toNat)) (S (18 + a.toNat))).testBit i = true from hl, decide_eq_false (by omega)]; rfl)]; rfl) (ih N (hJ.trans hN))
            · refine wp_iload (pc := 87) dX11_hush_87 rfl ?_
              refine wp_iconst (pc := 89) dX11_hush_89 ?_
              refine wp_iload (pc := 90) dX11_hush_90 rfl ?_
              refine wn_shl1 (pc := 92) i dX11_hush_92 rfl (by omega) ?_
              refine wn_or (pc := 93) (setOf (fun p => (risers T S a.toNat &&& present T S (S (13 + a.toNat)) (S (18 + a.toNat))).testBit p && decide (0 < ear T S p (called T S))) i) (2 ^ i) dX11_hush_93 rfl rfl ?_
              refine wq_istore (pc := 94) [some (vR 111), some (vI a), some (vI w), some (vI ((risers T S a.toNat : Nat) : Int)), some (vI (((setOf (fun p => (risers T S a.toNat &&& present T S (S (13 + a.toNat)) (S (18 + a.toNat))).testBit p && decide (0 < ear T S p (called T S))) i) ||| (2 ^ i) : Nat) : Int)), some (vI (i : Int))] dX11_hush_94 rfl (by decide) rfl ?_
              refine wq_iinc (pc := 96) [some (vR 111), some (vI a), some (vI w), some (vI ((risers T S a.toNat : Nat) : Int)), some (vI (((setOf (fun p => (risers T S a.toNat &&& present T S (S (13 + a.toNat)) (S (18 + a.toNat))).testBit p && decide (0 < ear T S p (called T S))) i) ||| (2 ^ i) : Nat) : Int)), some (vI ((i : Int) + 1))] dX11_hush_96 rfl rfl (by decide) rfl ?_
              refine wp_goto (pc := 99) 35 dX11_hush_99 (by decide) ?_
              have hl : (lisF T S a.toNat).testBit i = true := (lis_bit hi).mpr ⟨(bit_iff _ i).mp (by omega), by omega, h_3⟩
              refine wp_eqls (ls' := [some (vR 111), some (vI a), some (vI w), some (vI ((risers T S a.toNat : Nat) : Int)), some (vI ((setOf (fun p => (risers T S a.toNat &&& present T S (S (13 + a.toNat)) (S (18 + a.toNat))).testBit p && decide (0 < ear T S p (called T S))) (i + 1) : Nat) : Int)), some (vI (((i + 1) : Nat) : Int))]) (by rw [setOf_y (f := (fun p => (risers T S a.toNat &&& present T S (S (13 + a.toNat)) (S (18 + a.toNat))).testBit p && decide (0 < ear T S p (called T S)))) (n := i) (by rw [show (risers T S a.toNat &&& present T S (S (13 + a.toNat)) (S (18 + a.toNat))).testBit i = true from hl, decide_eq_true (by omega)]; rfl)]; rfl) (ih N (hJ.trans hN))
          · refine wp_eqst (st' := [vI 0]) rfl ?_
            refine wp_if_eq (pc := 75) 96 dX11_hush_75 (by decide) (by decide) (fun _ => ?_) (fun hh => absurd hh (by decide))
            refine wq_iinc (pc := 96) [some (vR 111), some (vI a), some (vI w), some (vI ((risers T S a.toNat : Nat) : Int)), some (vI ((setOf (fun p => (risers T S a.toNat &&& present T S (S (13 + a.toNat)) (S (18 + a.toNat))).testBit p && decide (0 < ear T S p (called T S))) i : Nat) : Int)), some (vI ((i : Int) + 1))] dX11_hush_96 rfl rfl (by decide) rfl ?_
            refine wp_goto (pc := 99) 35 dX11_hush_99 (by decide) ?_
            have hl : ¬ (lisF T S a.toNat).testBit i = true := fun x => by have y := (lis_bit hi).mp x; have y2 := y.2.1; omega
            refine wp_eqls (ls' := [some (vR 111), some (vI a), some (vI w), some (vI ((risers T S a.toNat : Nat) : Int)), some (vI ((setOf (fun p => (risers T S a.toNat &&& present T S (S (13 + a.toNat)) (S (18 + a.toNat))).testBit p && decide (0 < ear T S p (called T S))) (i + 1) : Nat) : Int)), some (vI (((i + 1) : Nat) : Int))]) (by rw [setOf_n (f := (fun p => (risers T S a.toNat &&& present T S (S (13 + a.toNat)) (S (18 + a.toNat))).testBit p && decide (0 < ear T S p (called T S)))) (n := i) (by rw [show (risers T S a.toNat &&& present T S (S (13 + a.toNat)) (S (18 + a.toNat))).testBit i = false from Bool.eq_false_iff.mpr hl]; rfl)]; rfl) (ih J hJ)

theorem rs_hush {l : Launch} {G : mG} {d : Nat} {I : mI} {L : Nat → Nat → Int} {D : Nat → Nat} {Q : mQ} {T : mT} {S : mS} {a w : Int}  (hI : RI I T S) (h_a : inR a) (h_w : inR w) (hd : 5 ≤ d) (hQ : ∀ J, Rq I J → Q (some (vI (hushA T S a w))) J (XX L D)) : WP l G m_X11_hush d 153 I (XX L D) 0 [some (vR 111), some (vI a), some (vI w), none, none, none] [] Q := by
  obtain ⟨hR, hN, hX, hw, hv, hrd, hC, hcd⟩ := id hI
  have b_p := tw_p hw
  have b_q := tw_q hw
  have b_c := tw_c hw
  have eP : nP T = (T 0 12).toNat := rfl
  have eQ : nQ T = (T 0 13).toNat := rfl
  have eC : nC T = (T 0 11).toNat := rfl
  have b_s := sw_sun hv
  have b_i : 0 ≤ a → a < T 0 13 → 0 ≤ S (8 + a.toNat) ∧ S (8 + a.toNat) ≤ 2 := fun x y => sw_stat hv (by omega)
  refine wp_aload_n (pc := 0) 0 dX11_hush_0 rfl rfl ?_
  refine wp_iload_n (pc := 1) 1 dX11_hush_1 rfl rfl ?_
  refine wp_callV (pc := 2) (st := []) (nf' := 153) [vI a] [some (vR 111), some (vI a)] dX11_hush_2 rfl c_X11_518 rfl kd_111 (by decide) rfl la_111 rfl (Nat.le_of_ble_eq_true rfl) rfl (Nat.le_of_ble_eq_true rfl) (by omega) (Nat.le_refl _) (Nat.le_refl _) ?_
  refine wp_aload_n (pc := 0) 0 dX11_isOpen_0 rfl rfl ?_
  refine wp_iload_n (pc := 1) 1 dX11_isOpen_1 rfl rfl ?_
  refine wp_callV (pc := 2) (st := []) (nf' := 153) [vI a] [some (vR 111), some (vI a)] dX11_isOpen_2 rfl c_X11_506 rfl kd_111 (by decide) rfl la_111 rfl (Nat.le_of_ble_eq_true rfl) rfl (Nat.le_of_ble_eq_true rfl) (by omega) (Nat.le_refl _) (Nat.le_refl _) ?_
  refine rs_isPair hR hw (by omega) (by omega) (fun h_1 => ?_) (fun h_1 => ?_)
  · refine wp_eqst (st' := [vI 1]) rfl ?_
    refine wp_if_eq (pc := 5) 24 dX11_isOpen_5 (by decide) (by decide) (fun hh => absurd hh (by decide)) (fun _ => ?_)
    refine wp_aload_n (pc := 8) 0 dX11_isOpen_8 rfl rfl ?_
    refine wp_getr (pc := 9) dX11_isOpen_9 rfl f_X11_103 kd_111 la_111 rfl (r_111_60 D) ?_
    refine wp_bipush (pc := 12) dX11_isOpen_12 (by decide) ?_
    refine wp_iload_n (pc := 14) 1 dX11_isOpen_14 rfl rfl ?_
    refine wp_iadd (pc := 15) dX11_isOpen_15 ?_
    refine wq_iald (pc := 16) (8 + a.toNat) dX11_isOpen_16 kd_139 la_139 (by omega) (by omega) ?_
    refine wp_eqst (st' := [vI (S (8 + a.toNat))]) (by rw [hN, pS_8 (by omega)]) ?_
    refine wp_if_ne (pc := 17) 24 dX11_isOpen_17 (by decide) (by omega) (fun h_2 => ?_) (fun h_2 => ?_)
    · refine wp_iconst (pc := 24) dX11_isOpen_24 ?_
      refine wp_zret (pc := 25) dX11_isOpen_25 rfl rfl (by decide) ?_
      refine wp_eqst (st' := [vI 0]) rfl ?_
      refine wp_if_eq (pc := 5) 17 dX11_hush_5 (by decide) (by decide) (fun _ => ?_) (fun hh => absurd hh (by decide))
      refine wp_iconst (pc := 17) dX11_hush_17 ?_
      refine wp_iret (pc := 18) dX11_hush_18 rfl rfl ?_
      have e1 : hushA T S a w = -1 := if_neg (by omega)
      have hq := hQ _ Rq.refl
      rw [e1] at hq; exact hq
    · refine wp_iconst (pc := 20) dX11_isOpen_20 ?_
      refine wp_goto (pc := 21) 25 dX11_isOpen_21 (by decide) ?_
      refine wp_zret (pc := 25) dX11_isOpen_25 rfl rfl (by decide) ?_
      refine wp_eqst (st' := [vI 1]) rfl ?_
      refine wp_if_eq (pc := 5) 17 dX11_hush_5 (by decide) (by decide) (fun hh => absurd hh (by decide)) (fun _ => ?_)
      refine wp_iload_n (pc := 8) 2 dX11_hush_8 rfl rfl ?_
      refine wp_iconst (pc := 9) dX11_hush_9 ?_
      refine wp_iconst (pc := 10) dX11_hush_10 ?_
      refine wp_callS (pc := 11) (st := []) (nf' := 153) [vI w, vI 0, vI 1] [some (vI w), some (vI 0), some (vI 1)] dX11_hush_11 rfl c_X11_433 rfl rfl (Nat.le_of_ble_eq_true rfl) rfl (Nat.le_of_ble_eq_true rfl) (by omega) (Nat.le_refl _) (Nat.le_refl _) ?_
      refine wp_iload_n (pc := 0) 0 dX11_isIn_0 rfl rfl ?_
      refine wp_iload_n (pc := 1) 1 dX11_isIn_1 rfl rfl ?_
      refine wp_icmp_lt (pc := 2) 14 dX11_isIn_2 (by decide) (by omega) (by decide) (fun h_3 => ?_) (fun h_3 => ?_)
      · refine wp_iconst (pc := 14) dX11_isIn_14 ?_
        refine wp_zret (pc := 15) dX11_isIn_15 rfl rfl (by decide) ?_
        refine wp_eqst (st' := [vI 0]) rfl ?_
        refine wp_if_ne (pc := 14) 19 dX11_hush_14 (by decide) (by decide) (fun hh => absurd hh (by decide)) (fun _ => ?_)
        refine wp_iconst (pc := 17) dX11_hush_17 ?_
        refine wp_iret (pc := 18) dX11_hush_18 rfl rfl ?_
        have e1 : hushA T S a w = -1 := if_neg (by omega)
        have hq := hQ _ Rq.refl
        rw [e1] at hq; exact hq
      · refine wp_iload_n (pc := 5) 0 dX11_isIn_5 rfl rfl ?_
        refine wp_iload_n (pc := 6) 2 dX11_isIn_6 rfl rfl ?_
        refine wp_icmp_gt (pc := 7) 14 dX11_isIn_7 (by decide) (by omega) (by decide) (fun h_4 => ?_) (fun h_4 => ?_)
        · refine wp_iconst (pc := 14) dX11_isIn_14 ?_
          refine wp_zret (pc := 15) dX11_isIn_15 rfl rfl (by decide) ?_
          refine wp_eqst (st' := [vI 0]) rfl ?_
          refine wp_if_ne (pc := 14) 19 dX11_hush_14 (by decide) (by decide) (fun hh => absurd hh (by decide)) (fun _ => ?_)
          refine wp_iconst (pc := 17) dX11_hush_17 ?_
          refine wp_iret (pc := 18) dX11_hush_18 rfl rfl ?_
          have e1 : hushA T S a w = -1 := if_neg (by omega)
          have hq := hQ _ Rq.refl
          rw [e1] at hq; exact hq
        · refine wp_iconst (pc := 10) dX11_isIn_10 ?_
          refine wp_goto (pc := 11) 15 dX11_isIn_11 (by decide) ?_
          refine wp_zret (pc := 15) dX11_isIn_15 rfl rfl (by decide) ?_
          refine wp_eqst (st' := [vI 1]) rfl ?_
          refine wp_if_ne (pc := 14) 19 dX11_hush_14 (by decide) (by decide) (fun _ => ?_) (fun hh => absurd hh (by decide))
          refine wp_aload_n (pc := 19) 0 dX11_hush_19 rfl rfl ?_
          refine wp_callV (pc := 20) (st := []) (nf' := 153) [] [some (vR 111)] dX11_hush_20 rfl c_X11_509 rfl kd_111 (by decide) rfl la_111 rfl (Nat.le_of_ble_eq_true rfl) rfl (Nat.le_of_ble_eq_true rfl) (by omega) (Nat.le_refl _) (Nat.le_refl _) ?_
          refine wp_aload_n (pc := 0) 0 dX11_loadRead_0 rfl rfl ?_
          refine wp_callV (pc := 1) (st := []) (nf' := 153) [] [some (vR 111), none] dX11_loadRead_1 rfl c_X11_485 rfl kd_111 (by decide) rfl la_111 rfl (Nat.le_of_ble_eq_true rfl) rfl (Nat.le_of_ble_eq_true rfl) (by omega) (Nat.le_refl _) (Nat.le_refl _) ?_
          refine rs_load (by omega) ?_
          generalize hJe : upc I 140 (I 139) = J
          have hJ : ∀ b, b ≠ 140 → J b = I b := fun b g => by rw [← hJe]; exact funext fun j => upc_c g
          have hAJ : J 140 = pS S := by rw [← hJe, ← hN]; exact funext fun j => upc_s
          have hRJ := ld_rt hJ hR
          have hXJ := ld_fx hJ hX
          refine wp_eqst (st' := []) rfl ?_
          refine wp_aload_n (pc := 4) 0 dX11_loadRead_4 rfl rfl ?_
          refine wp_callV (pc := 5) (st := []) (nf' := 153) [] [some (vR 111), none, none, none] dX11_loadRead_5 rfl c_X11_488 rfl kd_111 (by decide) rfl la_111 rfl (Nat.le_of_ble_eq_true rfl) rfl (Nat.le_of_ble_eq_true rfl) (by omega) (Nat.le_refl _) (Nat.le_refl _) ?_
          refine rs_layRead hRJ hAJ hw hv hC (by omega) (by omega) (fun K hK hK63 hK141 => ?_)
          have hRK := hK.rt hRJ
          have hAK := hK.air hAJ
          have hXK := hK.fx hXJ
          have hkK : ∀ c, c < 4 → K 141 c = ((pc8 (readIn T S (c : Int) (called T S)) : Nat) : Int) := fun c hc => (hK141 c hc).trans (calls_read hw hv c)
          refine wp_eqst (st' := []) rfl ?_
          refine wp_vret (pc := 8) dX11_loadRead_8 rfl rfl ?_
          refine wp_eqst (st' := []) rfl ?_
          refine wp_aload_n (pc := 23) 0 dX11_hush_23 rfl rfl ?_
          refine wp_iload_n (pc := 24) 1 dX11_hush_24 rfl rfl ?_
          refine wp_callV (pc := 25) (st := []) (nf' := 153) [vI a] [some (vR 111), some (vI a), none, none] dX11_hush_25 rfl c_X11_491 rfl kd_111 (by decide) rfl la_111 rfl (Nat.le_of_ble_eq_true rfl) rfl (Nat.le_of_ble_eq_true rfl) (by omega) (Nat.le_refl _) (Nat.le_refl _) ?_
          refine rs_risersOf a.toNat (by omega) hRK hAK hw hv hC (by omega) (by omega) ?_
          refine wp_eqst (st' := [vI ((risers T S a.toNat : Nat) : Int)]) rfl ?_
          refine wq_istore_n (pc := 28) 3 [some (vR 111), some (vI a), some (vI w), some (vI ((risers T S a.toNat : Nat) : Int)), none, none] dX11_hush_28 rfl rfl (by decide) rfl ?_
          refine wp_iconst (pc := 29) dX11_hush_29 ?_
          refine wq_istore (pc := 30) [some (vR 111), some (vI a), some (vI w), some (vI ((risers T S a.toNat : Nat) : Int)), some (vI 0), none] dX11_hush_30 rfl (by decide) rfl ?_
          refine wp_iconst (pc := 32) dX11_hush_32 ?_
          refine wq_istore (pc := 33) [some (vR 111), some (vI a), some (vI w), some (vI ((risers T S a.toNat : Nat) : Int)), some (vI 0), some (vI 0)] dX11_hush_33 rfl (by decide) rfl ?_
          exact rl_hush hRK hAK hw hv hC hXK hcd (by decide) (by omega) (by omega) (by omega) hkK hd (fun N hN => hQ N (((Rq.ld hJ).rc hK).rc hN.rc)) 0 (Nat.zero_le _) K Ra.refl
  · refine wp_eqst (st' := [vI 0]) rfl ?_
    refine wp_if_eq (pc := 5) 24 dX11_isOpen_5 (by decide) (by decide) (fun _ => ?_) (fun hh => absurd hh (by decide))
    refine wp_iconst (pc := 24) dX11_isOpen_24 ?_
    refine wp_zret (pc := 25) dX11_isOpen_25 rfl rfl (by decide) ?_
    refine wp_eqst (st' := [vI 0]) rfl ?_
    refine wp_if_eq (pc := 5) 17 dX11_hush_5 (by decide) (by decide) (fun _ => ?_) (fun hh => absurd hh (by decide))
    refine wp_iconst (pc := 17) dX11_hush_17 ?_
    refine wp_iret (pc := 18) dX11_hush_18 rfl rfl ?_
    have e1 : hushA T S a w = -1 := if_neg (by omega)
    have hq := hQ _ Rq.refl
    rw [e1] at hq; exact hq
