theorem inc_1 {f g : Nat → Int} {A B : Nat} (h : B = A) (hA : A < 4) (hf : ∀ j, j < 4 → f j = g j) : ∀ j, j < 4 → setF f A (f A + 1) j = inc2 g A B j := by
  intro j hj
  rw [inc2, if_pos h]
  show (if j = A then f A + 1 else f j) = if j = A then g A + 1 else g j
  rw [hf A hA, hf j hj]
theorem inc_2 {f g : Nat → Int} {A B : Nat} (h : B ≠ A) (hA : A < 4) (hB : B < 4) (hf : ∀ j, j < 4 → f j = g j) : ∀ j, j < 4 → setF (setF f A (f A + 1)) B (setF f A (f A + 1) B + 1) j = inc2 g A B j := by
  intro j hj
  rw [inc2, if_neg h]
  show (if j = B then (if B = A then f A + 1 else f B) + 1 else if j = A then f A + 1 else f j) = if j = B then g B + 1 else if j = A then g A + 1 else g j
  rw [if_neg h, hf A hA, hf B hB, hf j hj]

theorem rl_layRead {l : Launch} {G : mG} {d : Nat} {I : mI} {L : Nat → Nat → Int} {D : Nat → Nat} {Q : mQ} {T : mT} {S : mS} {B : Int} (hR : RT I T) (hA : I 140 = pS S) (hw : tw T) (hv : sw S B) (hC : TC T) (hB : B ≤ 100000) (hd : 2 ≤ d) (hQ : ∀ J, Rc I J → J 111 63 = ((called T S : Nat) : Int) → (∀ j, j < 4 → J 141 j = (calledN T S (nQ T)).1 j) → Q none J (XX L D)) : ∀ i : Nat, i ≤ nQ T → ∀ f : Nat → Int, (∀ j, j < 4 → f j = (calledN T S i).1 j) → WP l G m_X11_layRead d 153 (upc (up I 111 63 (((calledN T S i).2 : Nat) : Int)) 141 f) (XX L D) 27 [some (vR 111), some (vI (i : Int)), none, none] [] Q := by
  have b_p := tw_p hw
  have b_q := tw_q hw
  have b_c := tw_c hw
  have eP : nP T = (T 0 12).toNat := rfl
  have eQ : nQ T = (T 0 13).toNat := rfl
  have eC : nC T = (T 0 11).toNat := rfl
  have b3 := sw_sun hv
  refine loop_dn (fun i => ∀ f : Nat → Int, (∀ j, j < 4 → f j = (calledN T S i).1 j) → WP l G m_X11_layRead d 153 (upc (up I 111 63 (((calledN T S i).2 : Nat) : Int)) 141 f) (XX L D) 27 [some (vR 111), some (vI (i : Int)), none, none] [] Q) (nQ T) ?_ (fun i hi ih => ?_)
  · intro f hf
    refine wp_iload_n (pc := 27) 1 dX11_layRead_27 rfl rfl ?_
    refine wp_aload_n (pc := 28) 0 dX11_layRead_28 rfl rfl ?_
    refine wp_geti (pc := 29) dX11_layRead_29 rfl f_X11_415 kd_111 la_111 (Or.inl rfl) ?_
    refine wp_eqst (st' := [vI (T 0 13), vI (((nQ T) : Nat) : Int)]) (by rw [upc_c (by omega), up_j (by omega), rt_q hR]) ?_
    refine wp_icmp_ge (pc := 32) 161 dX11_layRead_32 (by decide) (by omega) (by omega) (fun h_1 => ?_) (fun h_1 => ?_)
    · refine wp_vret (pc := 161) dX11_layRead_161 rfl rfl ?_
      exact hQ _ Rc.mc (by rw [upc_c (by decide), up_s]; rfl) (fun j hj => (upc_s).trans (hf j hj))
    · exfalso; omega
  · intro f hf
    have hRm : RT (upc (up I 111 63 (((calledN T S i).2 : Nat) : Int)) 141 f) T := Rc.mc.rt hR
    have hAm : (upc (up I 111 63 (((calledN T S i).2 : Nat) : Int)) 141 f) 140 = pS S := Rc.mc.air hA
    have b4 := sw_stat hv (j := i) (by omega)
    have b5 := sw_c1 hv (j := i) (by omega)
    have b6 := sw_c2 hv (j := i) (by omega)
    have b7 := hf (S (13 + i)).toNat (by omega)
    have b8 := hf (S (18 + i)).toNat (by omega)
    have b9 := calledN_in T S i (S (13 + i)).toNat
    have b10 := calledN_in T S i (S (18 + i)).toNat
    have b11 := tw_calls hw
    have b12 := tw_one hw i
    have b13 := tw_other hw i
    have b14 := hC.2.2.2 i hi
    have e14 : pa T i = (T 6 i).toNat := rfl
    have e15 : pb T i = (T 7 i).toNat := rfl
    refine wp_iload_n (pc := 27) 1 dX11_layRead_27 rfl rfl ?_
    refine wp_aload_n (pc := 28) 0 dX11_layRead_28 rfl rfl ?_
    refine wp_geti (pc := 29) dX11_layRead_29 rfl f_X11_415 kd_111 la_111 (Or.inl rfl) ?_
    refine wp_eqst (st' := [vI (T 0 13), vI (i : Int)]) (by rw [upc_c (by omega), up_j (by omega), rt_q hR]) ?_
    refine wp_icmp_ge (pc := 32) 161 dX11_layRead_32 (by decide) (by omega) (by omega) (fun h_1 => ?_) (fun h_1 => ?_)
    · exfalso; omega
    · refine wp_aload_n (pc := 35) 0 dX11_layRead_35 rfl rfl ?_
      refine wp_getr (pc := 36) dX11_layRead_36 rfl f_X11_106 kd_111 la_111 rfl (r_111_61 D) ?_
      refine wp_bipush (pc := 39) dX11_layRead_39 (by decide) ?_
      refine wp_iload_n (pc := 41) 1 dX11_layRead_41 rfl rfl ?_
      refine wp_iadd (pc := 42) dX11_layRead_42 ?_
      refine wq_iald (pc := 43) (18 + i) dX11_layRead_43 kd_140 la_140 (by omega) (by omega) ?_
      refine wp_eqst (st' := [vI (S (13 + i))]) (by rw [upc_c (by omega), up_c (by omega), hA, pS_18 (by omega)]) ?_
      refine wq_istore_n (pc := 44) 2 [some (vR 111), some (vI (i : Int)), some (vI (S (13 + i))), none] dX11_layRead_44 rfl rfl (by decide) rfl ?_
      refine wp_aload_n (pc := 45) 0 dX11_layRead_45 rfl rfl ?_
      refine wp_getr (pc := 46) dX11_layRead_46 rfl f_X11_106 kd_111 la_111 rfl (r_111_61 D) ?_
      refine wp_bipush (pc := 49) dX11_layRead_49 (by decide) ?_
      refine wp_iload_n (pc := 51) 1 dX11_layRead_51 rfl rfl ?_
      refine wp_iadd (pc := 52) dX11_layRead_52 ?_
      refine wq_iald (pc := 53) (23 + i) dX11_layRead_53 kd_140 la_140 (by omega) (by omega) ?_
      refine wp_eqst (st' := [vI (S (18 + i))]) (by rw [upc_c (by omega), up_c (by omega), hA, pS_23 (by omega)]) ?_
      refine wq_istore_n (pc := 54) 3 [some (vR 111), some (vI (i : Int)), some (vI (S (13 + i))), some (vI (S (18 + i)))] dX11_layRead_54 rfl rfl (by decide) rfl ?_
      refine wp_aload_n (pc := 55) 0 dX11_layRead_55 rfl rfl ?_
      refine wp_iload_n (pc := 56) 1 dX11_layRead_56 rfl rfl ?_
      refine wp_callV (pc := 57) (st := []) (nf' := 153) [vI (i : Int)] [some (vR 111), some (vI (i : Int))] dX11_layRead_57 rfl c_X11_446 rfl kd_111 (by decide) rfl la_111 rfl (Nat.le_of_ble_eq_true rfl) rfl (Nat.le_of_ble_eq_true rfl) (by omega) (Nat.le_refl _) (Nat.le_refl _) ?_
      refine wp_aload_n (pc := 0) 0 dX11_stateOf_0 rfl rfl ?_
      refine wp_getr (pc := 1) dX11_stateOf_1 rfl f_X11_106 kd_111 la_111 rfl (r_111_61 D) ?_
      refine wp_bipush (pc := 4) dX11_stateOf_4 (by decide) ?_
      refine wp_iload_n (pc := 6) 1 dX11_stateOf_6 rfl rfl ?_
      refine wp_iadd (pc := 7) dX11_stateOf_7 ?_
      refine wq_iald (pc := 8) (8 + i) dX11_stateOf_8 kd_140 la_140 (by omega) (by omega) ?_
      refine wp_eqst (st' := [vI (S (8 + i))]) (by rw [upc_c (by omega), up_c (by omega), hA, pS_8 (by omega)]) ?_
      refine wp_iret (pc := 9) dX11_stateOf_9 rfl rfl ?_
      refine wp_eqst (st' := [vI (S (8 + i))]) rfl ?_
      refine wp_if_ne (pc := 60) 155 dX11_layRead_60 (by decide) (by omega) (fun h_2 => ?_) (fun h_2 => ?_)
      · refine wq_iinc (pc := 155) [some (vR 111), some (vI ((i : Int) + 1)), some (vI (S (13 + i))), some (vI (S (18 + i)))] dX11_layRead_155 rfl rfl (by decide) rfl ?_
        refine wp_goto (pc := 158) 27 dX11_layRead_158 (by decide) ?_
        refine wp_none 2 [some (vR 111), some (vI ((i : Int) + 1)), none, some (vI (S (18 + i)))] rfl ?_
        refine wp_none 3 [some (vR 111), some (vI ((i : Int) + 1)), none, none] rfl ?_
        have e1 : calledN T S (i + 1) = calledN T S i := calledN_n (fun z => by first | (have z1 := z.1; omega) | (have z2 := z.2.2; omega))
        have h2 := ih f (by rw [e1]; exact hf)
        rw [e1] at h2
        exact h2
      · refine wp_aload_n (pc := 63) 0 dX11_layRead_63 rfl rfl ?_
        refine wp_aload_n (pc := 64) 0 dX11_layRead_64 rfl rfl ?_
        refine wp_getr (pc := 65) dX11_layRead_65 rfl f_X11_81 kd_111 la_111 rfl (r_111_38 D) ?_
        refine wp_iload_n (pc := 68) 1 dX11_layRead_68 rfl rfl ?_
        refine wq_iald (pc := 69) i dX11_layRead_69 kd_134 la_134 rfl (by omega) ?_
        refine wp_eqst (st' := [vI (T 6 i), vR 111]) (by rw [upc_c (by omega), up_c (by omega), rt_one hR (by omega)]) ?_
        refine wp_callV (pc := 70) (st := []) (nf' := 153) [vI (T 6 i)] [some (vR 111), some (vI (T 6 i))] dX11_layRead_70 rfl c_X11_476 rfl kd_111 (by decide) rfl la_111 rfl (Nat.le_of_ble_eq_true rfl) rfl (Nat.le_of_ble_eq_true rfl) (by omega) (Nat.le_refl _) (Nat.le_refl _) ?_
        refine rs_isAway (Int.toNat (T 6 i)) (by omega) hRm hAm hw hv (by omega) (by omega) (by omega) (fun h_3 => ?_) (fun h_3 => ?_)
        · refine wp_eqst (st' := [vI 1]) rfl ?_
          refine wp_if_ne (pc := 73) 155 dX11_layRead_73 (by decide) (by decide) (fun _ => ?_) (fun hh => absurd hh (by decide))
          refine wq_iinc (pc := 155) [some (vR 111), some (vI ((i : Int) + 1)), some (vI (S (13 + i))), some (vI (S (18 + i)))] dX11_layRead_155 rfl rfl (by decide) rfl ?_
          refine wp_goto (pc := 158) 27 dX11_layRead_158 (by decide) ?_
          refine wp_none 2 [some (vR 111), some (vI ((i : Int) + 1)), none, some (vI (S (18 + i)))] rfl ?_
          refine wp_none 3 [some (vR 111), some (vI ((i : Int) + 1)), none, none] rfl ?_
          have e1 : calledN T S (i + 1) = calledN T S i := calledN_n (fun z => by first | (have z1 := z.1; omega) | (have z2 := z.2.2; omega) | exact z.2.1 (Or.inl h_3) | exact z.2.1 (Or.inr h_3))
          have h2 := ih f (by rw [e1]; exact hf)
          rw [e1] at h2
          exact h2
        · refine wp_eqst (st' := [vI 0]) rfl ?_
          refine wp_if_ne (pc := 73) 155 dX11_layRead_73 (by decide) (by decide) (fun hh => absurd hh (by decide)) (fun _ => ?_)
          refine wp_aload_n (pc := 76) 0 dX11_layRead_76 rfl rfl ?_
          refine wp_aload_n (pc := 77) 0 dX11_layRead_77 rfl rfl ?_
          refine wp_getr (pc := 78) dX11_layRead_78 rfl f_X11_84 kd_111 la_111 rfl (r_111_39 D) ?_
          refine wp_iload_n (pc := 81) 1 dX11_layRead_81 rfl rfl ?_
          refine wq_iald (pc := 82) i dX11_layRead_82 kd_135 la_135 rfl (by omega) ?_
          refine wp_eqst (st' := [vI (T 7 i), vR 111]) (by rw [upc_c (by omega), up_c (by omega), rt_other hR (by omega)]) ?_
          refine wp_callV (pc := 83) (st := []) (nf' := 153) [vI (T 7 i)] [some (vR 111), some (vI (T 7 i))] dX11_layRead_83 rfl c_X11_476 rfl kd_111 (by decide) rfl la_111 rfl (Nat.le_of_ble_eq_true rfl) rfl (Nat.le_of_ble_eq_true rfl) (by omega) (Nat.le_refl _) (Nat.le_refl _) ?_
          refine rs_isAway (Int.toNat (T 7 i)) (by omega) hRm hAm hw hv (by omega) (by omega) (by omega) (fun h_4 => ?_) (fun h_4 => ?_)
          · refine wp_eqst (st' := [vI 1]) rfl ?_
            refine wp_if_ne (pc := 86) 155 dX11_layRead_86 (by decide) (by decide) (fun _ => ?_) (fun hh => absurd hh (by decide))
            refine wq_iinc (pc := 155) [some (vR 111), some (vI ((i : Int) + 1)), some (vI (S (13 + i))), some (vI (S (18 + i)))] dX11_layRead_155 rfl rfl (by decide) rfl ?_
            refine wp_goto (pc := 158) 27 dX11_layRead_158 (by decide) ?_
            refine wp_none 2 [some (vR 111), some (vI ((i : Int) + 1)), none, some (vI (S (18 + i)))] rfl ?_
            refine wp_none 3 [some (vR 111), some (vI ((i : Int) + 1)), none, none] rfl ?_
            have e1 : calledN T S (i + 1) = calledN T S i := calledN_n (fun z => by first | (have z1 := z.1; omega) | (have z2 := z.2.2; omega) | exact z.2.1 (Or.inl h_3) | exact z.2.1 (Or.inr h_3) | exact z.2.1 (Or.inl h_4) | exact z.2.1 (Or.inr h_4))
            have h2 := ih f (by rw [e1]; exact hf)
            rw [e1] at h2
            exact h2
          · refine wp_eqst (st' := [vI 0]) rfl ?_
            refine wp_if_ne (pc := 86) 155 dX11_layRead_86 (by decide) (by decide) (fun hh => absurd hh (by decide)) (fun _ => ?_)
            refine wp_aload_n (pc := 89) 0 dX11_layRead_89 rfl rfl ?_
            refine wp_getr (pc := 90) dX11_layRead_90 rfl f_X11_109 kd_111 la_111 rfl (r_111_62 D) ?_
            refine wp_iload_n (pc := 93) 2 dX11_layRead_93 rfl rfl ?_
            refine wq_iald (pc := 94) (Int.toNat (S (13 + i))) dX11_layRead_94 kd_141 la_141 (by omega) (by omega) ?_
            refine wp_eqst (st' := [vI (f (Int.toNat (S (13 + i))))]) (by rw [upc_s]) ?_
            refine wp_aload_n (pc := 95) 0 dX11_layRead_95 rfl rfl ?_
            refine wp_geti (pc := 96) dX11_layRead_96 rfl f_X11_97 kd_111 la_111 (Or.inl rfl) ?_
            refine wp_eqst (st' := [vI (T 0 16), vI (f (Int.toNat (S (13 + i))))]) (by rw [upc_c (by omega), up_j (by omega), rt_k hR]) ?_
            refine wp_icmp_ge (pc := 99) 155 dX11_layRead_99 (by decide) (by omega) (by omega) (fun h_5 => ?_) (fun h_5 => ?_)
            · refine wq_iinc (pc := 155) [some (vR 111), some (vI ((i : Int) + 1)), some (vI (S (13 + i))), some (vI (S (18 + i)))] dX11_layRead_155 rfl rfl (by decide) rfl ?_
              refine wp_goto (pc := 158) 27 dX11_layRead_158 (by decide) ?_
              refine wp_none 2 [some (vR 111), some (vI ((i : Int) + 1)), none, some (vI (S (18 + i)))] rfl ?_
              refine wp_none 3 [some (vR 111), some (vI ((i : Int) + 1)), none, none] rfl ?_
              have e1 : calledN T S (i + 1) = calledN T S i := calledN_n (fun z => by first | (have z1 := z.1; omega) | (have z2 := z.2.2; omega) | exact z.2.1 (Or.inl h_3) | exact z.2.1 (Or.inr h_3) | exact z.2.1 (Or.inl h_4) | exact z.2.1 (Or.inr h_4))
              have h2 := ih f (by rw [e1]; exact hf)
              rw [e1] at h2
              exact h2
            · refine wp_aload_n (pc := 102) 0 dX11_layRead_102 rfl rfl ?_
              refine wp_getr (pc := 103) dX11_layRead_103 rfl f_X11_109 kd_111 la_111 rfl (r_111_62 D) ?_
              refine wp_iload_n (pc := 106) 3 dX11_layRead_106 rfl rfl ?_
              refine wq_iald (pc := 107) (Int.toNat (S (18 + i))) dX11_layRead_107 kd_141 la_141 (by omega) (by omega) ?_
              refine wp_eqst (st' := [vI (f (Int.toNat (S (18 + i))))]) (by rw [upc_s]) ?_
              refine wp_aload_n (pc := 108) 0 dX11_layRead_108 rfl rfl ?_
              refine wp_geti (pc := 109) dX11_layRead_109 rfl f_X11_97 kd_111 la_111 (Or.inl rfl) ?_
              refine wp_eqst (st' := [vI (T 0 16), vI (f (Int.toNat (S (18 + i))))]) (by rw [upc_c (by omega), up_j (by omega), rt_k hR]) ?_
              refine wp_icmp_lt (pc := 112) 118 dX11_layRead_112 (by decide) (by omega) (by omega) (fun h_6 => ?_) (fun h_6 => ?_)
              · refine wp_aload_n (pc := 118) 0 dX11_layRead_118 rfl rfl ?_
                refine wp_dup (pc := 119) dX11_layRead_119 rfl ?_
                refine wp_geti (pc := 120) dX11_layRead_120 rfl f_X11_473 kd_111 la_111 (Or.inl rfl) ?_
                refine wp_eqst (st' := [vI (((calledN T S i).2 : Nat) : Int), vR 111]) (by rw [upc_c (by omega), up_s]) ?_
                refine wp_iconst (pc := 123) dX11_layRead_123 ?_
                refine wp_iload_n (pc := 124) 1 dX11_layRead_124 rfl rfl ?_
                refine wn_shl1 (pc := 125) i dX11_layRead_125 rfl (by omega) ?_
                refine wn_or (pc := 126) (Int.toNat (((calledN T S i).2 : Nat) : Int)) (2 ^ i) dX11_layRead_126 (by omega) rfl ?_
                refine wp_puti (pc := 127) dX11_layRead_127 rfl f_X11_473 kd_111 la_111 (fun _ h => by cases h; rfl) rfl ?_
                refine wp_eqI (I' := upc (up I 111 63 ((((calledN T S i).2 ||| 2 ^ i : Nat)) : Int)) 141 f) nrm_r ?_
                refine wp_aload_n (pc := 130) 0 dX11_layRead_130 rfl rfl ?_
                refine wp_getr (pc := 131) dX11_layRead_131 rfl f_X11_109 kd_111 la_111 rfl (r_111_62 D) ?_
                refine wp_iload_n (pc := 134) 2 dX11_layRead_134 rfl rfl ?_
                refine wp_dup2 (pc := 135) dX11_layRead_135 rfl rfl ?_
                refine wq_iald (pc := 136) (Int.toNat (S (13 + i))) dX11_layRead_136 kd_141 la_141 (by omega) (by omega) ?_
                refine wp_eqst (st' := [vI (f (Int.toNat (S (13 + i)))), vI (S (13 + i)), vR 141]) (by rw [upc_s]) ?_
                refine wp_iconst (pc := 137) dX11_layRead_137 ?_
                refine wp_iadd (pc := 138) dX11_layRead_138 ?_
                refine wq_iast (pc := 139) (Int.toNat (S (13 + i))) dX11_layRead_139 kd_141 la_141 (by omega) (by omega) ?_
                refine wp_eqI (I' := upc (up I 111 63 ((((calledN T S i).2 ||| 2 ^ i : Nat)) : Int)) 141 (setF f (Int.toNat (S (13 + i))) ((f (Int.toNat (S (13 + i)))) + 1))) nrm_b ?_
                refine wp_iload_n (pc := 140) 2 dX11_layRead_140 rfl rfl ?_
                refine wp_iload_n (pc := 141) 3 dX11_layRead_141 rfl rfl ?_
                refine wp_icmp_eq (pc := 142) 155 dX11_layRead_142 (by decide) (by omega) (by omega) (fun h_7 => ?_) (fun h_7 => ?_)
                · refine wq_iinc (pc := 155) [some (vR 111), some (vI ((i : Int) + 1)), some (vI (S (13 + i))), some (vI (S (18 + i)))] dX11_layRead_155 rfl rfl (by decide) rfl ?_
                  refine wp_goto (pc := 158) 27 dX11_layRead_158 (by decide) ?_
                  refine wp_none 2 [some (vR 111), some (vI ((i : Int) + 1)), none, some (vI (S (18 + i)))] rfl ?_
                  refine wp_none 3 [some (vR 111), some (vI ((i : Int) + 1)), none, none] rfl ?_
                  have e1 : calledN T S (i + 1) = (inc2 (calledN T S i).1 (S (13 + i)).toNat (S (18 + i)).toNat, (calledN T S i).2 ||| 2 ^ i) := calledN_y (by omega) (fun z => z.elim h_3 h_4) (by omega) (by omega)
                  have h2 := ih (setF f (Int.toNat (S (13 + i))) ((f (Int.toNat (S (13 + i)))) + 1)) (by rw [e1]; exact inc_1 (by omega) (by omega) hf)
                  rw [e1] at h2
                  exact h2
                · refine wp_aload_n (pc := 145) 0 dX11_layRead_145 rfl rfl ?_
                  refine wp_getr (pc := 146) dX11_layRead_146 rfl f_X11_109 kd_111 la_111 rfl (r_111_62 D) ?_
                  refine wp_iload_n (pc := 149) 3 dX11_layRead_149 rfl rfl ?_
                  refine wp_dup2 (pc := 150) dX11_layRead_150 rfl rfl ?_
                  refine wq_iald (pc := 151) (Int.toNat (S (18 + i))) dX11_layRead_151 kd_141 la_141 (by omega) (by omega) ?_
                  refine wp_eqst (st' := [vI ((setF f (Int.toNat (S (13 + i))) ((f (Int.toNat (S (13 + i)))) + 1)) (Int.toNat (S (18 + i)))), vI (S (18 + i)), vR 141]) (by rw [upc_s]) ?_
                  refine wp_iconst (pc := 152) dX11_layRead_152 ?_
                  refine wp_iadd (pc := 153) dX11_layRead_153 ?_
                  refine wq_iast (pc := 154) (Int.toNat (S (18 + i))) dX11_layRead_154 kd_141 la_141 (by omega) (by omega) ?_
                  refine wp_eqI (I' := upc (up I 111 63 ((((calledN T S i).2 ||| 2 ^ i : Nat)) : Int)) 141 (setF (setF f (Int.toNat (S (13 + i))) ((f (Int.toNat (S (13 + i)))) + 1)) (Int.toNat (S (18 + i))) (((setF f (Int.toNat (S (13 + i))) ((f (Int.toNat (S (13 + i)))) + 1)) (Int.toNat (S (18 + i)))) + 1))) nrm_b ?_
                  refine wq_iinc (pc := 155) [some (vR 111), some (vI ((i : Int) + 1)), some (vI (S (13 + i))), some (vI (S (18 + i)))] dX11_layRead_155 rfl rfl (by decide) rfl ?_
                  refine wp_goto (pc := 158) 27 dX11_layRead_158 (by decide) ?_
                  refine wp_none 2 [some (vR 111), some (vI ((i : Int) + 1)), none, some (vI (S (18 + i)))] rfl ?_
                  refine wp_none 3 [some (vR 111), some (vI ((i : Int) + 1)), none, none] rfl ?_
                  have e1 : calledN T S (i + 1) = (inc2 (calledN T S i).1 (S (13 + i)).toNat (S (18 + i)).toNat, (calledN T S i).2 ||| 2 ^ i) := calledN_y (by omega) (fun z => z.elim h_3 h_4) (by omega) (by omega)
                  have h2 := ih (setF (setF f (Int.toNat (S (13 + i))) ((f (Int.toNat (S (13 + i)))) + 1)) (Int.toNat (S (18 + i))) (((setF f (Int.toNat (S (13 + i))) ((f (Int.toNat (S (13 + i)))) + 1)) (Int.toNat (S (18 + i)))) + 1)) (by rw [e1]; exact inc_2 (by omega) (by omega) (by omega) hf)
                  rw [e1] at h2
                  exact h2
              · refine wp_goto (pc := 115) 155 dX11_layRead_115 (by decide) ?_
                refine wq_iinc (pc := 155) [some (vR 111), some (vI ((i : Int) + 1)), some (vI (S (13 + i))), some (vI (S (18 + i)))] dX11_layRead_155 rfl rfl (by decide) rfl ?_
                refine wp_goto (pc := 158) 27 dX11_layRead_158 (by decide) ?_
                refine wp_none 2 [some (vR 111), some (vI ((i : Int) + 1)), none, some (vI (S (18 + i)))] rfl ?_
                refine wp_none 3 [some (vR 111), some (vI ((i : Int) + 1)), none, none] rfl ?_
                have e1 : calledN T S (i + 1) = calledN T S i := calledN_n (fun z => by first | (have z1 := z.1; omega) | (have z2 := z.2.2; omega) | exact z.2.1 (Or.inl h_3) | exact z.2.1 (Or.inr h_3) | exact z.2.1 (Or.inl h_4) | exact z.2.1 (Or.inr h_4))
                have h2 := ih f (by rw [e1]; exact hf)
                rw [e1] at h2
                exact h2

theorem rs_layRead {l : Launch} {G : mG} {d : Nat} {I : mI} {L : Nat → Nat → Int} {D : Nat → Nat} {Q : mQ} {T : mT} {S : mS} {B : Int}  (hR : RT I T) (hA : I 140 = pS S) (hw : tw T) (hv : sw S B) (hC : TC T) (hB : B ≤ 100000) (hd : 2 ≤ d) (hQ : ∀ J, Rc I J → J 111 63 = ((called T S : Nat) : Int) → (∀ j, j < 4 → J 141 j = (calledN T S (nQ T)).1 j) → Q none J (XX L D)) : WP l G m_X11_layRead d 153 I (XX L D) 0 [some (vR 111), none, none, none] [] Q := by
  have b_p := tw_p hw
  have b_q := tw_q hw
  have b_c := tw_c hw
  have eP : nP T = (T 0 12).toNat := rfl
  have eQ : nQ T = (T 0 13).toNat := rfl
  have eC : nC T = (T 0 11).toNat := rfl
  refine wp_aload_n (pc := 0) 0 dX11_layRead_0 rfl rfl ?_
  refine wp_iconst (pc := 1) dX11_layRead_1 ?_
  refine wp_puti (pc := 2) dX11_layRead_2 rfl f_X11_473 kd_111 la_111 (fun _ h => by cases h; rfl) rfl ?_
  refine wp_iconst (pc := 5) dX11_layRead_5 ?_
  refine wq_istore_n (pc := 6) 1 [some (vR 111), some (vI 0), none, none] dX11_layRead_6 rfl rfl (by decide) rfl ?_
  refine wp_iload_n (pc := 7) 1 dX11_layRead_7 rfl rfl ?_
  refine wp_iconst (pc := 8) dX11_layRead_8 ?_
  refine wp_icmp_ge (pc := 9) 25 dX11_layRead_9 (by decide) (by decide) (by decide) (fun hh => absurd hh (by decide)) (fun _ => ?_)
  refine wp_aload_n (pc := 12) 0 dX11_layRead_12 rfl rfl ?_
  refine wp_getr (pc := 13) dX11_layRead_13 rfl f_X11_109 kd_111 la_111 rfl (r_111_62 D) ?_
  refine wp_iload_n (pc := 16) 1 dX11_layRead_16 rfl rfl ?_
  refine wp_iconst (pc := 17) dX11_layRead_17 ?_
  refine wq_iast (pc := 18) 0 dX11_layRead_18 kd_141 la_141 rfl (by decide) ?_
  refine wq_iinc (pc := 19) [some (vR 111), some (vI 1), none, none] dX11_layRead_19 rfl rfl (by decide) rfl ?_
  refine wp_goto (pc := 22) 7 dX11_layRead_22 (by decide) ?_
  refine wp_iload_n (pc := 7) 1 dX11_layRead_7 rfl rfl ?_
  refine wp_iconst (pc := 8) dX11_layRead_8 ?_
  refine wp_icmp_ge (pc := 9) 25 dX11_layRead_9 (by decide) (by decide) (by decide) (fun hh => absurd hh (by decide)) (fun _ => ?_)
  refine wp_aload_n (pc := 12) 0 dX11_layRead_12 rfl rfl ?_
  refine wp_getr (pc := 13) dX11_layRead_13 rfl f_X11_109 kd_111 la_111 rfl (r_111_62 D) ?_
  refine wp_iload_n (pc := 16) 1 dX11_layRead_16 rfl rfl ?_
  refine wp_iconst (pc := 17) dX11_layRead_17 ?_
  refine wq_iast (pc := 18) 1 dX11_layRead_18 kd_141 la_141 rfl (by decide) ?_
  refine wq_iinc (pc := 19) [some (vR 111), some (vI 2), none, none] dX11_layRead_19 rfl rfl (by decide) rfl ?_
  refine wp_goto (pc := 22) 7 dX11_layRead_22 (by decide) ?_
  refine wp_iload_n (pc := 7) 1 dX11_layRead_7 rfl rfl ?_
  refine wp_iconst (pc := 8) dX11_layRead_8 ?_
  refine wp_icmp_ge (pc := 9) 25 dX11_layRead_9 (by decide) (by decide) (by decide) (fun hh => absurd hh (by decide)) (fun _ => ?_)
  refine wp_aload_n (pc := 12) 0 dX11_layRead_12 rfl rfl ?_
  refine wp_getr (pc := 13) dX11_layRead_13 rfl f_X11_109 kd_111 la_111 rfl (r_111_62 D) ?_
  refine wp_iload_n (pc := 16) 1 dX11_layRead_16 rfl rfl ?_
  refine wp_iconst (pc := 17) dX11_layRead_17 ?_
  refine wq_iast (pc := 18) 2 dX11_layRead_18 kd_141 la_141 rfl (by decide) ?_
  refine wq_iinc (pc := 19) [some (vR 111), some (vI 3), none, none] dX11_layRead_19 rfl rfl (by decide) rfl ?_
  refine wp_goto (pc := 22) 7 dX11_layRead_22 (by decide) ?_
  refine wp_iload_n (pc := 7) 1 dX11_layRead_7 rfl rfl ?_
  refine wp_iconst (pc := 8) dX11_layRead_8 ?_
  refine wp_icmp_ge (pc := 9) 25 dX11_layRead_9 (by decide) (by decide) (by decide) (fun hh => absurd hh (by decide)) (fun _ => ?_)
  refine wp_aload_n (pc := 12) 0 dX11_layRead_12 rfl rfl ?_
  refine wp_getr (pc := 13) dX11_layRead_13 rfl f_X11_109 kd_111 la_111 rfl (r_111_62 D) ?_
  refine wp_iload_n (pc := 16) 1 dX11_layRead_16 rfl rfl ?_
  refine wp_iconst (pc := 17) dX11_layRead_17 ?_
  refine wq_iast (pc := 18) 3 dX11_layRead_18 kd_141 la_141 rfl (by decide) ?_
  refine wq_iinc (pc := 19) [some (vR 111), some (vI 4), none, none] dX11_layRead_19 rfl rfl (by decide) rfl ?_
  refine wp_goto (pc := 22) 7 dX11_layRead_22 (by decide) ?_
  refine wp_iload_n (pc := 7) 1 dX11_layRead_7 rfl rfl ?_
  refine wp_iconst (pc := 8) dX11_layRead_8 ?_
  refine wp_icmp_ge (pc := 9) 25 dX11_layRead_9 (by decide) (by decide) (by decide) (fun _ => ?_) (fun hh => absurd hh (by decide))
  refine wp_iconst (pc := 25) dX11_layRead_25 ?_
  refine wq_istore_n (pc := 26) 1 [some (vR 111), some (vI 0), none, none] dX11_layRead_26 rfl rfl (by decide) rfl ?_
  refine wp_eqI (I' := upc (up I 111 63 0) 141 (fun j => if j < 4 then 0 else I 141 j)) lay_0 ?_
  exact rl_layRead hR hA hw hv hC hB hd hQ 0 (Nat.zero_le _) _ (fun j hj => if_pos hj)

theorem cnt_lt {m : Nat} {n k : Nat} (h : m < 2 ^ n) : cnt m (n + k) = cnt m n := by
  induction k with
  | zero => rfl
  | succ k ih =>
    show cnt m (n + k) + m / 2 ^ (n + k) % 2 = _
    rw [ih, Nat.div_eq_of_lt (Nat.lt_of_lt_of_le h (Nat.pow_le_pow_right (by decide) (Nat.le_add_right n k)))]
    rfl
theorem cnt_set (f : Nat → Bool) : ∀ (n k : Nat), n ≤ k → cnt (setOf f k) n = cntF f n
  | 0, _, _ => rfl
  | n + 1, k, h => by
    show cnt (setOf f k) n + setOf f k / 2 ^ n % 2 = cntF f n + _
    rw [cnt_set f n k (by omega)]
    have e := setOf_tb f k n
    rw [decide_eq_true (show n < k by omega), Bool.true_and] at e
    have e2 := bit_iff (setOf f k) n
    have e3 := Nat.mod_lt (setOf f k / 2 ^ n) (show 2 > 0 by decide)
    cases hf : f n
    · rw [e, hf] at e2
      have : ¬ (((setOf f k / 2 ^ n % 2 : Nat) : Int) = 1) := fun x => absurd (e2.mp x) (by decide)
      simp only [Bool.false_eq_true, if_false]
      omega
    · rw [e, hf] at e2
      have := e2.mpr rfl
      simp only [if_true]
      omega

theorem rl_seatedIn {l : Launch} {G : mG} {d : Nat} {I : mI} {L : Nat → Nat → Int} {D : Nat → Nat} {Q : mQ} {T : mT} {S : mS} {B : Int} {c : Int} (hR : RT I T) (hA : I 140 = pS S) (hw : tw T) (hv : sw S B) (hB : B ≤ 100000) (hc : inR c) (hd : 2 ≤ d) (hQ : Q (some (vI ((pc8 (present T S c c) : Int)))) I (XX L D)) : ∀ i : Nat, i ≤ nP T → WP l G m_X11_seatedIn d 153 I (XX L D) 4 [some (vR 111), some (vI c), some (vI ((cntF (fun p => decide ((S p = c ∨ S p = c) ∧ ¬ away T p (S 28 + 1))) i : Nat) : Int)), some (vI (i : Int))] [] Q := by
  have b_p := tw_p hw
  have b_q := tw_q hw
  have b_c := tw_c hw
  have eP : nP T = (T 0 12).toNat := rfl
  have eQ : nQ T = (T 0 13).toNat := rfl
  have eC : nC T = (T 0 11).toNat := rfl
  refine loop_dn (fun i => WP l G m_X11_seatedIn d 153 I (XX L D) 4 [some (vR 111), some (vI c), some (vI ((cntF (fun p => decide ((S p = c ∨ S p = c) ∧ ¬ away T p (S 28 + 1))) i : Nat) : Int)), some (vI (i : Int))] [] Q) (nP T) ?_ (fun i hi ih => ?_)
  · refine wp_iload_n (pc := 4) 3 dX11_seatedIn_4 rfl rfl ?_
    refine wp_aload_n (pc := 5) 0 dX11_seatedIn_5 rfl rfl ?_
    refine wp_geti (pc := 6) dX11_seatedIn_6 rfl f_X11_412 kd_111 la_111 (Or.inl rfl) ?_
    refine wp_eqst (st' := [vI (T 0 12), vI (((nP T) : Nat) : Int)]) (by rw [rt_p hR]) ?_
    refine wp_icmp_ge (pc := 9) 47 dX11_seatedIn_9 (by decide) (by omega) (by omega) (fun h_1 => ?_) (fun h_1 => ?_)
    · refine wp_iload_n (pc := 47) 2 dX11_seatedIn_47 rfl rfl ?_
      refine wp_iret (pc := 48) dX11_seatedIn_48 rfl rfl ?_
      have e1 : pc8 (present T S c c) = cntF (fun p => decide ((S p = c ∨ S p = c) ∧ ¬ away T p (S 28 + 1))) (nP T) := by
        have h8 := nP_le hw
        have e2 : 8 = nP T + (8 - nP T) := by omega
        show cnt (setOf (fun p => decide ((S p = c ∨ S p = c) ∧ ¬ away T p (S 28 + 1))) (nP T)) 8 = _
        rw [e2, cnt_lt (setOf_lt _ _)]
        exact cnt_set _ _ _ (Nat.le_refl _)
      rw [e1] at hQ; exact hQ
    · exfalso; omega
  · have b2 := sw_seat hv (j := i) (by omega)
    have b3 := cntF_le (fun p => decide ((S p = c ∨ S p = c) ∧ ¬ away T p (S 28 + 1))) i
    refine wp_iload_n (pc := 4) 3 dX11_seatedIn_4 rfl rfl ?_
    refine wp_aload_n (pc := 5) 0 dX11_seatedIn_5 rfl rfl ?_
    refine wp_geti (pc := 6) dX11_seatedIn_6 rfl f_X11_412 kd_111 la_111 (Or.inl rfl) ?_
    refine wp_eqst (st' := [vI (T 0 12), vI (i : Int)]) (by rw [rt_p hR]) ?_
    refine wp_icmp_ge (pc := 9) 47 dX11_seatedIn_9 (by decide) (by omega) (by omega) (fun h_1 => ?_) (fun h_1 => ?_)
    · exfalso; omega
    · refine wp_iload_n (pc := 12) 2 dX11_seatedIn_12 rfl rfl ?_
      refine wp_aload_n (pc := 13) 0 dX11_seatedIn_13 rfl rfl ?_
      refine wp_getr (pc := 14) dX11_seatedIn_14 rfl f_X11_106 kd_111 la_111 rfl (r_111_61 D) ?_
      refine wp_iload_n (pc := 17) 3 dX11_seatedIn_17 rfl rfl ?_
      refine wq_iald (pc := 18) i dX11_seatedIn_18 kd_140 la_140 rfl (by omega) ?_
      refine wp_eqst (st' := [vI (S i), vI ((cntF (fun p => decide ((S p = c ∨ S p = c) ∧ ¬ away T p (S 28 + 1))) i : Nat) : Int)]) (by rw [hA, pS_s (by omega)]) ?_
      refine wp_iload_n (pc := 19) 1 dX11_seatedIn_19 rfl rfl ?_
      refine wp_icmp_ne (pc := 20) 35 dX11_seatedIn_20 (by decide) (by omega) (by omega) (fun h_2 => ?_) (fun h_2 => ?_)
      · refine wp_iconst (pc := 35) dX11_seatedIn_35 ?_
        refine wp_callS (pc := 36) (st := [vI ((cntF (fun p => decide ((S p = c ∨ S p = c) ∧ ¬ away T p (S 28 + 1))) i : Nat) : Int)]) (nf' := 153) [vI 0] [some (vI 0)] dX11_seatedIn_36 rfl c_X11_320 rfl rfl (Nat.le_of_ble_eq_true rfl) rfl (Nat.le_of_ble_eq_true rfl) (by omega) (Nat.le_refl _) (Nat.le_refl _) ?_
        refine wp_iload_n (pc := 0) 0 dX11_truth_0 rfl rfl ?_
        refine wp_if_eq (pc := 1) 8 dX11_truth_1 (by decide) (by decide) (fun _ => ?_) (fun hh => absurd hh (by decide))
        refine wp_iconst (pc := 8) dX11_truth_8 ?_
        refine wp_iret (pc := 9) dX11_truth_9 rfl rfl ?_
        refine wp_eqst (st' := [vI 0, vI ((cntF (fun p => decide ((S p = c ∨ S p = c) ∧ ¬ away T p (S 28 + 1))) i : Nat) : Int)]) rfl ?_
        refine wp_iadd (pc := 39) dX11_seatedIn_39 ?_
        refine wq_istore_n (pc := 40) 2 [some (vR 111), some (vI c), some (vI (((cntF (fun p => decide ((S p = c ∨ S p = c) ∧ ¬ away T p (S 28 + 1))) i : Nat) : Int) + 0)), some (vI (i : Int))] dX11_seatedIn_40 rfl rfl (by decide) rfl ?_
        refine wq_iinc (pc := 41) [some (vR 111), some (vI c), some (vI (((cntF (fun p => decide ((S p = c ∨ S p = c) ∧ ¬ away T p (S 28 + 1))) i : Nat) : Int) + 0)), some (vI ((i : Int) + 1))] dX11_seatedIn_41 rfl rfl (by decide) rfl ?_
        refine wp_goto (pc := 44) 4 dX11_seatedIn_44 (by decide) ?_
        refine wp_eqls (ls' := [some (vR 111), some (vI c), some (vI ((cntF (fun p => decide ((S p = c ∨ S p = c) ∧ ¬ away T p (S 28 + 1))) (i + 1) : Nat) : Int)), some (vI (((i + 1) : Nat) : Int))]) (by rw [cntF_n (f := (fun p => decide ((S p = c ∨ S p = c) ∧ ¬ away T p (S 28 + 1)))) (n := i) (decide_eq_false (fun z => by first | exact z.2 h_1 | (have z1 := z.1; omega)))]; rfl) ih
      · refine wp_aload_n (pc := 23) 0 dX11_seatedIn_23 rfl rfl ?_
        refine wp_iload_n (pc := 24) 3 dX11_seatedIn_24 rfl rfl ?_
        refine wp_callV (pc := 25) (st := [vI ((cntF (fun p => decide ((S p = c ∨ S p = c) ∧ ¬ away T p (S 28 + 1))) i : Nat) : Int)]) (nf' := 153) [vI (i : Int)] [some (vR 111), some (vI (i : Int))] dX11_seatedIn_25 rfl c_X11_476 rfl kd_111 (by decide) rfl la_111 rfl (Nat.le_of_ble_eq_true rfl) rfl (Nat.le_of_ble_eq_true rfl) (by omega) (Nat.le_refl _) (Nat.le_refl _) ?_
        refine rs_isAway i rfl hR hA hw hv (by omega) (by omega) (by omega) (fun h_3 => ?_) (fun h_3 => ?_)
        · refine wp_eqst (st' := [vI 1, vI ((cntF (fun p => decide ((S p = c ∨ S p = c) ∧ ¬ away T p (S 28 + 1))) i : Nat) : Int)]) rfl ?_
          refine wp_if_ne (pc := 28) 35 dX11_seatedIn_28 (by decide) (by decide) (fun _ => ?_) (fun hh => absurd hh (by decide))
          refine wp_iconst (pc := 35) dX11_seatedIn_35 ?_
          refine wp_callS (pc := 36) (st := [vI ((cntF (fun p => decide ((S p = c ∨ S p = c) ∧ ¬ away T p (S 28 + 1))) i : Nat) : Int)]) (nf' := 153) [vI 0] [some (vI 0)] dX11_seatedIn_36 rfl c_X11_320 rfl rfl (Nat.le_of_ble_eq_true rfl) rfl (Nat.le_of_ble_eq_true rfl) (by omega) (Nat.le_refl _) (Nat.le_refl _) ?_
          refine wp_iload_n (pc := 0) 0 dX11_truth_0 rfl rfl ?_
          refine wp_if_eq (pc := 1) 8 dX11_truth_1 (by decide) (by decide) (fun _ => ?_) (fun hh => absurd hh (by decide))
          refine wp_iconst (pc := 8) dX11_truth_8 ?_
          refine wp_iret (pc := 9) dX11_truth_9 rfl rfl ?_
          refine wp_eqst (st' := [vI 0, vI ((cntF (fun p => decide ((S p = c ∨ S p = c) ∧ ¬ away T p (S 28 + 1))) i : Nat) : Int)]) rfl ?_
          refine wp_iadd (pc := 39) dX11_seatedIn_39 ?_
          refine wq_istore_n (pc := 40) 2 [some (vR 111), some (vI c), some (vI (((cntF (fun p => decide ((S p = c ∨ S p = c) ∧ ¬ away T p (S 28 + 1))) i : Nat) : Int) + 0)), some (vI (i : Int))] dX11_seatedIn_40 rfl rfl (by decide) rfl ?_
          refine wq_iinc (pc := 41) [some (vR 111), some (vI c), some (vI (((cntF (fun p => decide ((S p = c ∨ S p = c) ∧ ¬ away T p (S 28 + 1))) i : Nat) : Int) + 0)), some (vI ((i : Int) + 1))] dX11_seatedIn_41 rfl rfl (by decide) rfl ?_
          refine wp_goto (pc := 44) 4 dX11_seatedIn_44 (by decide) ?_
          refine wp_eqls (ls' := [some (vR 111), some (vI c), some (vI ((cntF (fun p => decide ((S p = c ∨ S p = c) ∧ ¬ away T p (S 28 + 1))) (i + 1) : Nat) : Int)), some (vI (((i + 1) : Nat) : Int))]) (by rw [cntF_n (f := (fun p => decide ((S p = c ∨ S p = c) ∧ ¬ away T p (S 28 + 1)))) (n := i) (decide_eq_false (fun z => by first | exact z.2 h_3 | (have z1 := z.1; omega)))]; rfl) ih
        · refine wp_eqst (st' := [vI 0, vI ((cntF (fun p => decide ((S p = c ∨ S p = c) ∧ ¬ away T p (S 28 + 1))) i : Nat) : Int)]) rfl ?_
          refine wp_if_ne (pc := 28) 35 dX11_seatedIn_28 (by decide) (by decide) (fun hh => absurd hh (by decide)) (fun _ => ?_)
          refine wp_iconst (pc := 31) dX11_seatedIn_31 ?_
          refine wp_goto (pc := 32) 36 dX11_seatedIn_32 (by decide) ?_
          refine wp_callS (pc := 36) (st := [vI ((cntF (fun p => decide ((S p = c ∨ S p = c) ∧ ¬ away T p (S 28 + 1))) i : Nat) : Int)]) (nf' := 153) [vI 1] [some (vI 1)] dX11_seatedIn_36 rfl c_X11_320 rfl rfl (Nat.le_of_ble_eq_true rfl) rfl (Nat.le_of_ble_eq_true rfl) (by omega) (Nat.le_refl _) (Nat.le_refl _) ?_
          refine wp_iload_n (pc := 0) 0 dX11_truth_0 rfl rfl ?_
          refine wp_if_eq (pc := 1) 8 dX11_truth_1 (by decide) (by decide) (fun hh => absurd hh (by decide)) (fun _ => ?_)
          refine wp_iconst (pc := 4) dX11_truth_4 ?_
          refine wp_goto (pc := 5) 9 dX11_truth_5 (by decide) ?_
          refine wp_iret (pc := 9) dX11_truth_9 rfl rfl ?_
          refine wp_eqst (st' := [vI 1, vI ((cntF (fun p => decide ((S p = c ∨ S p = c) ∧ ¬ away T p (S 28 + 1))) i : Nat) : Int)]) rfl ?_
          refine wp_iadd (pc := 39) dX11_seatedIn_39 ?_
          refine wq_istore_n (pc := 40) 2 [some (vR 111), some (vI c), some (vI (((cntF (fun p => decide ((S p = c ∨ S p = c) ∧ ¬ away T p (S 28 + 1))) i : Nat) : Int) + 1)), some (vI (i : Int))] dX11_seatedIn_40 rfl rfl (by decide) rfl ?_
          refine wq_iinc (pc := 41) [some (vR 111), some (vI c), some (vI (((cntF (fun p => decide ((S p = c ∨ S p = c) ∧ ¬ away T p (S 28 + 1))) i : Nat) : Int) + 1)), some (vI ((i : Int) + 1))] dX11_seatedIn_41 rfl rfl (by decide) rfl ?_
          refine wp_goto (pc := 44) 4 dX11_seatedIn_44 (by decide) ?_
          refine wp_eqls (ls' := [some (vR 111), some (vI c), some (vI ((cntF (fun p => decide ((S p = c ∨ S p = c) ∧ ¬ away T p (S 28 + 1))) (i + 1) : Nat) : Int)), some (vI (((i + 1) : Nat) : Int))]) (by rw [cntF_y (f := (fun p => decide ((S p = c ∨ S p = c) ∧ ¬ away T p (S 28 + 1)))) (n := i) (decide_eq_true ⟨by omega, h_3⟩)]; rfl) ih

theorem rs_seatedIn {l : Launch} {G : mG} {d : Nat} {I : mI} {L : Nat → Nat → Int} {D : Nat → Nat} {Q : mQ} {T : mT} {S : mS} {B : Int} {c : Int}  (hR : RT I T) (hA : I 140 = pS S) (hw : tw T) (hv : sw S B) (hB : B ≤ 100000) (hc : inR c) (hd : 2 ≤ d) (hQ : Q (some (vI ((pc8 (present T S c c) : Int)))) I (XX L D)) : WP l G m_X11_seatedIn d 153 I (XX L D) 0 [some (vR 111), some (vI c), none, none] [] Q := by
  have b_p := tw_p hw
  have b_q := tw_q hw
  have b_c := tw_c hw
  have eP : nP T = (T 0 12).toNat := rfl
  have eQ : nQ T = (T 0 13).toNat := rfl
  have eC : nC T = (T 0 11).toNat := rfl
  refine wp_iconst (pc := 0) dX11_seatedIn_0 ?_
  refine wq_istore_n (pc := 1) 2 [some (vR 111), some (vI c), some (vI 0), none] dX11_seatedIn_1 rfl rfl (by decide) rfl ?_
  refine wp_iconst (pc := 2) dX11_seatedIn_2 ?_
  refine wq_istore_n (pc := 3) 3 [some (vR 111), some (vI c), some (vI 0), some (vI 0)] dX11_seatedIn_3 rfl rfl (by decide) rfl ?_
  exact rl_seatedIn hR hA hw hv hB hc hd hQ 0 (Nat.zero_le _)
