theorem lp_fill {l : Launch} {G : mG} {d : Nat} {I : mI} {L : Nat → Nat → Int} {D : Nat → Nat} {Q : mQ} {a n : Nat} {v : Int} (ha : kd a = (20, n)) (hl : a < 153) (hn : n ≤ 1600) (hQ : Q none (upc I a (fun j => if j < n then v else I a j)) (XX L D)) : ∀ i : Nat, i ≤ n → WP l G m_J7_fill_53178 d 153 (upc I a (fun j => if j < i then v else I a j)) (XX L D) 5 [some (vR a), some (vI v), some (vI (i : Int)), some (vI (n : Int))] [] Q := by
  refine loop_dn (fun i => WP l G m_J7_fill_53178 d 153 (upc I a (fun j => if j < i then v else I a j)) (XX L D) 5 [some (vR a), some (vI v), some (vI (i : Int)), some (vI (n : Int))] [] Q) n ?_ (fun i hi ih => ?_)
  · refine wp_iload_n (pc := 5) 2 dJ7_fill_53178_5 rfl rfl ?_
    refine wp_iload_n (pc := 6) 3 dJ7_fill_53178_6 rfl rfl ?_
    refine wp_icmp_ge (pc := 7) 20 dJ7_fill_53178_7 (by decide) (by omega) (by omega) (fun h_1 => ?_) (fun h_1 => ?_)
    · refine wp_vret (pc := 20) dJ7_fill_53178_20 rfl rfl ?_
      exact hQ
    · exfalso; omega
  · refine wp_iload_n (pc := 5) 2 dJ7_fill_53178_5 rfl rfl ?_
    refine wp_iload_n (pc := 6) 3 dJ7_fill_53178_6 rfl rfl ?_
    refine wp_icmp_ge (pc := 7) 20 dJ7_fill_53178_7 (by decide) (by omega) (by omega) (fun h_1 => ?_) (fun h_1 => ?_)
    · exfalso; omega
    · refine wp_aload_n (pc := 10) 0 dJ7_fill_53178_10 rfl rfl ?_
      refine wp_iload_n (pc := 11) 2 dJ7_fill_53178_11 rfl rfl ?_
      refine wp_iload_n (pc := 12) 1 dJ7_fill_53178_12 rfl rfl ?_
      refine wq_iast (pc := 13) i dJ7_fill_53178_13 ha hl rfl (by omega) ?_
      refine wq_iinc (pc := 14) [some (vR a), some (vI v), some (vI ((i : Int) + 1)), some (vI (n : Int))] dJ7_fill_53178_14 rfl rfl (by decide) rfl ?_
      refine wp_goto (pc := 17) 5 dJ7_fill_53178_17 (by decide) ?_
      refine wp_eqI (I' := upc I a (fun j => if j < (i + 1) then v else I a j)) (by rw [up_upc]; exact congrArg (upc I a) (funext fun j => by by_cases h1 : j = i <;> by_cases h2 : j < i <;> simp [h1, h2] <;> omega)) ?_
      refine wp_eqls (ls' := [some (vR a), some (vI v), some (vI (((i + 1) : Nat) : Int)), some (vI (n : Int))]) (by rfl) ih

theorem sp_fill {l : Launch} {G : mG} {d : Nat} {I : mI} {L : Nat → Nat → Int} {D : Nat → Nat} {Q : mQ} {a n : Nat} {v : Int}  (ha : kd a = (20, n)) (hl : a < 153) (hn : n ≤ 1600) (hd : 0 ≤ d) (hQ : Q none (upc I a (fun j => if j < n then v else I a j)) (XX L D)) : WP l G m_J7_fill_53178 d 153 I (XX L D) 0 [some (vR a), some (vI v), none, none] [] Q := by
  refine wp_iconst (pc := 0) dJ7_fill_53178_0 ?_
  refine wq_istore_n (pc := 1) 2 [some (vR a), some (vI v), some (vI 0), none] dJ7_fill_53178_1 rfl rfl (by decide) rfl ?_
  refine wp_aload_n (pc := 2) 0 dJ7_fill_53178_2 rfl rfl ?_
  refine wp_alen (pc := 3) dJ7_fill_53178_3 ha (by decide) hl ?_
  refine wq_istore_n (pc := 4) 3 [some (vR a), some (vI v), some (vI 0), some (vI (n : Int))] dJ7_fill_53178_4 rfl rfl (by decide) rfl ?_
  refine wp_eqI (I' := upc I a (fun j => if j < 0 then v else I a j)) (by rw [show (fun j => if j < 0 then v else I a j) = I a from funext fun j => if_neg (Nat.not_lt_zero j), upc_id]) ?_
  exact lp_fill ha hl hn hQ 0 (Nat.zero_le _)

theorem lp_calledNext {l : Launch} {G : mG} {d : Nat} {I : mI} {L : Nat → Nat → Int} {D : Nat → Nat} {Q : mQ} {s : Nat} {T : mT} {S : mS} {B : Int} (h3 : isT (D 3)) (hs : isS s) (hT : TT I (D 3) = T) (hS : SS I s = S) (hw : tw T) (hv : sw S B) (hB : B ≤ 100000) (hd : 2 ≤ d) (hQ : ∀ J, Sc I J (D 3) → Q (some (vI ((called T S : Nat) : Int))) J (XX L D)) : ∀ i : Nat, i ≤ nQ T → ∀ f : Nat → Int, (∀ j, j < 4 → f j = (calledN T S i).1 j) → WP l G m_X3_calledNext d 153 (upc I 46 f) (XX L D) 12 [some (vR 45), some (vR s), some (vI (((calledN T S i).2 : Nat) : Int)), some (vI (i : Int))] [] Q := by
  have b0 := tw_q hw
  have eN : nQ T = (T 0 13).toNat := rfl
  have b3 := sw_sun hv
  refine loop_dn (fun i => ∀ f : Nat → Int, (∀ j, j < 4 → f j = (calledN T S i).1 j) → WP l G m_X3_calledNext d 153 (upc I 46 f) (XX L D) 12 [some (vR 45), some (vR s), some (vI (((calledN T S i).2 : Nat) : Int)), some (vI (i : Int))] [] Q) (nQ T) ?_ (fun i hi ih => ?_)
  · intro f hf
    refine wp_iload_n (pc := 12) 3 dX3_calledNext_12 rfl rfl ?_
    refine wp_aload_n (pc := 13) 0 dX3_calledNext_13 rfl rfl ?_
    refine wp_getr (pc := 14) dX3_calledNext_14 rfl f_X3_15 kd_45 la_45 rfl (r_45_1 D) ?_
    refine wp_geti (pc := 17) dX3_calledNext_17 rfl f_X3_19 (tk_0 h3) (tl_0 h3) (Or.inl rfl) ?_
    refine wp_eqst (st' := [vI (T 0 13), vI (((nQ T) : Nat) : Int)]) (by rw [upc_c (by omega), ← hT] <;> rfl) ?_
    refine wp_icmp_ge (pc := 20) 75 dX3_calledNext_20 (by decide) (by omega) (by omega) (fun h_1 => ?_) (fun h_1 => ?_)
    · refine wp_iload_n (pc := 75) 2 dX3_calledNext_75 rfl rfl ?_
      refine wp_iret (pc := 76) dX3_calledNext_76 rfl rfl ?_
      exact hQ _ Sc.uc
    · exfalso; omega
  · intro f hf
    have b4 := sw_stat hv (j := i) (by omega)
    have b5 := sw_c1 hv (j := i) (by omega)
    have b6 := sw_c2 hv (j := i) (by omega)
    have b7 := hf (S (13 + i)).toNat (by omega)
    have b8 := hf (S (18 + i)).toNat (by omega)
    have b9 := calledN_lt T S i
    refine wp_iload_n (pc := 12) 3 dX3_calledNext_12 rfl rfl ?_
    refine wp_aload_n (pc := 13) 0 dX3_calledNext_13 rfl rfl ?_
    refine wp_getr (pc := 14) dX3_calledNext_14 rfl f_X3_15 kd_45 la_45 rfl (r_45_1 D) ?_
    refine wp_geti (pc := 17) dX3_calledNext_17 rfl f_X3_19 (tk_0 h3) (tl_0 h3) (Or.inl rfl) ?_
    refine wp_eqst (st' := [vI (T 0 13), vI (i : Int)]) (by rw [upc_c (by omega), ← hT] <;> rfl) ?_
    refine wp_icmp_ge (pc := 20) 75 dX3_calledNext_20 (by decide) (by omega) (by omega) (fun h_1 => ?_) (fun h_1 => ?_)
    · exfalso; omega
    · refine wp_aload_n (pc := 23) 1 dX3_calledNext_23 rfl rfl ?_
      refine wp_iload_n (pc := 24) 3 dX3_calledNext_24 rfl rfl ?_
      refine wp_callV (pc := 25) (st := []) (nf' := 153) [vI (i : Int)] [some (vR s), some (vI (i : Int))] dX3_calledNext_25 rfl c_X3_25 rfl (sk_0 hs) (by decide) rfl (sl_0 hs) rfl (Nat.le_of_ble_eq_true rfl) rfl (Nat.le_of_ble_eq_true rfl) (by omega) (Nat.le_refl _) (Nat.le_refl _) ?_
      refine wp_aload_n (pc := 0) 0 dX7_status_0 rfl rfl ?_
      refine wp_getr (pc := 1) dX7_status_1 rfl f_X7_11 (sk_0 hs) (sl_0 hs) rfl (sr_0_0 D hs) ?_
      refine wp_bipush (pc := 4) dX7_status_4 (by decide) ?_
      refine wp_iload_n (pc := 6) 1 dX7_status_6 rfl rfl ?_
      refine wp_iadd (pc := 7) dX7_status_7 ?_
      refine wq_iald (pc := 8) (8 + i) dX7_status_8 (sk_1 hs) (sl_1 hs) (by omega) (by omega) ?_
      refine wp_eqst (st' := [vI (S (8 + i))]) (by rw [upc_c (by omega), ← hS] <;> rfl) ?_
      refine wp_iret (pc := 9) dX7_status_9 rfl rfl ?_
      refine wp_eqst (st' := [vI (S (8 + i))]) rfl ?_
      refine wp_if_ne (pc := 28) 69 dX3_calledNext_28 (by decide) (by omega) (fun h_2 => ?_) (fun h_2 => ?_)
      · refine wq_iinc (pc := 69) [some (vR 45), some (vR s), some (vI (((calledN T S i).2 : Nat) : Int)), some (vI ((i : Int) + 1))] dX3_calledNext_69 rfl rfl (by decide) rfl ?_
        refine wp_goto (pc := 72) 12 dX3_calledNext_72 (by decide) ?_
        have e1 : calledN T S (i + 1) = calledN T S i := calledN_n (fun z => by first | (have z1 := z.1; omega) | exact z.2.1 h_1 | (have z2 := z.2.2; omega))
        refine wp_eqls (ls' := [some (vR 45), some (vR s), some (vI (((calledN T S (i + 1)).2 : Nat) : Int)), some (vI (((i + 1) : Nat) : Int))]) (by rw [e1]; rfl) (ih _ ?_)
        rw [e1]; exact hf
      · refine wp_aload_n (pc := 31) 0 dX3_calledNext_31 rfl rfl ?_
        refine wp_getr (pc := 32) dX3_calledNext_32 rfl f_X3_15 kd_45 la_45 rfl (r_45_1 D) ?_
        refine wp_iload_n (pc := 35) 3 dX3_calledNext_35 rfl rfl ?_
        refine wp_aload_n (pc := 36) 1 dX3_calledNext_36 rfl rfl ?_
        refine wp_callV (pc := 37) (st := [vI (i : Int), vR (D 3)]) (nf' := 153) [] [some (vR s)] dX3_calledNext_37 rfl c_X3_76 rfl (sk_0 hs) (by decide) rfl (sl_0 hs) rfl (Nat.le_of_ble_eq_true rfl) rfl (Nat.le_of_ble_eq_true rfl) (by omega) (Nat.le_refl _) (Nat.le_refl _) ?_
        refine wp_aload_n (pc := 0) 0 dX7_nextSunday_0 rfl rfl ?_
        refine wp_getr (pc := 1) dX7_nextSunday_1 rfl f_X7_11 (sk_0 hs) (sl_0 hs) rfl (sr_0_0 D hs) ?_
        refine wp_bipush (pc := 4) dX7_nextSunday_4 (by decide) ?_
        refine wq_iald (pc := 6) 28 dX7_nextSunday_6 (sk_1 hs) (sl_1 hs) rfl (by decide) ?_
        refine wp_eqst (st' := [vI (S 28)]) (by rw [upc_c (by omega), ← hS] <;> rfl) ?_
        refine wp_iconst (pc := 7) dX7_nextSunday_7 ?_
        refine wp_iadd (pc := 8) dX7_nextSunday_8 ?_
        refine wp_iret (pc := 9) dX7_nextSunday_9 rfl rfl ?_
        refine wp_eqst (st' := [vI ((S 28) + 1), vI (i : Int), vR (D 3)]) rfl ?_
        refine wp_callV (pc := 40) (st := []) (nf' := 153) [vI (i : Int), vI ((S 28) + 1)] [some (vR (D 3)), some (vI (i : Int)), some (vI ((S 28) + 1))] dX3_calledNext_40 rfl c_X3_90 rfl (tk_0 h3) (by decide) rfl (tl_0 h3) rfl (Nat.le_of_ble_eq_true rfl) rfl (Nat.le_of_ble_eq_true rfl) (by omega) (Nat.le_refl _) (Nat.le_refl _) ?_
        refine sp_isPairAway i rfl h3 (Sc.uc.tt h3 hT) hw (by omega) (by omega) (by omega) (fun h_3 => ?_) (fun h_3 => ?_)
        · refine wp_eqst (st' := [vI 1]) rfl ?_
          refine wp_if_ne (pc := 43) 69 dX3_calledNext_43 (by decide) (by decide) (fun _ => ?_) (fun hh => absurd hh (by decide))
          refine wq_iinc (pc := 69) [some (vR 45), some (vR s), some (vI (((calledN T S i).2 : Nat) : Int)), some (vI ((i : Int) + 1))] dX3_calledNext_69 rfl rfl (by decide) rfl ?_
          refine wp_goto (pc := 72) 12 dX3_calledNext_72 (by decide) ?_
          have e1 : calledN T S (i + 1) = calledN T S i := calledN_n (fun z => by first | (have z1 := z.1; omega) | exact z.2.1 h_3 | (have z2 := z.2.2; omega))
          refine wp_eqls (ls' := [some (vR 45), some (vR s), some (vI (((calledN T S (i + 1)).2 : Nat) : Int)), some (vI (((i + 1) : Nat) : Int))]) (by rw [e1]; rfl) (ih _ ?_)
          rw [e1]; exact hf
        · refine wp_eqst (st' := [vI 0]) rfl ?_
          refine wp_if_ne (pc := 43) 69 dX3_calledNext_43 (by decide) (by decide) (fun hh => absurd hh (by decide)) (fun _ => ?_)
          refine wp_aload_n (pc := 46) 0 dX3_calledNext_46 rfl rfl ?_
          refine wp_aload_n (pc := 47) 1 dX3_calledNext_47 rfl rfl ?_
          refine wp_iload_n (pc := 48) 3 dX3_calledNext_48 rfl rfl ?_
          refine wp_callV (pc := 49) (st := [vR 45]) (nf' := 153) [vI (i : Int)] [some (vR s), some (vI (i : Int))] dX3_calledNext_49 rfl c_X3_93 rfl (sk_0 hs) (by decide) rfl (sl_0 hs) rfl (Nat.le_of_ble_eq_true rfl) rfl (Nat.le_of_ble_eq_true rfl) (by omega) (Nat.le_refl _) (Nat.le_refl _) ?_
          refine wp_aload_n (pc := 0) 0 dX7_churchOne_0 rfl rfl ?_
          refine wp_getr (pc := 1) dX7_churchOne_1 rfl f_X7_11 (sk_0 hs) (sl_0 hs) rfl (sr_0_0 D hs) ?_
          refine wp_bipush (pc := 4) dX7_churchOne_4 (by decide) ?_
          refine wp_iload_n (pc := 6) 1 dX7_churchOne_6 rfl rfl ?_
          refine wp_iadd (pc := 7) dX7_churchOne_7 ?_
          refine wq_iald (pc := 8) (13 + i) dX7_churchOne_8 (sk_1 hs) (sl_1 hs) (by omega) (by omega) ?_
          refine wp_eqst (st' := [vI (S (13 + i))]) (by rw [upc_c (by omega), ← hS] <;> rfl) ?_
          refine wp_iret (pc := 9) dX7_churchOne_9 rfl rfl ?_
          refine wp_eqst (st' := [vI (S (13 + i)), vR 45]) rfl ?_
          refine wp_aload_n (pc := 52) 1 dX3_calledNext_52 rfl rfl ?_
          refine wp_iload_n (pc := 53) 3 dX3_calledNext_53 rfl rfl ?_
          refine wp_callV (pc := 54) (st := [vI (S (13 + i)), vR 45]) (nf' := 153) [vI (i : Int)] [some (vR s), some (vI (i : Int))] dX3_calledNext_54 rfl c_X3_96 rfl (sk_0 hs) (by decide) rfl (sl_0 hs) rfl (Nat.le_of_ble_eq_true rfl) rfl (Nat.le_of_ble_eq_true rfl) (by omega) (Nat.le_refl _) (Nat.le_refl _) ?_
          refine wp_aload_n (pc := 0) 0 dX7_churchOther_0 rfl rfl ?_
          refine wp_getr (pc := 1) dX7_churchOther_1 rfl f_X7_11 (sk_0 hs) (sl_0 hs) rfl (sr_0_0 D hs) ?_
          refine wp_bipush (pc := 4) dX7_churchOther_4 (by decide) ?_
          refine wp_iload_n (pc := 6) 1 dX7_churchOther_6 rfl rfl ?_
          refine wp_iadd (pc := 7) dX7_churchOther_7 ?_
          refine wq_iald (pc := 8) (18 + i) dX7_churchOther_8 (sk_1 hs) (sl_1 hs) (by omega) (by omega) ?_
          refine wp_eqst (st' := [vI (S (18 + i))]) (by rw [upc_c (by omega), ← hS] <;> rfl) ?_
          refine wp_iret (pc := 9) dX7_churchOther_9 rfl rfl ?_
          refine wp_eqst (st' := [vI (S (18 + i)), vI (S (13 + i)), vR 45]) rfl ?_
          refine wp_callV (pc := 57) (st := []) (nf' := 153) [vI (S (13 + i)), vI (S (18 + i))] [some (vR 45), some (vI (S (13 + i))), some (vI (S (18 + i)))] dX3_calledNext_57 rfl c_X3_99 rfl kd_45 (by decide) rfl la_45 rfl (Nat.le_of_ble_eq_true rfl) rfl (Nat.le_of_ble_eq_true rfl) (by omega) (Nat.le_refl _) (Nat.le_refl _) ?_
          refine sp_takesCall (Int.toNat (S (13 + i))) (by omega) (Int.toNat (S (18 + i))) (by omega) h3 hT hw (by omega) (by omega) (fun j hj => by rw [hf j hj]; have := calledN_in T S i j; omega) (by omega) (fun h_4 => ?_) (fun h_4 => ?_)
          · refine wp_eqst (st' := [vI 1]) rfl ?_
            refine wp_if_eq (pc := 60) 69 dX3_calledNext_60 (by decide) (by decide) (fun hh => absurd hh (by decide)) (fun _ => ?_)
            refine wp_iload_n (pc := 63) 2 dX3_calledNext_63 rfl rfl ?_
            refine wp_iconst (pc := 64) dX3_calledNext_64 ?_
            refine wp_iload_n (pc := 65) 3 dX3_calledNext_65 rfl rfl ?_
            refine wn_shl1 (pc := 66) i dX3_calledNext_66 rfl (by omega) ?_
            refine wn_or (pc := 67) ((calledN T S i).2) (2 ^ i) dX3_calledNext_67 rfl rfl ?_
            refine wq_istore_n (pc := 68) 2 [some (vR 45), some (vR s), some (vI ((((calledN T S i).2) ||| (2 ^ i) : Nat) : Int)), some (vI (i : Int))] dX3_calledNext_68 rfl rfl (by decide) rfl ?_
            refine wq_iinc (pc := 69) [some (vR 45), some (vR s), some (vI ((((calledN T S i).2) ||| (2 ^ i) : Nat) : Int)), some (vI ((i : Int) + 1))] dX3_calledNext_69 rfl rfl (by decide) rfl ?_
            refine wp_goto (pc := 72) 12 dX3_calledNext_72 (by decide) ?_
            have e1 : calledN T S (i + 1) = (inc2 (calledN T S i).1 (S (13 + i)).toNat (S (18 + i)).toNat, (calledN T S i).2 ||| 2 ^ i) := calledN_y (by omega) h_3 (by omega) (by omega)
            refine wp_eqls (ls' := [some (vR 45), some (vR s), some (vI (((calledN T S (i + 1)).2 : Nat) : Int)), some (vI (((i + 1) : Nat) : Int))]) (by rw [e1]; rfl) (ih _ ?_)
            rw [e1]
            intro j hj
            show inc2 f _ _ j = inc2 _ _ _ j
            unfold inc2
            split <;> (dsimp only; repeat' split) <;> first | omega | rw [hf j hj]
          · refine wp_eqst (st' := [vI 0]) rfl ?_
            refine wp_if_eq (pc := 60) 69 dX3_calledNext_60 (by decide) (by decide) (fun _ => ?_) (fun hh => absurd hh (by decide))
            refine wq_iinc (pc := 69) [some (vR 45), some (vR s), some (vI (((calledN T S i).2 : Nat) : Int)), some (vI ((i : Int) + 1))] dX3_calledNext_69 rfl rfl (by decide) rfl ?_
            refine wp_goto (pc := 72) 12 dX3_calledNext_72 (by decide) ?_
            have e1 : calledN T S (i + 1) = calledN T S i := calledN_n (fun z => by first | (have z1 := z.1; omega) | exact z.2.1 h_3 | (have z2 := z.2.2; omega))
            refine wp_eqls (ls' := [some (vR 45), some (vR s), some (vI (((calledN T S (i + 1)).2 : Nat) : Int)), some (vI (((i + 1) : Nat) : Int))]) (by rw [e1]; rfl) (ih _ ?_)
            rw [e1]; exact hf

theorem sp_calledNext {l : Launch} {G : mG} {d : Nat} {I : mI} {L : Nat → Nat → Int} {D : Nat → Nat} {Q : mQ} {s : Nat} {T : mT} {S : mS} {B : Int}  (h3 : isT (D 3)) (hs : isS s) (hT : TT I (D 3) = T) (hS : SS I s = S) (hw : tw T) (hv : sw S B) (hB : B ≤ 100000) (hd : 2 ≤ d) (hQ : ∀ J, Sc I J (D 3) → Q (some (vI ((called T S : Nat) : Int))) J (XX L D)) : WP l G m_X3_calledNext d 153 I (XX L D) 0 [some (vR 45), some (vR s), none, none] [] Q := by
  refine wp_aload_n (pc := 0) 0 dX3_calledNext_0 rfl rfl ?_
  refine wp_getr (pc := 1) dX3_calledNext_1 rfl f_X3_9 kd_45 la_45 rfl (r_45_0 D) ?_
  refine wp_iconst (pc := 4) dX3_calledNext_4 ?_
  refine wp_callS (pc := 5) (st := []) (nf' := 153) [vR 46, vI 0] [some (vR 46), some (vI 0), none, none] dX3_calledNext_5 rfl c_X3_84 rfl rfl (Nat.le_of_ble_eq_true rfl) rfl (Nat.le_of_ble_eq_true rfl) (by omega) (Nat.le_refl _) (Nat.le_refl _) ?_
  refine sp_fill kd_46 la_46 (by decide) (by omega) ?_
  refine wp_eqst (st' := []) rfl ?_
  refine wp_iconst (pc := 8) dX3_calledNext_8 ?_
  refine wq_istore_n (pc := 9) 2 [some (vR 45), some (vR s), some (vI 0), none] dX3_calledNext_9 rfl rfl (by decide) rfl ?_
  refine wp_iconst (pc := 10) dX3_calledNext_10 ?_
  refine wq_istore_n (pc := 11) 3 [some (vR 45), some (vR s), some (vI 0), some (vI 0)] dX3_calledNext_11 rfl rfl (by decide) rfl ?_
  exact lp_calledNext h3 hs hT hS hw hv hB hd hQ 0 (Nat.zero_le _) _ (fun j hj => if_pos hj)
