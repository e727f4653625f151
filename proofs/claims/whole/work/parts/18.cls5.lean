theorem tmod10 {x : Int} (h : 0 ≤ x) : 0 ≤ Int.tmod x 10 ∧ Int.tmod x 10 ≤ 9 := by
  rw [Int.tmod_eq_emod_of_nonneg h]
  omega

theorem sp_drawTenth {l : Launch} {G : mG} {d : Nat} {I : mI} {L : Nat → Nat → Int} {D : Nat → Nat} {Q : mQ} {s : Nat} {S : mS} {B z : Int}  (hs : isS s) (hS : SS I s = setF S 29 z) (hv : sw (setF S 29 z) B) (hd : 0 ≤ d) (hQ : Q (some (vI (Int.tmod (nextZ z) 10))) (up I (s + 1) 29 (nextZ z)) (XX L D)) : WP l G m_X7_drawTenth d 153 I (XX L D) 0 [some (vR s)] [] Q := by
  have b1 := sw_seed hv
  have e1 : setF S 29 z 29 = z := setF_s
  have b2 : 0 ≤ Int.tmod (setF S 29 z 29 * 137 + 71) 1000 ∧ Int.tmod (setF S 29 z 29 * 137 + 71) 1000 ≤ 999 := nextZ_in (z := setF S 29 z 29) b1
  refine wp_aload_n (pc := 0) 0 dX7_drawTenth_0 rfl rfl ?_
  refine wp_getr (pc := 1) dX7_drawTenth_1 rfl f_X7_11 (sk_0 hs) (sl_0 hs) rfl (sr_0_0 D hs) ?_
  refine wp_bipush (pc := 4) dX7_drawTenth_4 (by decide) ?_
  refine wp_aload_n (pc := 6) 0 dX7_drawTenth_6 rfl rfl ?_
  refine wp_getr (pc := 7) dX7_drawTenth_7 rfl f_X7_11 (sk_0 hs) (sl_0 hs) rfl (sr_0_0 D hs) ?_
  refine wp_bipush (pc := 10) dX7_drawTenth_10 (by decide) ?_
  refine wq_iald (pc := 12) 29 dX7_drawTenth_12 (sk_1 hs) (sl_1 hs) rfl (by decide) ?_
  refine wp_eqst (st' := [vI ((setF S 29 z) 29), vI 29, vR (s + 1)]) (by rw [← hS] <;> rfl) ?_
  refine wp_sipush (pc := 13) dX7_drawTenth_13 (by decide) ?_
  refine wp_imul (pc := 16) dX7_drawTenth_16 ?_
  refine wp_bipush (pc := 17) dX7_drawTenth_17 (by decide) ?_
  refine wp_iadd (pc := 19) dX7_drawTenth_19 ?_
  refine wp_sipush (pc := 20) dX7_drawTenth_20 (by decide) ?_
  refine wp_irem (pc := 23) dX7_drawTenth_23 (by omega) (by omega) (by omega) ?_
  refine wq_iast (pc := 24) 29 dX7_drawTenth_24 (sk_1 hs) (sl_1 hs) rfl (by decide) ?_
  refine wp_aload_n (pc := 25) 0 dX7_drawTenth_25 rfl rfl ?_
  refine wp_getr (pc := 26) dX7_drawTenth_26 rfl f_X7_11 (sk_0 hs) (sl_0 hs) rfl (sr_0_0 D hs) ?_
  refine wp_bipush (pc := 29) dX7_drawTenth_29 (by decide) ?_
  refine wq_iald (pc := 31) 29 dX7_drawTenth_31 (sk_1 hs) (sl_1 hs) rfl (by decide) ?_
  refine wp_eqst (st' := [vI (Int.tmod ((((setF S 29 z) 29) * 137) + 71) 1000)]) (by rw [up_s]) ?_
  refine wp_bipush (pc := 32) dX7_drawTenth_32 (by decide) ?_
  refine wp_irem (pc := 34) dX7_drawTenth_34 (by omega) (by omega) (by omega) ?_
  refine wp_iret (pc := 35) dX7_drawTenth_35 rfl rfl ?_
  rw [e1] at *; exact hQ

theorem lp_risen {l : Launch} {G : mG} {d : Nat} {I : mI} {L : Nat → Nat → Int} {D : Nat → Nat} {Q : mQ} {s : Nat} {T : mT} {S : mS} {B : Int} {q cl : Nat} (h3 : isT (D 3)) (hs : isS s) (hT : TT I (D 3) = T) (hS : SS I s = S) (hw : tw T) (hv : sw S B) (hB : B ≤ 100000) (hcd : ∀ j, inR (T 18 j)) (hq : q < 5) (hcl : cl < 256) (hd : 4 ≤ d) : ∀ i : Nat, i ≤ nP T → ∀ z J, 0 ≤ z ∧ z ≤ 999 → Ss I J (D 3) s → SS J s = setF S 29 z → (∀ K, Ss I K (D 3) s → SS K s = setF S 29 (rgo T S (lisF T S q) cl (nP T - i) i z).2 → ((rgo T S (lisF T S q) cl (nP T - i) i z).1 = true → Q (some (vI 1)) K (XX L D)) ∧ ((rgo T S (lisF T S q) cl (nP T - i) i z).1 = false → Q (some (vI 0)) K (XX L D))) → WP l G m_X3_isRisenAgainst d 153 J (XX L D) 27 [some (vR 45), some (vR s), some (vI (q : Int)), some (vI (cl : Int)), some (vI ((lisF T S q : Nat) : Int)), some (vI (i : Int))] [] Q := by
  have b0 := tw_p hw
  have eN : nP T = (T 0 12).toNat := rfl
  have b1 : lisF T S q < 256 := Nat.lt_of_le_of_lt Nat.and_le_left (risers_lt hw S q)
  refine loop_dn (fun i => ∀ z J, 0 ≤ z ∧ z ≤ 999 → Ss I J (D 3) s → SS J s = setF S 29 z → (∀ K, Ss I K (D 3) s → SS K s = setF S 29 (rgo T S (lisF T S q) cl (nP T - i) i z).2 → ((rgo T S (lisF T S q) cl (nP T - i) i z).1 = true → Q (some (vI 1)) K (XX L D)) ∧ ((rgo T S (lisF T S q) cl (nP T - i) i z).1 = false → Q (some (vI 0)) K (XX L D))) → WP l G m_X3_isRisenAgainst d 153 J (XX L D) 27 [some (vR 45), some (vR s), some (vI (q : Int)), some (vI (cl : Int)), some (vI ((lisF T S q : Nat) : Int)), some (vI (i : Int))] [] Q) (nP T) ?_ (fun i hi ih => ?_)
  · intro z J hz hJ hS0 hQ
    have hT0 := hJ.tt h3 hs hT
    refine wp_iload (pc := 27) dX3_isRisenAgainst_27 rfl ?_
    refine wp_aload_n (pc := 29) 0 dX3_isRisenAgainst_29 rfl rfl ?_
    refine wp_getr (pc := 30) dX3_isRisenAgainst_30 rfl f_X3_15 kd_45 la_45 rfl (r_45_1 D) ?_
    refine wp_geti (pc := 33) dX3_isRisenAgainst_33 rfl f_X3_64 (tk_0 h3) (tl_0 h3) (Or.inl rfl) ?_
    refine wp_eqst (st' := [vI (T 0 12), vI (((nP T) : Nat) : Int)]) (by rw [← hT0] <;> rfl) ?_
    refine wp_icmp_ge (pc := 36) 73 dX3_isRisenAgainst_36 (by decide) (by omega) (by omega) (fun h_1 => ?_) (fun h_1 => ?_)
    · refine wp_iconst (pc := 73) dX3_isRisenAgainst_73 ?_
      refine wp_zret (pc := 74) dX3_isRisenAgainst_74 rfl rfl (by decide) ?_
      have hq := hQ J hJ
      rw [Nat.sub_self] at hq
      exact (hq hS0).2 rfl
    · exfalso; omega
  · intro z J hz hJ hS0 hQ
    have hT0 := hJ.tt h3 hs hT
    have b9 := bit_lt (lisF T S q) i
    have b8 := ear_in T (setF S 29 (nextZ z)) i cl
    have b7 := nextZ_in hz
    have b6 := tmod10 b7.1
    refine wp_iload (pc := 27) dX3_isRisenAgainst_27 rfl ?_
    refine wp_aload_n (pc := 29) 0 dX3_isRisenAgainst_29 rfl rfl ?_
    refine wp_getr (pc := 30) dX3_isRisenAgainst_30 rfl f_X3_15 kd_45 la_45 rfl (r_45_1 D) ?_
    refine wp_geti (pc := 33) dX3_isRisenAgainst_33 rfl f_X3_64 (tk_0 h3) (tl_0 h3) (Or.inl rfl) ?_
    refine wp_eqst (st' := [vI (T 0 12), vI (i : Int)]) (by rw [← hT0] <;> rfl) ?_
    refine wp_icmp_ge (pc := 36) 73 dX3_isRisenAgainst_36 (by decide) (by omega) (by omega) (fun h_1 => ?_) (fun h_1 => ?_)
    · exfalso; omega
    · refine wp_iload (pc := 39) dX3_isRisenAgainst_39 rfl ?_
      refine wp_iload (pc := 41) dX3_isRisenAgainst_41 rfl ?_
      refine wn_shr (pc := 43) (lisF T S q) i dX3_isRisenAgainst_43 rfl rfl (by omega) (by omega) ?_
      refine wp_iconst (pc := 44) dX3_isRisenAgainst_44 ?_
      refine wn_mask (pc := 45) ((lisF T S q) / 2 ^ i) 1 dX3_isRisenAgainst_45 rfl rfl (by decide) ?_
      refine wp_iconst (pc := 46) dX3_isRisenAgainst_46 ?_
      refine wp_icmp_ne (pc := 47) 67 dX3_isRisenAgainst_47 (by decide) (by omega) (by decide) (fun h_2 => ?_) (fun h_2 => ?_)
      · refine wq_iinc (pc := 67) [some (vR 45), some (vR s), some (vI (q : Int)), some (vI (cl : Int)), some (vI ((lisF T S q : Nat) : Int)), some (vI ((i : Int) + 1))] dX3_isRisenAgainst_67 rfl rfl (by decide) rfl ?_
        refine wp_goto (pc := 70) 27 dX3_isRisenAgainst_70 (by decide) ?_
        have er : nP T - i = (nP T - (i + 1)) + 1 := by omega
        rw [er, rgo] at hQ
        rw [if_neg (fun x => absurd ((bit_iff _ i).mpr x) h_2)] at hQ
        refine wp_eqls (ls' := [some (vR 45), some (vR s), some (vI (q : Int)), some (vI (cl : Int)), some (vI ((lisF T S q : Nat) : Int)), some (vI (((i + 1) : Nat) : Int))]) rfl (ih z J hz hJ hS0 hQ)
      · refine wp_aload_n (pc := 50) 1 dX3_isRisenAgainst_50 rfl rfl ?_
        refine wp_callV (pc := 51) (st := []) (nf' := 153) [] [some (vR s)] dX3_isRisenAgainst_51 rfl c_X3_178 rfl (sk_0 hs) (by decide) rfl (sl_0 hs) rfl (Nat.le_of_ble_eq_true rfl) rfl (Nat.le_of_ble_eq_true rfl) (by omega) (Nat.le_refl _) (Nat.le_refl _) ?_
        refine sp_drawTenth hs hS0 (sw_29 hv hz) (by omega) ?_
        have hz2 := nextZ_in hz
        have hJd : Ss I (up J (s + 1) 29 (nextZ z)) (D 3) s := hJ.up
        have hTd := hJd.tt h3 hs hT
        have hSd : SS (up J (s + 1) 29 (nextZ z)) s = setF S 29 (nextZ z) := by rw [SS_up hS0]; funext j; unfold setF; split <;> rfl
        refine wp_eqst (st' := [vI (Int.tmod (nextZ z) 10)]) rfl ?_
        refine wp_aload_n (pc := 54) 0 dX3_isRisenAgainst_54 rfl rfl ?_
        refine wp_aload_n (pc := 55) 1 dX3_isRisenAgainst_55 rfl rfl ?_
        refine wp_iload (pc := 56) dX3_isRisenAgainst_56 rfl ?_
        refine wp_iload_n (pc := 58) 3 dX3_isRisenAgainst_58 rfl rfl ?_
        refine wp_callV (pc := 59) (st := [vI (Int.tmod (nextZ z) 10)]) (nf' := 153) [vR s, vI (i : Int), vI (cl : Int)] [some (vR 45), some (vR s), some (vI (i : Int)), some (vI (cl : Int)), none, none, none, none, none] dX3_isRisenAgainst_59 rfl c_X3_153 rfl kd_45 (by decide) rfl la_45 rfl (Nat.le_of_ble_eq_true rfl) rfl (Nat.le_of_ble_eq_true rfl) (by omega) (Nat.le_refl _) (Nat.le_refl _) ?_
        refine sp_earOf i rfl cl rfl h3 hs hTd hSd hw (sw_29 hv hz2) (by omega) hcd (by omega) (by omega) (by omega) (fun J1 hJ1 => ?_)
        have hTd1 := hJ1.tt h3 hTd
        have hSd1 := hJ1.ss h3 hs hSd
        refine wp_eqst (st' := [vI (ear T (setF S 29 (nextZ z)) i cl), vI (Int.tmod (nextZ z) 10)]) rfl ?_
        refine wp_icmp_ge (pc := 62) 67 dX3_isRisenAgainst_62 (by decide) (by omega) (by omega) (fun h_3 => ?_) (fun h_3 => ?_)
        · refine wq_iinc (pc := 67) [some (vR 45), some (vR s), some (vI (q : Int)), some (vI (cl : Int)), some (vI ((lisF T S q : Nat) : Int)), some (vI ((i : Int) + 1))] dX3_isRisenAgainst_67 rfl rfl (by decide) rfl ?_
          refine wp_goto (pc := 70) 27 dX3_isRisenAgainst_70 (by decide) ?_
          have er : nP T - i = (nP T - (i + 1)) + 1 := by omega
          rw [er, rgo] at hQ
          rw [if_pos ((bit_iff _ i).mp h_2)] at hQ
          rw [(ear_congr (S := S) hw (by omega) (fun j hj => setF_n (by omega)) (fun j hj => setF_n (by omega)) (fun j hj => setF_n (by omega)) (setF_n (by decide)))] at h_3
          rw [if_neg (by omega)] at hQ
          refine wp_eqls (ls' := [some (vR 45), some (vR s), some (vI (q : Int)), some (vI (cl : Int)), some (vI ((lisF T S q : Nat) : Int)), some (vI (((i + 1) : Nat) : Int))]) rfl (ih (nextZ z) _ hz2 (hJd.sc hJ1) hSd1 hQ)
        · refine wp_iconst (pc := 65) dX3_isRisenAgainst_65 ?_
          refine wp_zret (pc := 66) dX3_isRisenAgainst_66 rfl rfl (by decide) ?_
          have er : nP T - i = (nP T - (i + 1)) + 1 := by omega
          rw [er, rgo] at hQ
          rw [if_pos ((bit_iff _ i).mp h_2)] at hQ
          rw [(ear_congr (S := S) hw (by omega) (fun j hj => setF_n (by omega)) (fun j hj => setF_n (by omega)) (fun j hj => setF_n (by omega)) (setF_n (by decide)))] at h_3
          rw [if_pos (by omega)] at hQ
          exact (hQ _ (hJd.sc hJ1) hSd1).1 rfl

theorem sp_isRisenAgainst {l : Launch} {G : mG} {d : Nat} {I : mI} {L : Nat → Nat → Int} {D : Nat → Nat} {Q : mQ} {s : Nat} {T : mT} {S : mS} {B : Int} (q : Nat) {q_ : Int} (hq_ : q_ = (q : Int)) (cl : Nat) {cl_ : Int} (hcl_ : cl_ = (cl : Int)) (h3 : isT (D 3)) (hs : isS s) (hT : TT I (D 3) = T) (hS : SS I s = S) (hw : tw T) (hv : sw S B) (hB : B ≤ 100000) (hcd : ∀ j, inR (T 18 j)) (hq : q < 5) (hcl : cl < 256) (hd : 4 ≤ d) (hQ : (∀ K, Ss I K (D 3) s → SS K s = setF S 29 (risen T S q cl).2 → ((risen T S q cl).1 = true → Q (some (vI 1)) K (XX L D)) ∧ ((risen T S q cl).1 = false → Q (some (vI 0)) K (XX L D)))) : WP l G m_X3_isRisenAgainst d 153 I (XX L D) 0 [some (vR 45), some (vR s), some (vI q_), some (vI cl_), none, none] [] Q := by
  subst hq_
  subst hcl_
  have b5 := sw_c1 hv hq
  have b6 := sw_c2 hv hq
  refine wp_aload_n (pc := 0) 0 dX3_isRisenAgainst_0 rfl rfl ?_
  refine wp_aload_n (pc := 1) 1 dX3_isRisenAgainst_1 rfl rfl ?_
  refine wp_iload_n (pc := 2) 2 dX3_isRisenAgainst_2 rfl rfl ?_
  refine wp_callV (pc := 3) (st := []) (nf' := 153) [vR s, vI (q : Int)] [some (vR 45), some (vR s), some (vI (q : Int)), none, none, none, none, none, none] dX3_isRisenAgainst_3 rfl c_X3_146 rfl kd_45 (by decide) rfl la_45 rfl (Nat.le_of_ble_eq_true rfl) rfl (Nat.le_of_ble_eq_true rfl) (by omega) (Nat.le_refl _) (Nat.le_refl _) ?_
  refine sp_risersOf q rfl h3 hs hT hS hw hv (by omega) (by omega) ?_
  refine wp_eqst (st' := [vI ((risers T S q : Nat) : Int)]) rfl ?_
  refine wp_aload_n (pc := 6) 0 dX3_isRisenAgainst_6 rfl rfl ?_
  refine wp_aload_n (pc := 7) 1 dX3_isRisenAgainst_7 rfl rfl ?_
  refine wp_aload_n (pc := 8) 1 dX3_isRisenAgainst_8 rfl rfl ?_
  refine wp_iload_n (pc := 9) 2 dX3_isRisenAgainst_9 rfl rfl ?_
  refine wp_callV (pc := 10) (st := [vR s, vR 45, vI ((risers T S q : Nat) : Int)]) (nf' := 153) [vI (q : Int)] [some (vR s), some (vI (q : Int))] dX3_isRisenAgainst_10 rfl c_X3_93 rfl (sk_0 hs) (by decide) rfl (sl_0 hs) rfl (Nat.le_of_ble_eq_true rfl) rfl (Nat.le_of_ble_eq_true rfl) (by omega) (Nat.le_refl _) (Nat.le_refl _) ?_
  refine wp_aload_n (pc := 0) 0 dX7_churchOne_0 rfl rfl ?_
  refine wp_getr (pc := 1) dX7_churchOne_1 rfl f_X7_11 (sk_0 hs) (sl_0 hs) rfl (sr_0_0 D hs) ?_
  refine wp_bipush (pc := 4) dX7_churchOne_4 (by decide) ?_
  refine wp_iload_n (pc := 6) 1 dX7_churchOne_6 rfl rfl ?_
  refine wp_iadd (pc := 7) dX7_churchOne_7 ?_
  refine wq_iald (pc := 8) (13 + q) dX7_churchOne_8 (sk_1 hs) (sl_1 hs) (by omega) (by omega) ?_
  refine wp_eqst (st' := [vI (S (13 + q))]) (by rw [← hS] <;> rfl) ?_
  refine wp_iret (pc := 9) dX7_churchOne_9 rfl rfl ?_
  refine wp_eqst (st' := [vI (S (13 + q)), vR s, vR 45, vI ((risers T S q : Nat) : Int)]) rfl ?_
  refine wp_aload_n (pc := 13) 1 dX3_isRisenAgainst_13 rfl rfl ?_
  refine wp_iload_n (pc := 14) 2 dX3_isRisenAgainst_14 rfl rfl ?_
  refine wp_callV (pc := 15) (st := [vI (S (13 + q)), vR s, vR 45, vI ((risers T S q : Nat) : Int)]) (nf' := 153) [vI (q : Int)] [some (vR s), some (vI (q : Int))] dX3_isRisenAgainst_15 rfl c_X3_96 rfl (sk_0 hs) (by decide) rfl (sl_0 hs) rfl (Nat.le_of_ble_eq_true rfl) rfl (Nat.le_of_ble_eq_true rfl) (by omega) (Nat.le_refl _) (Nat.le_refl _) ?_
  refine wp_aload_n (pc := 0) 0 dX7_churchOther_0 rfl rfl ?_
  refine wp_getr (pc := 1) dX7_churchOther_1 rfl f_X7_11 (sk_0 hs) (sl_0 hs) rfl (sr_0_0 D hs) ?_
  refine wp_bipush (pc := 4) dX7_churchOther_4 (by decide) ?_
  refine wp_iload_n (pc := 6) 1 dX7_churchOther_6 rfl rfl ?_
  refine wp_iadd (pc := 7) dX7_churchOther_7 ?_
  refine wq_iald (pc := 8) (18 + q) dX7_churchOther_8 (sk_1 hs) (sl_1 hs) (by omega) (by omega) ?_
  refine wp_eqst (st' := [vI (S (18 + q))]) (by rw [← hS] <;> rfl) ?_
  refine wp_iret (pc := 9) dX7_churchOther_9 rfl rfl ?_
  refine wp_eqst (st' := [vI (S (18 + q)), vI (S (13 + q)), vR s, vR 45, vI ((risers T S q : Nat) : Int)]) rfl ?_
  refine wp_callV (pc := 18) (st := [vI ((risers T S q : Nat) : Int)]) (nf' := 153) [vR s, vI (S (13 + q)), vI (S (18 + q))] [some (vR 45), some (vR s), some (vI (S (13 + q))), some (vI (S (18 + q))), none, none, none] dX3_isRisenAgainst_18 rfl c_X3_127 rfl kd_45 (by decide) rfl la_45 rfl (Nat.le_of_ble_eq_true rfl) rfl (Nat.le_of_ble_eq_true rfl) (by omega) (Nat.le_refl _) (Nat.le_refl _) ?_
  refine sp_presentIn h3 hs hT hS hw hv (by omega) (by omega) (by omega) (by omega) ?_
  refine wp_eqst (st' := [vI ((present T S (S (13 + q)) (S (18 + q)) : Nat) : Int), vI ((risers T S q : Nat) : Int)]) rfl ?_
  refine wn_and (pc := 21) (risers T S q) (present T S (S (13 + q)) (S (18 + q))) dX3_isRisenAgainst_21 rfl rfl ?_
  refine wq_istore (pc := 22) [some (vR 45), some (vR s), some (vI (q : Int)), some (vI (cl : Int)), some (vI (((risers T S q) &&& (present T S (S (13 + q)) (S (18 + q))) : Nat) : Int)), none] dX3_isRisenAgainst_22 rfl (by decide) rfl ?_
  refine wp_iconst (pc := 24) dX3_isRisenAgainst_24 ?_
  refine wq_istore (pc := 25) [some (vR 45), some (vR s), some (vI (q : Int)), some (vI (cl : Int)), some (vI (((risers T S q) &&& (present T S (S (13 + q)) (S (18 + q))) : Nat) : Int)), some (vI 0)] dX3_isRisenAgainst_25 rfl (by decide) rfl ?_
  refine lp_risen h3 hs hT hS hw hv hB hcd hq hcl hd 0 (Nat.zero_le _) (S 29) I (sw_seed hv) Ss.refl (by rw [hS]; funext j; unfold setF; split <;> simp [*]) hQ

theorem sp_isWedWhenRead {l : Launch} {G : mG} {d : Nat} {I : mI} {L : Nat → Nat → Int} {D : Nat → Nat} {Q : mQ} {s : Nat} {T : mT} {S : mS} {B : Int} (q : Nat) {q_ : Int} (hq_ : q_ = (q : Int)) (cl : Nat) {cl_ : Int} (hcl_ : cl_ = (cl : Int)) (h3 : isT (D 3)) (hs : isS s) (hT : TT I (D 3) = T) (hS : SS I s = S) (hw : tw T) (hv : sw S B) (hB : B ≤ 100000) (hcd : ∀ j, inR (T 18 j)) (hq : q < 5) (hcl : cl < 256) (hrd : S (23 + q) ≤ S 28) (hd : 5 ≤ d) (hQ : (∀ K, Ss I K (D 3) s → SS K s = (wedStep T S q cl).1 → ((wedStep T S q cl).2 = true → Q (some (vI 1)) K (XX L D)) ∧ ((wedStep T S q cl).2 = false → Q (some (vI 0)) K (XX L D)))) : WP l G m_X3_isWedWhenRead d 153 I (XX L D) 0 [some (vR 45), some (vR s), some (vI q_), some (vI cl_)] [] Q := by
  subst hq_
  subst hcl_
  have b4 := sw_sun hv
  have b5 := sw_read hv hq
  have er : setF S 29 (risen T S q cl).2 (23 + q) = S (23 + q) := setF_n (by omega)
  have e28 : setF S 29 (risen T S q cl).2 28 = S 28 := setF_n (by decide)
  have hv1 : sw (setF S 29 (risen T S q cl).2) B := sw_29 hv (rgo_in T S (lisF T S q) cl (nP T) 0 (S 29) (sw_seed hv))
  have hv2 : sw (setF (setF S 29 (risen T S q cl).2) (23 + q) (S (23 + q) + 1)) B := sw_23 hv1 hq (by rw [e28]; omega)
  have bw := wedM_lt hw (setF (setF S 29 (risen T S q cl).2) (23 + q) (S (23 + q) + 1)) q (nQ T)
  have bp := pm_lt hw q
  have bb : wedB T (setF (setF S 29 (risen T S q cl).2) (23 + q) (S (23 + q) + 1)) q &&& pm T q < 256 := Nat.lt_of_le_of_lt Nat.and_le_right bp
  have e23 : (setF (setF S 29 (risen T S q cl).2) (23 + q) (S (23 + q) + 1)) (23 + q) = S (23 + q) + 1 := setF_s
  refine wp_aload_n (pc := 0) 0 dX3_isWedWhenRead_0 rfl rfl ?_
  refine wp_aload_n (pc := 1) 1 dX3_isWedWhenRead_1 rfl rfl ?_
  refine wp_iload_n (pc := 2) 2 dX3_isWedWhenRead_2 rfl rfl ?_
  refine wp_iload_n (pc := 3) 3 dX3_isWedWhenRead_3 rfl rfl ?_
  refine wp_callV (pc := 4) (st := []) (nf' := 153) [vR s, vI (q : Int), vI (cl : Int)] [some (vR 45), some (vR s), some (vI (q : Int)), some (vI (cl : Int)), none, none] dX3_isWedWhenRead_4 rfl c_X3_164 rfl kd_45 (by decide) rfl la_45 rfl (Nat.le_of_ble_eq_true rfl) rfl (Nat.le_of_ble_eq_true rfl) (by omega) (Nat.le_refl _) (Nat.le_refl _) ?_
  refine sp_isRisenAgainst q rfl cl rfl h3 hs hT hS hw hv (by omega) hcd (by omega) (by omega) (by omega) (fun J1 hJ1 hS1 => ⟨fun hr => ?_, fun hr => ?_⟩)
  · have hT1 := hJ1.tt h3 hs hT
    refine wp_eqst (st' := [vI 1]) rfl ?_
    refine wp_if_eq (pc := 7) 18 dX3_isWedWhenRead_7 (by decide) (by decide) (fun hh => absurd hh (by decide)) (fun _ => ?_)
    refine wp_aload_n (pc := 10) 1 dX3_isWedWhenRead_10 rfl rfl ?_
    refine wp_iload_n (pc := 11) 2 dX3_isWedWhenRead_11 rfl rfl ?_
    refine wp_iconst (pc := 12) dX3_isWedWhenRead_12 ?_
    refine wp_callV (pc := 13) (st := []) (nf' := 153) [vI (q : Int), vI 2] [some (vR s), some (vI (q : Int)), some (vI 2)] dX3_isWedWhenRead_13 rfl c_X3_167 rfl (sk_0 hs) (by decide) rfl (sl_0 hs) rfl (Nat.le_of_ble_eq_true rfl) rfl (Nat.le_of_ble_eq_true rfl) (by omega) (Nat.le_refl _) (Nat.le_refl _) ?_
    refine wp_aload_n (pc := 0) 0 dX7_setStatus_0 rfl rfl ?_
    refine wp_getr (pc := 1) dX7_setStatus_1 rfl f_X7_11 (sk_0 hs) (sl_0 hs) rfl (sr_0_0 D hs) ?_
    refine wp_bipush (pc := 4) dX7_setStatus_4 (by decide) ?_
    refine wp_iload_n (pc := 6) 1 dX7_setStatus_6 rfl rfl ?_
    refine wp_iadd (pc := 7) dX7_setStatus_7 ?_
    refine wp_iload_n (pc := 8) 2 dX7_setStatus_8 rfl rfl ?_
    refine wq_iast (pc := 9) (8 + q) dX7_setStatus_9 (sk_1 hs) (sl_1 hs) (by omega) (by omega) ?_
    refine wp_vret (pc := 10) dX7_setStatus_10 rfl rfl ?_
    refine wp_eqst (st' := []) rfl ?_
    refine wp_iconst (pc := 16) dX3_isWedWhenRead_16 ?_
    refine wp_zret (pc := 17) dX3_isWedWhenRead_17 rfl rfl (by decide) ?_
    have e1 : wedStep T S q cl = (setF (setF S 29 (risen T S q cl).2) (8 + q) 2, false) := by unfold wedStep; rw [if_pos hr]
    have hq1 := hQ _ (Ss.up hJ1) (by rw [e1]; exact SS_up hS1)
    exact hq1.2 (by rw [e1])
  · have hT1 := hJ1.tt h3 hs hT
    refine wp_eqst (st' := [vI 0]) rfl ?_
    refine wp_if_eq (pc := 7) 18 dX3_isWedWhenRead_7 (by decide) (by decide) (fun _ => ?_) (fun hh => absurd hh (by decide))
    refine wp_aload_n (pc := 18) 1 dX3_isWedWhenRead_18 rfl rfl ?_
    refine wp_iload_n (pc := 19) 2 dX3_isWedWhenRead_19 rfl rfl ?_
    refine wp_callV (pc := 20) (st := []) (nf' := 153) [vI (q : Int)] [some (vR s), some (vI (q : Int))] dX3_isWedWhenRead_20 rfl c_X3_171 rfl (sk_0 hs) (by decide) rfl (sl_0 hs) rfl (Nat.le_of_ble_eq_true rfl) rfl (Nat.le_of_ble_eq_true rfl) (by omega) (Nat.le_refl _) (Nat.le_refl _) ?_
    refine wp_aload_n (pc := 0) 0 dX7_addReading_0 rfl rfl ?_
    refine wp_getr (pc := 1) dX7_addReading_1 rfl f_X7_11 (sk_0 hs) (sl_0 hs) rfl (sr_0_0 D hs) ?_
    refine wp_bipush (pc := 4) dX7_addReading_4 (by decide) ?_
    refine wp_iload_n (pc := 6) 1 dX7_addReading_6 rfl rfl ?_
    refine wp_iadd (pc := 7) dX7_addReading_7 ?_
    refine wp_dup2 (pc := 8) dX7_addReading_8 rfl rfl ?_
    refine wq_iald (pc := 9) (23 + q) dX7_addReading_9 (sk_1 hs) (sl_1 hs) (by omega) (by omega) ?_
    refine wp_eqst (st' := [vI ((setF S 29 (risen T S q cl).2) (23 + q)), vI (23 + (q : Int)), vR (s + 1)]) (by rw [← hS1] <;> rfl) ?_
    refine wp_iconst (pc := 10) dX7_addReading_10 ?_
    refine wp_iadd (pc := 11) dX7_addReading_11 ?_
    refine wq_iast (pc := 12) (23 + q) dX7_addReading_12 (sk_1 hs) (sl_1 hs) (by omega) (by omega) ?_
    refine wp_vret (pc := 13) dX7_addReading_13 rfl rfl ?_
    refine wp_eqst (st' := []) rfl ?_
    refine wp_eqI (I' := up J1 (s + 1) (23 + q) (S (23 + q) + 1)) (by rw [er]) ?_
    have hJ2 : Ss I (up J1 (s + 1) (23 + q) (S (23 + q) + 1)) (D 3) s := hJ1.up
    have hT2 := hJ2.tt h3 hs hT
    have hS2 : SS (up J1 (s + 1) (23 + q) (S (23 + q) + 1)) s = setF (setF S 29 (risen T S q cl).2) (23 + q) (S (23 + q) + 1) := SS_up hS1
    refine wp_aload_n (pc := 23) 1 dX3_isWedWhenRead_23 rfl rfl ?_
    refine wp_iload_n (pc := 24) 2 dX3_isWedWhenRead_24 rfl rfl ?_
    refine wp_callV (pc := 25) (st := []) (nf' := 153) [vI (q : Int)] [some (vR s), some (vI (q : Int))] dX3_isWedWhenRead_25 rfl c_X3_175 rfl (sk_0 hs) (by decide) rfl (sl_0 hs) rfl (Nat.le_of_ble_eq_true rfl) rfl (Nat.le_of_ble_eq_true rfl) (by omega) (Nat.le_refl _) (Nat.le_refl _) ?_
    refine wp_aload_n (pc := 0) 0 dX7_readings_0 rfl rfl ?_
    refine wp_getr (pc := 1) dX7_readings_1 rfl f_X7_11 (sk_0 hs) (sl_0 hs) rfl (sr_0_0 D hs) ?_
    refine wp_bipush (pc := 4) dX7_readings_4 (by decide) ?_
    refine wp_iload_n (pc := 6) 1 dX7_readings_6 rfl rfl ?_
    refine wp_iadd (pc := 7) dX7_readings_7 ?_
    refine wq_iald (pc := 8) (23 + q) dX7_readings_8 (sk_1 hs) (sl_1 hs) (by omega) (by omega) ?_
    refine wp_eqst (st' := [vI (S (23 + q) + 1)]) (by rw [up_s]) ?_
    refine wp_iret (pc := 9) dX7_readings_9 rfl rfl ?_
    refine wp_eqst (st' := [vI (S (23 + q) + 1)]) rfl ?_
    refine wp_iconst (pc := 28) dX3_isWedWhenRead_28 ?_
    refine wp_icmp_lt (pc := 29) 50 dX3_isWedWhenRead_29 (by decide) (by omega) (by decide) (fun h_1 => ?_) (fun h_1 => ?_)
    · refine wp_iconst (pc := 50) dX3_isWedWhenRead_50 ?_
      refine wp_zret (pc := 51) dX3_isWedWhenRead_51 rfl rfl (by decide) ?_
      have e1 : wedStep T S q cl = (setF (setF S 29 (risen T S q cl).2) (23 + q) (S (23 + q) + 1), false) := by unfold wedStep; rw [if_neg (by rw [hr]; decide), if_pos (by first | (left; omega) | (right; intro x; apply h_2; rw [x]; rfl))]
      have hq1 := hQ _ hJ2 (by rw [e1]; exact hS2)
      exact hq1.2 (by rw [e1])
    · refine wp_aload_n (pc := 32) 0 dX3_isWedWhenRead_32 rfl rfl ?_
      refine wp_aload_n (pc := 33) 1 dX3_isWedWhenRead_33 rfl rfl ?_
      refine wp_iload_n (pc := 34) 2 dX3_isWedWhenRead_34 rfl rfl ?_
      refine wp_callV (pc := 35) (st := []) (nf' := 153) [vR s, vI (q : Int)] [some (vR 45), some (vR s), some (vI (q : Int)), none, none] dX3_isWedWhenRead_35 rfl c_X3_60 rfl kd_45 (by decide) rfl la_45 rfl (Nat.le_of_ble_eq_true rfl) rfl (Nat.le_of_ble_eq_true rfl) (by omega) (Nat.le_refl _) (Nat.le_refl _) ?_
      refine sp_wedBeside h3 hs hT2 hS2 hw hv2 (by omega) (by omega) ?_
      refine wp_eqst (st' := [vI ((wedB T (setF (setF S 29 (risen T S q cl).2) (23 + q) (S (23 + q) + 1)) (q : Int) : Nat) : Int)]) rfl ?_
      refine wp_aload_n (pc := 38) 0 dX3_isWedWhenRead_38 rfl rfl ?_
      refine wp_getr (pc := 39) dX3_isWedWhenRead_39 rfl f_X3_15 kd_45 la_45 rfl (r_45_1 D) ?_
      refine wp_iload_n (pc := 42) 2 dX3_isWedWhenRead_42 rfl rfl ?_
      refine wp_callV (pc := 43) (st := [vI ((wedB T (setF (setF S 29 (risen T S q cl).2) (23 + q) (S (23 + q) + 1)) (q : Int) : Nat) : Int)]) (nf' := 153) [vI (q : Int)] [some (vR (D 3)), some (vI (q : Int))] dX3_isWedWhenRead_43 rfl c_X3_37 rfl (tk_0 h3) (by decide) rfl (tl_0 h3) rfl (Nat.le_of_ble_eq_true rfl) rfl (Nat.le_of_ble_eq_true rfl) (by omega) (Nat.le_refl _) (Nat.le_refl _) ?_
      refine sp_pairMask q rfl h3 hT2 hw (by omega) (by omega) ?_
      refine wp_eqst (st' := [vI ((pm T q : Nat) : Int), vI ((wedB T (setF (setF S 29 (risen T S q cl).2) (23 + q) (S (23 + q) + 1)) (q : Int) : Nat) : Int)]) rfl ?_
      refine wn_and (pc := 46) (wedB T (setF (setF S 29 (risen T S q cl).2) (23 + q) (S (23 + q) + 1)) (q : Int)) (pm T q) dX3_isWedWhenRead_46 rfl rfl ?_
      refine wp_if_eq (pc := 47) 52 dX3_isWedWhenRead_47 (by decide) (by omega) (fun h_2 => ?_) (fun h_2 => ?_)
      · refine wp_aload_n (pc := 52) 1 dX3_isWedWhenRead_52 rfl rfl ?_
        refine wp_iload_n (pc := 53) 2 dX3_isWedWhenRead_53 rfl rfl ?_
        refine wp_iconst (pc := 54) dX3_isWedWhenRead_54 ?_
        refine wp_callV (pc := 55) (st := []) (nf' := 153) [vI (q : Int), vI 1] [some (vR s), some (vI (q : Int)), some (vI 1)] dX3_isWedWhenRead_55 rfl c_X3_167 rfl (sk_0 hs) (by decide) rfl (sl_0 hs) rfl (Nat.le_of_ble_eq_true rfl) rfl (Nat.le_of_ble_eq_true rfl) (by omega) (Nat.le_refl _) (Nat.le_refl _) ?_
        refine wp_aload_n (pc := 0) 0 dX7_setStatus_0 rfl rfl ?_
        refine wp_getr (pc := 1) dX7_setStatus_1 rfl f_X7_11 (sk_0 hs) (sl_0 hs) rfl (sr_0_0 D hs) ?_
        refine wp_bipush (pc := 4) dX7_setStatus_4 (by decide) ?_
        refine wp_iload_n (pc := 6) 1 dX7_setStatus_6 rfl rfl ?_
        refine wp_iadd (pc := 7) dX7_setStatus_7 ?_
        refine wp_iload_n (pc := 8) 2 dX7_setStatus_8 rfl rfl ?_
        refine wq_iast (pc := 9) (8 + q) dX7_setStatus_9 (sk_1 hs) (sl_1 hs) (by omega) (by omega) ?_
        refine wp_vret (pc := 10) dX7_setStatus_10 rfl rfl ?_
        refine wp_eqst (st' := []) rfl ?_
        refine wp_iconst (pc := 58) dX3_isWedWhenRead_58 ?_
        refine wp_zret (pc := 59) dX3_isWedWhenRead_59 rfl rfl (by decide) ?_
        have e1 : wedStep T S q cl = (setF (setF (setF S 29 (risen T S q cl).2) (23 + q) (S (23 + q) + 1)) (8 + q) 1, true) := by unfold wedStep; rw [if_neg (by rw [hr]; decide), if_neg (by intro x; rcases x with x | x; omega; apply x; omega)]
        have hq1 := hQ _ (Ss.up hJ2) (by rw [e1]; exact SS_up hS2)
        exact hq1.1 (by rw [e1])
      · refine wp_iconst (pc := 50) dX3_isWedWhenRead_50 ?_
        refine wp_zret (pc := 51) dX3_isWedWhenRead_51 rfl rfl (by decide) ?_
        have e1 : wedStep T S q cl = (setF (setF S 29 (risen T S q cl).2) (23 + q) (S (23 + q) + 1), false) := by unfold wedStep; rw [if_neg (by rw [hr]; decide), if_pos (by first | (left; omega) | (right; intro x; apply h_2; rw [x]; rfl))]
        have hq1 := hQ _ hJ2 (by rw [e1]; exact hS2)
        exact hq1.2 (by rw [e1])

theorem lp_keepSunday {l : Launch} {G : mG} {d : Nat} {I : mI} {L : Nat → Nat → Int} {D : Nat → Nat} {Q : mQ} {s : Nat} {T : mT} {S : mS} {B : Int} (h3 : isT (D 3)) (hs : isS s) (hT : TT I (D 3) = T) (hS : SS I s = S) (hw : tw T) (hv : sw S B) (hB : B ≤ 100000) (hcd : ∀ j, inR (T 18 j)) (hrd : rdOk S) (hd : 6 ≤ d) (hQ : ∀ K, Ss I K (D 3) s → SS K s = (sunF T S).1 → Q (some (vI ((sunF T S).2 : Nat))) K (XX L D)) : ∀ i : Nat, i ≤ nQ T → ∀ J, Ss I J (D 3) s → SS J s = (sunN T S i).1 → WP l G m_X3_keepSunday d 153 J (XX L D) 11 [some (vR 45), some (vR s), some (vI ((called T S : Nat) : Int)), some (vI (((sunN T S i).2 : Nat) : Int)), some (vI (i : Int))] [] Q := by
  have b0 := tw_q hw
  have eN : nQ T = (T 0 13).toNat := rfl
  have b2 := called_lt hw S
  refine loop_dn (fun i => ∀ J, Ss I J (D 3) s → SS J s = (sunN T S i).1 → WP l G m_X3_keepSunday d 153 J (XX L D) 11 [some (vR 45), some (vR s), some (vI ((called T S : Nat) : Int)), some (vI (((sunN T S i).2 : Nat) : Int)), some (vI (i : Int))] [] Q) (nQ T) ?_ (fun i hi ih => ?_)
  · intro J hJ hS0
    have hT0 := hJ.tt h3 hs hT
    refine wp_iload (pc := 11) dX3_keepSunday_11 rfl ?_
    refine wp_aload_n (pc := 13) 0 dX3_keepSunday_13 rfl rfl ?_
    refine wp_getr (pc := 14) dX3_keepSunday_14 rfl f_X3_15 kd_45 la_45 rfl (r_45_1 D) ?_
    refine wp_geti (pc := 17) dX3_keepSunday_17 rfl f_X3_19 (tk_0 h3) (tl_0 h3) (Or.inl rfl) ?_
    refine wp_eqst (st' := [vI (T 0 13), vI (((nQ T) : Nat) : Int)]) (by rw [← hT0] <;> rfl) ?_
    refine wp_icmp_ge (pc := 20) 57 dX3_keepSunday_20 (by decide) (by omega) (by omega) (fun h_1 => ?_) (fun h_1 => ?_)
    · refine wp_aload_n (pc := 57) 1 dX3_keepSunday_57 rfl rfl ?_
      refine wp_callV (pc := 58) (st := []) (nf' := 153) [] [some (vR s)] dX3_keepSunday_58 rfl c_X3_161 rfl (sk_0 hs) (by decide) rfl (sl_0 hs) rfl (Nat.le_of_ble_eq_true rfl) rfl (Nat.le_of_ble_eq_true rfl) (by omega) (Nat.le_refl _) (Nat.le_refl _) ?_
      refine wp_aload_n (pc := 0) 0 dX7_endSunday_0 rfl rfl ?_
      refine wp_getr (pc := 1) dX7_endSunday_1 rfl f_X7_11 (sk_0 hs) (sl_0 hs) rfl (sr_0_0 D hs) ?_
      refine wp_bipush (pc := 4) dX7_endSunday_4 (by decide) ?_
      refine wp_dup2 (pc := 6) dX7_endSunday_6 rfl rfl ?_
      refine wq_iald (pc := 7) 28 dX7_endSunday_7 (sk_1 hs) (sl_1 hs) rfl (by decide) ?_
      refine wp_eqst (st' := [vI (((sunN T S (nQ T)).1) 28), vI 28, vR (s + 1)]) (by rw [← hS0] <;> rfl) ?_
      refine wp_iconst (pc := 8) dX7_endSunday_8 ?_
      refine wp_iadd (pc := 9) dX7_endSunday_9 ?_
      refine wq_iast (pc := 10) 28 dX7_endSunday_10 (sk_1 hs) (sl_1 hs) rfl (by decide) ?_
      refine wp_vret (pc := 11) dX7_endSunday_11 rfl rfl ?_
      refine wp_eqst (st' := []) rfl ?_
      refine wp_iload_n (pc := 61) 3 dX3_keepSunday_61 rfl rfl ?_
      refine wp_iret (pc := 62) dX3_keepSunday_62 rfl rfl ?_
      exact hQ _ hJ.up (SS_up hS0)
    · exfalso; omega
  · intro J hJ hS0
    have hT0 := hJ.tt h3 hs hT
    obtain ⟨hvi, h28, h23⟩ := sunN_ok (T := T) hv hrd i (by omega)
    have hri : (sunN T S i).1 (23 + i) ≤ (sunN T S i).1 28 := by rw [h23 i (by omega) (Nat.le_refl i), h28]; exact hrd i (by omega)
    have b9 := bit_lt (called T S) i
    refine wp_iload (pc := 11) dX3_keepSunday_11 rfl ?_
    refine wp_aload_n (pc := 13) 0 dX3_keepSunday_13 rfl rfl ?_
    refine wp_getr (pc := 14) dX3_keepSunday_14 rfl f_X3_15 kd_45 la_45 rfl (r_45_1 D) ?_
    refine wp_geti (pc := 17) dX3_keepSunday_17 rfl f_X3_19 (tk_0 h3) (tl_0 h3) (Or.inl rfl) ?_
    refine wp_eqst (st' := [vI (T 0 13), vI (i : Int)]) (by rw [← hT0] <;> rfl) ?_
    refine wp_icmp_ge (pc := 20) 57 dX3_keepSunday_20 (by decide) (by omega) (by omega) (fun h_1 => ?_) (fun h_1 => ?_)
    · exfalso; omega
    · refine wp_iload_n (pc := 23) 2 dX3_keepSunday_23 rfl rfl ?_
      refine wp_iload (pc := 24) dX3_keepSunday_24 rfl ?_
      refine wn_shr (pc := 26) (called T S) i dX3_keepSunday_26 rfl rfl (by omega) (by omega) ?_
      refine wp_iconst (pc := 27) dX3_keepSunday_27 ?_
      refine wn_mask (pc := 28) ((called T S) / 2 ^ i) 1 dX3_keepSunday_28 rfl rfl (by decide) ?_
      refine wp_iconst (pc := 29) dX3_keepSunday_29 ?_
      refine wp_icmp_ne (pc := 30) 51 dX3_keepSunday_30 (by decide) (by omega) (by decide) (fun h_2 => ?_) (fun h_2 => ?_)
      · refine wq_iinc (pc := 51) [some (vR 45), some (vR s), some (vI ((called T S : Nat) : Int)), some (vI (((sunN T S i).2 : Nat) : Int)), some (vI ((i : Int) + 1))] dX3_keepSunday_51 rfl rfl (by decide) rfl ?_
        refine wp_goto (pc := 54) 11 dX3_keepSunday_54 (by decide) ?_
        have e1 : sunN T S (i + 1) = sunN T S i := if_neg (fun x => absurd ((bit_iff _ i).mpr x) h_2)
        refine wp_eqls (ls' := [some (vR 45), some (vR s), some (vI ((called T S : Nat) : Int)), some (vI (((sunN T S (i + 1)).2 : Nat) : Int)), some (vI (((i + 1) : Nat) : Int))]) (by rw [e1]; rfl) (ih J hJ (by rw [e1]; exact hS0))
      · refine wp_aload_n (pc := 33) 0 dX3_keepSunday_33 rfl rfl ?_
        refine wp_aload_n (pc := 34) 1 dX3_keepSunday_34 rfl rfl ?_
        refine wp_iload (pc := 35) dX3_keepSunday_35 rfl ?_
        refine wp_iload_n (pc := 37) 2 dX3_keepSunday_37 rfl rfl ?_
        refine wp_callV (pc := 38) (st := []) (nf' := 153) [vR s, vI (i : Int), vI ((called T S : Nat) : Int)] [some (vR 45), some (vR s), some (vI (i : Int)), some (vI ((called T S : Nat) : Int))] dX3_keepSunday_38 rfl c_X3_157 rfl kd_45 (by decide) rfl la_45 rfl (Nat.le_of_ble_eq_true rfl) rfl (Nat.le_of_ble_eq_true rfl) (by omega) (Nat.le_refl _) (Nat.le_refl _) ?_
        refine sp_isWedWhenRead i rfl (called T S) rfl h3 hs hT0 hS0 hw hvi (by omega) hcd (by omega) (by omega) hri (by omega) (fun J1 hJ1 hS1 => ⟨fun hr => ?_, fun hr => ?_⟩)
        · refine wp_eqst (st' := [vI 1]) rfl ?_
          refine wp_if_eq (pc := 41) 51 dX3_keepSunday_41 (by decide) (by decide) (fun hh => absurd hh (by decide)) (fun _ => ?_)
          refine wp_iload_n (pc := 44) 3 dX3_keepSunday_44 rfl rfl ?_
          refine wp_iconst (pc := 45) dX3_keepSunday_45 ?_
          refine wp_iload (pc := 46) dX3_keepSunday_46 rfl ?_
          refine wn_shl1 (pc := 48) i dX3_keepSunday_48 rfl (by omega) ?_
          refine wn_or (pc := 49) ((sunN T S i).2) (2 ^ i) dX3_keepSunday_49 rfl rfl ?_
          refine wq_istore_n (pc := 50) 3 [some (vR 45), some (vR s), some (vI ((called T S : Nat) : Int)), some (vI ((((sunN T S i).2) ||| (2 ^ i) : Nat) : Int)), some (vI (i : Int))] dX3_keepSunday_50 rfl rfl (by decide) rfl ?_
          refine wq_iinc (pc := 51) [some (vR 45), some (vR s), some (vI ((called T S : Nat) : Int)), some (vI ((((sunN T S i).2) ||| (2 ^ i) : Nat) : Int)), some (vI ((i : Int) + 1))] dX3_keepSunday_51 rfl rfl (by decide) rfl ?_
          refine wp_goto (pc := 54) 11 dX3_keepSunday_54 (by decide) ?_
          have e1 : sunN T S (i + 1) = ((wedStep T (sunN T S i).1 i (called T S)).1, (sunN T S i).2 ||| 2 ^ i) := (if_pos ((bit_iff _ i).mp h_2)).trans (congrArg (Prod.mk _) (if_pos hr))
          refine wp_eqls (ls' := [some (vR 45), some (vR s), some (vI ((called T S : Nat) : Int)), some (vI (((sunN T S (i + 1)).2 : Nat) : Int)), some (vI (((i + 1) : Nat) : Int))]) (by rw [e1]; rfl) (ih J1 (hJ.trans hJ1) (by rw [e1]; exact hS1))
        · refine wp_eqst (st' := [vI 0]) rfl ?_
          refine wp_if_eq (pc := 41) 51 dX3_keepSunday_41 (by decide) (by decide) (fun _ => ?_) (fun hh => absurd hh (by decide))
          refine wq_iinc (pc := 51) [some (vR 45), some (vR s), some (vI ((called T S : Nat) : Int)), some (vI (((sunN T S i).2 : Nat) : Int)), some (vI ((i : Int) + 1))] dX3_keepSunday_51 rfl rfl (by decide) rfl ?_
          refine wp_goto (pc := 54) 11 dX3_keepSunday_54 (by decide) ?_
          have e1 : sunN T S (i + 1) = ((wedStep T (sunN T S i).1 i (called T S)).1, (sunN T S i).2) := (if_pos ((bit_iff _ i).mp h_2)).trans (congrArg (Prod.mk _) (if_neg (fun x => Bool.noConfusion (hr.symm.trans x))))
          refine wp_eqls (ls' := [some (vR 45), some (vR s), some (vI ((called T S : Nat) : Int)), some (vI (((sunN T S (i + 1)).2 : Nat) : Int)), some (vI (((i + 1) : Nat) : Int))]) (by rw [e1]; rfl) (ih J1 (hJ.trans hJ1) (by rw [e1]; exact hS1))

theorem sp_keepSunday {l : Launch} {G : mG} {d : Nat} {I : mI} {L : Nat → Nat → Int} {D : Nat → Nat} {Q : mQ} {s : Nat} {T : mT} {S : mS} {B : Int}  (h3 : isT (D 3)) (hs : isS s) (hT : TT I (D 3) = T) (hS : SS I s = S) (hw : tw T) (hv : sw S B) (hB : B ≤ 100000) (hcd : ∀ j, inR (T 18 j)) (hrd : rdOk S) (hd : 6 ≤ d) (hQ : ∀ K, Ss I K (D 3) s → SS K s = (sunF T S).1 → Q (some (vI ((sunF T S).2 : Nat))) K (XX L D)) : WP l G m_X3_keepSunday d 153 I (XX L D) 0 [some (vR 45), some (vR s), none, none, none] [] Q := by
  refine wp_aload_n (pc := 0) 0 dX3_keepSunday_0 rfl rfl ?_
  refine wp_aload_n (pc := 1) 1 dX3_keepSunday_1 rfl rfl ?_
  refine wp_callV (pc := 2) (st := []) (nf' := 153) [vR s] [some (vR 45), some (vR s), none, none] dX3_keepSunday_2 rfl c_X3_149 rfl kd_45 (by decide) rfl la_45 rfl (Nat.le_of_ble_eq_true rfl) rfl (Nat.le_of_ble_eq_true rfl) (by omega) (Nat.le_refl _) (Nat.le_refl _) ?_
  refine sp_calledNext h3 hs hT hS hw hv (by omega) (by omega) (fun J1 hJ1 => ?_)
  have hT1 := hJ1.tt h3 hT
  have hS1 := hJ1.ss h3 hs hS
  refine wp_eqst (st' := [vI ((called T S : Nat) : Int)]) rfl ?_
  refine wq_istore_n (pc := 5) 2 [some (vR 45), some (vR s), some (vI ((called T S : Nat) : Int)), none, none] dX3_keepSunday_5 rfl rfl (by decide) rfl ?_
  refine wp_iconst (pc := 6) dX3_keepSunday_6 ?_
  refine wq_istore_n (pc := 7) 3 [some (vR 45), some (vR s), some (vI ((called T S : Nat) : Int)), some (vI 0), none] dX3_keepSunday_7 rfl rfl (by decide) rfl ?_
  refine wp_iconst (pc := 8) dX3_keepSunday_8 ?_
  refine wq_istore (pc := 9) [some (vR 45), some (vR s), some (vI ((called T S : Nat) : Int)), some (vI 0), some (vI 0)] dX3_keepSunday_9 rfl (by decide) rfl ?_
  exact lp_keepSunday h3 hs hT hS hw hv hB hcd hrd hd hQ 0 (Nat.zero_le _) _ hJ1.s hS1
