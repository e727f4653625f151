/-! town() of the class -/
/-- a text that was read whole, or that has a fault -/
def txOk (b : Nat → Int) (s0 : mL) (m : Nat) (q : Nat → mL) : Prop := TR b s0 m q ∧ ts b (q m).1 = 0
def txBad (b : Nat → Int) (s0 : mL) (m : Nat) (q : Nat → mL) (e : Int × Int) : Prop := TR b s0 m q ∧ ¬ ts b (q m).1 = 0 ∧ lnE b (q m).1 (q m).2.1 (q m).2.2.1 (q m).2.2.2 e
def hD (D : Nat → Nat) : Prop := (D 0 = 1 ∧ D 1 = 21) ∨ (D 0 = 21 ∧ D 1 = 1)
/-- all that a whole text changes: the draft, the Tape, the Parser, and what is begun anew -/
def Ftw (I J : mI) (t : Nat) : Prop := ∀ b, b ≠ 0 → b ≠ 41 → b ≠ 44 → ¬ (t ≤ b ∧ b < t + 20) → b ≠ 48 → b ≠ 51 → ¬ (53 ≤ b ∧ b ≤ 93) → b ≠ 104 → J b = I b
def swD (D : Nat → Nat) : Nat → Nat := dset (dset (dset D 0 (D 1)) 1 (D 0)) 3 (D 1)

/-- what the draft keeps to: its numbers in bounds, its names, the words -/
def PX_ (I : mI) (M : Nat → Nat → Int) (D : Nat → Nat) (b : Nat → Int) (n : Nat) : Prop := (∀ k, k < 21 → M 43 k = W5 k) ∧ tw (TT I (D 1)) ∧ (∀ j, inR (TT I (D 1) 18 j)) ∧ (∀ k j, inL (NN M (D 1) k j))
theorem close_tw {T : mT} (hw : tw T) : tw (closeT T) := by
  have h := closeN_ok hw (nP T) (nP_le hw)
  obtain ⟨h1, h2, h3, h4, h5, h6, h7, h8, h9, h10, h11, h12, h13, h14, h15, h16, h17, h18, h19, h20, h21, h22⟩ := hw
  refine ⟨h1, h2, h3, h4, h5, h6, h7, h8, h9, h10, h11, h12, h13, h14, h15, h16, h17, fun j => ?_, fun j => ?_, fun j => ?_, h21, h22⟩
  · show 0 ≤ (closeN T (nP T)).1 j ∧ (closeN T (nP T)).1 j ≤ 255
    exact h.1 j
  · show -1 ≤ (closeN T (nP T)).2 j ∧ (closeN T (nP T)).2 j ≤ 7
    exact (h.2 j).1
  · show -1 ≤ degT _ _ 64 j ∧ degT _ _ 64 j ≤ 14
    unfold degT
    split
    · exact fewN_in h.2 _ _ 8
    · exact h20 j

theorem lp_townok {l : Launch} {G : mG} {d : Nat} {I : mI} {L : Nat → Nat → Int} {D : Nat → Nat} {Q : mQ} {b : Nat → Int} {n : Nat} {s0 : mL} {J : mI} {M : Nat → Nat → Int} {m k : Nat} {q : Nat → mL} (hDD : hD D) (h21 : D 2 = D 1) (hB : n ≤ 1600) (hG0 : GT s0.2.1 s0.2.2.2) (hd : 94 ≤ d) (h1 : ∀ m q, txOk b s0 m q → ∀ J M, Ftw I J (D 1) → (∀ j, j ≠ 6 → J 104 j = I 104 j) → J 104 6 = 0 → J 0 11 = 0 → J 41 3 = 0 → (J 44 3 = 0 ∧ J 44 4 = -1) → Lp L M (D 1) → TT J (D 1) = closeT (q m).2.1 → SS J 47 = beginS (closeT (q m).2.1) → HI J (fun _ => beginS (closeT (q m).2.1), 0, 0) → PX_ J M D b n → Q (some (vI ((closeT (q m).2.1) 0 12))) J (XX M (swD D))) (hx : txOk b s0 m q) (hF : Fp I J (D 2)) (hL : Lp L M (D 2)) (hP : PS J M D b n (q m).1 (q m).2.1 (q m).2.2.1 (q m).2.2.2) : WP l G m_X10_town d 153 J (XX M D) 50 [some (vR 0), some (vI 1), some (vI (k : Int))] [] Q := by
  have ht2 := hP.1.1
  have ht : isT (D 1) := by rw [← h21]; exact ht2
  have g2 : D 1 = 1 ∨ D 1 = 21 := ht
  have hw := hP.tw
  have bp := tw_p hw
  have hT : TT J (D 1) = (q m).2.1 := by rw [← h21]; exact hP.2.2.2.1
  have hT1 : TT (up J 41 3 0) (D 1) = (q m).2.1 := by rw [TT_o (by omega)]; exact hT
  have g0 : D 0 = 1 ∨ D 0 = 21 := by rcases hDD with z | z <;> omega
  generalize hq : (q m).2.1 = T at *
  refine wp_aload_n (pc := 50) 0 dX10_town_50 rfl rfl ?_
  refine wp_getr (pc := 51) dX10_town_51 rfl f_X10_22 kd_0 la_0 rfl (r_0_2 D) ?_
  refine wp_iconst (pc := 54) dX10_town_54 ?_
  refine wp_puti (pc := 55) dX10_town_55 rfl f_X10_90 kd_41 la_41 (fun _ h => by cases h; rfl) rfl ?_
  refine wp_iload_n (pc := 58) 1 dX10_town_58 rfl rfl ?_
  refine wp_if_ne (pc := 59) 64 dX10_town_59 (by decide) (by decide) (fun _ => ?_) (fun hh => absurd hh (by decide))
  refine wp_aload_n (pc := 64) 0 dX10_town_64 rfl rfl ?_
  refine wp_getr (pc := 65) dX10_town_65 rfl f_X10_16 kd_0 la_0 rfl (r_0_1 D) ?_
  refine wp_getr (pc := 68) dX10_town_68 rfl f_X10_104 (tk_0 ht) (tl_0 ht) rfl (tr_0_9 D ht) ?_
  refine wp_aload_n (pc := 71) 0 dX10_town_71 rfl rfl ?_
  refine wp_getr (pc := 72) dX10_town_72 rfl f_X10_16 kd_0 la_0 rfl (r_0_1 D) ?_
  refine wp_geti (pc := 75) dX10_town_75 rfl f_X10_108 (tk_0 ht) (tl_0 ht) (Or.inl rfl) ?_
  refine wp_eqst (st' := [vI (T 0 12), vR ((D 1) + 10)]) (by rw [up_c (by omega), ← hT] <;> rfl) ?_
  refine wp_callV (pc := 78) (st := []) (nf' := 153) [vI (T 0 12)] [some (vR ((D 1) + 10)), some (vI (T 0 12)), none, none] dX10_town_78 rfl c_X10_111 rfl (tk_10 ht) (by decide) rfl (tl_10 ht) rfl (Nat.le_of_ble_eq_true rfl) rfl (Nat.le_of_ble_eq_true rfl) (by omega) (Nat.le_refl _) (Nat.le_refl _) ?_
  refine sp_close (nP T) (by show T 0 12 = ((T 0 12).toNat : Int); omega) ht hT1 hw (nP_le hw) (by omega) ?_
  refine wp_gen (fun K => (∀ b, b ≠ 41 → ¬ (D 1 ≤ b ∧ b < D 1 + 20) → K b = J b) ∧ K 41 = up J 41 3 0 41 ∧ TT K (D 1) = closeT T) ⟨fun b h1 h2 => funext fun j => by rw [upc_c (by omega), upc_c (by omega), upc_c (by omega), up_c h1], funext fun j => by rw [upc_c (by omega), upc_c (by omega), upc_c (by omega)], closeT_TT hT1⟩ (fun K hK => ?_)
  obtain ⟨hK1, hK2, hTK⟩ := hK
  refine wp_eqst (st' := []) rfl ?_
  refine wp_aload_n (pc := 81) 0 dX10_town_81 rfl rfl ?_
  refine wp_getr (pc := 82) dX10_town_82 rfl f_X10_10 kd_0 la_0 rfl (r_0_0 D) ?_
  refine wq_astore_n (pc := 85) 2 [some (vR 0), some (vI 1), some (vR (D 0))] dX10_town_85 rfl rfl (by decide) rfl ?_
  refine wp_aload_n (pc := 86) 0 dX10_town_86 rfl rfl ?_
  refine wp_aload_n (pc := 87) 0 dX10_town_87 rfl rfl ?_
  refine wp_getr (pc := 88) dX10_town_88 rfl f_X10_16 kd_0 la_0 rfl (r_0_1 D) ?_
  refine wp_putr (pc := 91) dX10_town_91 rfl f_X10_10 kd_0 la_0 (fun _ h => by cases h; rfl) rfl ?_
  refine wp_aload_n (pc := 94) 0 dX10_town_94 rfl rfl ?_
  refine wp_aload_n (pc := 95) 2 dX10_town_95 rfl rfl ?_
  refine wp_putr (pc := 96) dX10_town_96 rfl f_X10_16 kd_0 la_0 (fun _ h => by cases h; rfl) rfl ?_
  refine wp_aload_n (pc := 99) 0 dX10_town_99 rfl rfl ?_
  refine wp_eqX (X' := XX M (dset (dset D 0 (D 1)) 1 (D 0))) (by show (M, upR (upR (Rf D) 0 0 (some (D 1))) 0 1 (some (D 0)), 153) = _; rw [rf_0, rf_1]) ?_
  refine wp_callV (pc := 100) (st := []) (nf' := 153) [] [some (vR 0)] dX10_town_100 rfl c_X10_79 rfl kd_0 (by decide) rfl la_0 rfl (Nat.le_of_ble_eq_true rfl) rfl (Nat.le_of_ble_eq_true rfl) (by omega) (Nat.le_refl _) (Nat.le_refl _) ?_
  refine wp_aload_n (pc := 0) 0 dX10_settleIn_0 rfl rfl ?_
  refine wp_getr (pc := 1) dX10_settleIn_1 rfl f_X10_40 kd_0 la_0 rfl (r_0_4 (dset (dset D 0 (D 1)) 1 (D 0))) ?_
  refine wp_aload_n (pc := 4) 0 dX10_settleIn_4 rfl rfl ?_
  refine wp_getr (pc := 5) dX10_settleIn_5 rfl f_X10_10 kd_0 la_0 rfl (r_0_0 (dset (dset D 0 (D 1)) 1 (D 0))) ?_
  refine wp_putr (pc := 8) dX10_settleIn_8 rfl f_X10_338 kd_45 la_45 (fun _ h => by cases h; rfl) rfl ?_
  refine wp_eqX (X' := XX M (swD D)) (by show (M, upR (Rf (dset (dset D 0 (D 1)) 1 (D 0))) 45 1 (some (D 1)), 153) = _; rw [rf_3]; rfl) ?_
  refine sp_settle2 (T := closeT T) (show isT (D 1) from ht) (show TT K (D 1) = closeT T from hTK) (by omega) (fun N hN1 hN2 hN3 hN4 hN5 hN6 => ?_)
  refine wp_eqst (st' := []) rfl ?_
  refine wp_aload_n (pc := 103) 0 dX10_town_103 rfl rfl ?_
  refine wp_getr (pc := 104) dX10_town_104 rfl f_X10_10 kd_0 la_0 rfl (r_0_0 (swD D)) ?_
  have tN : TT N (D 1) = closeT T := by rw [← hTK]; funext k j; unfold TT; split; rw [hN1 _ (by omega) (by omega) (by omega) (by omega) (by omega)]; rfl
  refine wp_geti (pc := 107) dX10_town_107 rfl f_X10_108 (tk_0 ht) (tl_0 ht) (Or.inl rfl) ?_
  refine wp_eqst (st' := [vI ((closeT T) 0 12)]) (by rw [← tN]; rfl) ?_
  refine wp_iret (pc := 110) dX10_town_110 rfl rfl ?_
  have n41 : N 41 = up J 41 3 0 41 := (hN1 41 (by decide) (by decide) (by decide) (by decide) (by decide)).trans hK2
  have n44 : N 44 = J 44 := (hN1 44 (by decide) (by decide) (by decide) (by decide) (by decide)).trans (hK1 44 (by decide) (by omega))
  have hJ : ∀ b, b ≠ 41 → b ≠ 44 → ¬ (D 1 ≤ b ∧ b < D 1 + 20) → J b = I b := fun b z1 z2 z3 => hF.1 b z1 z2 (by rw [h21]; exact z3)
  have r18 : ∀ j, inR (closeT T 18 j) := fun j => (by have z := hP.1.2.2.2.2.1 j; rw [h21, hT] at z; exact z)
  have n104 : ∀ j, j ≠ 6 → N 104 j = I 104 j := fun j hj => (hN2 j hj).trans ((congrFun (hK1 104 (by decide) (by omega)) j).trans (congrFun (hJ 104 (by decide) (by decide) (by omega)) j))
  have p34 := hP.2.2.2.2.2.2.1.2
  have fin := h1 m q hx N M (fun b z1 z2 z3 z4 z5 z6 z7 z8 => (hN1 b z1 z5 z6 z7 z8).trans ((hK1 b z2 z4).trans (hJ b z2 z3 z4))) n104 hN3 hN4 (by rw [n41, up_s]) ⟨by rw [n44]; exact p34.1, by rw [n44]; exact p34.2⟩ (by rw [← h21]; exact hL) (by rw [hq]; exact tN) (by rw [hq]; exact hN5) (by rw [hq]; exact hN6) ⟨hP.1.2.2.1, by rw [tN]; exact close_tw hw, by rw [tN]; exact r18, by rw [← h21]; exact hP.1.2.2.2.2.2⟩
  rw [hq] at fin; exact fin

theorem lp_town {l : Launch} {G : mG} {d : Nat} {I : mI} {L : Nat → Nat → Int} {D : Nat → Nat} {Q : mQ} {b : Nat → Int} {n : Nat} {s0 : mL} (hDD : hD D) (h21 : D 2 = D 1) (hB : n ≤ 1600) (hG0 : GT s0.2.1 s0.2.2.2) (hd : 94 ≤ d) (h1 : ∀ m q, txOk b s0 m q → ∀ J M, Ftw I J (D 1) → (∀ j, j ≠ 6 → J 104 j = I 104 j) → J 104 6 = 0 → J 0 11 = 0 → J 41 3 = 0 → (J 44 3 = 0 ∧ J 44 4 = -1) → Lp L M (D 1) → TT J (D 1) = closeT (q m).2.1 → SS J 47 = beginS (closeT (q m).2.1) → HI J (fun _ => beginS (closeT (q m).2.1), 0, 0) → PX_ J M D b n → Q (some (vI ((closeT (q m).2.1) 0 12))) J (XX M (swD D))) (h0 : ∀ m q e, txBad b s0 m q e → ∀ J M, (∀ b, b ≠ 41 → b ≠ 44 → ¬ (D 1 ≤ b ∧ b < D 1 + 20) → J b = I b) → Lp L M (D 1) → J 41 3 = 0 → (J 44 3 = e.1 ∧ J 44 4 = e.2) → PX_ J M D b n → Q (some (vI (-1))) J (XX M D)) : ∀ k : Nat, k ≤ 1600 → ∀ (J : mI) (M : Nat → Nat → Int) (m : Nat) (q : Nat → mL), k ≤ (q m).1 → TR b s0 m q → Fp I J (D 2) → Lp L M (D 2) → PS J M D b n (q m).1 (q m).2.1 (q m).2.2.1 (q m).2.2.2 → WP l G m_X10_town d 153 J (XX M D) 15 [some (vR 0), some (vI 1), some (vI (k : Int))] [] Q := by
  refine loop_dn (fun k => ∀ (J : mI) (M : Nat → Nat → Int) (m : Nat) (q : Nat → mL), k ≤ (q m).1 → TR b s0 m q → Fp I J (D 2) → Lp L M (D 2) → PS J M D b n (q m).1 (q m).2.1 (q m).2.2.1 (q m).2.2.2 → WP l G m_X10_town d 153 J (XX M D) 15 [some (vR 0), some (vI 1), some (vI (k : Int))] [] Q) 1600 ?_ (fun k hk ih => ?_)
  · intro J M m q hkq hTR hF hL hP
    have k4 := hP.2.2.1.1
    have ki := kC_in b (q m).1
    have ht2 := hP.1.1
    have g2 : D 2 = 1 ∨ D 2 = 21 := ht2
    have ht : isT (D 1) := by rw [← h21]; exact ht2
    have g0 : D 0 = 1 ∨ D 0 = 21 := by rcases hDD with z | z <;> omega
    refine wp_iload_n (pc := 15) 2 dX10_town_15 rfl rfl ?_
    refine wp_sipush (pc := 16) dX10_town_16 (by decide) ?_
    refine wp_icmp_ge (pc := 19) 50 dX10_town_19 (by decide) (by decide) (by decide) (fun _ => ?_) (fun hh => absurd hh (by decide))
    have hte : ts b (q m).1 = 0 := by have z := (ts_end (g := J 42) (n := n) (c := (q m).1) (by omega)).1; rw [← hP.1.2.1.1] at z; exact z
    exact lp_townok hDD h21 hB hG0 hd h1 ⟨hTR, hte⟩ hF hL hP
  · intro J M m q hkq hTR hF hL hP
    have k4 := hP.2.2.1.1
    have ki := kC_in b (q m).1
    have ht2 := hP.1.1
    have g2 : D 2 = 1 ∨ D 2 = 21 := ht2
    have ht : isT (D 1) := by rw [← h21]; exact ht2
    have g0 : D 0 = 1 ∨ D 0 = 21 := by rcases hDD with z | z <;> omega
    refine wp_iload_n (pc := 15) 2 dX10_town_15 rfl rfl ?_
    refine wp_sipush (pc := 16) dX10_town_16 (by decide) ?_
    refine wp_icmp_ge (pc := 19) 50 dX10_town_19 (by decide) (by omega) (by decide) (fun h_1 => ?_) (fun h_1 => ?_)
    · have hte : ts b (q m).1 = 0 := by have z := (ts_end (g := J 42) (n := n) (c := (q m).1) (by omega)).1; rw [← hP.1.2.1.1] at z; exact z
      exact lp_townok hDD h21 hB hG0 hd h1 ⟨hTR, hte⟩ hF hL hP
    · refine wp_iload_n (pc := 22) 1 dX10_town_22 rfl rfl ?_
      refine wp_if_eq (pc := 23) 50 dX10_town_23 (by decide) (by decide) (fun hh => absurd hh (by decide)) (fun _ => ?_)
      refine wp_aload_n (pc := 26) 0 dX10_town_26 rfl rfl ?_
      refine wp_getr (pc := 27) dX10_town_27 rfl f_X10_22 kd_0 la_0 rfl (r_0_2 D) ?_
      refine wp_geti (pc := 30) dX10_town_30 rfl f_X10_97 kd_41 la_41 (Or.inl rfl) ?_
      refine wp_eqst (st' := [vI (kC b (q m).1)]) (by rw [k4]) ?_
      refine wp_if_eq (pc := 33) 50 dX10_town_33 (by decide) (by omega) (fun h_2 => ?_) (fun h_2 => ?_)
      · have hte : ts b (q m).1 = 0 := (kC_ts b (q m).1).1.mp (by omega)
        exact lp_townok hDD h21 hB hG0 hd h1 ⟨hTR, hte⟩ hF hL hP
      · have hnz : ¬ ts b (q m).1 = 0 := fun z => absurd ((kC_ts b (q m).1).1.mpr z) (by omega)
        refine wp_aload_n (pc := 36) 0 dX10_town_36 rfl rfl ?_
        refine wp_getr (pc := 37) dX10_town_37 rfl f_X10_31 kd_0 la_0 rfl (r_0_3 D) ?_
        refine wp_callV (pc := 40) (st := []) (nf' := 153) [] [some (vR 44), none] dX10_town_40 rfl c_X10_100 rfl kd_44 (by decide) rfl la_44 rfl (Nat.le_of_ble_eq_true rfl) rfl (Nat.le_of_ble_eq_true rfl) (by omega) (Nat.le_refl _) (Nat.le_refl _) ?_
        refine sp_readsLine hP (TR.GT hTR hG0 m (Nat.le_refl m)).2.1.1 (by omega) (fun c1 T1 N1 mo1 hS hlt J1 M1 hF1 hL1 hP1 => ?_) (fun e1 hE J1 M1 hF1 hL1 hPE => ?_)
        · skip
          refine wp_eqst (st' := [vI 1]) rfl ?_
          refine wq_istore_n (pc := 43) 1 [some (vR 0), some (vI 1), some (vI (k : Int))] dX10_town_43 rfl rfl (by decide) rfl ?_
          refine wq_iinc (pc := 44) [some (vR 0), some (vI 1), some (vI ((k : Int) + 1))] dX10_town_44 rfl rfl (by decide) rfl ?_
          refine wp_goto (pc := 47) 15 dX10_town_47 (by decide) ?_
          refine wp_eqls (ls' := [some (vR 0), some (vI 1), some (vI (((k + 1) : Nat) : Int))]) rfl (ih J1 M1 (m + 1) (fun i => if i ≤ m then q i else (c1, T1, N1, mo1)) ?_ (hTR.more hnz hS) (hF.trans hF1) (hL.trans hL1) ?_)
          · rw [if_neg (by omega)]; show k + 1 ≤ c1; omega
          · rw [if_neg (by omega)]; exact hP1
        · skip
          refine wp_eqst (st' := [vI 0]) rfl ?_
          refine wq_istore_n (pc := 43) 1 [some (vR 0), some (vI 0), some (vI (k : Int))] dX10_town_43 rfl rfl (by decide) rfl ?_
          refine wq_iinc (pc := 44) [some (vR 0), some (vI 0), some (vI ((k : Int) + 1))] dX10_town_44 rfl rfl (by decide) rfl ?_
          refine wp_goto (pc := 47) 15 dX10_town_47 (by decide) ?_
          refine wp_iload_n (pc := 15) 2 dX10_town_15 rfl rfl ?_
          refine wp_sipush (pc := 16) dX10_town_16 (by decide) ?_
          refine wp_icmp_ge (pc := 19) 50 dX10_town_19 (by decide) (by omega) (by decide) (fun h_3 => ?_) (fun h_3 => ?_)
          · refine wp_aload_n (pc := 50) 0 dX10_town_50 rfl rfl ?_
            refine wp_getr (pc := 51) dX10_town_51 rfl f_X10_22 kd_0 la_0 rfl (r_0_2 D) ?_
            refine wp_iconst (pc := 54) dX10_town_54 ?_
            refine wp_puti (pc := 55) dX10_town_55 rfl f_X10_90 kd_41 la_41 (fun _ h => by cases h; rfl) rfl ?_
            refine wp_iload_n (pc := 58) 1 dX10_town_58 rfl rfl ?_
            refine wp_if_ne (pc := 59) 64 dX10_town_59 (by decide) (by decide) (fun hh => absurd hh (by decide)) (fun _ => ?_)
            refine wp_iconst (pc := 62) dX10_town_62 ?_
            refine wp_iret (pc := 63) dX10_town_63 rfl rfl ?_
            have hF2 := hF.trans hF1
            have g1 : D 2 = 1 ∨ D 2 = 21 := hPE.1.1
            have tt : TT (up J1 41 3 0) (D 2) = TT J1 (D 2) := TT_o (by omega)
            exact h0 m q e1 ⟨hTR, hnz, hE⟩ _ _ (fun b z1 z2 z3 => (funext fun j => up_c z1).trans (hF2.1 b z1 z2 (by rw [h21]; exact z3))) (by rw [← h21]; exact hL.trans hL1) (up_s _ _ _ _) ⟨by rw [up_c (by decide)]; exact hPE.2.1, by rw [up_c (by decide)]; exact hPE.2.2⟩ ⟨hPE.1.2.2.1, by rw [← h21, tt]; exact hPE.1.2.2.2.1, by rw [← h21, tt]; exact hPE.1.2.2.2.2.1, by rw [← h21]; exact hPE.1.2.2.2.2.2⟩
          · refine wp_iload_n (pc := 22) 1 dX10_town_22 rfl rfl ?_
            refine wp_if_eq (pc := 23) 50 dX10_town_23 (by decide) (by decide) (fun _ => ?_) (fun hh => absurd hh (by decide))
            refine wp_aload_n (pc := 50) 0 dX10_town_50 rfl rfl ?_
            refine wp_getr (pc := 51) dX10_town_51 rfl f_X10_22 kd_0 la_0 rfl (r_0_2 D) ?_
            refine wp_iconst (pc := 54) dX10_town_54 ?_
            refine wp_puti (pc := 55) dX10_town_55 rfl f_X10_90 kd_41 la_41 (fun _ h => by cases h; rfl) rfl ?_
            refine wp_iload_n (pc := 58) 1 dX10_town_58 rfl rfl ?_
            refine wp_if_ne (pc := 59) 64 dX10_town_59 (by decide) (by decide) (fun hh => absurd hh (by decide)) (fun _ => ?_)
            refine wp_iconst (pc := 62) dX10_town_62 ?_
            refine wp_iret (pc := 63) dX10_town_63 rfl rfl ?_
            have hF2 := hF.trans hF1
            have g1 : D 2 = 1 ∨ D 2 = 21 := hPE.1.1
            have tt : TT (up J1 41 3 0) (D 2) = TT J1 (D 2) := TT_o (by omega)
            exact h0 m q e1 ⟨hTR, hnz, hE⟩ _ _ (fun b z1 z2 z3 => (funext fun j => up_c z1).trans (hF2.1 b z1 z2 (by rw [h21]; exact z3))) (by rw [← h21]; exact hL.trans hL1) (up_s _ _ _ _) ⟨by rw [up_c (by decide)]; exact hPE.2.1, by rw [up_c (by decide)]; exact hPE.2.2⟩ ⟨hPE.1.2.2.1, by rw [← h21, tt]; exact hPE.1.2.2.2.1, by rw [← h21, tt]; exact hPE.1.2.2.2.2.1, by rw [← h21]; exact hPE.1.2.2.2.2.2⟩

theorem sp_town {l : Launch} {G : mG} {d : Nat} {I : mI} {L : Nat → Nat → Int} {D : Nat → Nat} {Q : mQ} {b : Nat → Int} {n : Nat} {T1 : mT} (hDD : hD D) (hT1 : TT I (D 1) = T1) (hB : TBk I b n) (hPX : PX_ I L D b n) (hd : 96 ≤ d) (h1 : ∀ m q, txOk b (0, clrT T1, NN L (D 1), 0) m q → ∀ J M, Ftw I J (D 1) → (∀ j, j ≠ 6 → J 104 j = I 104 j) → J 104 6 = 0 → J 0 11 = 0 → J 41 3 = 0 → (J 44 3 = 0 ∧ J 44 4 = -1) → Lp L M (D 1) → TT J (D 1) = closeT (q m).2.1 → SS J 47 = beginS (closeT (q m).2.1) → HI J (fun _ => beginS (closeT (q m).2.1), 0, 0) → PX_ J M D b n → Q (some (vI ((closeT (q m).2.1) 0 12))) J (XX M (swD (dset D 2 (D 1))))) (h0 : ∀ m q e, txBad b (0, clrT T1, NN L (D 1), 0) m q e → ∀ J M, (∀ b, b ≠ 41 → b ≠ 44 → ¬ (D 1 ≤ b ∧ b < D 1 + 20) → J b = I b) → Lp L M (D 1) → J 41 3 = 0 → (J 44 3 = e.1 ∧ J 44 4 = e.2) → PX_ J M D b n → Q (some (vI (-1))) J (XX M (dset D 2 (D 1)))) : WP l G m_X10_town d 153 I (XX L D) 0 [some (vR 0), none, none] [] Q := by
  have ht : isT (D 1) := by rcases hDD with z | z; exact Or.inr z.2; exact Or.inl z.2
  have g2 : D 1 = 1 ∨ D 1 = 21 := ht
  have g0 : D 0 = 1 ∨ D 0 = 21 := by rcases hDD with z | z <;> omega
  refine wp_iconst (pc := 0) dX10_town_0 ?_
  refine wq_istore_n (pc := 1) 1 [some (vR 0), some (vI 1), none] dX10_town_1 rfl rfl (by decide) rfl ?_
  refine wp_aload_n (pc := 2) 0 dX10_town_2 rfl rfl ?_
  refine wp_getr (pc := 3) dX10_town_3 rfl f_X10_31 kd_0 la_0 rfl (r_0_3 D) ?_
  refine wp_aload_n (pc := 6) 0 dX10_town_6 rfl rfl ?_
  refine wp_getr (pc := 7) dX10_town_7 rfl f_X10_16 kd_0 la_0 rfl (r_0_1 D) ?_
  refine wp_callV (pc := 10) (st := []) (nf' := 153) [vR (D 1)] [some (vR 44), some (vR (D 1))] dX10_town_10 rfl c_X10_94 rfl kd_44 (by decide) rfl la_44 rfl (Nat.le_of_ble_eq_true rfl) rfl (Nat.le_of_ble_eq_true rfl) (by omega) (Nat.le_refl _) (Nat.le_refl _) ?_
  refine sp_begin_ (b := b) (n := n) ht hT1 (hT1 ▸ hPX.2.1) (hT1 ▸ hPX.2.2.1) hB hPX.1 hPX.2.2.2 (by omega) (fun J M hF hL hk3 hk4 hP => ?_)
  refine wp_eqst (st' := []) rfl ?_
  refine wp_iconst (pc := 13) dX10_town_13 ?_
  refine wq_istore_n (pc := 14) 2 [some (vR 0), some (vI 1), some (vI 0)] dX10_town_14 rfl rfl (by decide) rfl ?_
  have hG0 : GT (clrT T1) 0 := clr_GT (hT1 ▸ hPX.2.1)
  refine lp_town (I := J) (L := M) (D := (dset D 2 (D 1))) (s0 := (0, clrT T1, NN L (D 1), 0)) (b := b) (n := n) hDD rfl hB.2.2 hG0 (by omega) ?_ ?_ 0 (Nat.zero_le _) J M 0 (fun _ => (0, clrT T1, NN L (D 1), 0)) (Nat.zero_le _) ⟨rfl, fun i hi => absurd hi (Nat.not_lt_zero i)⟩ Fp.refl Lp.refl hP
  · intro m q hx K M2 k1 k2 k3 k4 k5 k6 k7 k8 k9 k10 k11
    exact h1 m q hx K M2 (fun b z1 z2 z3 z4 z5 z6 z7 z8 => (k1 b z1 z2 z3 z4 z5 z6 z7 z8).trans (hF.1 b z2 z3 z4)) (fun j hj => (k2 j hj).trans (congrFun (hF.1 104 (by decide) (by decide) (by omega)) j)) k3 k4 k5 k6 (hL.trans k7) k8 k9 k10 k11
  · intro m q e hx K M2 k1 k2 k3 k4 k5
    exact h0 m q e hx K M2 (fun b z1 z2 z3 => (k1 b z1 z2 z3).trans (hF.1 b z1 z2 z3)) (hL.trans k2) k3 k4 k5
