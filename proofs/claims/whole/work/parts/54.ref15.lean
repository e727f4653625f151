theorem rl_divisor {l : Launch} {G : mG} {d : Nat} {I : mI} {L : Nat → Nat → Int} {D : Nat → Nat} {Q : mQ} (hd : 0 ≤ d) : ∀ (n x y : Nat), y ≤ n → x ≤ 100000000 → y ≤ 100000000 → Q (some (vI ((Nat.gcd x y : Nat) : Int))) I (XX L D) → WP l G m_X11_divisor d 153 I (XX L D) 4 [none, none, some (vI (x : Int)), some (vI (y : Int)), none] [] Q
  | 0, x, y, hn, hx, hy, hQ => by
    refine wp_iload_n (pc := 4) 3 dX11_divisor_4 rfl rfl ?_
    refine wp_if_le (pc := 5) 21 dX11_divisor_5 (by decide) (by omega) (fun h_1 => ?_) (fun h_1 => ?_)
    · refine wp_iload_n (pc := 21) 2 dX11_divisor_21 rfl rfl ?_
      refine wp_iret (pc := 22) dX11_divisor_22 rfl rfl ?_
      have e : y = 0 := by omega
      rw [e, Nat.gcd_zero_right] at hQ
      exact hQ
    · exfalso; omega
  | n + 1, x, y, hn, hx, hy, hQ => by
    refine wp_iload_n (pc := 4) 3 dX11_divisor_4 rfl rfl ?_
    refine wp_if_le (pc := 5) 21 dX11_divisor_5 (by decide) (by omega) (fun h_1 => ?_) (fun h_1 => ?_)
    · refine wp_iload_n (pc := 21) 2 dX11_divisor_21 rfl rfl ?_
      refine wp_iret (pc := 22) dX11_divisor_22 rfl rfl ?_
      have e : y = 0 := by omega
      rw [e, Nat.gcd_zero_right] at hQ
      exact hQ
    · refine wp_iload_n (pc := 8) 2 dX11_divisor_8 rfl rfl ?_
      refine wp_iload_n (pc := 9) 3 dX11_divisor_9 rfl rfl ?_
      refine wp_irem (pc := 10) dX11_divisor_10 (by omega) (by omega) (by omega) ?_
      refine wq_istore (pc := 11) [none, none, some (vI (x : Int)), some (vI (y : Int)), some (vI (Int.tmod (x : Int) (y : Int)))] dX11_divisor_11 rfl (by decide) rfl ?_
      refine wp_iload_n (pc := 13) 3 dX11_divisor_13 rfl rfl ?_
      refine wq_istore_n (pc := 14) 2 [none, none, some (vI (y : Int)), some (vI (y : Int)), some (vI (Int.tmod (x : Int) (y : Int)))] dX11_divisor_14 rfl rfl (by decide) rfl ?_
      refine wp_iload (pc := 15) dX11_divisor_15 rfl ?_
      refine wq_istore_n (pc := 17) 3 [none, none, some (vI (y : Int)), some (vI (Int.tmod (x : Int) (y : Int))), some (vI (Int.tmod (x : Int) (y : Int)))] dX11_divisor_17 rfl rfl (by decide) rfl ?_
      refine wp_goto (pc := 18) 4 dX11_divisor_18 (by decide) ?_
      refine wp_none 4 [none, none, some (vI (y : Int)), some (vI (Int.tmod (x : Int) (y : Int))), none] rfl ?_
      have em : Int.tmod (x : Int) (y : Int) = ((x % y : Nat) : Int) := by rw [Int.tmod_eq_emod_of_nonneg (by omega)]; rfl
      refine wp_eqls (ls' := [none, none, some (vI (y : Int)), some (vI ((x % y : Nat) : Int)), none]) (by rw [em]) ?_
      have hlt : x % y < y := Nat.mod_lt _ (by omega)
      refine rl_divisor hd n y (x % y) (by omega) (by omega) (by omega) ?_
      rw [show Nat.gcd y (x % y) = Nat.gcd x y from by rw [Nat.gcd_comm x y, Nat.gcd_rec y x, Nat.gcd_comm]]
      exact hQ

theorem rs_divisor {l : Launch} {G : mG} {d : Nat} {I : mI} {L : Nat → Nat → Int} {D : Nat → Nat} {Q : mQ}  (x : Nat) {x_ : Int} (hx_ : x_ = (x : Int)) (y : Nat) {y_ : Int} (hy_ : y_ = (y : Int)) (hx : x ≤ 100000000) (hy : y ≤ 100000000) (hd : 0 ≤ d) (hQ : Q (some (vI (((Nat.gcd x y : Nat) : Int)))) I (XX L D)) : WP l G m_X11_divisor d 153 I (XX L D) 0 [some (vI x_), some (vI y_), none, none, none] [] Q := by
  subst hx_
  subst hy_
  refine wp_iload_n (pc := 0) 0 dX11_divisor_0 rfl rfl ?_
  refine wq_istore_n (pc := 1) 2 [some (vI (x : Int)), some (vI (y : Int)), some (vI (x : Int)), none, none] dX11_divisor_1 rfl rfl (by decide) rfl ?_
  refine wp_iload_n (pc := 2) 1 dX11_divisor_2 rfl rfl ?_
  refine wq_istore_n (pc := 3) 3 [some (vI (x : Int)), some (vI (y : Int)), some (vI (x : Int)), some (vI (y : Int)), none] dX11_divisor_3 rfl rfl (by decide) rfl ?_
  refine wp_none 0 [none, some (vI (y : Int)), some (vI (x : Int)), some (vI (y : Int)), none] rfl ?_
  refine wp_none 1 [none, none, some (vI (x : Int)), some (vI (y : Int)), none] rfl ?_
  exact rl_divisor hd y x y (Nat.le_refl _) hx hy hQ

/-- all but the quiet's two numbers and the scratch of a hearing is as it was -/
def Rl (I J : mI) : Prop := (∀ b, b ≠ 111 → b ≠ 120 → b ≠ 119 → J b = I b) ∧ ∀ j, j ≠ 67 → j ≠ 68 → J 111 j = I 111 j
theorem Rl.refl {I : mI} : Rl I I := ⟨fun _ _ _ _ => rfl, fun _ _ _ => rfl⟩
theorem Rl.trans {I J K : mI} (h : Rl I J) (h2 : Rl J K) : Rl I K := ⟨fun b g1 g3 g4 => (h2.1 b g1 g3 g4).trans (h.1 b g1 g3 g4), fun j g2 g3 => (h2.2 j g2 g3).trans (h.2 j g2 g3)⟩
theorem Rl.rc {I J : mI} (h : Rl I J) : Rc I J := ⟨fun b g1 _ g3 g4 => h.1 b g1 g3 g4, fun j _ g2 g3 => h.2 j g2 g3⟩
theorem Ra.rl {I J : mI} (h : Ra I J) : Rl I J := ⟨fun b _ g2 g3 => h b g2 g3, fun j _ _ => by rw [h 111 (by decide) (by decide)]⟩
theorem Rl.two {I J : mI} {u v : Int} (h : Rl I J) : Rl I (up (up J 111 67 u) 111 68 v) := ⟨fun b g1 g2 g3 => by rw [← h.1 b g1 g2 g3]; exact funext fun j => by rw [up_c g1, up_c g1], fun j g1 g2 => by rw [up_j g2, up_j g1]; exact h.2 j g1 g2⟩

theorem pres_bit {T : mT} {S : mS} {q i : Nat} {c e : Int} (hi : i < nP T) : (lsQ T S q c e).testBit i = true ↔ (risers T S q).testBit i = true ∧ (S i = c ∨ S i = e) ∧ ¬ away T i (S 28 + 1) := by
  show (risers T S q &&& present T S c e).testBit i = true ↔ _
  unfold present
  rw [Nat.testBit_and, setOf_tb, Bool.and_eq_true, Bool.and_eq_true, decide_eq_true_eq, decide_eq_true_eq]
  constructor
  · intro h; exact ⟨h.1, h.2.2⟩
  · intro h; exact ⟨h.1, hi, h.2⟩

theorem rl_layQuiet {l : Launch} {G : mG} {d : Nat} {I : mI} {L : Nat → Nat → Int} {D : Nat → Nat} {Q : mQ} {T : mT} {S : mS} {B : Int} {q : Nat} {c e : Int} (hR : RT I T) (hA : I 140 = pS S) (hw : tw T) (hv : sw S B) (hC : TC T) (hX : FX I T) (hcd : ∀ j, inR (T 18 j)) (hB : B ≤ 100000) (hq : q < nQ T) (hc : inR c) (he : inR e) (hk : ∀ c, c < 4 → I 141 c = ((pc8 (readIn T S (c : Int) (called T S)) : Nat) : Int)) (hd : 5 ≤ d) (hQ : ∀ J, Rl I J → J 111 67 = upV T S q c e → J 111 68 = alV T S q c e → Q none J (XX L D)) : ∀ i : Nat, i ≤ nP T → ∀ J, Rl I J → J 111 67 = upN T S (lsQ T S q c e) (called T S) i → J 111 68 = allN (lsQ T S q c e) i → WP l G m_X11_layQuiet d 153 J (XX L D) 20 [some (vR 111), some (vI (q : Int)), some (vI c), some (vI e), some (vI ((risers T S q : Nat) : Int)), some (vI (i : Int))] [] Q := by
  have b_p := tw_p hw
  have b_q := tw_q hw
  have b_c := tw_c hw
  have eP : nP T = (T 0 12).toNat := rfl
  have eQ : nQ T = (T 0 13).toNat := rfl
  have eC : nC T = (T 0 11).toNat := rfl
  have br := risers_lt hw S q
  have bs := sw_sun hv
  refine loop_dn (fun i => ∀ J, Rl I J → J 111 67 = upN T S (lsQ T S q c e) (called T S) i → J 111 68 = allN (lsQ T S q c e) i → WP l G m_X11_layQuiet d 153 J (XX L D) 20 [some (vR 111), some (vI (q : Int)), some (vI c), some (vI e), some (vI ((risers T S q : Nat) : Int)), some (vI (i : Int))] [] Q) (nP T) ?_ (fun i hi ih => ?_)
  · intro J hJ h67 h68
    have hRj := hJ.rc.rt hR
    have hAj := hJ.rc.air hA
    refine wp_iload (pc := 20) dX11_layQuiet_20 rfl ?_
    refine wp_aload_n (pc := 22) 0 dX11_layQuiet_22 rfl rfl ?_
    refine wp_geti (pc := 23) dX11_layQuiet_23 rfl f_X11_412 kd_111 la_111 (Or.inl rfl) ?_
    refine wp_eqst (st' := [vI (T 0 12), vI (((nP T) : Nat) : Int)]) (by rw [rt_p hRj]) ?_
    refine wp_icmp_ge (pc := 26) 108 dX11_layQuiet_26 (by decide) (by omega) (by omega) (fun h_1 => ?_) (fun h_1 => ?_)
    · refine wp_vret (pc := 108) dX11_layQuiet_108 rfl rfl ?_
      exact hQ J hJ h67 h68
    · exfalso; omega
  · intro J hJ h67 h68
    have hRj := hJ.rc.rt hR
    have hAj := hJ.rc.air hA
    have b9 := bit_lt (risers T S q) i
    have b8 := ear_in T S i (called T S)
    have bi := sw_seat hv (j := i) (by omega)
    have b7 := up_in T S (lsQ T S q c e) (called T S) i (by omega)
    have b6 := al_in (lsQ T S q c e) i (by omega)
    refine wp_iload (pc := 20) dX11_layQuiet_20 rfl ?_
    refine wp_aload_n (pc := 22) 0 dX11_layQuiet_22 rfl rfl ?_
    refine wp_geti (pc := 23) dX11_layQuiet_23 rfl f_X11_412 kd_111 la_111 (Or.inl rfl) ?_
    refine wp_eqst (st' := [vI (T 0 12), vI (i : Int)]) (by rw [rt_p hRj]) ?_
    refine wp_icmp_ge (pc := 26) 108 dX11_layQuiet_26 (by decide) (by omega) (by omega) (fun h_1 => ?_) (fun h_1 => ?_)
    · exfalso; omega
    · refine wp_iload (pc := 29) dX11_layQuiet_29 rfl ?_
      refine wp_iload (pc := 31) dX11_layQuiet_31 rfl ?_
      refine wn_shr (pc := 33) (risers T S q) i dX11_layQuiet_33 rfl rfl (by omega) (by omega) ?_
      refine wp_iconst (pc := 34) dX11_layQuiet_34 ?_
      refine wn_mask (pc := 35) ((risers T S q) / 2 ^ i) 1 dX11_layQuiet_35 rfl rfl (by decide) ?_
      refine wp_if_eq (pc := 36) 102 dX11_layQuiet_36 (by decide) (by omega) (fun h_2 => ?_) (fun h_2 => ?_)
      · refine wq_iinc (pc := 102) [some (vR 111), some (vI (q : Int)), some (vI c), some (vI e), some (vI ((risers T S q : Nat) : Int)), some (vI ((i : Int) + 1))] dX11_layQuiet_102 rfl rfl (by decide) rfl ?_
        refine wp_goto (pc := 105) 20 dX11_layQuiet_105 (by decide) ?_
        have hl : ¬ (lsQ T S q c e).testBit i = true := fun x => by have y := (pres_bit hi).mp x; have y2 := (bit_iff _ i).mpr y.1; omega
        refine wp_eqls (ls' := [some (vR 111), some (vI (q : Int)), some (vI c), some (vI e), some (vI ((risers T S q : Nat) : Int)), some (vI (((i + 1) : Nat) : Int))]) rfl (ih J hJ (h67.trans (if_neg hl).symm) (h68.trans (if_neg hl).symm))
      · refine wp_aload_n (pc := 39) 0 dX11_layQuiet_39 rfl rfl ?_
        refine wp_iload (pc := 40) dX11_layQuiet_40 rfl ?_
        refine wp_callV (pc := 42) (st := []) (nf' := 153) [vI (i : Int)] [some (vR 111), some (vI (i : Int))] dX11_layQuiet_42 rfl c_X11_476 rfl kd_111 (by decide) rfl la_111 rfl (Nat.le_of_ble_eq_true rfl) rfl (Nat.le_of_ble_eq_true rfl) (by omega) (Nat.le_refl _) (Nat.le_refl _) ?_
        refine rs_isAway i rfl hRj hAj hw hv (by omega) (by omega) (by omega) (fun h_3 => ?_) (fun h_3 => ?_)
        · refine wp_eqst (st' := [vI 1]) rfl ?_
          refine wp_if_ne (pc := 45) 102 dX11_layQuiet_45 (by decide) (by decide) (fun _ => ?_) (fun hh => absurd hh (by decide))
          refine wq_iinc (pc := 102) [some (vR 111), some (vI (q : Int)), some (vI c), some (vI e), some (vI ((risers T S q : Nat) : Int)), some (vI ((i : Int) + 1))] dX11_layQuiet_102 rfl rfl (by decide) rfl ?_
          refine wp_goto (pc := 105) 20 dX11_layQuiet_105 (by decide) ?_
          have hl : ¬ (lsQ T S q c e).testBit i = true := fun x => by have y := (pres_bit hi).mp x; first | exact absurd h_3 y.2.2 | exact y.2.2 h_3 | (have y2 := y.2.1; omega)
          refine wp_eqls (ls' := [some (vR 111), some (vI (q : Int)), some (vI c), some (vI e), some (vI ((risers T S q : Nat) : Int)), some (vI (((i + 1) : Nat) : Int))]) rfl (ih J hJ (h67.trans (if_neg hl).symm) (h68.trans (if_neg hl).symm))
        · refine wp_eqst (st' := [vI 0]) rfl ?_
          refine wp_if_ne (pc := 45) 102 dX11_layQuiet_45 (by decide) (by decide) (fun hh => absurd hh (by decide)) (fun _ => ?_)
          refine wp_aload_n (pc := 48) 0 dX11_layQuiet_48 rfl rfl ?_
          refine wp_getr (pc := 49) dX11_layQuiet_49 rfl f_X11_106 kd_111 la_111 rfl (r_111_61 D) ?_
          refine wp_iload (pc := 52) dX11_layQuiet_52 rfl ?_
          refine wq_iald (pc := 54) i dX11_layQuiet_54 kd_140 la_140 rfl (by omega) ?_
          refine wp_eqst (st' := [vI (S i)]) (by rw [hAj, pS_s (by omega)]) ?_
          refine wp_iload_n (pc := 55) 2 dX11_layQuiet_55 rfl rfl ?_
          refine wp_icmp_eq (pc := 56) 73 dX11_layQuiet_56 (by decide) (by omega) (by omega) (fun h_4 => ?_) (fun h_4 => ?_)
          · refine wp_aload_n (pc := 73) 0 dX11_layQuiet_73 rfl rfl ?_
            refine wp_dup (pc := 74) dX11_layQuiet_74 rfl ?_
            refine wp_geti (pc := 75) dX11_layQuiet_75 rfl f_X11_527 kd_111 la_111 (Or.inl rfl) ?_
            refine wp_eqst (st' := [vI (upN T S (lsQ T S q c e) (called T S) i), vR 111]) (by rw [h67]) ?_
            refine wp_bipush (pc := 78) dX11_layQuiet_78 (by decide) ?_
            refine wp_aload_n (pc := 80) 0 dX11_layQuiet_80 rfl rfl ?_
            refine wp_iload (pc := 81) dX11_layQuiet_81 rfl ?_
            refine wp_callV (pc := 83) (st := [vI 10, vI (upN T S (lsQ T S q c e) (called T S) i), vR 111]) (nf' := 153) [vI (i : Int)] [some (vR 111), some (vI (i : Int))] dX11_layQuiet_83 rfl c_X11_500 rfl kd_111 (by decide) rfl la_111 rfl (Nat.le_of_ble_eq_true rfl) rfl (Nat.le_of_ble_eq_true rfl) (by omega) (Nat.le_refl _) (Nat.le_refl _) ?_
            refine rs_hearingOf (cl := called T S) i rfl hRj hAj hw hv (hJ.rc.fx hX) hcd (by omega) (by omega) (fun c hc => by rw [hJ.1 141 (by decide) (by decide) (by decide)]; exact hk c hc) (by omega) (fun N hN => ?_)
            have h67n := (congrFun (hN 111 (by decide) (by decide)) 67).trans h67
            have h68n := (congrFun (hN 111 (by decide) (by decide)) 68).trans h68
            refine wp_eqst (st' := [vI (ear T S i (called T S)), vI 10, vI (upN T S (lsQ T S q c e) (called T S) i), vR 111]) rfl ?_
            refine wp_isub (pc := 86) dX11_layQuiet_86 ?_
            refine wp_imul (pc := 87) dX11_layQuiet_87 ?_
            refine wp_puti (pc := 88) dX11_layQuiet_88 rfl f_X11_527 kd_111 la_111 (fun _ h => by cases h; rfl) rfl ?_
            refine wp_aload_n (pc := 91) 0 dX11_layQuiet_91 rfl rfl ?_
            refine wp_dup (pc := 92) dX11_layQuiet_92 rfl ?_
            refine wp_geti (pc := 93) dX11_layQuiet_93 rfl f_X11_530 kd_111 la_111 (Or.inl rfl) ?_
            refine wp_eqst (st' := [vI (allN (lsQ T S q c e) i), vR 111]) (by rw [up_j (by omega), h68n]) ?_
            refine wp_bipush (pc := 96) dX11_layQuiet_96 (by decide) ?_
            refine wp_imul (pc := 98) dX11_layQuiet_98 ?_
            refine wp_puti (pc := 99) dX11_layQuiet_99 rfl f_X11_530 kd_111 la_111 (fun _ h => by cases h; rfl) rfl ?_
            refine wq_iinc (pc := 102) [some (vR 111), some (vI (q : Int)), some (vI c), some (vI e), some (vI ((risers T S q : Nat) : Int)), some (vI ((i : Int) + 1))] dX11_layQuiet_102 rfl rfl (by decide) rfl ?_
            refine wp_goto (pc := 105) 20 dX11_layQuiet_105 (by decide) ?_
            have hl : (lsQ T S q c e).testBit i = true := (pres_bit hi).mpr ⟨(bit_iff _ i).mp (by omega), by omega, h_3⟩
            refine wp_eqls (ls' := [some (vR 111), some (vI (q : Int)), some (vI c), some (vI e), some (vI ((risers T S q : Nat) : Int)), some (vI (((i + 1) : Nat) : Int))]) rfl (ih _ ((hJ.trans hN.rl).two) ?_ ?_)
            · rw [up_j (by decide), up_s]; exact (if_pos hl).symm
            · rw [up_s]; exact (if_pos hl).symm
          · refine wp_aload_n (pc := 59) 0 dX11_layQuiet_59 rfl rfl ?_
            refine wp_getr (pc := 60) dX11_layQuiet_60 rfl f_X11_106 kd_111 la_111 rfl (r_111_61 D) ?_
            refine wp_iload (pc := 63) dX11_layQuiet_63 rfl ?_
            refine wq_iald (pc := 65) i dX11_layQuiet_65 kd_140 la_140 rfl (by omega) ?_
            refine wp_eqst (st' := [vI (S i)]) (by rw [hAj, pS_s (by omega)]) ?_
            refine wp_iload_n (pc := 66) 3 dX11_layQuiet_66 rfl rfl ?_
            refine wp_icmp_eq (pc := 67) 73 dX11_layQuiet_67 (by decide) (by omega) (by omega) (fun h_5 => ?_) (fun h_5 => ?_)
            · refine wp_aload_n (pc := 73) 0 dX11_layQuiet_73 rfl rfl ?_
              refine wp_dup (pc := 74) dX11_layQuiet_74 rfl ?_
              refine wp_geti (pc := 75) dX11_layQuiet_75 rfl f_X11_527 kd_111 la_111 (Or.inl rfl) ?_
              refine wp_eqst (st' := [vI (upN T S (lsQ T S q c e) (called T S) i), vR 111]) (by rw [h67]) ?_
              refine wp_bipush (pc := 78) dX11_layQuiet_78 (by decide) ?_
              refine wp_aload_n (pc := 80) 0 dX11_layQuiet_80 rfl rfl ?_
              refine wp_iload (pc := 81) dX11_layQuiet_81 rfl ?_
              refine wp_callV (pc := 83) (st := [vI 10, vI (upN T S (lsQ T S q c e) (called T S) i), vR 111]) (nf' := 153) [vI (i : Int)] [some (vR 111), some (vI (i : Int))] dX11_layQuiet_83 rfl c_X11_500 rfl kd_111 (by decide) rfl la_111 rfl (Nat.le_of_ble_eq_true rfl) rfl (Nat.le_of_ble_eq_true rfl) (by omega) (Nat.le_refl _) (Nat.le_refl _) ?_
              refine rs_hearingOf (cl := called T S) i rfl hRj hAj hw hv (hJ.rc.fx hX) hcd (by omega) (by omega) (fun c hc => by rw [hJ.1 141 (by decide) (by decide) (by decide)]; exact hk c hc) (by omega) (fun N hN => ?_)
              have h67n := (congrFun (hN 111 (by decide) (by decide)) 67).trans h67
              have h68n := (congrFun (hN 111 (by decide) (by decide)) 68).trans h68
              refine wp_eqst (st' := [vI (ear T S i (called T S)), vI 10, vI (upN T S (lsQ T S q c e) (called T S) i), vR 111]) rfl ?_
              refine wp_isub (pc := 86) dX11_layQuiet_86 ?_
              refine wp_imul (pc := 87) dX11_layQuiet_87 ?_
              refine wp_puti (pc := 88) dX11_layQuiet_88 rfl f_X11_527 kd_111 la_111 (fun _ h => by cases h; rfl) rfl ?_
              refine wp_aload_n (pc := 91) 0 dX11_layQuiet_91 rfl rfl ?_
              refine wp_dup (pc := 92) dX11_layQuiet_92 rfl ?_
              refine wp_geti (pc := 93) dX11_layQuiet_93 rfl f_X11_530 kd_111 la_111 (Or.inl rfl) ?_
              refine wp_eqst (st' := [vI (allN (lsQ T S q c e) i), vR 111]) (by rw [up_j (by omega), h68n]) ?_
              refine wp_bipush (pc := 96) dX11_layQuiet_96 (by decide) ?_
              refine wp_imul (pc := 98) dX11_layQuiet_98 ?_
              refine wp_puti (pc := 99) dX11_layQuiet_99 rfl f_X11_530 kd_111 la_111 (fun _ h => by cases h; rfl) rfl ?_
              refine wq_iinc (pc := 102) [some (vR 111), some (vI (q : Int)), some (vI c), some (vI e), some (vI ((risers T S q : Nat) : Int)), some (vI ((i : Int) + 1))] dX11_layQuiet_102 rfl rfl (by decide) rfl ?_
              refine wp_goto (pc := 105) 20 dX11_layQuiet_105 (by decide) ?_
              have hl : (lsQ T S q c e).testBit i = true := (pres_bit hi).mpr ⟨(bit_iff _ i).mp (by omega), by omega, h_3⟩
              refine wp_eqls (ls' := [some (vR 111), some (vI (q : Int)), some (vI c), some (vI e), some (vI ((risers T S q : Nat) : Int)), some (vI (((i + 1) : Nat) : Int))]) rfl (ih _ ((hJ.trans hN.rl).two) ?_ ?_)
              · rw [up_j (by decide), up_s]; exact (if_pos hl).symm
              · rw [up_s]; exact (if_pos hl).symm
            · refine wp_goto (pc := 70) 102 dX11_layQuiet_70 (by decide) ?_
              refine wq_iinc (pc := 102) [some (vR 111), some (vI (q : Int)), some (vI c), some (vI e), some (vI ((risers T S q : Nat) : Int)), some (vI ((i : Int) + 1))] dX11_layQuiet_102 rfl rfl (by decide) rfl ?_
              refine wp_goto (pc := 105) 20 dX11_layQuiet_105 (by decide) ?_
              have hl : ¬ (lsQ T S q c e).testBit i = true := fun x => by have y := (pres_bit hi).mp x; first | exact absurd h_3 y.2.2 | exact y.2.2 h_3 | (have y2 := y.2.1; omega)
              refine wp_eqls (ls' := [some (vR 111), some (vI (q : Int)), some (vI c), some (vI e), some (vI ((risers T S q : Nat) : Int)), some (vI (((i + 1) : Nat) : Int))]) rfl (ih J hJ (h67.trans (if_neg hl).symm) (h68.trans (if_neg hl).symm))

theorem rs_layQuiet {l : Launch} {G : mG} {d : Nat} {I : mI} {L : Nat → Nat → Int} {D : Nat → Nat} {Q : mQ} {T : mT} {S : mS} {B : Int} {c e : Int} (q : Nat) {q_ : Int} (hq_ : q_ = (q : Int)) (hR : RT I T) (hA : I 140 = pS S) (hw : tw T) (hv : sw S B) (hC : TC T) (hX : FX I T) (hcd : ∀ j, inR (T 18 j)) (hB : B ≤ 100000) (hq : q < nQ T) (hc : inR c) (he : inR e) (hk : ∀ c, c < 4 → I 141 c = ((pc8 (readIn T S (c : Int) (called T S)) : Nat) : Int)) (hd : 5 ≤ d) (hQ : ∀ J, Rl I J → J 111 67 = upV T S q c e → J 111 68 = alV T S q c e → Q none J (XX L D)) : WP l G m_X11_layQuiet d 153 I (XX L D) 0 [some (vR 111), some (vI q_), some (vI c), some (vI e), none, none] [] Q := by
  subst hq_
  have b_p := tw_p hw
  have b_q := tw_q hw
  have b_c := tw_c hw
  have eP : nP T = (T 0 12).toNat := rfl
  have eQ : nQ T = (T 0 13).toNat := rfl
  have eC : nC T = (T 0 11).toNat := rfl
  refine wp_aload_n (pc := 0) 0 dX11_layQuiet_0 rfl rfl ?_
  refine wp_iconst (pc := 1) dX11_layQuiet_1 ?_
  refine wp_puti (pc := 2) dX11_layQuiet_2 rfl f_X11_527 kd_111 la_111 (fun _ h => by cases h; rfl) rfl ?_
  refine wp_aload_n (pc := 5) 0 dX11_layQuiet_5 rfl rfl ?_
  refine wp_iconst (pc := 6) dX11_layQuiet_6 ?_
  refine wp_puti (pc := 7) dX11_layQuiet_7 rfl f_X11_530 kd_111 la_111 (fun _ h => by cases h; rfl) rfl ?_
  have hJ0 : Rl I (up (up I 111 67 1) 111 68 1) := Rl.refl.two
  have hR0 := hJ0.rc.rt hR
  have hA0 := hJ0.rc.air hA
  refine wp_aload_n (pc := 10) 0 dX11_layQuiet_10 rfl rfl ?_
  refine wp_iload_n (pc := 11) 1 dX11_layQuiet_11 rfl rfl ?_
  refine wp_callV (pc := 12) (st := []) (nf' := 153) [vI (q : Int)] [some (vR 111), some (vI (q : Int)), none, none] dX11_layQuiet_12 rfl c_X11_491 rfl kd_111 (by decide) rfl la_111 rfl (Nat.le_of_ble_eq_true rfl) rfl (Nat.le_of_ble_eq_true rfl) (by omega) (Nat.le_refl _) (Nat.le_refl _) ?_
  refine rs_risersOf q rfl hR0 hA0 hw hv hC (by omega) (by omega) ?_
  refine wp_eqst (st' := [vI ((risers T S q : Nat) : Int)]) rfl ?_
  refine wq_istore (pc := 15) [some (vR 111), some (vI (q : Int)), some (vI c), some (vI e), some (vI ((risers T S q : Nat) : Int)), none] dX11_layQuiet_15 rfl (by decide) rfl ?_
  refine wp_iconst (pc := 17) dX11_layQuiet_17 ?_
  refine wq_istore (pc := 18) [some (vR 111), some (vI (q : Int)), some (vI c), some (vI e), some (vI ((risers T S q : Nat) : Int)), some (vI 0)] dX11_layQuiet_18 rfl (by decide) rfl ?_
  exact rl_layQuiet hR hA hw hv hC hX hcd hB hq hc he hk hd hQ 0 (Nat.zero_le _) _ hJ0 (by rw [up_j (by decide), up_s]; rfl) (by rw [up_s]; rfl)

theorem rs_quiet {l : Launch} {G : mG} {d : Nat} {I : mI} {L : Nat → Nat → Int} {D : Nat → Nat} {Q : mQ} {T : mT} {S : mS} {a c e w : Int}  (hI : RI I T S) (h_a : inR a) (h_c : inR c) (h_e : inR e) (h_w : inR w) (hd : 6 ≤ d) (hQ : ∀ J, Rq I J → Q (some (vI (quietA T S a c e w))) J (XX L D)) : WP l G m_X11_quiet d 153 I (XX L D) 0 [some (vR 111), some (vI a), some (vI c), some (vI e), some (vI w), none] [] Q := by
  obtain ⟨hR, hN, hX, hw, hv, hrd, hC, hcd⟩ := id hI
  have b_p := tw_p hw
  have b_q := tw_q hw
  have b_c := tw_c hw
  have eP : nP T = (T 0 12).toNat := rfl
  have eQ : nQ T = (T 0 13).toNat := rfl
  have eC : nC T = (T 0 11).toNat := rfl
  have b_s := sw_sun hv
  have b_i : 0 ≤ a → a < T 0 13 → 0 ≤ S (8 + a.toNat) ∧ S (8 + a.toNat) ≤ 2 := fun x y => sw_stat hv (by omega)
  have k1 : 0 ≤ upV T S a.toNat c e ∧ upV T S a.toNat c e ≤ 100000000 := up_in T S (lsQ T S a.toNat c e) (called T S) (nP T) (nP_le hw)
  have k2 : 1 ≤ alV T S a.toNat c e ∧ alV T S a.toNat c e ≤ 100000000 := al_in (lsQ T S a.toNat c e) (nP T) (nP_le hw)
  have k3 : 1 ≤ Nat.gcd (alV T S a.toNat c e).toNat (upV T S a.toNat c e).toNat ∧ Nat.gcd (alV T S a.toNat c e).toNat (upV T S a.toNat c e).toNat ≤ 100000000 := gcV_pos hw S a.toNat c e
  refine wp_aload_n (pc := 0) 0 dX11_quiet_0 rfl rfl ?_
  refine wp_iload_n (pc := 1) 1 dX11_quiet_1 rfl rfl ?_
  refine wp_callV (pc := 2) (st := []) (nf' := 153) [vI a] [some (vR 111), some (vI a)] dX11_quiet_2 rfl c_X11_518 rfl kd_111 (by decide) rfl la_111 rfl (Nat.le_of_ble_eq_true rfl) rfl (Nat.le_of_ble_eq_true rfl) (by omega) (Nat.le_refl _) (Nat.le_refl _) ?_
  refine wp_aload_n (pc := 0) 0 dX11_isOpen_0 rfl rfl ?_
  refine wp_iload_n (pc := 1) 1 dX11_isOpen_1 rfl rfl ?_
  refine wp_callV (pc := 2) (st := []) (nf' := 153) [vI a] [some (vR 111), some (vI a)] dX11_isOpen_2 rfl c_X11_506 rfl kd_111 (by decide) rfl la_111 rfl (Nat.le_of_ble_eq_true rfl) rfl (Nat.le_of_ble_eq_true rfl) (by omega) (Nat.le_refl _) (Nat.le_refl _) ?_
  refine rs_isPair hR hw (by omega) (by omega) (fun h_1 => ?_) (fun h_1 => ?_)
  · refine wp_eqst (st' := [vI 1]) rfl ?_
    refine wp_if_eq (pc := 5) 24 dX11_isOpen_5 (by decide) (by decide) (fun hh => absurd hh (by decide)) (fun _ => ?_)
    refine wp_aload_n (pc := 8) 0 dX11_isOpen_8 rfl rfl ?_
    refine wp_getr (pc := 9) dX11_isOpen_9 rfl f_X11_103 kd_111 la_111 rfl (r_111_60 D) ?_
    refine wp_bipush (pc := 12) dX11_isOpen_12 (by decide) ?_
    refine wp_iload_n (pc := 14) 1 dX11_isOpen_14 rfl rfl ?_
    refine wp_iadd (pc := 15) dX11_isOpen_15 ?_
    refine wq_iald (pc := 16) (8 + a.toNat) dX11_isOpen_16 kd_139 la_139 (by omega) (by omega) ?_
    refine wp_eqst (st' := [vI (S (8 + a.toNat))]) (by rw [hN, pS_8 (by omega)]) ?_
    refine wp_if_ne (pc := 17) 24 dX11_isOpen_17 (by decide) (by omega) (fun h_2 => ?_) (fun h_2 => ?_)
    · refine wp_iconst (pc := 24) dX11_isOpen_24 ?_
      refine wp_zret (pc := 25) dX11_isOpen_25 rfl rfl (by decide) ?_
      refine wp_eqst (st' := [vI 0]) rfl ?_
      refine wp_if_eq (pc := 5) 34 dX11_quiet_5 (by decide) (by decide) (fun _ => ?_) (fun hh => absurd hh (by decide))
      refine wp_iconst (pc := 34) dX11_quiet_34 ?_
      refine wp_iret (pc := 35) dX11_quiet_35 rfl rfl ?_
      have e1 : quietA T S a c e w = -1 := if_neg (by omega)
      have hq := hQ _ Rq.refl
      rw [e1] at hq; exact hq
    · refine wp_iconst (pc := 20) dX11_isOpen_20 ?_
      refine wp_goto (pc := 21) 25 dX11_isOpen_21 (by decide) ?_
      refine wp_zret (pc := 25) dX11_isOpen_25 rfl rfl (by decide) ?_
      refine wp_eqst (st' := [vI 1]) rfl ?_
      refine wp_if_eq (pc := 5) 34 dX11_quiet_5 (by decide) (by decide) (fun hh => absurd hh (by decide)) (fun _ => ?_)
      refine wp_aload_n (pc := 8) 0 dX11_quiet_8 rfl rfl ?_
      refine wp_iload_n (pc := 9) 2 dX11_quiet_9 rfl rfl ?_
      refine wp_callV (pc := 10) (st := []) (nf' := 153) [vI c] [some (vR 111), some (vI c)] dX11_quiet_10 rfl c_X11_512 rfl kd_111 (by decide) rfl la_111 rfl (Nat.le_of_ble_eq_true rfl) rfl (Nat.le_of_ble_eq_true rfl) (by omega) (Nat.le_refl _) (Nat.le_refl _) ?_
      refine rs_isChurch hR hw (by omega) (by omega) (fun h_3 => ?_) (fun h_3 => ?_)
      · refine wp_eqst (st' := [vI 1]) rfl ?_
        refine wp_if_eq (pc := 13) 34 dX11_quiet_13 (by decide) (by decide) (fun hh => absurd hh (by decide)) (fun _ => ?_)
        refine wp_aload_n (pc := 16) 0 dX11_quiet_16 rfl rfl ?_
        refine wp_iload_n (pc := 17) 3 dX11_quiet_17 rfl rfl ?_
        refine wp_callV (pc := 18) (st := []) (nf' := 153) [vI e] [some (vR 111), some (vI e)] dX11_quiet_18 rfl c_X11_512 rfl kd_111 (by decide) rfl la_111 rfl (Nat.le_of_ble_eq_true rfl) rfl (Nat.le_of_ble_eq_true rfl) (by omega) (Nat.le_refl _) (Nat.le_refl _) ?_
        refine rs_isChurch hR hw (by omega) (by omega) (fun h_4 => ?_) (fun h_4 => ?_)
        · refine wp_eqst (st' := [vI 1]) rfl ?_
          refine wp_if_eq (pc := 21) 34 dX11_quiet_21 (by decide) (by decide) (fun hh => absurd hh (by decide)) (fun _ => ?_)
          refine wp_iload (pc := 24) dX11_quiet_24 rfl ?_
          refine wp_iconst (pc := 26) dX11_quiet_26 ?_
          refine wp_iconst (pc := 27) dX11_quiet_27 ?_
          refine wp_callS (pc := 28) (st := []) (nf' := 153) [vI w, vI 0, vI 1] [some (vI w), some (vI 0), some (vI 1)] dX11_quiet_28 rfl c_X11_433 rfl rfl (Nat.le_of_ble_eq_true rfl) rfl (Nat.le_of_ble_eq_true rfl) (by omega) (Nat.le_refl _) (Nat.le_refl _) ?_
          refine wp_iload_n (pc := 0) 0 dX11_isIn_0 rfl rfl ?_
          refine wp_iload_n (pc := 1) 1 dX11_isIn_1 rfl rfl ?_
          refine wp_icmp_lt (pc := 2) 14 dX11_isIn_2 (by decide) (by omega) (by decide) (fun h_5 => ?_) (fun h_5 => ?_)
          · refine wp_iconst (pc := 14) dX11_isIn_14 ?_
            refine wp_zret (pc := 15) dX11_isIn_15 rfl rfl (by decide) ?_
            refine wp_eqst (st' := [vI 0]) rfl ?_
            refine wp_if_ne (pc := 31) 36 dX11_quiet_31 (by decide) (by decide) (fun hh => absurd hh (by decide)) (fun _ => ?_)
            refine wp_iconst (pc := 34) dX11_quiet_34 ?_
            refine wp_iret (pc := 35) dX11_quiet_35 rfl rfl ?_
            have e1 : quietA T S a c e w = -1 := if_neg (by omega)
            have hq := hQ _ Rq.refl
            rw [e1] at hq; exact hq
          · refine wp_iload_n (pc := 5) 0 dX11_isIn_5 rfl rfl ?_
            refine wp_iload_n (pc := 6) 2 dX11_isIn_6 rfl rfl ?_
            refine wp_icmp_gt (pc := 7) 14 dX11_isIn_7 (by decide) (by omega) (by decide) (fun h_6 => ?_) (fun h_6 => ?_)
            · refine wp_iconst (pc := 14) dX11_isIn_14 ?_
              refine wp_zret (pc := 15) dX11_isIn_15 rfl rfl (by decide) ?_
              refine wp_eqst (st' := [vI 0]) rfl ?_
              refine wp_if_ne (pc := 31) 36 dX11_quiet_31 (by decide) (by decide) (fun hh => absurd hh (by decide)) (fun _ => ?_)
              refine wp_iconst (pc := 34) dX11_quiet_34 ?_
              refine wp_iret (pc := 35) dX11_quiet_35 rfl rfl ?_
              have e1 : quietA T S a c e w = -1 := if_neg (by omega)
              have hq := hQ _ Rq.refl
              rw [e1] at hq; exact hq
            · refine wp_iconst (pc := 10) dX11_isIn_10 ?_
              refine wp_goto (pc := 11) 15 dX11_isIn_11 (by decide) ?_
              refine wp_zret (pc := 15) dX11_isIn_15 rfl rfl (by decide) ?_
              refine wp_eqst (st' := [vI 1]) rfl ?_
              refine wp_if_ne (pc := 31) 36 dX11_quiet_31 (by decide) (by decide) (fun _ => ?_) (fun hh => absurd hh (by decide))
              refine wp_aload_n (pc := 36) 0 dX11_quiet_36 rfl rfl ?_
              refine wp_callV (pc := 37) (st := []) (nf' := 153) [] [some (vR 111)] dX11_quiet_37 rfl c_X11_509 rfl kd_111 (by decide) rfl la_111 rfl (Nat.le_of_ble_eq_true rfl) rfl (Nat.le_of_ble_eq_true rfl) (by omega) (Nat.le_refl _) (Nat.le_refl _) ?_
              refine wp_aload_n (pc := 0) 0 dX11_loadRead_0 rfl rfl ?_
              refine wp_callV (pc := 1) (st := []) (nf' := 153) [] [some (vR 111), none] dX11_loadRead_1 rfl c_X11_485 rfl kd_111 (by decide) rfl la_111 rfl (Nat.le_of_ble_eq_true rfl) rfl (Nat.le_of_ble_eq_true rfl) (by omega) (Nat.le_refl _) (Nat.le_refl _) ?_
              refine rs_load (by omega) ?_
              generalize hJe : upc I 140 (I 139) = J
              have hJ : ∀ b, b ≠ 140 → J b = I b := fun b g => by rw [← hJe]; exact funext fun j => upc_c g
              have hAJ : J 140 = pS S := by rw [← hJe, ← hN]; exact funext fun j => upc_s
              have hRJ := ld_rt hJ hR
              have hXJ := ld_fx hJ hX
              refine wp_eqst (st' := []) rfl ?_
              refine wp_aload_n (pc := 4) 0 dX11_loadRead_4 rfl rfl ?_
              refine wp_callV (pc := 5) (st := []) (nf' := 153) [] [some (vR 111), none, none, none] dX11_loadRead_5 rfl c_X11_488 rfl kd_111 (by decide) rfl la_111 rfl (Nat.le_of_ble_eq_true rfl) rfl (Nat.le_of_ble_eq_true rfl) (by omega) (Nat.le_refl _) (Nat.le_refl _) ?_
              refine rs_layRead hRJ hAJ hw hv hC (by omega) (by omega) (fun K hK hK63 hK141 => ?_)
              have hRK := hK.rt hRJ
              have hAK := hK.air hAJ
              have hXK := hK.fx hXJ
              have hkK : ∀ c, c < 4 → K 141 c = ((pc8 (readIn T S (c : Int) (called T S)) : Nat) : Int) := fun c hc => (hK141 c hc).trans (calls_read hw hv c)
              refine wp_eqst (st' := []) rfl ?_
              refine wp_vret (pc := 8) dX11_loadRead_8 rfl rfl ?_
              refine wp_eqst (st' := []) rfl ?_
              refine wp_aload_n (pc := 40) 0 dX11_quiet_40 rfl rfl ?_
              refine wp_iload_n (pc := 41) 1 dX11_quiet_41 rfl rfl ?_
              refine wp_iload_n (pc := 42) 2 dX11_quiet_42 rfl rfl ?_
              refine wp_iload_n (pc := 43) 3 dX11_quiet_43 rfl rfl ?_
              refine wp_callV (pc := 44) (st := []) (nf' := 153) [vI a, vI c, vI e] [some (vR 111), some (vI a), some (vI c), some (vI e), none, none] dX11_quiet_44 rfl c_X11_533 rfl kd_111 (by decide) rfl la_111 rfl (Nat.le_of_ble_eq_true rfl) rfl (Nat.le_of_ble_eq_true rfl) (by omega) (Nat.le_refl _) (Nat.le_refl _) ?_
              refine rs_layQuiet a.toNat (by omega) hRK hAK hw hv hC hXK hcd (by omega) (by omega) (by omega) (by omega) hkK (by omega) (fun N hN h67 h68 => ?_)
              refine wp_eqst (st' := []) rfl ?_
              refine wp_aload_n (pc := 47) 0 dX11_quiet_47 rfl rfl ?_
              refine wp_geti (pc := 48) dX11_quiet_48 rfl f_X11_530 kd_111 la_111 (Or.inl rfl) ?_
              refine wp_eqst (st' := [vI (alV T S a.toNat c e)]) (by rw [h68]) ?_
              refine wp_aload_n (pc := 51) 0 dX11_quiet_51 rfl rfl ?_
              refine wp_geti (pc := 52) dX11_quiet_52 rfl f_X11_527 kd_111 la_111 (Or.inl rfl) ?_
              refine wp_eqst (st' := [vI (upV T S a.toNat c e), vI (alV T S a.toNat c e)]) (by rw [h67]) ?_
              refine wp_callS (pc := 55) (st := []) (nf' := 153) [vI (alV T S a.toNat c e), vI (upV T S a.toNat c e)] [some (vI (alV T S a.toNat c e)), some (vI (upV T S a.toNat c e)), none, none, none] dX11_quiet_55 rfl c_X11_537 rfl rfl (Nat.le_of_ble_eq_true rfl) rfl (Nat.le_of_ble_eq_true rfl) (by omega) (Nat.le_refl _) (Nat.le_refl _) ?_
              refine rs_divisor (Int.toNat (alV T S a.toNat c e)) (by omega) (Int.toNat (upV T S a.toNat c e)) (by omega) (by omega) (by omega) (by omega) ?_
              refine wp_eqst (st' := [vI ((Nat.gcd (Int.toNat (alV T S a.toNat c e)) (Int.toNat (upV T S a.toNat c e)) : Nat) : Int)]) rfl ?_
              refine wq_istore (pc := 58) [some (vR 111), some (vI a), some (vI c), some (vI e), some (vI w), some (vI ((Nat.gcd (Int.toNat (alV T S a.toNat c e)) (Int.toNat (upV T S a.toNat c e)) : Nat) : Int))] dX11_quiet_58 rfl (by decide) rfl ?_
              refine wp_iload (pc := 60) dX11_quiet_60 rfl ?_
              refine wp_if_ne (pc := 62) 75 dX11_quiet_62 (by decide) (by omega) (fun h_7 => ?_) (fun h_7 => ?_)
              · refine wp_aload_n (pc := 75) 0 dX11_quiet_75 rfl rfl ?_
                refine wp_geti (pc := 76) dX11_quiet_76 rfl f_X11_530 kd_111 la_111 (Or.inl rfl) ?_
                refine wp_eqst (st' := [vI (alV T S a.toNat c e)]) (by rw [h68]) ?_
                refine wp_iload (pc := 79) dX11_quiet_79 rfl ?_
                refine wp_idiv (pc := 81) dX11_quiet_81 (by omega) (by omega) (by omega) ?_
                refine wp_iret (pc := 82) dX11_quiet_82 rfl rfl ?_
                have e1 : quietA T S a c e w = Int.tdiv (alV T S a.toNat c e) ((Nat.gcd (Int.toNat (alV T S a.toNat c e)) (Int.toNat (upV T S a.toNat c e)) : Nat) : Int) := by rw [quiet_eq hw S a c e w (by omega), if_neg (by omega)]
                have hq := hQ N (((Rq.ld hJ).rc hK).rc hN.rc)
                rw [e1] at hq; exact hq
              · refine wp_aload_n (pc := 65) 0 dX11_quiet_65 rfl rfl ?_
                refine wp_geti (pc := 66) dX11_quiet_66 rfl f_X11_527 kd_111 la_111 (Or.inl rfl) ?_
                refine wp_eqst (st' := [vI (upV T S a.toNat c e)]) (by rw [h67]) ?_
                refine wp_iload (pc := 69) dX11_quiet_69 rfl ?_
                refine wp_idiv (pc := 71) dX11_quiet_71 (by omega) (by omega) (by omega) ?_
                refine wp_goto (pc := 72) 82 dX11_quiet_72 (by decide) ?_
                refine wp_iret (pc := 82) dX11_quiet_82 rfl rfl ?_
                have e1 : quietA T S a c e w = Int.tdiv (upV T S a.toNat c e) ((Nat.gcd (Int.toNat (alV T S a.toNat c e)) (Int.toNat (upV T S a.toNat c e)) : Nat) : Int) := by rw [quiet_eq hw S a c e w (by omega), if_pos (by omega)]
                have hq := hQ N (((Rq.ld hJ).rc hK).rc hN.rc)
                rw [e1] at hq; exact hq
        · refine wp_eqst (st' := [vI 0]) rfl ?_
          refine wp_if_eq (pc := 21) 34 dX11_quiet_21 (by decide) (by decide) (fun _ => ?_) (fun hh => absurd hh (by decide))
          refine wp_iconst (pc := 34) dX11_quiet_34 ?_
          refine wp_iret (pc := 35) dX11_quiet_35 rfl rfl ?_
          have e1 : quietA T S a c e w = -1 := if_neg (by omega)
          have hq := hQ _ Rq.refl
          rw [e1] at hq; exact hq
      · refine wp_eqst (st' := [vI 0]) rfl ?_
        refine wp_if_eq (pc := 13) 34 dX11_quiet_13 (by decide) (by decide) (fun _ => ?_) (fun hh => absurd hh (by decide))
        refine wp_iconst (pc := 34) dX11_quiet_34 ?_
        refine wp_iret (pc := 35) dX11_quiet_35 rfl rfl ?_
        have e1 : quietA T S a c e w = -1 := if_neg (by omega)
        have hq := hQ _ Rq.refl
        rw [e1] at hq; exact hq
  · refine wp_eqst (st' := [vI 0]) rfl ?_
    refine wp_if_eq (pc := 5) 24 dX11_isOpen_5 (by decide) (by decide) (fun _ => ?_) (fun hh => absurd hh (by decide))
    refine wp_iconst (pc := 24) dX11_isOpen_24 ?_
    refine wp_zret (pc := 25) dX11_isOpen_25 rfl rfl (by decide) ?_
    refine wp_eqst (st' := [vI 0]) rfl ?_
    refine wp_if_eq (pc := 5) 34 dX11_quiet_5 (by decide) (by decide) (fun _ => ?_) (fun hh => absurd hh (by decide))
    refine wp_iconst (pc := 34) dX11_quiet_34 ?_
    refine wp_iret (pc := 35) dX11_quiet_35 rfl rfl ?_
    have e1 : quietA T S a c e w = -1 := if_neg (by omega)
    have hq := hQ _ Rq.refl
    rw [e1] at hq; exact hq

theorem rl_quietest_in {l : Launch} {G : mG} {d : Nat} {I : mI} {L : Nat → Nat → Int} {D : Nat → Nat} {Q : mQ} {T : mT} {S : mS} {B : Int} {a w : Int} {x : Nat} (hR : RT I T) (hA : I 140 = pS S) (hw : tw T) (hv : sw S B) (hC : TC T) (hX : FX I T) (hcd : ∀ j, inR (T 18 j)) (hB : B ≤ 100000) (h_a : 0 ≤ a ∧ a < T 0 13) (h_w : 0 ≤ w ∧ w ≤ 1) (hk : ∀ c, c < 4 → I 141 c = ((pc8 (readIn T S (c : Int) (called T S)) : Nat) : Int)) (hx : x < nC T) (hd : 6 ≤ d) : ∀ i : Nat, i ≤ nC T → ∀ (b u A : Int) (t : Int × Int) (J : mI), qRel w b u A t → Rl I J → (∀ (b u A : Int) (J : mI), qRel w b u A (qIn T S a.toNat w x (nC T - i) i t) → Rl I J → WP l G m_X11_quietest d 153 J (XX L D) 34 [some (vR 111), some (vI a), some (vI w), some (vI b), some (vJ u), none, some (vJ A), none, some (vI (((x + 1) : Nat) : Int)), none] [] Q) → WP l G m_X11_quietest d 153 J (XX L D) 47 [some (vR 111), some (vI a), some (vI w), some (vI b), some (vJ u), none, some (vJ A), none, some (vI (x : Int)), some (vI (i : Int))] [] Q := by
  have b_p := tw_p hw
  have b_q := tw_q hw
  have b_c := tw_c hw
  have eP : nP T = (T 0 12).toNat := rfl
  have eQ : nQ T = (T 0 13).toNat := rfl
  have eC : nC T = (T 0 11).toNat := rfl
  refine loop_dn (fun i => ∀ (b u A : Int) (t : Int × Int) (J : mI), qRel w b u A t → Rl I J → (∀ (b u A : Int) (J : mI), qRel w b u A (qIn T S a.toNat w x (nC T - i) i t) → Rl I J → WP l G m_X11_quietest d 153 J (XX L D) 34 [some (vR 111), some (vI a), some (vI w), some (vI b), some (vJ u), none, some (vJ A), none, some (vI (((x + 1) : Nat) : Int)), none] [] Q) → WP l G m_X11_quietest d 153 J (XX L D) 47 [some (vR 111), some (vI a), some (vI w), some (vI b), some (vJ u), none, some (vJ A), none, some (vI (x : Int)), some (vI (i : Int))] [] Q) (nC T) ?_ (fun i hi ih => ?_)
  · intro b u A t J hq hJ hN
    have hRj := hJ.rc.rt hR
    have hAj := hJ.rc.air hA
    have q1 := hq.1
    have q2 := hq.2.1
    refine wp_iload (pc := 47) dX11_quietest_47 rfl ?_
    refine wp_aload_n (pc := 49) 0 dX11_quietest_49 rfl rfl ?_
    refine wp_geti (pc := 50) dX11_quietest_50 rfl f_X11_409 kd_111 la_111 (Or.inl rfl) ?_
    refine wp_eqst (st' := [vI (T 0 11), vI (((nC T) : Nat) : Int)]) (by rw [rt_c hRj]) ?_
    refine wp_icmp_ge (pc := 53) 120 dX11_quietest_53 (by decide) (by omega) (by omega) (fun h_1 => ?_) (fun h_1 => ?_)
    · refine wq_iinc (pc := 120) [some (vR 111), some (vI a), some (vI w), some (vI b), some (vJ u), none, some (vJ A), none, some (vI ((x : Int) + 1)), some (vI (((nC T) : Nat) : Int))] dX11_quietest_120 rfl rfl (by decide) rfl ?_
      refine wp_goto (pc := 123) 34 dX11_quietest_123 (by decide) ?_
      refine wp_none 9 [some (vR 111), some (vI a), some (vI w), some (vI b), some (vJ u), none, some (vJ A), none, some (vI ((x : Int) + 1)), none] rfl ?_
      refine wp_eqls (ls' := [some (vR 111), some (vI a), some (vI w), some (vI b), some (vJ u), none, some (vJ A), none, some (vI (((x + 1) : Nat) : Int)), none]) rfl (hN b u A J (by rw [Nat.sub_self]; exact hq) hJ)
    · exfalso; omega
  · intro b u A t J hq hJ hN
    have hRj := hJ.rc.rt hR
    have hAj := hJ.rc.air hA
    have q1 := hq.1
    have q2 := hq.2.1
    have q3 : -1 ≤ b ∧ b ≤ 20 := by
      rcases hq.2.2 with ⟨g, -⟩ | ⟨x, y, g1, g2, g, -, -⟩ <;> omega
    have k1 : 0 ≤ upV T S a.toNat x i ∧ upV T S a.toNat x i ≤ 100000000 := up_in T S (lsQ T S a.toNat x i) (called T S) (nP T) (nP_le hw)
    have k2 : 1 ≤ alV T S a.toNat x i ∧ alV T S a.toNat x i ≤ 100000000 := al_in (lsQ T S a.toNat x i) (nP T) (nP_le hw)
    have k3 : 0 ≤ upV T S a.toNat x i * A ∧ upV T S a.toNat x i * A ≤ 100000000 * 100000000 := ⟨Int.mul_nonneg k1.1 (by omega), Int.mul_le_mul k1.2 q2.2 (by omega) (by decide)⟩
    have k4 : 0 ≤ u * alV T S a.toNat x i ∧ u * alV T S a.toNat x i ≤ 100000000 * 100000000 := ⟨Int.mul_nonneg q1.1 (by omega), Int.mul_le_mul q1.2 k2.2 (by omega) (by decide)⟩
    refine wp_iload (pc := 47) dX11_quietest_47 rfl ?_
    refine wp_aload_n (pc := 49) 0 dX11_quietest_49 rfl rfl ?_
    refine wp_geti (pc := 50) dX11_quietest_50 rfl f_X11_409 kd_111 la_111 (Or.inl rfl) ?_
    refine wp_eqst (st' := [vI (T 0 11), vI (i : Int)]) (by rw [rt_c hRj]) ?_
    refine wp_icmp_ge (pc := 53) 120 dX11_quietest_53 (by decide) (by omega) (by omega) (fun h_1 => ?_) (fun h_1 => ?_)
    · exfalso; omega
    · refine wp_aload_n (pc := 56) 0 dX11_quietest_56 rfl rfl ?_
      refine wp_iload_n (pc := 57) 1 dX11_quietest_57 rfl rfl ?_
      refine wp_iload (pc := 58) dX11_quietest_58 rfl ?_
      refine wp_iload (pc := 60) dX11_quietest_60 rfl ?_
      refine wp_callV (pc := 62) (st := []) (nf' := 153) [vI a, vI (x : Int), vI (i : Int)] [some (vR 111), some (vI a), some (vI (x : Int)), some (vI (i : Int)), none, none] dX11_quietest_62 rfl c_X11_533 rfl kd_111 (by decide) rfl la_111 rfl (Nat.le_of_ble_eq_true rfl) rfl (Nat.le_of_ble_eq_true rfl) (by omega) (Nat.le_refl _) (Nat.le_refl _) ?_
      refine rs_layQuiet a.toNat (by omega) hRj hAj hw hv hC (hJ.rc.fx hX) hcd (by omega) (by omega) (by omega) (by omega) (fun c hc => by rw [hJ.1 141 (by decide) (by decide) (by decide)]; exact hk c hc) (by omega) (fun N hN2 h67 h68 => ?_)
      refine wp_eqst (st' := []) rfl ?_
      refine wp_iload_n (pc := 65) 3 dX11_quietest_65 rfl rfl ?_
      refine wp_if_lt (pc := 66) 92 dX11_quietest_66 (by decide) (by omega) (fun h_2 => ?_) (fun h_2 => ?_)
      · refine wp_iconst (pc := 92) dX11_quietest_92 ?_
        refine wp_iload (pc := 93) dX11_quietest_93 rfl ?_
        refine wp_imul (pc := 95) dX11_quietest_95 ?_
        refine wp_iload (pc := 96) dX11_quietest_96 rfl ?_
        refine wp_iadd (pc := 98) dX11_quietest_98 ?_
        refine wq_istore_n (pc := 99) 3 [some (vR 111), some (vI a), some (vI w), some (vI ((4 * (x : Int)) + (i : Int))), some (vJ u), none, some (vJ A), none, some (vI (x : Int)), some (vI (i : Int))] dX11_quietest_99 rfl rfl (by decide) rfl ?_
        refine wp_aload_n (pc := 100) 0 dX11_quietest_100 rfl rfl ?_
        refine wp_geti (pc := 101) dX11_quietest_101 rfl f_X11_527 kd_111 la_111 (Or.inl rfl) ?_
        refine wp_eqst (st' := [vI (upV T S a.toNat x i)]) (by rw [h67]) ?_
        refine wp_i2l (pc := 104) dX11_quietest_104 (by omega) ?_
        refine wq_lstore (pc := 105) [some (vR 111), some (vI a), some (vI w), some (vI ((4 * (x : Int)) + (i : Int))), some (vJ (upV T S a.toNat x i)), none, some (vJ A), none, some (vI (x : Int)), some (vI (i : Int))] dX11_quietest_105 rfl (by decide) rfl ?_
        refine wp_aload_n (pc := 107) 0 dX11_quietest_107 rfl rfl ?_
        refine wp_geti (pc := 108) dX11_quietest_108 rfl f_X11_530 kd_111 la_111 (Or.inl rfl) ?_
        refine wp_eqst (st' := [vI (alV T S a.toNat x i)]) (by rw [h68]) ?_
        refine wp_i2l (pc := 111) dX11_quietest_111 (by omega) ?_
        refine wq_lstore (pc := 112) [some (vR 111), some (vI a), some (vI w), some (vI ((4 * (x : Int)) + (i : Int))), some (vJ (upV T S a.toNat x i)), none, some (vJ (alV T S a.toNat x i)), none, some (vI (x : Int)), some (vI (i : Int))] dX11_quietest_112 rfl (by decide) rfl ?_
        refine wq_iinc (pc := 114) [some (vR 111), some (vI a), some (vI w), some (vI ((4 * (x : Int)) + (i : Int))), some (vJ (upV T S a.toNat x i)), none, some (vJ (alV T S a.toNat x i)), none, some (vI (x : Int)), some (vI ((i : Int) + 1))] dX11_quietest_114 rfl rfl (by decide) rfl ?_
        refine wp_goto (pc := 117) 47 dX11_quietest_117 (by decide) ?_
        have er : nC T - i = (nC T - (i + 1)) + 1 := by omega
        rw [er, qIn] at hN
        have hq2 := qRel_yes hw (S := S) (q := a.toNat) (lo := x) (hi := i) (by omega) (by omega) hq (Or.inl (by omega))
        refine wp_eqls (ls' := [some (vR 111), some (vI a), some (vI w), some (vI ((4 * (x : Int)) + (i : Int))), some (vJ (upV T S a.toNat x i)), none, some (vJ (alV T S a.toNat x i)), none, some (vI (x : Int)), some (vI (((i + 1) : Nat) : Int))]) rfl (ih _ _ _ _ N hq2 (hJ.trans hN2) hN)
      · refine wp_aload_n (pc := 69) 0 dX11_quietest_69 rfl rfl ?_
        refine wp_geti (pc := 70) dX11_quietest_70 rfl f_X11_527 kd_111 la_111 (Or.inl rfl) ?_
        refine wp_eqst (st' := [vI (upV T S a.toNat x i)]) (by rw [h67]) ?_
        refine wp_i2l (pc := 73) dX11_quietest_73 (by omega) ?_
        refine wp_lload (pc := 74) dX11_quietest_74 rfl ?_
        refine wp_lmul (pc := 76) dX11_quietest_76 ?_
        refine wp_lload (pc := 77) dX11_quietest_77 rfl ?_
        refine wp_aload_n (pc := 79) 0 dX11_quietest_79 rfl rfl ?_
        refine wp_geti (pc := 80) dX11_quietest_80 rfl f_X11_530 kd_111 la_111 (Or.inl rfl) ?_
        refine wp_eqst (st' := [vI (alV T S a.toNat x i), vJ u, vJ ((upV T S a.toNat x i) * A)]) (by rw [h68]) ?_
        refine wp_i2l (pc := 83) dX11_quietest_83 (by omega) ?_
        refine wp_lmul (pc := 84) dX11_quietest_84 ?_
        refine wp_lcmp (pc := 85) dX11_quietest_85 (by omega) (by omega) ?_
        refine wp_if_gt (pc := 86) 92 dX11_quietest_86 (by decide) (by omega) (fun h_3 => ?_) (fun h_3 => ?_)
        · refine wp_iconst (pc := 92) dX11_quietest_92 ?_
          refine wp_iload (pc := 93) dX11_quietest_93 rfl ?_
          refine wp_imul (pc := 95) dX11_quietest_95 ?_
          refine wp_iload (pc := 96) dX11_quietest_96 rfl ?_
          refine wp_iadd (pc := 98) dX11_quietest_98 ?_
          refine wq_istore_n (pc := 99) 3 [some (vR 111), some (vI a), some (vI w), some (vI ((4 * (x : Int)) + (i : Int))), some (vJ u), none, some (vJ A), none, some (vI (x : Int)), some (vI (i : Int))] dX11_quietest_99 rfl rfl (by decide) rfl ?_
          refine wp_aload_n (pc := 100) 0 dX11_quietest_100 rfl rfl ?_
          refine wp_geti (pc := 101) dX11_quietest_101 rfl f_X11_527 kd_111 la_111 (Or.inl rfl) ?_
          refine wp_eqst (st' := [vI (upV T S a.toNat x i)]) (by rw [h67]) ?_
          refine wp_i2l (pc := 104) dX11_quietest_104 (by omega) ?_
          refine wq_lstore (pc := 105) [some (vR 111), some (vI a), some (vI w), some (vI ((4 * (x : Int)) + (i : Int))), some (vJ (upV T S a.toNat x i)), none, some (vJ A), none, some (vI (x : Int)), some (vI (i : Int))] dX11_quietest_105 rfl (by decide) rfl ?_
          refine wp_aload_n (pc := 107) 0 dX11_quietest_107 rfl rfl ?_
          refine wp_geti (pc := 108) dX11_quietest_108 rfl f_X11_530 kd_111 la_111 (Or.inl rfl) ?_
          refine wp_eqst (st' := [vI (alV T S a.toNat x i)]) (by rw [h68]) ?_
          refine wp_i2l (pc := 111) dX11_quietest_111 (by omega) ?_
          refine wq_lstore (pc := 112) [some (vR 111), some (vI a), some (vI w), some (vI ((4 * (x : Int)) + (i : Int))), some (vJ (upV T S a.toNat x i)), none, some (vJ (alV T S a.toNat x i)), none, some (vI (x : Int)), some (vI (i : Int))] dX11_quietest_112 rfl (by decide) rfl ?_
          refine wq_iinc (pc := 114) [some (vR 111), some (vI a), some (vI w), some (vI ((4 * (x : Int)) + (i : Int))), some (vJ (upV T S a.toNat x i)), none, some (vJ (alV T S a.toNat x i)), none, some (vI (x : Int)), some (vI ((i : Int) + 1))] dX11_quietest_114 rfl rfl (by decide) rfl ?_
          refine wp_goto (pc := 117) 47 dX11_quietest_117 (by decide) ?_
          have er : nC T - i = (nC T - (i + 1)) + 1 := by omega
          rw [er, qIn] at hN
          have hc : u * alV T S a.toNat x i < upV T S a.toNat x i * A := by by_cases z : u * alV T S a.toNat x i < upV T S a.toNat x i * A; exact z; rw [if_neg z] at h_3; split at h_3 <;> omega
          have hq2 := qRel_yes hw (S := S) (q := a.toNat) (lo := x) (hi := i) (by omega) (by omega) hq (Or.inr hc)
          refine wp_eqls (ls' := [some (vR 111), some (vI a), some (vI w), some (vI ((4 * (x : Int)) + (i : Int))), some (vJ (upV T S a.toNat x i)), none, some (vJ (alV T S a.toNat x i)), none, some (vI (x : Int)), some (vI (((i + 1) : Nat) : Int))]) rfl (ih _ _ _ _ N hq2 (hJ.trans hN2) hN)
        · refine wp_goto (pc := 89) 114 dX11_quietest_89 (by decide) ?_
          refine wq_iinc (pc := 114) [some (vR 111), some (vI a), some (vI w), some (vI b), some (vJ u), none, some (vJ A), none, some (vI (x : Int)), some (vI ((i : Int) + 1))] dX11_quietest_114 rfl rfl (by decide) rfl ?_
          refine wp_goto (pc := 117) 47 dX11_quietest_117 (by decide) ?_
          have er : nC T - i = (nC T - (i + 1)) + 1 := by omega
          rw [er, qIn] at hN
          have hc : upV T S a.toNat x i * A ≤ u * alV T S a.toNat x i := by refine Int.not_lt.mp (fun z => ?_); rw [if_pos z] at h_3; omega
          rw [qRel_no hw hq (by omega) hc] at hN
          refine wp_eqls (ls' := [some (vR 111), some (vI a), some (vI w), some (vI b), some (vJ u), none, some (vJ A), none, some (vI (x : Int)), some (vI (((i + 1) : Nat) : Int))]) rfl (ih b u A t N hq (hJ.trans hN2) hN)

theorem rl_quietest {l : Launch} {G : mG} {d : Nat} {I : mI} {L : Nat → Nat → Int} {D : Nat → Nat} {Q : mQ} {T : mT} {S : mS} {B : Int} {a w : Int} (hR : RT I T) (hA : I 140 = pS S) (hw : tw T) (hv : sw S B) (hC : TC T) (hX : FX I T) (hcd : ∀ j, inR (T 18 j)) (hB : B ≤ 100000) (h_a : 0 ≤ a ∧ a < T 0 13) (h_w : 0 ≤ w ∧ w ≤ 1) (hk : ∀ c, c < 4 → I 141 c = ((pc8 (readIn T S (c : Int) (called T S)) : Nat) : Int)) (hd : 6 ≤ d) : ∀ i : Nat, i ≤ nC T → ∀ (b u A : Int) (t : Int × Int) (J : mI), qRel w b u A t → Rl I J → (∀ J, Rl I J → Q (some (vI (qOut T S a.toNat w (nC T - i) i t).2)) J (XX L D)) → WP l G m_X11_quietest d 153 J (XX L D) 34 [some (vR 111), some (vI a), some (vI w), some (vI b), some (vJ u), none, some (vJ A), none, some (vI (i : Int)), none] [] Q := by
  have b_p := tw_p hw
  have b_q := tw_q hw
  have b_c := tw_c hw
  have eP : nP T = (T 0 12).toNat := rfl
  have eQ : nQ T = (T 0 13).toNat := rfl
  have eC : nC T = (T 0 11).toNat := rfl
  refine loop_dn (fun i => ∀ (b u A : Int) (t : Int × Int) (J : mI), qRel w b u A t → Rl I J → (∀ J, Rl I J → Q (some (vI (qOut T S a.toNat w (nC T - i) i t).2)) J (XX L D)) → WP l G m_X11_quietest d 153 J (XX L D) 34 [some (vR 111), some (vI a), some (vI w), some (vI b), some (vJ u), none, some (vJ A), none, some (vI (i : Int)), none] [] Q) (nC T) ?_ (fun i hi ih => ?_)
  · intro b u A t J hq hJ hQ
    have hRj := hJ.rc.rt hR
    have hAj := hJ.rc.air hA
    have q1 := hq.1
    have q2 := hq.2.1
    have q3 : -1 ≤ b ∧ b ≤ 20 := by
      rcases hq.2.2 with ⟨g, -⟩ | ⟨x, y, g1, g2, g, -, -⟩ <;> omega
    refine wp_iload (pc := 34) dX11_quietest_34 rfl ?_
    refine wp_aload_n (pc := 36) 0 dX11_quietest_36 rfl rfl ?_
    refine wp_geti (pc := 37) dX11_quietest_37 rfl f_X11_409 kd_111 la_111 (Or.inl rfl) ?_
    refine wp_eqst (st' := [vI (T 0 11), vI (((nC T) : Nat) : Int)]) (by rw [rt_c hRj]) ?_
    refine wp_icmp_ge (pc := 40) 126 dX11_quietest_40 (by decide) (by omega) (by omega) (fun h_1 => ?_) (fun h_1 => ?_)
    · refine wp_iload_n (pc := 126) 3 dX11_quietest_126 rfl rfl ?_
      refine wp_if_ge (pc := 127) 134 dX11_quietest_127 (by decide) (by omega) (fun h_2 => ?_) (fun h_2 => ?_)
      · refine wp_iload_n (pc := 134) 2 dX11_quietest_134 rfl rfl ?_
        refine wp_if_ne (pc := 135) 144 dX11_quietest_135 (by decide) (by omega) (fun h_3 => ?_) (fun h_3 => ?_)
        · refine wp_iload_n (pc := 144) 3 dX11_quietest_144 rfl rfl ?_
          refine wp_iconst (pc := 145) dX11_quietest_145 ?_
          refine wp_irem (pc := 146) dX11_quietest_146 (by omega) (by omega) (by omega) ?_
          refine wp_iret (pc := 147) dX11_quietest_147 rfl rfl ?_
          have hq2 := hQ J hJ
          rw [Nat.sub_self] at hq2
          have hq3 : Q (some (vI t.2)) J (XX L D) := hq2
          have e1 : t.2 = Int.tmod b 4 := by
            rcases hq.2.2 with ⟨g, g0⟩ | ⟨x, y, g1, g2, g, g3, -⟩
            · first | (exfalso; omega) | (rw [g0])
            · first | omega | (rw [g3, if_pos (by omega), Int.tdiv_eq_ediv_of_nonneg (by omega)]; omega) | (rw [g3, if_neg (by omega), Int.tmod_eq_emod_of_nonneg (by omega)]; omega)
          rw [e1] at hq3; exact hq3
        · refine wp_iload_n (pc := 138) 3 dX11_quietest_138 rfl rfl ?_
          refine wp_iconst (pc := 139) dX11_quietest_139 ?_
          refine wp_idiv (pc := 140) dX11_quietest_140 (by omega) (by omega) (by omega) ?_
          refine wp_goto (pc := 141) 147 dX11_quietest_141 (by decide) ?_
          refine wp_iret (pc := 147) dX11_quietest_147 rfl rfl ?_
          have hq2 := hQ J hJ
          rw [Nat.sub_self] at hq2
          have hq3 : Q (some (vI t.2)) J (XX L D) := hq2
          have e1 : t.2 = Int.tdiv b 4 := by
            rcases hq.2.2 with ⟨g, g0⟩ | ⟨x, y, g1, g2, g, g3, -⟩
            · first | (exfalso; omega) | (rw [g0])
            · first | omega | (rw [g3, if_pos (by omega), Int.tdiv_eq_ediv_of_nonneg (by omega)]; omega) | (rw [g3, if_neg (by omega), Int.tmod_eq_emod_of_nonneg (by omega)]; omega)
          rw [e1] at hq3; exact hq3
      · refine wp_iconst (pc := 130) dX11_quietest_130 ?_
        refine wp_goto (pc := 131) 147 dX11_quietest_131 (by decide) ?_
        refine wp_iret (pc := 147) dX11_quietest_147 rfl rfl ?_
        have hq2 := hQ J hJ
        rw [Nat.sub_self] at hq2
        have hq3 : Q (some (vI t.2)) J (XX L D) := hq2
        have e1 : t.2 = (-1) := by
          rcases hq.2.2 with ⟨g, g0⟩ | ⟨x, y, g1, g2, g, g3, -⟩
          · first | (exfalso; omega) | (rw [g0])
          · first | omega | (rw [g3, if_pos (by omega), Int.tdiv_eq_ediv_of_nonneg (by omega)]; omega) | (rw [g3, if_neg (by omega), Int.tmod_eq_emod_of_nonneg (by omega)]; omega)
        rw [e1] at hq3; exact hq3
    · exfalso; omega
  · intro b u A t J hq hJ hQ
    have hRj := hJ.rc.rt hR
    have hAj := hJ.rc.air hA
    have q1 := hq.1
    have q2 := hq.2.1
    refine wp_iload (pc := 34) dX11_quietest_34 rfl ?_
    refine wp_aload_n (pc := 36) 0 dX11_quietest_36 rfl rfl ?_
    refine wp_geti (pc := 37) dX11_quietest_37 rfl f_X11_409 kd_111 la_111 (Or.inl rfl) ?_
    refine wp_eqst (st' := [vI (T 0 11), vI (i : Int)]) (by rw [rt_c hRj]) ?_
    refine wp_icmp_ge (pc := 40) 126 dX11_quietest_40 (by decide) (by omega) (by omega) (fun h_1 => ?_) (fun h_1 => ?_)
    · exfalso; omega
    · refine wp_iload (pc := 43) dX11_quietest_43 rfl ?_
      refine wq_istore (pc := 45) [some (vR 111), some (vI a), some (vI w), some (vI b), some (vJ u), none, some (vJ A), none, some (vI (i : Int)), some (vI (i : Int))] dX11_quietest_45 rfl (by decide) rfl ?_
      have er : nC T - i = (nC T - (i + 1)) + 1 := by omega
      rw [er, qOut] at hQ
      exact rl_quietest_in hR hA hw hv hC hX hcd hB h_a h_w hk hi hd i (by omega) b u A t J hq hJ (fun b2 u2 A2 J2 hq2 hJ2 => ih b2 u2 A2 _ J2 hq2 hJ2 hQ)

theorem rs_quietest {l : Launch} {G : mG} {d : Nat} {I : mI} {L : Nat → Nat → Int} {D : Nat → Nat} {Q : mQ} {T : mT} {S : mS} {a w : Int}  (hI : RI I T S) (h_a : inR a) (h_w : inR w) (hd : 6 ≤ d) (hQ : ∀ J, Rq I J → Q (some (vI (quietestA T S a w))) J (XX L D)) : WP l G m_X11_quietest d 153 I (XX L D) 0 [some (vR 111), some (vI a), some (vI w), none, none, none, none, none, none, none] [] Q := by
  obtain ⟨hR, hN, hX, hw, hv, hrd, hC, hcd⟩ := id hI
  have b_p := tw_p hw
  have b_q := tw_q hw
  have b_c := tw_c hw
  have eP : nP T = (T 0 12).toNat := rfl
  have eQ : nQ T = (T 0 13).toNat := rfl
  have eC : nC T = (T 0 11).toNat := rfl
  have b_s := sw_sun hv
  have b_i : 0 ≤ a → a < T 0 13 → 0 ≤ S (8 + a.toNat) ∧ S (8 + a.toNat) ≤ 2 := fun x y => sw_stat hv (by omega)
  refine wp_aload_n (pc := 0) 0 dX11_quietest_0 rfl rfl ?_
  refine wp_iload_n (pc := 1) 1 dX11_quietest_1 rfl rfl ?_
  refine wp_callV (pc := 2) (st := []) (nf' := 153) [vI a] [some (vR 111), some (vI a)] dX11_quietest_2 rfl c_X11_518 rfl kd_111 (by decide) rfl la_111 rfl (Nat.le_of_ble_eq_true rfl) rfl (Nat.le_of_ble_eq_true rfl) (by omega) (Nat.le_refl _) (Nat.le_refl _) ?_
  refine wp_aload_n (pc := 0) 0 dX11_isOpen_0 rfl rfl ?_
  refine wp_iload_n (pc := 1) 1 dX11_isOpen_1 rfl rfl ?_
  refine wp_callV (pc := 2) (st := []) (nf' := 153) [vI a] [some (vR 111), some (vI a)] dX11_isOpen_2 rfl c_X11_506 rfl kd_111 (by decide) rfl la_111 rfl (Nat.le_of_ble_eq_true rfl) rfl (Nat.le_of_ble_eq_true rfl) (by omega) (Nat.le_refl _) (Nat.le_refl _) ?_
  refine rs_isPair hR hw (by omega) (by omega) (fun h_1 => ?_) (fun h_1 => ?_)
  · refine wp_eqst (st' := [vI 1]) rfl ?_
    refine wp_if_eq (pc := 5) 24 dX11_isOpen_5 (by decide) (by decide) (fun hh => absurd hh (by decide)) (fun _ => ?_)
    refine wp_aload_n (pc := 8) 0 dX11_isOpen_8 rfl rfl ?_
    refine wp_getr (pc := 9) dX11_isOpen_9 rfl f_X11_103 kd_111 la_111 rfl (r_111_60 D) ?_
    refine wp_bipush (pc := 12) dX11_isOpen_12 (by decide) ?_
    refine wp_iload_n (pc := 14) 1 dX11_isOpen_14 rfl rfl ?_
    refine wp_iadd (pc := 15) dX11_isOpen_15 ?_
    refine wq_iald (pc := 16) (8 + a.toNat) dX11_isOpen_16 kd_139 la_139 (by omega) (by omega) ?_
    refine wp_eqst (st' := [vI (S (8 + a.toNat))]) (by rw [hN, pS_8 (by omega)]) ?_
    refine wp_if_ne (pc := 17) 24 dX11_isOpen_17 (by decide) (by omega) (fun h_2 => ?_) (fun h_2 => ?_)
    · refine wp_iconst (pc := 24) dX11_isOpen_24 ?_
      refine wp_zret (pc := 25) dX11_isOpen_25 rfl rfl (by decide) ?_
      refine wp_eqst (st' := [vI 0]) rfl ?_
      refine wp_if_eq (pc := 5) 17 dX11_quietest_5 (by decide) (by decide) (fun _ => ?_) (fun hh => absurd hh (by decide))
      refine wp_iconst (pc := 17) dX11_quietest_17 ?_
      refine wp_iret (pc := 18) dX11_quietest_18 rfl rfl ?_
      have e1 : quietestA T S a w = -1 := if_neg (by omega)
      have hq := hQ _ Rq.refl
      rw [e1] at hq; exact hq
    · refine wp_iconst (pc := 20) dX11_isOpen_20 ?_
      refine wp_goto (pc := 21) 25 dX11_isOpen_21 (by decide) ?_
      refine wp_zret (pc := 25) dX11_isOpen_25 rfl rfl (by decide) ?_
      refine wp_eqst (st' := [vI 1]) rfl ?_
      refine wp_if_eq (pc := 5) 17 dX11_quietest_5 (by decide) (by decide) (fun hh => absurd hh (by decide)) (fun _ => ?_)
      refine wp_iload_n (pc := 8) 2 dX11_quietest_8 rfl rfl ?_
      refine wp_iconst (pc := 9) dX11_quietest_9 ?_
      refine wp_iconst (pc := 10) dX11_quietest_10 ?_
      refine wp_callS (pc := 11) (st := []) (nf' := 153) [vI w, vI 0, vI 1] [some (vI w), some (vI 0), some (vI 1)] dX11_quietest_11 rfl c_X11_433 rfl rfl (Nat.le_of_ble_eq_true rfl) rfl (Nat.le_of_ble_eq_true rfl) (by omega) (Nat.le_refl _) (Nat.le_refl _) ?_
      refine wp_iload_n (pc := 0) 0 dX11_isIn_0 rfl rfl ?_
      refine wp_iload_n (pc := 1) 1 dX11_isIn_1 rfl rfl ?_
      refine wp_icmp_lt (pc := 2) 14 dX11_isIn_2 (by decide) (by omega) (by decide) (fun h_3 => ?_) (fun h_3 => ?_)
      · refine wp_iconst (pc := 14) dX11_isIn_14 ?_
        refine wp_zret (pc := 15) dX11_isIn_15 rfl rfl (by decide) ?_
        refine wp_eqst (st' := [vI 0]) rfl ?_
        refine wp_if_ne (pc := 14) 19 dX11_quietest_14 (by decide) (by decide) (fun hh => absurd hh (by decide)) (fun _ => ?_)
        refine wp_iconst (pc := 17) dX11_quietest_17 ?_
        refine wp_iret (pc := 18) dX11_quietest_18 rfl rfl ?_
        have e1 : quietestA T S a w = -1 := if_neg (by omega)
        have hq := hQ _ Rq.refl
        rw [e1] at hq; exact hq
      · refine wp_iload_n (pc := 5) 0 dX11_isIn_5 rfl rfl ?_
        refine wp_iload_n (pc := 6) 2 dX11_isIn_6 rfl rfl ?_
        refine wp_icmp_gt (pc := 7) 14 dX11_isIn_7 (by decide) (by omega) (by decide) (fun h_4 => ?_) (fun h_4 => ?_)
        · refine wp_iconst (pc := 14) dX11_isIn_14 ?_
          refine wp_zret (pc := 15) dX11_isIn_15 rfl rfl (by decide) ?_
          refine wp_eqst (st' := [vI 0]) rfl ?_
          refine wp_if_ne (pc := 14) 19 dX11_quietest_14 (by decide) (by decide) (fun hh => absurd hh (by decide)) (fun _ => ?_)
          refine wp_iconst (pc := 17) dX11_quietest_17 ?_
          refine wp_iret (pc := 18) dX11_quietest_18 rfl rfl ?_
          have e1 : quietestA T S a w = -1 := if_neg (by omega)
          have hq := hQ _ Rq.refl
          rw [e1] at hq; exact hq
        · refine wp_iconst (pc := 10) dX11_isIn_10 ?_
          refine wp_goto (pc := 11) 15 dX11_isIn_11 (by decide) ?_
          refine wp_zret (pc := 15) dX11_isIn_15 rfl rfl (by decide) ?_
          refine wp_eqst (st' := [vI 1]) rfl ?_
          refine wp_if_ne (pc := 14) 19 dX11_quietest_14 (by decide) (by decide) (fun _ => ?_) (fun hh => absurd hh (by decide))
          refine wp_aload_n (pc := 19) 0 dX11_quietest_19 rfl rfl ?_
          refine wp_callV (pc := 20) (st := []) (nf' := 153) [] [some (vR 111)] dX11_quietest_20 rfl c_X11_509 rfl kd_111 (by decide) rfl la_111 rfl (Nat.le_of_ble_eq_true rfl) rfl (Nat.le_of_ble_eq_true rfl) (by omega) (Nat.le_refl _) (Nat.le_refl _) ?_
          refine wp_aload_n (pc := 0) 0 dX11_loadRead_0 rfl rfl ?_
          refine wp_callV (pc := 1) (st := []) (nf' := 153) [] [some (vR 111), none] dX11_loadRead_1 rfl c_X11_485 rfl kd_111 (by decide) rfl la_111 rfl (Nat.le_of_ble_eq_true rfl) rfl (Nat.le_of_ble_eq_true rfl) (by omega) (Nat.le_refl _) (Nat.le_refl _) ?_
          refine rs_load (by omega) ?_
          generalize hJe : upc I 140 (I 139) = J
          have hJ : ∀ b, b ≠ 140 → J b = I b := fun b g => by rw [← hJe]; exact funext fun j => upc_c g
          have hAJ : J 140 = pS S := by rw [← hJe, ← hN]; exact funext fun j => upc_s
          have hRJ := ld_rt hJ hR
          have hXJ := ld_fx hJ hX
          refine wp_eqst (st' := []) rfl ?_
          refine wp_aload_n (pc := 4) 0 dX11_loadRead_4 rfl rfl ?_
          refine wp_callV (pc := 5) (st := []) (nf' := 153) [] [some (vR 111), none, none, none] dX11_loadRead_5 rfl c_X11_488 rfl kd_111 (by decide) rfl la_111 rfl (Nat.le_of_ble_eq_true rfl) rfl (Nat.le_of_ble_eq_true rfl) (by omega) (Nat.le_refl _) (Nat.le_refl _) ?_
          refine rs_layRead hRJ hAJ hw hv hC (by omega) (by omega) (fun K hK hK63 hK141 => ?_)
          have hRK := hK.rt hRJ
          have hAK := hK.air hAJ
          have hXK := hK.fx hXJ
          have hkK : ∀ c, c < 4 → K 141 c = ((pc8 (readIn T S (c : Int) (called T S)) : Nat) : Int) := fun c hc => (hK141 c hc).trans (calls_read hw hv c)
          refine wp_eqst (st' := []) rfl ?_
          refine wp_vret (pc := 8) dX11_loadRead_8 rfl rfl ?_
          refine wp_eqst (st' := []) rfl ?_
          refine wp_iconst (pc := 23) dX11_quietest_23 ?_
          refine wq_istore_n (pc := 24) 3 [some (vR 111), some (vI a), some (vI w), some (vI (-1)), none, none, none, none, none, none] dX11_quietest_24 rfl rfl (by decide) rfl ?_
          refine wp_lconst (pc := 25) (z := 0) dX11_quietest_25 rfl ?_
          refine wq_lstore (pc := 26) [some (vR 111), some (vI a), some (vI w), some (vI (-1)), some (vJ 0), none, none, none, none, none] dX11_quietest_26 rfl (by decide) rfl ?_
          refine wp_lconst (pc := 28) (z := 1) dX11_quietest_28 rfl ?_
          refine wq_lstore (pc := 29) [some (vR 111), some (vI a), some (vI w), some (vI (-1)), some (vJ 0), none, some (vJ 1), none, none, none] dX11_quietest_29 rfl (by decide) rfl ?_
          refine wp_iconst (pc := 31) dX11_quietest_31 ?_
          refine wq_istore (pc := 32) [some (vR 111), some (vI a), some (vI w), some (vI (-1)), some (vJ 0), none, some (vJ 1), none, some (vI 0), none] dX11_quietest_32 rfl (by decide) rfl ?_
          have e1 : quietestA T S a w = (qOut T S a.toNat w (nC T) 0 (-1, -1)).2 := if_pos (by omega)
          rw [e1] at hQ
          exact rl_quietest hRK hAK hw hv hC hXK hcd (by decide) (by omega) (by omega) hkK hd 0 (Nat.zero_le _) (-1) 0 1 (-1, -1) K ⟨by decide, by decide, Or.inl ⟨rfl, rfl⟩⟩ Rl.refl (fun N hN => hQ N (((Rq.ld hJ).rc hK).rc hN.rc))
  · refine wp_eqst (st' := [vI 0]) rfl ?_
    refine wp_if_eq (pc := 5) 24 dX11_isOpen_5 (by decide) (by decide) (fun _ => ?_) (fun hh => absurd hh (by decide))
    refine wp_iconst (pc := 24) dX11_isOpen_24 ?_
    refine wp_zret (pc := 25) dX11_isOpen_25 rfl rfl (by decide) ?_
    refine wp_eqst (st' := [vI 0]) rfl ?_
    refine wp_if_eq (pc := 5) 17 dX11_quietest_5 (by decide) (by decide) (fun _ => ?_) (fun hh => absurd hh (by decide))
    refine wp_iconst (pc := 17) dX11_quietest_17 ?_
    refine wp_iret (pc := 18) dX11_quietest_18 rfl rfl ?_
    have e1 : quietestA T S a w = -1 := if_neg (by omega)
    have hq := hQ _ Rq.refl
    rw [e1] at hq; exact hq
