theorem sp_vowAndSailing {l : Launch} {G : mG} {d : Nat} {I : mI} {L : Nat → Nat → Int} {D : Nat → Nat} {Q : mQ} {b : Nat → Int} {n c : Nat} {T N : mT} {mo : Nat}   (hP : PS I L D b n c T N mo) (h8 : T 0 12 < 8) (hd : 8 ≤ d) (h1 : ∀ c' T' N', slF b (vwF b c T).1 (vwF b c T).2 N = .inr (c', T', N') → ∀ J M, Fp I J (D 2) → Lp L M (D 2) → PS J M D b n c' T' N' mo → Q (some (vI 1)) J (XX M D)) (h0 : ∀ er, slF b (vwF b c T).1 (vwF b c T).2 N = .inl er → ∀ J M, Fp I J (D 2) → Lp L M (D 2) → PE J M D b n er → Q (some (vI 0)) J (XX M D)) : WP l G m_X4_vowAndSailing d 153 I (XX L D) 0 [some (vR 44), none] [] Q := by
  have ht := hP.1.1
  have g2 : D 2 = 1 ∨ D 2 = 21 := ht
  have hT := hP.2.2.2.1
  have hw := hP.tw
  have k4 := hP.2.2.1.1
  have k5 := hP.2.2.1.2.1
  have k6 := hP.2.2.1.2.2.1.1
  have m4 := hP.2.2.2.2.2.1
  have ki := kC_in b c
  have kw := wi_in b c
  have tr := ts_rng b c
  have l7 := hP.2.2.1.2.2.2.2.1
  have b_c := tw_c hw
  have b_p := tw_p hw
  have b_q := tw_q hw
  have b_v := tw_vows hw
  have eC : nC T = (T 0 11).toNat := rfl
  have eP : nP T = (T 0 12).toNat := rfl
  have eQ : nQ T = (T 0 13).toNat := rfl
  refine wp_aload_n (pc := 0) 0 dX4_vowAndSailing_0 rfl rfl ?_
  refine wp_getr (pc := 1) dX4_vowAndSailing_1 rfl f_X4_15 kd_44 la_44 rfl (r_44_0 D) ?_
  refine wp_iconst (pc := 4) dX4_vowAndSailing_4 ?_
  refine wp_callV (pc := 5) (st := []) (nf' := 153) [vI 5] [some (vR 41), some (vI 5)] dX4_vowAndSailing_5 rfl c_X4_134 rfl kd_41 (by decide) rfl la_41 rfl (Nat.le_of_ble_eq_true rfl) rfl (Nat.le_of_ble_eq_true rfl) (by omega) (Nat.le_refl _) (Nat.le_refl _) ?_
  refine sp_isWord hP.2.2.1 (by decide) (by omega) (fun h_1 => ?_) (fun h_1 => ?_)
  · refine wp_eqst (st' := [vI 1]) rfl ?_
    refine wp_if_eq (pc := 8) 39 dX4_vowAndSailing_8 (by decide) (by decide) (fun hh => absurd hh (by decide)) (fun _ => ?_)
    refine wp_aload_n (pc := 11) 0 dX4_vowAndSailing_11 rfl rfl ?_
    refine wp_getr (pc := 12) dX4_vowAndSailing_12 rfl f_X4_19 kd_44 la_44 rfl (r_44_1 D) ?_
    refine wp_dup (pc := 15) dX4_vowAndSailing_15 rfl ?_
    refine wp_geti (pc := 16) dX4_vowAndSailing_16 rfl f_X4_147 (tk_0 ht) (tl_0 ht) (Or.inl rfl) ?_
    refine wp_eqst (st' := [vI (T 0 14), vR (D 2)]) (by rw [← hT] <;> rfl) ?_
    refine wp_iconst (pc := 19) dX4_vowAndSailing_19 ?_
    refine wp_aload_n (pc := 20) 0 dX4_vowAndSailing_20 rfl rfl ?_
    refine wp_getr (pc := 21) dX4_vowAndSailing_21 rfl f_X4_19 kd_44 la_44 rfl (r_44_1 D) ?_
    refine wp_geti (pc := 24) dX4_vowAndSailing_24 rfl f_X4_111 (tk_0 ht) (tl_0 ht) (Or.inl rfl) ?_
    refine wp_eqst (st' := [vI (T 0 12), vI 1, vI (T 0 14), vR (D 2)]) (by rw [← hT] <;> rfl) ?_
    refine wn_shl1 (pc := 27) (Int.toNat (T 0 12)) dX4_vowAndSailing_27 (by omega) (by omega) ?_
    refine wn_or (pc := 28) (Int.toNat (T 0 14)) (2 ^ (Int.toNat (T 0 12))) dX4_vowAndSailing_28 (by omega) rfl ?_
    refine wp_puti (pc := 29) dX4_vowAndSailing_29 rfl f_X4_147 (tk_0 ht) (tl_0 ht) (fun _ h => by cases h; rfl) rfl ?_
    have bo : (T 0 14).toNat ||| 2 ^ Int.toNat (T 0 12) < 2 ^ 8 := or_lt (by omega) (two_lt (by omega))
    have hP1_ : PS (up I (D 2) 14 (((Int.toNat (T 0 14)) ||| (2 ^ (Int.toNat (T 0 12))) : Nat) : Int)) (L) D b n c (setT T 0 14 (((Int.toNat (T 0 14)) ||| (2 ^ (Int.toNat (T 0 12))) : Nat) : Int)) N mo := hP.upT1 (k := 0) (by decide) (by unfold twB; omega) (fun e => absurd e (by decide)) (by first | exact Or.inl (by decide) | exact Or.inr (by decide))
    have hF1_ : Fp I (up I (D 2) 14 (((Int.toNat (T 0 14)) ||| (2 ^ (Int.toNat (T 0 12))) : Nat) : Int)) (D 2) := Fp.refl.upt ht (by omega)
    refine wp_gen (fun J => Fp I J (D 2) ∧ PS J (L) D b n c (setT T 0 14 (((Int.toNat (T 0 14)) ||| (2 ^ (Int.toNat (T 0 12))) : Nat) : Int)) N mo) ⟨hF1_, hP1_⟩ (fun J1 hJ1 => ?_)
    have hF1 := hJ1.1
    have hP1 := hJ1.2
    have hT_1 := hP1.2.2.2.1
    have hw_1 := hP1.tw
    have k4_1 := hP1.2.2.1.1
    have k5_1 := hP1.2.2.1.2.1
    have k6_1 := hP1.2.2.1.2.2.1.1
    have m4_1 := hP1.2.2.2.2.2.1
    have ki_1 := kC_in b c
    have kw_1 := wi_in b c
    have tr_1 := ts_rng b c
    have l7_1 := hP1.2.2.1.2.2.2.2.1
    refine wp_aload_n (pc := 32) 0 dX4_vowAndSailing_32 rfl rfl ?_
    refine wp_getr (pc := 33) dX4_vowAndSailing_33 rfl f_X4_15 kd_44 la_44 rfl (r_44_0 D) ?_
    refine wp_callV (pc := 36) (st := []) (nf' := 153) [] [some (vR 41), none] dX4_vowAndSailing_36 rfl c_X4_93 rfl kd_41 (by decide) rfl la_41 rfl (Nat.le_of_ble_eq_true rfl) rfl (Nat.le_of_ble_eq_true rfl) (by omega) (Nat.le_refl _) (Nat.le_refl _) ?_
    have n32 : ts b c ≠ 3 := (by first | exact n3_k (by omega) | exact n3_4 (by omega) | exact n3_w (by omega) | exact n3_s (by omega))
    refine sp_advance hP1.1.2.1 hP1.nx hP1.1.2.2.1 (hP1.2.2.1.2.2.2.1 n32) (by omega) (fun J2 M2 hFa2 hLa2 hTk2 => ?_)
    have hP2 := hP1.adv hP1.nx hFa2 hLa2 hTk2
    have hT_2 := hP2.2.2.2.1
    have hw_2 := hP2.tw
    have k4_2 := hP2.2.2.1.1
    have k5_2 := hP2.2.2.1.2.1
    have k6_2 := hP2.2.2.1.2.2.1.1
    have m4_2 := hP2.2.2.2.2.2.1
    have ki_2 := kC_in b (te b c)
    have kw_2 := wi_in b (te b c)
    have tr_2 := ts_rng b (te b c)
    have l7_2 := hP2.2.2.1.2.2.2.2.1
    refine wp_eqst (st' := []) rfl ?_
    refine wp_aload_n (pc := 39) 0 dX4_vowAndSailing_39 rfl rfl ?_
    refine wp_getr (pc := 40) dX4_vowAndSailing_40 rfl f_X4_15 kd_44 la_44 rfl (r_44_0 D) ?_
    refine wp_bipush (pc := 43) dX4_vowAndSailing_43 (by decide) ?_
    refine wp_callV (pc := 45) (st := []) (nf' := 153) [vI 6] [some (vR 41), some (vI 6)] dX4_vowAndSailing_45 rfl c_X4_134 rfl kd_41 (by decide) rfl la_41 rfl (Nat.le_of_ble_eq_true rfl) rfl (Nat.le_of_ble_eq_true rfl) (by omega) (Nat.le_refl _) (Nat.le_refl _) ?_
    refine sp_isWord hP2.2.2.1 (by decide) (by omega) (fun h_2 => ?_) (fun h_2 => ?_)
    · refine wp_eqst (st' := [vI 1]) rfl ?_
      refine wp_if_ne (pc := 48) 53 dX4_vowAndSailing_48 (by decide) (by decide) (fun _ => ?_) (fun hh => absurd hh (by decide))
      refine wp_aload_n (pc := 53) 0 dX4_vowAndSailing_53 rfl rfl ?_
      refine wp_getr (pc := 54) dX4_vowAndSailing_54 rfl f_X4_15 kd_44 la_44 rfl (r_44_0 D) ?_
      refine wp_callV (pc := 57) (st := []) (nf' := 153) [] [some (vR 41), none] dX4_vowAndSailing_57 rfl c_X4_93 rfl kd_41 (by decide) rfl la_41 rfl (Nat.le_of_ble_eq_true rfl) rfl (Nat.le_of_ble_eq_true rfl) (by omega) (Nat.le_refl _) (Nat.le_refl _) ?_
      have n33 : ts b (te b c) ≠ 3 := (by first | exact n3_k (by omega) | exact n3_4 (by omega) | exact n3_w (by omega) | exact n3_s (by omega))
      refine sp_advance hP2.1.2.1 hP2.nx hP2.1.2.2.1 (hP2.2.2.1.2.2.2.1 n33) (by omega) (fun J3 M3 hFa3 hLa3 hTk3 => ?_)
      have hP3 := hP2.adv hP2.nx hFa3 hLa3 hTk3
      have hT_3 := hP3.2.2.2.1
      have hw_3 := hP3.tw
      have k4_3 := hP3.2.2.1.1
      have k5_3 := hP3.2.2.1.2.1
      have k6_3 := hP3.2.2.1.2.2.1.1
      have m4_3 := hP3.2.2.2.2.2.1
      have ki_3 := kC_in b (te b (te b c))
      have kw_3 := wi_in b (te b (te b c))
      have tr_3 := ts_rng b (te b (te b c))
      have l7_3 := hP3.2.2.1.2.2.2.2.1
      refine wp_eqst (st' := []) rfl ?_
      refine wp_aload_n (pc := 60) 0 dX4_vowAndSailing_60 rfl rfl ?_
      refine wp_iconst (pc := 61) dX4_vowAndSailing_61 ?_
      refine wp_bipush (pc := 62) dX4_vowAndSailing_62 (by decide) ?_
      refine wp_callV (pc := 64) (st := []) (nf' := 153) [vI 1, vI 12] [some (vR 44), some (vI 1), some (vI 12), none] dX4_vowAndSailing_64 rfl c_X4_150 rfl kd_44 (by decide) rfl la_44 rfl (Nat.le_of_ble_eq_true rfl) rfl (Nat.le_of_ble_eq_true rfl) (by omega) (Nat.le_refl _) (Nat.le_refl _) ?_
      refine sp_number hP3 (by decide) (by decide) (by omega) (fun h_3 J4 M4 hF4 hL4 hP4 => ?_) (fun h_3 J5 M5 hF5 hL5 hE5 => ?_)
      · skip
        have nb4 := nbF_ok (b := b) (c := te b (te b c)) (lo := 1) (hi := 12) (by decide) (by assumption)
        have hT_4 := hP4.2.2.2.1
        have hw_4 := hP4.tw
        have k4_4 := hP4.2.2.1.1
        have k5_4 := hP4.2.2.1.2.1
        have k6_4 := hP4.2.2.1.2.2.1.1
        have m4_4 := hP4.2.2.2.2.2.1
        have ki_4 := kC_in b (te b (te b (te b c)))
        have kw_4 := wi_in b (te b (te b (te b c)))
        have tr_4 := ts_rng b (te b (te b (te b c)))
        have l7_4 := hP4.2.2.1.2.2.2.2.1
        refine wp_eqst (st' := [vI (nbF b (te b (te b c)) 1 12)]) rfl ?_
        refine wq_istore_n (pc := 67) 1 [some (vR 44), some (vI (nbF b (te b (te b c)) 1 12))] dX4_vowAndSailing_67 rfl rfl (by decide) rfl ?_
        refine wp_iload_n (pc := 68) 1 dX4_vowAndSailing_68 rfl rfl ?_
        refine wp_iconst (pc := 69) dX4_vowAndSailing_69 ?_
        refine wp_icmp_ne (pc := 70) 75 dX4_vowAndSailing_70 (by decide) (by omega) (by decide) (fun h_4 => ?_) (fun h_4 => ?_)
        · refine wp_aload_n (pc := 75) 0 dX4_vowAndSailing_75 rfl rfl ?_
          refine wp_getr (pc := 76) dX4_vowAndSailing_76 rfl f_X4_19 kd_44 la_44 rfl (r_44_1 D) ?_
          refine wp_getr (pc := 79) dX4_vowAndSailing_79 rfl f_X4_154 (tk_0 ht) (tl_0 ht) rfl (tr_0_3 D ht) ?_
          refine wp_aload_n (pc := 82) 0 dX4_vowAndSailing_82 rfl rfl ?_
          refine wp_getr (pc := 83) dX4_vowAndSailing_83 rfl f_X4_19 kd_44 la_44 rfl (r_44_1 D) ?_
          refine wp_geti (pc := 86) dX4_vowAndSailing_86 rfl f_X4_111 (tk_0 ht) (tl_0 ht) (Or.inl rfl) ?_
          refine wp_eqst (st' := [vI (T 0 12), vR ((D 2) + 4)]) (by rw [show J4 (D 2) 12 = (setT T 0 14 (((Int.toNat (T 0 14)) ||| (2 ^ (Int.toNat (T 0 12))) : Nat) : Int)) 0 12 from (by rw [← hT_4] <;> rfl), setT_j (by decide)]) ?_
          refine wp_iload_n (pc := 89) 1 dX4_vowAndSailing_89 rfl rfl ?_
          refine wq_iast (pc := 90) (Int.toNat (T 0 12)) dX4_vowAndSailing_90 (tk_4 ht) (tl_4 ht) (by omega) (by omega) ?_
          have hP6_ : PS (up J4 ((D 2) + 4) (Int.toNat (T 0 12)) (nbF b (te b (te b c)) 1 12)) (M4) D b n (te b (te b (te b c))) (setT (setT T 0 14 (((Int.toNat (T 0 14)) ||| (2 ^ (Int.toNat (T 0 12))) : Nat) : Int)) 4 (nP T) (nbF b (te b (te b c)) 1 12)) N mo := hP4.upT1 (k := 4) (by decide) (by unfold twB; omega) (fun e => absurd e (by decide)) (by first | exact Or.inl (by decide) | exact Or.inr (by decide))
          have hF6_ : Fp I (up J4 ((D 2) + 4) (Int.toNat (T 0 12)) (nbF b (te b (te b c)) 1 12)) (D 2) := (((hF1.trans hFa2.p).trans hFa3.p).trans hF4).upt ht (by omega)
          refine wp_gen (fun J => Fp I J (D 2) ∧ PS J (M4) D b n (te b (te b (te b c))) (setT (setT T 0 14 (((Int.toNat (T 0 14)) ||| (2 ^ (Int.toNat (T 0 12))) : Nat) : Int)) 4 (nP T) (nbF b (te b (te b c)) 1 12)) N mo) ⟨hF6_, hP6_⟩ (fun J6 hJ6 => ?_)
          have hF6 := hJ6.1
          have hP6 := hJ6.2
          have hT_6 := hP6.2.2.2.1
          have hw_6 := hP6.tw
          have k4_6 := hP6.2.2.1.1
          have k5_6 := hP6.2.2.1.2.1
          have k6_6 := hP6.2.2.1.2.2.1.1
          have m4_6 := hP6.2.2.2.2.2.1
          have ki_6 := kC_in b (te b (te b (te b c)))
          have kw_6 := wi_in b (te b (te b (te b c)))
          have tr_6 := ts_rng b (te b (te b (te b c)))
          have l7_6 := hP6.2.2.1.2.2.2.2.1
          refine wp_iconst (pc := 91) dX4_vowAndSailing_91 ?_
          refine wp_zret (pc := 92) dX4_vowAndSailing_92 rfl rfl (by decide) ?_
          exact h1 _ _ _ (by rw [show vwF b c T = (te b c, setT T 0 14 (((T 0 14).toNat ||| 2 ^ nP T : Nat) : Int)) from if_pos (by omega)]; show slF b (te b c) (setT T 0 14 (((T 0 14).toNat ||| 2 ^ nP T : Nat) : Int)) N = _; unfold slF; (repeat (first | rw [if_pos (by omega)] | rw [if_neg (by omega)])); first | done | rfl) _ _ hF6 (((Lp.refl.trans hLa2.p).trans hLa3.p).trans hL4) hP6
        · refine wp_iconst (pc := 73) dX4_vowAndSailing_73 ?_
          refine wp_zret (pc := 74) dX4_vowAndSailing_74 rfl rfl (by decide) ?_
          exfalso; omega
      · skip
        refine wp_eqst (st' := [vI (-1)]) rfl ?_
        refine wq_istore_n (pc := 67) 1 [some (vR 44), some (vI (-1))] dX4_vowAndSailing_67 rfl rfl (by decide) rfl ?_
        refine wp_iload_n (pc := 68) 1 dX4_vowAndSailing_68 rfl rfl ?_
        refine wp_iconst (pc := 69) dX4_vowAndSailing_69 ?_
        refine wp_icmp_ne (pc := 70) 75 dX4_vowAndSailing_70 (by decide) (by decide) (by decide) (fun hh => absurd hh (by decide)) (fun _ => ?_)
        refine wp_iconst (pc := 73) dX4_vowAndSailing_73 ?_
        refine wp_zret (pc := 74) dX4_vowAndSailing_74 rfl rfl (by decide) ?_
        exact h0 _ (by rw [show vwF b c T = (te b c, setT T 0 14 (((T 0 14).toNat ||| 2 ^ nP T : Nat) : Int)) from if_pos (by omega)]; show slF b (te b c) (setT T 0 14 (((T 0 14).toNat ||| 2 ^ nP T : Nat) : Int)) N = _; unfold slF; (repeat (first | rw [if_pos (by omega)] | rw [if_neg (by omega)])); first | done | rfl) _ _ (((hF1.trans hFa2.p).trans hFa3.p).trans hF5) (((Lp.refl.trans hLa2.p).trans hLa3.p).trans hL5) hE5
    · refine wp_eqst (st' := [vI 0]) rfl ?_
      refine wp_if_ne (pc := 48) 53 dX4_vowAndSailing_48 (by decide) (by decide) (fun hh => absurd hh (by decide)) (fun _ => ?_)
      refine wp_iconst (pc := 51) dX4_vowAndSailing_51 ?_
      refine wp_zret (pc := 52) dX4_vowAndSailing_52 rfl rfl (by decide) ?_
      exact h1 _ _ _ (by rw [show vwF b c T = (te b c, setT T 0 14 (((T 0 14).toNat ||| 2 ^ nP T : Nat) : Int)) from if_pos (by omega)]; show slF b (te b c) (setT T 0 14 (((T 0 14).toNat ||| 2 ^ nP T : Nat) : Int)) N = _; unfold slF; (repeat (first | rw [if_pos (by omega)] | rw [if_neg (by omega)])); first | done | rfl) _ _ (hF1.trans hFa2.p) (Lp.refl.trans hLa2.p) hP2
  · refine wp_eqst (st' := [vI 0]) rfl ?_
    refine wp_if_eq (pc := 8) 39 dX4_vowAndSailing_8 (by decide) (by decide) (fun _ => ?_) (fun hh => absurd hh (by decide))
    refine wp_aload_n (pc := 39) 0 dX4_vowAndSailing_39 rfl rfl ?_
    refine wp_getr (pc := 40) dX4_vowAndSailing_40 rfl f_X4_15 kd_44 la_44 rfl (r_44_0 D) ?_
    refine wp_bipush (pc := 43) dX4_vowAndSailing_43 (by decide) ?_
    refine wp_callV (pc := 45) (st := []) (nf' := 153) [vI 6] [some (vR 41), some (vI 6)] dX4_vowAndSailing_45 rfl c_X4_134 rfl kd_41 (by decide) rfl la_41 rfl (Nat.le_of_ble_eq_true rfl) rfl (Nat.le_of_ble_eq_true rfl) (by omega) (Nat.le_refl _) (Nat.le_refl _) ?_
    refine sp_isWord hP.2.2.1 (by decide) (by omega) (fun h_5 => ?_) (fun h_5 => ?_)
    · refine wp_eqst (st' := [vI 1]) rfl ?_
      refine wp_if_ne (pc := 48) 53 dX4_vowAndSailing_48 (by decide) (by decide) (fun _ => ?_) (fun hh => absurd hh (by decide))
      refine wp_aload_n (pc := 53) 0 dX4_vowAndSailing_53 rfl rfl ?_
      refine wp_getr (pc := 54) dX4_vowAndSailing_54 rfl f_X4_15 kd_44 la_44 rfl (r_44_0 D) ?_
      refine wp_callV (pc := 57) (st := []) (nf' := 153) [] [some (vR 41), none] dX4_vowAndSailing_57 rfl c_X4_93 rfl kd_41 (by decide) rfl la_41 rfl (Nat.le_of_ble_eq_true rfl) rfl (Nat.le_of_ble_eq_true rfl) (by omega) (Nat.le_refl _) (Nat.le_refl _) ?_
      have n37 : ts b c ≠ 3 := (by first | exact n3_k (by omega) | exact n3_4 (by omega) | exact n3_w (by omega) | exact n3_s (by omega))
      refine sp_advance hP.1.2.1 hP.nx hP.1.2.2.1 (hP.2.2.1.2.2.2.1 n37) (by omega) (fun J7 M7 hFa7 hLa7 hTk7 => ?_)
      have hP7 := hP.adv hP.nx hFa7 hLa7 hTk7
      have hT_7 := hP7.2.2.2.1
      have hw_7 := hP7.tw
      have k4_7 := hP7.2.2.1.1
      have k5_7 := hP7.2.2.1.2.1
      have k6_7 := hP7.2.2.1.2.2.1.1
      have m4_7 := hP7.2.2.2.2.2.1
      have ki_7 := kC_in b (te b c)
      have kw_7 := wi_in b (te b c)
      have tr_7 := ts_rng b (te b c)
      have l7_7 := hP7.2.2.1.2.2.2.2.1
      refine wp_eqst (st' := []) rfl ?_
      refine wp_aload_n (pc := 60) 0 dX4_vowAndSailing_60 rfl rfl ?_
      refine wp_iconst (pc := 61) dX4_vowAndSailing_61 ?_
      refine wp_bipush (pc := 62) dX4_vowAndSailing_62 (by decide) ?_
      refine wp_callV (pc := 64) (st := []) (nf' := 153) [vI 1, vI 12] [some (vR 44), some (vI 1), some (vI 12), none] dX4_vowAndSailing_64 rfl c_X4_150 rfl kd_44 (by decide) rfl la_44 rfl (Nat.le_of_ble_eq_true rfl) rfl (Nat.le_of_ble_eq_true rfl) (by omega) (Nat.le_refl _) (Nat.le_refl _) ?_
      refine sp_number hP7 (by decide) (by decide) (by omega) (fun h_6 J8 M8 hF8 hL8 hP8 => ?_) (fun h_6 J9 M9 hF9 hL9 hE9 => ?_)
      · skip
        have nb8 := nbF_ok (b := b) (c := te b c) (lo := 1) (hi := 12) (by decide) (by assumption)
        have hT_8 := hP8.2.2.2.1
        have hw_8 := hP8.tw
        have k4_8 := hP8.2.2.1.1
        have k5_8 := hP8.2.2.1.2.1
        have k6_8 := hP8.2.2.1.2.2.1.1
        have m4_8 := hP8.2.2.2.2.2.1
        have ki_8 := kC_in b (te b (te b c))
        have kw_8 := wi_in b (te b (te b c))
        have tr_8 := ts_rng b (te b (te b c))
        have l7_8 := hP8.2.2.1.2.2.2.2.1
        refine wp_eqst (st' := [vI (nbF b (te b c) 1 12)]) rfl ?_
        refine wq_istore_n (pc := 67) 1 [some (vR 44), some (vI (nbF b (te b c) 1 12))] dX4_vowAndSailing_67 rfl rfl (by decide) rfl ?_
        refine wp_iload_n (pc := 68) 1 dX4_vowAndSailing_68 rfl rfl ?_
        refine wp_iconst (pc := 69) dX4_vowAndSailing_69 ?_
        refine wp_icmp_ne (pc := 70) 75 dX4_vowAndSailing_70 (by decide) (by omega) (by decide) (fun h_7 => ?_) (fun h_7 => ?_)
        · refine wp_aload_n (pc := 75) 0 dX4_vowAndSailing_75 rfl rfl ?_
          refine wp_getr (pc := 76) dX4_vowAndSailing_76 rfl f_X4_19 kd_44 la_44 rfl (r_44_1 D) ?_
          refine wp_getr (pc := 79) dX4_vowAndSailing_79 rfl f_X4_154 (tk_0 ht) (tl_0 ht) rfl (tr_0_3 D ht) ?_
          refine wp_aload_n (pc := 82) 0 dX4_vowAndSailing_82 rfl rfl ?_
          refine wp_getr (pc := 83) dX4_vowAndSailing_83 rfl f_X4_19 kd_44 la_44 rfl (r_44_1 D) ?_
          refine wp_geti (pc := 86) dX4_vowAndSailing_86 rfl f_X4_111 (tk_0 ht) (tl_0 ht) (Or.inl rfl) ?_
          refine wp_eqst (st' := [vI (T 0 12), vR ((D 2) + 4)]) (by rw [← hT_8] <;> rfl) ?_
          refine wp_iload_n (pc := 89) 1 dX4_vowAndSailing_89 rfl rfl ?_
          refine wq_iast (pc := 90) (Int.toNat (T 0 12)) dX4_vowAndSailing_90 (tk_4 ht) (tl_4 ht) (by omega) (by omega) ?_
          have hP10_ : PS (up J8 ((D 2) + 4) (Int.toNat (T 0 12)) (nbF b (te b c) 1 12)) (M8) D b n (te b (te b c)) (setT T 4 (nP T) (nbF b (te b c) 1 12)) N mo := hP8.upT1 (k := 4) (by decide) (by unfold twB; omega) (fun e => absurd e (by decide)) (by first | exact Or.inl (by decide) | exact Or.inr (by decide))
          have hF10_ : Fp I (up J8 ((D 2) + 4) (Int.toNat (T 0 12)) (nbF b (te b c) 1 12)) (D 2) := ((Fp.refl.trans hFa7.p).trans hF8).upt ht (by omega)
          refine wp_gen (fun J => Fp I J (D 2) ∧ PS J (M8) D b n (te b (te b c)) (setT T 4 (nP T) (nbF b (te b c) 1 12)) N mo) ⟨hF10_, hP10_⟩ (fun J10 hJ10 => ?_)
          have hF10 := hJ10.1
          have hP10 := hJ10.2
          have hT_10 := hP10.2.2.2.1
          have hw_10 := hP10.tw
          have k4_10 := hP10.2.2.1.1
          have k5_10 := hP10.2.2.1.2.1
          have k6_10 := hP10.2.2.1.2.2.1.1
          have m4_10 := hP10.2.2.2.2.2.1
          have ki_10 := kC_in b (te b (te b c))
          have kw_10 := wi_in b (te b (te b c))
          have tr_10 := ts_rng b (te b (te b c))
          have l7_10 := hP10.2.2.1.2.2.2.2.1
          refine wp_iconst (pc := 91) dX4_vowAndSailing_91 ?_
          refine wp_zret (pc := 92) dX4_vowAndSailing_92 rfl rfl (by decide) ?_
          exact h1 _ _ _ (by rw [show vwF b c T = (c, T) from if_neg (by omega)]; show slF b (c) (T) N = _; unfold slF; (repeat (first | rw [if_pos (by omega)] | rw [if_neg (by omega)])); first | done | rfl) _ _ hF10 ((Lp.refl.trans hLa7.p).trans hL8) hP10
        · refine wp_iconst (pc := 73) dX4_vowAndSailing_73 ?_
          refine wp_zret (pc := 74) dX4_vowAndSailing_74 rfl rfl (by decide) ?_
          exfalso; omega
      · skip
        refine wp_eqst (st' := [vI (-1)]) rfl ?_
        refine wq_istore_n (pc := 67) 1 [some (vR 44), some (vI (-1))] dX4_vowAndSailing_67 rfl rfl (by decide) rfl ?_
        refine wp_iload_n (pc := 68) 1 dX4_vowAndSailing_68 rfl rfl ?_
        refine wp_iconst (pc := 69) dX4_vowAndSailing_69 ?_
        refine wp_icmp_ne (pc := 70) 75 dX4_vowAndSailing_70 (by decide) (by decide) (by decide) (fun hh => absurd hh (by decide)) (fun _ => ?_)
        refine wp_iconst (pc := 73) dX4_vowAndSailing_73 ?_
        refine wp_zret (pc := 74) dX4_vowAndSailing_74 rfl rfl (by decide) ?_
        exact h0 _ (by rw [show vwF b c T = (c, T) from if_neg (by omega)]; show slF b (c) (T) N = _; unfold slF; (repeat (first | rw [if_pos (by omega)] | rw [if_neg (by omega)])); first | done | rfl) _ _ ((Fp.refl.trans hFa7.p).trans hF9) ((Lp.refl.trans hLa7.p).trans hL9) hE9
    · refine wp_eqst (st' := [vI 0]) rfl ?_
      refine wp_if_ne (pc := 48) 53 dX4_vowAndSailing_48 (by decide) (by decide) (fun hh => absurd hh (by decide)) (fun _ => ?_)
      refine wp_iconst (pc := 51) dX4_vowAndSailing_51 ?_
      refine wp_zret (pc := 52) dX4_vowAndSailing_52 rfl rfl (by decide) ?_
      exact h1 _ _ _ (by rw [show vwF b c T = (c, T) from if_neg (by omega)]; show slF b (c) (T) N = _; unfold slF; (repeat (first | rw [if_pos (by omega)] | rw [if_neg (by omega)])); first | done | rfl) _ _ Fp.refl Lp.refl hP

theorem sp_personLine {l : Launch} {G : mG} {d : Nat} {I : mI} {L : Nat → Nat → Int} {D : Nat → Nat} {Q : mQ} {b : Nat → Int} {n c : Nat} {T N : mT} {mo : Nat}   (hP : PS I L D b n c T N mo) (hwi : 0 ≤ wi b c) (hd : 9 ≤ d) (h1 : ∀ c' T' N', personF b c T N = .inr (c', T', N') → ∀ J M, Fp I J (D 2) → Lp L M (D 2) → PS J M D b n c' T' N' mo → Q (some (vI 1)) J (XX M D)) (h0 : ∀ er, personF b c T N = .inl er → ∀ J M, Fp I J (D 2) → Lp L M (D 2) → PE J M D b n er → Q (some (vI 0)) J (XX M D)) : WP l G m_X4_personLine d 153 I (XX L D) 0 [some (vR 44), none, none, none] [] Q := by
  have ht := hP.1.1
  have g2 : D 2 = 1 ∨ D 2 = 21 := ht
  have hT := hP.2.2.2.1
  have hw := hP.tw
  have k4 := hP.2.2.1.1
  have k5 := hP.2.2.1.2.1
  have k6 := hP.2.2.1.2.2.1.1
  have m4 := hP.2.2.2.2.2.1
  have ki := kC_in b c
  have kw := wi_in b c
  have tr := ts_rng b c
  have l7 := hP.2.2.1.2.2.2.2.1
  have b_c := tw_c hw
  have b_p := tw_p hw
  have b_q := tw_q hw
  have b_v := tw_vows hw
  have eC : nC T = (T 0 11).toNat := rfl
  have eP : nP T = (T 0 12).toNat := rfl
  have eQ : nQ T = (T 0 13).toNat := rfl
  refine wp_aload_n (pc := 0) 0 dX4_personLine_0 rfl rfl ?_
  refine wp_getr (pc := 1) dX4_personLine_1 rfl f_X4_19 kd_44 la_44 rfl (r_44_1 D) ?_
  refine wp_geti (pc := 4) dX4_personLine_4 rfl f_X4_111 (tk_0 ht) (tl_0 ht) (Or.inl rfl) ?_
  refine wp_eqst (st' := [vI (T 0 12)]) (by rw [← hT] <;> rfl) ?_
  refine wp_bipush (pc := 7) dX4_personLine_7 (by decide) ?_
  refine wp_icmp_lt (pc := 9) 18 dX4_personLine_9 (by decide) (by omega) (by decide) (fun h_1 => ?_) (fun h_1 => ?_)
  · refine wp_aload_n (pc := 18) 0 dX4_personLine_18 rfl rfl ?_
    refine wp_getr (pc := 19) dX4_personLine_19 rfl f_X4_15 kd_44 la_44 rfl (r_44_0 D) ?_
    refine wp_callV (pc := 22) (st := []) (nf' := 153) [] [some (vR 41), none] dX4_personLine_22 rfl c_X4_93 rfl kd_41 (by decide) rfl la_41 rfl (Nat.le_of_ble_eq_true rfl) rfl (Nat.le_of_ble_eq_true rfl) (by omega) (Nat.le_refl _) (Nat.le_refl _) ?_
    have n31 : ts b c ≠ 3 := (by first | exact n3_k (by omega) | exact n3_4 (by omega) | exact n3_w (by omega) | exact n3_s (by omega))
    refine sp_advance hP.1.2.1 hP.nx hP.1.2.2.1 (hP.2.2.1.2.2.2.1 n31) (by omega) (fun J1 M1 hFa1 hLa1 hTk1 => ?_)
    have hP1 := hP.adv hP.nx hFa1 hLa1 hTk1
    have hT_1 := hP1.2.2.2.1
    have hw_1 := hP1.tw
    have k4_1 := hP1.2.2.1.1
    have k5_1 := hP1.2.2.1.2.1
    have k6_1 := hP1.2.2.1.2.2.1.1
    have m4_1 := hP1.2.2.2.2.2.1
    have ki_1 := kC_in b (te b c)
    have kw_1 := wi_in b (te b c)
    have tr_1 := ts_rng b (te b c)
    have l7_1 := hP1.2.2.1.2.2.2.2.1
    refine wp_eqst (st' := []) rfl ?_
    refine wp_aload_n (pc := 25) 0 dX4_personLine_25 rfl rfl ?_
    refine wp_aload_n (pc := 26) 0 dX4_personLine_26 rfl rfl ?_
    refine wp_getr (pc := 27) dX4_personLine_27 rfl f_X4_19 kd_44 la_44 rfl (r_44_1 D) ?_
    refine wp_aload_n (pc := 30) 0 dX4_personLine_30 rfl rfl ?_
    refine wp_getr (pc := 31) dX4_personLine_31 rfl f_X4_15 kd_44 la_44 rfl (r_44_0 D) ?_
    refine wp_getl (pc := 34) dX4_personLine_34 rfl f_X4_96 kd_41 la_41 rfl ?_
    refine wp_eqst (st' := [vJ (M1 41 7), vR (D 2), vR 44]) rfl ?_
    refine wp_callV (pc := 37) (st := [vR 44]) (nf' := 153) [vJ (M1 41 7)] [some (vR (D 2)), some (vJ (M1 41 7)), none] dX4_personLine_37 rfl c_X4_114 rfl (tk_0 ht) (by decide) rfl (tl_0 ht) rfl (Nat.le_of_ble_eq_true rfl) rfl (Nat.le_of_ble_eq_true rfl) (by omega) (Nat.le_refl _) (Nat.le_refl _) ?_
    refine wp_aload_n (pc := 0) 0 dX9_findPerson_0 rfl rfl ?_
    refine wp_getr (pc := 1) dX9_findPerson_1 rfl f_X9_15 (tk_0 ht) (tl_0 ht) rfl (tr_0_1 D ht) ?_
    refine wp_aload_n (pc := 4) 0 dX9_findPerson_4 rfl rfl ?_
    refine wp_geti (pc := 5) dX9_findPerson_5 rfl f_X9_64 (tk_0 ht) (tl_0 ht) (Or.inl rfl) ?_
    refine wp_eqst (st' := [vI (T 0 12), vR ((D 2) + 2)]) (by rw [← hT_1] <;> rfl) ?_
    refine wp_lload_n (pc := 8) 1 dX9_findPerson_8 rfl rfl ?_
    refine wp_callS (pc := 9) (st := []) (nf' := 153) [vR ((D 2) + 2), vI (T 0 12), vJ (M1 41 7)] [some (vR ((D 2) + 2)), some (vI (T 0 12)), some (vJ (M1 41 7)), none, none] dX9_findPerson_9 rfl c_X9_86 rfl rfl (Nat.le_of_ble_eq_true rfl) rfl (Nat.le_of_ble_eq_true rfl) (by omega) (Nat.le_refl _) (Nat.le_refl _) ?_
    have hN2 : M1 (D 2 + 2) = N 1 := by rw [← hP1.2.2.2.2.1]; rfl
    have bc2 := tw_p hP1.tw
    have ec2 : nP T = (T 0 12).toNat := rfl
    refine sp_find8 (nP T) (by omega) (tk_2 ht) (tl_2 ht) (by omega) (by omega) (fun j => by rw [hN2]; exact hP1.nm 1 j) (by rw [hN2]; exact hP1.2.2.2.2.2.2.2.2) (by omega) ?_
    rw [hN2]
    have fi2 := fnd_in (N 1) (M1 41 7) (nP T)
    refine wp_eqst (st' := [vI (fnd (N 1) (M1 41 7) (nP T))]) rfl ?_
    refine wp_iret (pc := 12) dX9_findPerson_12 rfl rfl ?_
    refine wp_eqst (st' := [vI (fnd (N 1) (M1 41 7) (nP T)), vR 44]) rfl ?_
    refine wp_callV (pc := 40) (st := []) (nf' := 153) [vI (fnd (N 1) (M1 41 7) (nP T))] [some (vR 44), some (vI (fnd (N 1) (M1 41 7) (nP T)))] dX4_personLine_40 rfl c_X4_104 rfl kd_44 (by decide) rfl la_44 rfl (Nat.le_of_ble_eq_true rfl) rfl (Nat.le_of_ble_eq_true rfl) (by omega) (Nat.le_refl _) (Nat.le_refl _) ?_
    refine sp_isNewName (NA := (N 1)) (nn := (nP T)) hP1 (fun z => by rw [hP1.2.2.1.2.2.2.2.2 (k2_w z)]) (by omega) (by omega) (fun h_2 => ?_) (fun h_2 J3 hF3 hE3 => ?_)
    · have nk3 := nwF_ok h_2
      have nk13 := nk3.1
      have ew3 := hP1.2.2.1.2.2.2.2.2 (k2_w nk3.1)
      refine wp_eqst (st' := [vI 1]) rfl ?_
      refine wp_if_ne (pc := 43) 48 dX4_personLine_43 (by decide) (by decide) (fun _ => ?_) (fun hh => absurd hh (by decide))
      refine wp_aload_n (pc := 48) 0 dX4_personLine_48 rfl rfl ?_
      refine wp_getr (pc := 49) dX4_personLine_49 rfl f_X4_15 kd_44 la_44 rfl (r_44_0 D) ?_
      refine wp_getl (pc := 52) dX4_personLine_52 rfl f_X4_96 kd_41 la_41 rfl ?_
      refine wp_eqst (st' := [vJ (M1 41 7)]) rfl ?_
      refine wq_lstore_n (pc := 55) 1 [some (vR 44), some (vJ (M1 41 7)), none, none] dX4_personLine_55 rfl rfl (by decide) rfl ?_
      refine wp_aload_n (pc := 56) 0 dX4_personLine_56 rfl rfl ?_
      refine wp_getr (pc := 57) dX4_personLine_57 rfl f_X4_15 kd_44 la_44 rfl (r_44_0 D) ?_
      refine wp_callV (pc := 60) (st := []) (nf' := 153) [] [some (vR 41), none] dX4_personLine_60 rfl c_X4_93 rfl kd_41 (by decide) rfl la_41 rfl (Nat.le_of_ble_eq_true rfl) rfl (Nat.le_of_ble_eq_true rfl) (by omega) (Nat.le_refl _) (Nat.le_refl _) ?_
      have n34 : ts b (te b c) ≠ 3 := (by first | exact n3_k (by omega) | exact n3_4 (by omega) | exact n3_w (by omega) | exact n3_s (by omega))
      refine sp_advance hP1.1.2.1 hP1.nx hP1.1.2.2.1 (hP1.2.2.1.2.2.2.1 n34) (by omega) (fun J4 M4 hFa4 hLa4 hTk4 => ?_)
      have hP4 := hP1.adv hP1.nx hFa4 hLa4 hTk4
      have hT_4 := hP4.2.2.2.1
      have hw_4 := hP4.tw
      have k4_4 := hP4.2.2.1.1
      have k5_4 := hP4.2.2.1.2.1
      have k6_4 := hP4.2.2.1.2.2.1.1
      have m4_4 := hP4.2.2.2.2.2.1
      have ki_4 := kC_in b (te b (te b c))
      have kw_4 := wi_in b (te b (te b c))
      have tr_4 := ts_rng b (te b (te b c))
      have l7_4 := hP4.2.2.1.2.2.2.2.1
      refine wp_eqst (st' := []) rfl ?_
      refine wp_aload_n (pc := 63) 0 dX4_personLine_63 rfl rfl ?_
      refine wp_iconst (pc := 64) dX4_personLine_64 ?_
      refine wp_callV (pc := 65) (st := []) (nf' := 153) [vI 2] [some (vR 44), some (vI 2)] dX4_personLine_65 rfl c_X4_117 rfl kd_44 (by decide) rfl la_44 rfl (Nat.le_of_ble_eq_true rfl) rfl (Nat.le_of_ble_eq_true rfl) (by omega) (Nat.le_refl _) (Nat.le_refl _) ?_
      refine sp_word hP4 (by decide) (by omega) (fun h_3 J5 M5 hF5 hL5 hP5 => ?_) (fun h_3 J6 M6 hF6 hL6 hE6 => ?_)
      · skip
        have hT_5 := hP5.2.2.2.1
        have hw_5 := hP5.tw
        have k4_5 := hP5.2.2.1.1
        have k5_5 := hP5.2.2.1.2.1
        have k6_5 := hP5.2.2.1.2.2.1.1
        have m4_5 := hP5.2.2.2.2.2.1
        have ki_5 := kC_in b (te b (te b (te b c)))
        have kw_5 := wi_in b (te b (te b (te b c)))
        have tr_5 := ts_rng b (te b (te b (te b c)))
        have l7_5 := hP5.2.2.1.2.2.2.2.1
        refine wp_eqst (st' := [vI 1]) rfl ?_
        refine wp_if_ne (pc := 68) 73 dX4_personLine_68 (by decide) (by decide) (fun _ => ?_) (fun hh => absurd hh (by decide))
        refine wp_aload_n (pc := 73) 0 dX4_personLine_73 rfl rfl ?_
        refine wp_callV (pc := 74) (st := []) (nf' := 153) [] [some (vR 44), none] dX4_personLine_74 rfl c_X4_120 rfl kd_44 (by decide) rfl la_44 rfl (Nat.le_of_ble_eq_true rfl) rfl (Nat.le_of_ble_eq_true rfl) (by omega) (Nat.le_refl _) (Nat.le_refl _) ?_
        refine sp_takeChurch hP5 (nn := nC T) rfl (by omega) (fun h_4 J7 M7 hF7 hL7 hP7 => ?_) (fun h_4 J8 M8 hF8 hL8 hE8 => ?_)
        · skip
          have pi7 := prF_in (b := b) (c := te b (te b (te b c))) (N := N 0) (n := nC T) (rep := 0)
          have hT_7 := hP7.2.2.2.1
          have hw_7 := hP7.tw
          have k4_7 := hP7.2.2.1.1
          have k5_7 := hP7.2.2.1.2.1
          have k6_7 := hP7.2.2.1.2.2.1.1
          have m4_7 := hP7.2.2.2.2.2.1
          have ki_7 := kC_in b (te b (te b (te b (te b c))))
          have kw_7 := wi_in b (te b (te b (te b (te b c))))
          have tr_7 := ts_rng b (te b (te b (te b (te b c))))
          have l7_7 := hP7.2.2.1.2.2.2.2.1
          refine wp_eqst (st' := [vI (prF b (te b (te b (te b c))) (N 0) (nC T) 0)]) rfl ?_
          refine wq_istore_n (pc := 77) 3 [some (vR 44), some (vJ (M1 41 7)), none, some (vI (prF b (te b (te b (te b c))) (N 0) (nC T) 0))] dX4_personLine_77 rfl rfl (by decide) rfl ?_
          refine wp_iload_n (pc := 78) 3 dX4_personLine_78 rfl rfl ?_
          refine wp_iconst (pc := 79) dX4_personLine_79 ?_
          refine wp_icmp_ne (pc := 80) 85 dX4_personLine_80 (by decide) (by omega) (by decide) (fun h_5 => ?_) (fun h_5 => ?_)
          · refine wp_aload_n (pc := 85) 0 dX4_personLine_85 rfl rfl ?_
            refine wp_getr (pc := 86) dX4_personLine_86 rfl f_X4_19 kd_44 la_44 rfl (r_44_1 D) ?_
            refine wp_lload_n (pc := 89) 1 dX4_personLine_89 rfl rfl ?_
            refine wp_iload_n (pc := 90) 3 dX4_personLine_90 rfl rfl ?_
            refine wp_callV (pc := 91) (st := []) (nf' := 153) [vJ (M1 41 7), vI (prF b (te b (te b (te b c))) (N 0) (nC T) 0)] [some (vR (D 2)), some (vJ (M1 41 7)), none, some (vI (prF b (te b (te b (te b c))) (N 0) (nC T) 0))] dX4_personLine_91 rfl c_X4_124 rfl (tk_0 ht) (by decide) rfl (tl_0 ht) rfl (Nat.le_of_ble_eq_true rfl) rfl (Nat.le_of_ble_eq_true rfl) (by omega) (Nat.le_refl _) (Nat.le_refl _) ?_
            refine sp_describe ht hT_7 hw_7 (by omega) (by omega) ?_
            have hP9_ : PS (up J7 (D 2 + 3) (nP T) (prF b (te b (te b (te b c))) (N 0) (nC T) 0)) (upL M7 (D 2 + 2) (nP T) (M1 41 7)) D b n (te b (te b (te b (te b c)))) (setT T 3 (nP T) (prF b (te b (te b (te b c))) (N 0) (nC T) 0)) (setT N 1 (nP T) (w5 b (te b c))) mo := by rw [← ew3]; exact hP7.desc (by omega) (by omega) l7_1
            have hF9_ : Fp I (up J7 (D 2 + 3) (nP T) (prF b (te b (te b (te b c))) (N 0) (nC T) 0)) (D 2) := ((((Fp.refl.trans hFa1.p).trans hFa4.p).trans hF5).trans hF7).upt ht (by omega)
            refine wp_gen (fun J => Fp I J (D 2) ∧ PS J (upL M7 (D 2 + 2) (nP T) (M1 41 7)) D b n (te b (te b (te b (te b c)))) (setT T 3 (nP T) (prF b (te b (te b (te b c))) (N 0) (nC T) 0)) (setT N 1 (nP T) (w5 b (te b c))) mo) ⟨hF9_, hP9_⟩ (fun J9 hJ9 => ?_)
            have hF9 := hJ9.1
            have hP9 := hJ9.2
            have hT_9 := hP9.2.2.2.1
            have hw_9 := hP9.tw
            have k4_9 := hP9.2.2.1.1
            have k5_9 := hP9.2.2.1.2.1
            have k6_9 := hP9.2.2.1.2.2.1.1
            have m4_9 := hP9.2.2.2.2.2.1
            have ki_9 := kC_in b (te b (te b (te b (te b c))))
            have kw_9 := wi_in b (te b (te b (te b (te b c))))
            have tr_9 := ts_rng b (te b (te b (te b (te b c))))
            have l7_9 := hP9.2.2.1.2.2.2.2.1
            refine wp_eqst (st' := []) rfl ?_
            refine wp_aload_n (pc := 94) 0 dX4_personLine_94 rfl rfl ?_
            refine wp_callV (pc := 95) (st := []) (nf' := 153) [] [some (vR 44), none, none] dX4_personLine_95 rfl c_X4_128 rfl kd_44 (by decide) rfl la_44 rfl (Nat.le_of_ble_eq_true rfl) rfl (Nat.le_of_ble_eq_true rfl) (by omega) (Nat.le_refl _) (Nat.le_refl _) ?_
            refine sp_parents hP9 (show T 0 12 < 8 by omega) (by omega) (fun c10 T10 N10 hR10 J10 M10 hF10 hL10 hP10 => ?_) (fun e11 hR11 J11 M11 hF11 hL11 hE11 => ?_)
            · skip
              have pn10 := parF_n hR10
              have pq10 : T10 0 12 = T 0 12 := pn10.2.1
              have hT_10 := hP10.2.2.2.1
              have hw_10 := hP10.tw
              have k4_10 := hP10.2.2.1.1
              have k5_10 := hP10.2.2.1.2.1
              have k6_10 := hP10.2.2.1.2.2.1.1
              have m4_10 := hP10.2.2.2.2.2.1
              have ki_10 := kC_in b c10
              have kw_10 := wi_in b c10
              have tr_10 := ts_rng b c10
              have l7_10 := hP10.2.2.1.2.2.2.2.1
              refine wp_eqst (st' := [vI 1]) rfl ?_
              refine wp_if_eq (pc := 98) 108 dX4_personLine_98 (by decide) (by decide) (fun hh => absurd hh (by decide)) (fun _ => ?_)
              refine wp_aload_n (pc := 101) 0 dX4_personLine_101 rfl rfl ?_
              refine wp_callV (pc := 102) (st := []) (nf' := 153) [] [some (vR 44), none] dX4_personLine_102 rfl c_X4_131 rfl kd_44 (by decide) rfl la_44 rfl (Nat.le_of_ble_eq_true rfl) rfl (Nat.le_of_ble_eq_true rfl) (by omega) (Nat.le_refl _) (Nat.le_refl _) ?_
              refine sp_vowAndSailing hP10 (by omega) (by omega) (fun c12 T12 N12 hR12 J12 M12 hF12 hL12 hP12 => ?_) (fun e13 hR13 J13 M13 hF13 hL13 hE13 => ?_)
              · skip
                have pn12 := slF_n hR12
                have pq12 : T12 0 12 = T10 0 12 := pn12.2.trans vwF_n
                have hT_12 := hP12.2.2.2.1
                have hw_12 := hP12.tw
                have k4_12 := hP12.2.2.1.1
                have k5_12 := hP12.2.2.1.2.1
                have k6_12 := hP12.2.2.1.2.2.1.1
                have m4_12 := hP12.2.2.2.2.2.1
                have ki_12 := kC_in b c12
                have kw_12 := wi_in b c12
                have tr_12 := ts_rng b c12
                have l7_12 := hP12.2.2.1.2.2.2.2.1
                refine wp_eqst (st' := [vI 1]) rfl ?_
                refine wp_if_ne (pc := 105) 110 dX4_personLine_105 (by decide) (by decide) (fun _ => ?_) (fun hh => absurd hh (by decide))
                refine wp_aload_n (pc := 110) 0 dX4_personLine_110 rfl rfl ?_
                refine wp_getr (pc := 111) dX4_personLine_111 rfl f_X4_19 kd_44 la_44 rfl (r_44_1 D) ?_
                refine wp_dup (pc := 114) dX4_personLine_114 rfl ?_
                refine wp_geti (pc := 115) dX4_personLine_115 rfl f_X4_111 (tk_0 ht) (tl_0 ht) (Or.inl rfl) ?_
                refine wp_eqst (st' := [vI (T12 0 12), vR (D 2)]) (by rw [← hT_12] <;> rfl) ?_
                refine wp_iconst (pc := 118) dX4_personLine_118 ?_
                refine wp_iadd (pc := 119) dX4_personLine_119 ?_
                refine wp_puti (pc := 120) dX4_personLine_120 rfl f_X4_111 (tk_0 ht) (tl_0 ht) (fun _ h => by cases h; rfl) rfl ?_
                have en : N12 1 = (setT N 1 (nP T) (w5 b (te b c))) 1 := by rw [pn12.1, pn10.1]
                have ep : nP T12 = nP T := by show (T12 0 12).toNat = (T 0 12).toNat; rw [pq12, pq10]
                have ds : dst (N12 1) (nP T12 + 1) := by rw [en, ep]; exact dst_s hP.2.2.2.2.2.2.2.2 (fun j hj => setT_j (by omega)) (fun j hj => by rw [setT_s]; exact fnd_m _ nk3.2 j hj)
                have hP14_ : PS (up J12 (D 2) 12 ((T12 0 12) + 1)) (M12) D b n c12 (setT T12 0 12 (T12 0 12 + 1)) N12 mo := hP12.incP (by omega) ds
                have hF14_ : Fp I (up J12 (D 2) 12 ((T12 0 12) + 1)) (D 2) := ((hF9.trans hF10).trans hF12).upt ht (by omega)
                refine wp_gen (fun J => Fp I J (D 2) ∧ PS J (M12) D b n c12 (setT T12 0 12 (T12 0 12 + 1)) N12 mo) ⟨hF14_, hP14_⟩ (fun J14 hJ14 => ?_)
                have hF14 := hJ14.1
                have hP14 := hJ14.2
                have hT_14 := hP14.2.2.2.1
                have hw_14 := hP14.tw
                have k4_14 := hP14.2.2.1.1
                have k5_14 := hP14.2.2.1.2.1
                have k6_14 := hP14.2.2.1.2.2.1.1
                have m4_14 := hP14.2.2.2.2.2.1
                have ki_14 := kC_in b c12
                have kw_14 := wi_in b c12
                have tr_14 := ts_rng b c12
                have l7_14 := hP14.2.2.1.2.2.2.2.1
                refine wp_iconst (pc := 123) dX4_personLine_123 ?_
                refine wp_zret (pc := 124) dX4_personLine_124 rfl rfl (by decide) ?_
                exact h1 _ _ _ (by unfold personF; (repeat (first | rw [if_pos (by omega)] | rw [if_neg (by omega)])); rw [bnd_r hR10]; show bnd (slF b _ _ _) _ = _; rw [bnd_r hR12]) _ _ hF14 (((((((Lp.refl.trans hLa1.p).trans hLa4.p).trans hL5).trans hL7).upt (by omega)).trans hL10).trans hL12) hP14
              · skip
                refine wp_eqst (st' := [vI 0]) rfl ?_
                refine wp_if_ne (pc := 105) 110 dX4_personLine_105 (by decide) (by decide) (fun hh => absurd hh (by decide)) (fun _ => ?_)
                refine wp_iconst (pc := 108) dX4_personLine_108 ?_
                refine wp_zret (pc := 109) dX4_personLine_109 rfl rfl (by decide) ?_
                exact h0 _ (by unfold personF; (repeat (first | rw [if_pos (by omega)] | rw [if_neg (by omega)])); rw [bnd_r hR10]; show bnd (slF b _ _ _) _ = _; rw [bnd_l hR13]) _ _ ((hF9.trans hF10).trans hF13) (((((((Lp.refl.trans hLa1.p).trans hLa4.p).trans hL5).trans hL7).upt (by omega)).trans hL10).trans hL13) hE13
            · skip
              refine wp_eqst (st' := [vI 0]) rfl ?_
              refine wp_if_eq (pc := 98) 108 dX4_personLine_98 (by decide) (by decide) (fun _ => ?_) (fun hh => absurd hh (by decide))
              refine wp_iconst (pc := 108) dX4_personLine_108 ?_
              refine wp_zret (pc := 109) dX4_personLine_109 rfl rfl (by decide) ?_
              exact h0 _ (by unfold personF; (repeat (first | rw [if_pos (by omega)] | rw [if_neg (by omega)])); rw [bnd_l hR11]) _ _ (hF9.trans hF11) ((((((Lp.refl.trans hLa1.p).trans hLa4.p).trans hL5).trans hL7).upt (by omega)).trans hL11) hE11
          · refine wp_iconst (pc := 83) dX4_personLine_83 ?_
            refine wp_zret (pc := 84) dX4_personLine_84 rfl rfl (by decide) ?_
            exfalso; omega
        · skip
          refine wp_eqst (st' := [vI (-1)]) rfl ?_
          refine wq_istore_n (pc := 77) 3 [some (vR 44), some (vJ (M1 41 7)), none, some (vI (-1))] dX4_personLine_77 rfl rfl (by decide) rfl ?_
          refine wp_iload_n (pc := 78) 3 dX4_personLine_78 rfl rfl ?_
          refine wp_iconst (pc := 79) dX4_personLine_79 ?_
          refine wp_icmp_ne (pc := 80) 85 dX4_personLine_80 (by decide) (by decide) (by decide) (fun hh => absurd hh (by decide)) (fun _ => ?_)
          refine wp_iconst (pc := 83) dX4_personLine_83 ?_
          refine wp_zret (pc := 84) dX4_personLine_84 rfl rfl (by decide) ?_
          exact h0 _ (by unfold personF; (repeat (first | rw [if_pos (by omega)] | rw [if_neg (by omega)])); first | done | rfl) _ _ ((((Fp.refl.trans hFa1.p).trans hFa4.p).trans hF5).trans hF8) ((((Lp.refl.trans hLa1.p).trans hLa4.p).trans hL5).trans hL8) hE8
      · skip
        refine wp_eqst (st' := [vI 0]) rfl ?_
        refine wp_if_ne (pc := 68) 73 dX4_personLine_68 (by decide) (by decide) (fun hh => absurd hh (by decide)) (fun _ => ?_)
        refine wp_iconst (pc := 71) dX4_personLine_71 ?_
        refine wp_zret (pc := 72) dX4_personLine_72 rfl rfl (by decide) ?_
        exact h0 _ (by unfold personF; (repeat (first | rw [if_pos (by omega)] | rw [if_neg (by omega)])); first | done | rfl) _ _ (((Fp.refl.trans hFa1.p).trans hFa4.p).trans hF6) (((Lp.refl.trans hLa1.p).trans hLa4.p).trans hL6) hE6
    · skip
      refine wp_eqst (st' := [vI 0]) rfl ?_
      refine wp_if_ne (pc := 43) 48 dX4_personLine_43 (by decide) (by decide) (fun hh => absurd hh (by decide)) (fun _ => ?_)
      refine wp_iconst (pc := 46) dX4_personLine_46 ?_
      refine wp_zret (pc := 47) dX4_personLine_47 rfl rfl (by decide) ?_
      exact h0 _ (by unfold personF; (repeat (first | rw [if_pos (by omega)] | rw [if_neg (by omega)])); first | done | rfl) _ _ ((Fp.refl.trans hFa1.p).trans hF3) (Lp.refl.trans hLa1.p) hE3
  · refine wp_aload_n (pc := 12) 0 dX4_personLine_12 rfl rfl ?_
    refine wp_iconst (pc := 13) dX4_personLine_13 ?_
    refine wp_callV (pc := 14) (st := []) (nf' := 153) [vI 2] [some (vR 44), some (vI 2)] dX4_personLine_14 rfl c_X4_42 rfl kd_44 (by decide) rfl la_44 rfl (Nat.le_of_ble_eq_true rfl) rfl (Nat.le_of_ble_eq_true rfl) (by omega) (Nat.le_refl _) (Nat.le_refl _) ?_
    refine sp_refuse hP.2.2.1 (by decide) (by omega) ?_
    refine wp_eqst (st' := [vI 0]) rfl ?_
    refine wp_zret (pc := 17) dX4_personLine_17 rfl rfl (by decide) ?_
    exact h0 _ (by unfold personF; (repeat (first | rw [if_pos (by omega)] | rw [if_neg (by omega)])); first | done | rfl) _ _ Fp.refl.up44.up44 Lp.refl (hP.ref 2)

theorem kcN_le (f : Nat → Int) : ∀ n, kcN f n ≤ 8 * n
  | 0 => Nat.le_refl 0
  | n + 1 => by
    have h := kcN_le f n
    have h2 : pc8 (f n).toNat ≤ 8 := cnt_le _ 8
    rw [kcN]
    omega

theorem lp_link13 {l : Launch} {G : mG} {d : Nat} {I : mI} {L : Nat → Nat → Int} {D : Nat → Nat} {Q : mQ} {T : mT} (ht : isT (D 2)) (hT : TT I (D 2) = T) (hw : tw T) (hd : 8 ≤ d) (hN : WP l G m_X4_linkLine d 153 I (XX L D) 41 [some (vR 44), some (vR ((D 2) + 13)), some (vI 12), some (vI ((kcN (T 13) 8 : Nat) : Int)), some (vR ((D 2) + 13)), some (vI 8), some (vI 8), none] [] Q) : ∀ i : Nat, i ≤ 8 → WP l G m_X4_linkLine d 153 I (XX L D) 13 [some (vR 44), some (vR ((D 2) + 13)), some (vI 12), some (vI ((kcN (T 13) i : Nat) : Int)), some (vR ((D 2) + 13)), some (vI 8), some (vI (i : Int)), none] [] Q := by
  have g2 : D 2 = 1 ∨ D 2 = 21 := ht
  refine loop_dn (fun i => WP l G m_X4_linkLine d 153 I (XX L D) 13 [some (vR 44), some (vR ((D 2) + 13)), some (vI 12), some (vI ((kcN (T 13) i : Nat) : Int)), some (vR ((D 2) + 13)), some (vI 8), some (vI (i : Int)), none] [] Q) 8 ?_ (fun i hi ih => ?_)
  · refine wp_iload (pc := 13) dX4_linkLine_13 rfl ?_
    refine wp_iload (pc := 15) dX4_linkLine_15 rfl ?_
    refine wp_icmp_ge (pc := 17) 41 dX4_linkLine_17 (by decide) (by decide) (by decide) (fun _ => ?_) (fun hh => absurd hh (by decide))
    exact hN
  · have b1 := tw_told hw i
    have b2 := kcN_le (T 13) i
    have b3 : pc8 (T 13 i).toNat ≤ 8 := cnt_le _ 8
    refine wp_iload (pc := 13) dX4_linkLine_13 rfl ?_
    refine wp_iload (pc := 15) dX4_linkLine_15 rfl ?_
    refine wp_icmp_ge (pc := 17) 41 dX4_linkLine_17 (by decide) (by omega) (by decide) (fun h_1 => ?_) (fun h_1 => ?_)
    · exfalso; omega
    · refine wp_aload (pc := 20) dX4_linkLine_20 rfl ?_
      refine wp_iload (pc := 22) dX4_linkLine_22 rfl ?_
      refine wq_iald (pc := 24) i dX4_linkLine_24 (tk_13 ht) (tl_13 ht) rfl (by omega) ?_
      refine wp_eqst (st' := [vI (T 13 i)]) (by rw [← hT] <;> rfl) ?_
      refine wq_istore (pc := 25) [some (vR 44), some (vR ((D 2) + 13)), some (vI 12), some (vI ((kcN (T 13) i : Nat) : Int)), some (vR ((D 2) + 13)), some (vI 8), some (vI (i : Int)), some (vI (T 13 i))] dX4_linkLine_25 rfl (by decide) rfl ?_
      refine wp_iload_n (pc := 27) 3 dX4_linkLine_27 rfl rfl ?_
      refine wp_iload (pc := 28) dX4_linkLine_28 rfl ?_
      refine wp_callS (pc := 30) (st := [vI ((kcN (T 13) i : Nat) : Int)]) (nf' := 153) [vI (T 13 i)] [some (vI (T 13 i))] dX4_linkLine_30 rfl c_X4_157 rfl rfl (Nat.le_of_ble_eq_true rfl) rfl (Nat.le_of_ble_eq_true rfl) (by omega) (Nat.le_refl _) (Nat.le_refl _) ?_
      refine sp_bitCount (Int.toNat (T 13 i)) (by omega) (by omega) (by omega) ?_
      refine wp_eqst (st' := [vI ((pc8 (Int.toNat (T 13 i)) : Nat) : Int), vI ((kcN (T 13) i : Nat) : Int)]) rfl ?_
      refine wp_iadd (pc := 33) dX4_linkLine_33 ?_
      refine wq_istore_n (pc := 34) 3 [some (vR 44), some (vR ((D 2) + 13)), some (vI 12), some (vI (((kcN (T 13) i : Nat) : Int) + ((pc8 (Int.toNat (T 13 i)) : Nat) : Int))), some (vR ((D 2) + 13)), some (vI 8), some (vI (i : Int)), some (vI (T 13 i))] dX4_linkLine_34 rfl rfl (by decide) rfl ?_
      refine wq_iinc (pc := 35) [some (vR 44), some (vR ((D 2) + 13)), some (vI 12), some (vI (((kcN (T 13) i : Nat) : Int) + ((pc8 (Int.toNat (T 13 i)) : Nat) : Int))), some (vR ((D 2) + 13)), some (vI 8), some (vI ((i : Int) + 1)), some (vI (T 13 i))] dX4_linkLine_35 rfl rfl (by decide) rfl ?_
      refine wp_goto (pc := 38) 13 dX4_linkLine_38 (by decide) ?_
      refine wp_none 7 [some (vR 44), some (vR ((D 2) + 13)), some (vI 12), some (vI (((kcN (T 13) i : Nat) : Int) + ((pc8 (Int.toNat (T 13 i)) : Nat) : Int))), some (vR ((D 2) + 13)), some (vI 8), some (vI ((i : Int) + 1)), none] rfl ?_
      exact wp_eqls (ls' := [some (vR 44), some (vR ((D 2) + 13)), some (vI 12), some (vI ((kcN (T 13) (i + 1) : Nat) : Int)), some (vR ((D 2) + 13)), some (vI 8), some (vI (((i + 1) : Nat) : Int)), none]) rfl ih

theorem sp_linkLine13 {l : Launch} {G : mG} {d : Nat} {I : mI} {L : Nat → Nat → Int} {D : Nat → Nat} {Q : mQ} {b : Nat → Int} {n c : Nat} {T N : mT} {mo : Nat}   (hP : PS I L D b n c T N mo) (hwi : 0 ≤ wi b c) (hd : 8 ≤ d) (h1 : ∀ c' T' N', linkF b c T N 13 12 = .inr (c', T', N') → ∀ J M, Fp I J (D 2) → Lp L M (D 2) → PS J M D b n c' T' N' mo → Q (some (vI 1)) J (XX M D)) (h0 : ∀ er, linkF b c T N 13 12 = .inl er → ∀ J M, Fp I J (D 2) → Lp L M (D 2) → PE J M D b n er → Q (some (vI 0)) J (XX M D)) : WP l G m_X4_linkLine d 153 I (XX L D) 0 [some (vR 44), some (vR ((D 2) + 13)), some (vI 12), none, none, none, none, none] [] Q := by
  have ht := hP.1.1
  have g2 : D 2 = 1 ∨ D 2 = 21 := ht
  have hT := hP.2.2.2.1
  have hw := hP.tw
  have k4 := hP.2.2.1.1
  have k5 := hP.2.2.1.2.1
  have k6 := hP.2.2.1.2.2.1.1
  have m4 := hP.2.2.2.2.2.1
  have ki := kC_in b c
  have kw := wi_in b c
  have tr := ts_rng b c
  have l7 := hP.2.2.1.2.2.2.2.1
  have b_c := tw_c hw
  have b_p := tw_p hw
  have b_q := tw_q hw
  have b_v := tw_vows hw
  have eC : nC T = (T 0 11).toNat := rfl
  have eP : nP T = (T 0 12).toNat := rfl
  have eQ : nQ T = (T 0 13).toNat := rfl
  refine wp_iconst (pc := 0) dX4_linkLine_0 ?_
  refine wq_istore_n (pc := 1) 3 [some (vR 44), some (vR ((D 2) + 13)), some (vI 12), some (vI 0), none, none, none, none] dX4_linkLine_1 rfl rfl (by decide) rfl ?_
  refine wp_aload_n (pc := 2) 1 dX4_linkLine_2 rfl rfl ?_
  refine wq_astore (pc := 3) [some (vR 44), some (vR ((D 2) + 13)), some (vI 12), some (vI 0), some (vR ((D 2) + 13)), none, none, none] dX4_linkLine_3 rfl (by decide) rfl ?_
  refine wp_aload (pc := 5) dX4_linkLine_5 rfl ?_
  refine wp_alen (pc := 7) dX4_linkLine_7 (tk_13 ht) (by decide) (tl_13 ht) ?_
  refine wq_istore (pc := 8) [some (vR 44), some (vR ((D 2) + 13)), some (vI 12), some (vI 0), some (vR ((D 2) + 13)), some (vI 8), none, none] dX4_linkLine_8 rfl (by decide) rfl ?_
  refine wp_iconst (pc := 10) dX4_linkLine_10 ?_
  refine wq_istore (pc := 11) [some (vR 44), some (vR ((D 2) + 13)), some (vI 12), some (vI 0), some (vR ((D 2) + 13)), some (vI 8), some (vI 0), none] dX4_linkLine_11 rfl (by decide) rfl ?_
  refine lp_link13 ht hT hw hd ?_ 0 (Nat.zero_le _)
  have b2 := kcN_le (T 13) 8
  refine wp_iload_n (pc := 41) 3 dX4_linkLine_41 rfl rfl ?_
  refine wp_iload_n (pc := 42) 2 dX4_linkLine_42 rfl rfl ?_
  refine wp_icmp_lt (pc := 43) 52 dX4_linkLine_43 (by decide) (by omega) (by decide) (fun h_1 => ?_) (fun h_1 => ?_)
  · refine wp_aload_n (pc := 52) 0 dX4_linkLine_52 rfl rfl ?_
    refine wp_getr (pc := 53) dX4_linkLine_53 rfl f_X4_15 kd_44 la_44 rfl (r_44_0 D) ?_
    refine wp_callV (pc := 56) (st := []) (nf' := 153) [] [some (vR 41), none] dX4_linkLine_56 rfl c_X4_93 rfl kd_41 (by decide) rfl la_41 rfl (Nat.le_of_ble_eq_true rfl) rfl (Nat.le_of_ble_eq_true rfl) (by omega) (Nat.le_refl _) (Nat.le_refl _) ?_
    have n31 : ts b c ≠ 3 := (by first | exact n3_k (by omega) | exact n3_4 (by omega) | exact n3_w (by omega) | exact n3_s (by omega))
    refine sp_advance hP.1.2.1 hP.nx hP.1.2.2.1 (hP.2.2.1.2.2.2.1 n31) (by omega) (fun J1 M1 hFa1 hLa1 hTk1 => ?_)
    have hP1 := hP.adv hP.nx hFa1 hLa1 hTk1
    have hT_1 := hP1.2.2.2.1
    have hw_1 := hP1.tw
    have k4_1 := hP1.2.2.1.1
    have k5_1 := hP1.2.2.1.2.1
    have k6_1 := hP1.2.2.1.2.2.1.1
    have m4_1 := hP1.2.2.2.2.2.1
    have ki_1 := kC_in b (te b c)
    have kw_1 := wi_in b (te b c)
    have tr_1 := ts_rng b (te b c)
    have l7_1 := hP1.2.2.1.2.2.2.2.1
    refine wp_eqst (st' := []) rfl ?_
    refine wp_aload_n (pc := 59) 0 dX4_linkLine_59 rfl rfl ?_
    refine wp_iconst (pc := 60) dX4_linkLine_60 ?_
    refine wp_callV (pc := 61) (st := []) (nf' := 153) [vI 0] [some (vR 44), some (vI 0), none] dX4_linkLine_61 rfl c_X4_137 rfl kd_44 (by decide) rfl la_44 rfl (Nat.le_of_ble_eq_true rfl) rfl (Nat.le_of_ble_eq_true rfl) (by omega) (Nat.le_refl _) (Nat.le_refl _) ?_
    refine sp_takePerson 0 rfl hP1 (by first | omega | exact Nat.lt_of_lt_of_le (two_lt (by omega)) (by decide) | exact Nat.lt_of_lt_of_le (or_lt (n := 8) (by omega) (two_lt (by omega))) (by decide)) (nn := nP T) rfl (by omega) (fun h_2 J2 M2 hF2 hL2 hP2 => ?_) (fun h_2 J3 M3 hF3 hL3 hE3 => ?_)
    · skip
      have pi2 := prF_in (b := b) (c := te b c) (N := N 1) (n := nP T) (rep := 0)
      have po2 := (prF_ok (b := b) (c := te b c) (N := N 1) (n := nP T) (rep := 0) (by assumption)).1
      have hT_2 := hP2.2.2.2.1
      have hw_2 := hP2.tw
      have k4_2 := hP2.2.2.1.1
      have k5_2 := hP2.2.2.1.2.1
      have k6_2 := hP2.2.2.1.2.2.1.1
      have m4_2 := hP2.2.2.2.2.2.1
      have ki_2 := kC_in b (te b (te b c))
      have kw_2 := wi_in b (te b (te b c))
      have tr_2 := ts_rng b (te b (te b c))
      have l7_2 := hP2.2.2.1.2.2.2.2.1
      refine wp_eqst (st' := [vI (prF b (te b c) (N 1) (nP T) 0)]) rfl ?_
      refine wq_istore (pc := 64) [some (vR 44), some (vR ((D 2) + 13)), some (vI 12), some (vI ((kcN (T 13) 8 : Nat) : Int)), some (vI (prF b (te b c) (N 1) (nP T) 0)), some (vI 8), some (vI 8), none] dX4_linkLine_64 rfl (by decide) rfl ?_
      refine wp_iload (pc := 66) dX4_linkLine_66 rfl ?_
      refine wp_iconst (pc := 68) dX4_linkLine_68 ?_
      refine wp_icmp_ne (pc := 69) 74 dX4_linkLine_69 (by decide) (by omega) (by decide) (fun h_3 => ?_) (fun h_3 => ?_)
      · refine wp_aload_n (pc := 74) 0 dX4_linkLine_74 rfl rfl ?_
        refine wp_aload_n (pc := 75) 1 dX4_linkLine_75 rfl rfl ?_
        refine wp_iload (pc := 76) dX4_linkLine_76 rfl ?_
        refine wq_iald (pc := 78) (Int.toNat (prF b (te b c) (N 1) (nP T) 0)) dX4_linkLine_78 (tk_13 ht) (tl_13 ht) (by omega) (by omega) ?_
        refine wp_eqst (st' := [vI (T 13 (Int.toNat (prF b (te b c) (N 1) (nP T) 0))), vR 44]) (by rw [← hT_2] <;> rfl) ?_
        have bl := tw_told hw (Int.toNat (prF b (te b c) (N 1) (nP T) 0))
        refine wp_iconst (pc := 79) dX4_linkLine_79 ?_
        refine wp_iload (pc := 80) dX4_linkLine_80 rfl ?_
        refine wn_shl1 (pc := 82) (Int.toNat (prF b (te b c) (N 1) (nP T) 0)) dX4_linkLine_82 (by omega) (by omega) ?_
        refine wn_or (pc := 83) (Int.toNat (T 13 (Int.toNat (prF b (te b c) (N 1) (nP T) 0)))) (2 ^ (Int.toNat (prF b (te b c) (N 1) (nP T) 0))) dX4_linkLine_83 (by omega) rfl ?_
        refine wp_callV (pc := 84) (st := []) (nf' := 153) [vI (((Int.toNat (T 13 (Int.toNat (prF b (te b c) (N 1) (nP T) 0)))) ||| (2 ^ (Int.toNat (prF b (te b c) (N 1) (nP T) 0))) : Nat) : Int)] [some (vR 44), some (vI (((Int.toNat (T 13 (Int.toNat (prF b (te b c) (N 1) (nP T) 0)))) ||| (2 ^ (Int.toNat (prF b (te b c) (N 1) (nP T) 0))) : Nat) : Int)), none] dX4_linkLine_84 rfl c_X4_137 rfl kd_44 (by decide) rfl la_44 rfl (Nat.le_of_ble_eq_true rfl) rfl (Nat.le_of_ble_eq_true rfl) (by omega) (Nat.le_refl _) (Nat.le_refl _) ?_
        refine sp_takePerson ((Int.toNat (T 13 (Int.toNat (prF b (te b c) (N 1) (nP T) 0)))) ||| (2 ^ (Int.toNat (prF b (te b c) (N 1) (nP T) 0)))) rfl hP2 (by first | omega | exact Nat.lt_of_lt_of_le (two_lt (by omega)) (by decide) | exact Nat.lt_of_lt_of_le (or_lt (n := 8) (by omega) (two_lt (by omega))) (by decide)) (nn := nP T) rfl (by omega) (fun h_4 J4 M4 hF4 hL4 hP4 => ?_) (fun h_4 J5 M5 hF5 hL5 hE5 => ?_)
        · skip
          have pi4 := prF_in (b := b) (c := te b (te b c)) (N := N 1) (n := nP T) (rep := (Int.toNat (T 13 (Int.toNat (prF b (te b c) (N 1) (nP T) 0)))) ||| (2 ^ (Int.toNat (prF b (te b c) (N 1) (nP T) 0))))
          have po4 := (prF_ok (b := b) (c := te b (te b c)) (N := N 1) (n := nP T) (rep := (Int.toNat (T 13 (Int.toNat (prF b (te b c) (N 1) (nP T) 0)))) ||| (2 ^ (Int.toNat (prF b (te b c) (N 1) (nP T) 0)))) (by assumption)).1
          have hT_4 := hP4.2.2.2.1
          have hw_4 := hP4.tw
          have k4_4 := hP4.2.2.1.1
          have k5_4 := hP4.2.2.1.2.1
          have k6_4 := hP4.2.2.1.2.2.1.1
          have m4_4 := hP4.2.2.2.2.2.1
          have ki_4 := kC_in b (te b (te b (te b c)))
          have kw_4 := wi_in b (te b (te b (te b c)))
          have tr_4 := ts_rng b (te b (te b (te b c)))
          have l7_4 := hP4.2.2.1.2.2.2.2.1
          refine wp_eqst (st' := [vI (prF b (te b (te b c)) (N 1) (nP T) ((Int.toNat (T 13 (Int.toNat (prF b (te b c) (N 1) (nP T) 0)))) ||| (2 ^ (Int.toNat (prF b (te b c) (N 1) (nP T) 0)))))]) rfl ?_
          refine wq_istore (pc := 87) [some (vR 44), some (vR ((D 2) + 13)), some (vI 12), some (vI ((kcN (T 13) 8 : Nat) : Int)), some (vI (prF b (te b c) (N 1) (nP T) 0)), some (vI (prF b (te b (te b c)) (N 1) (nP T) ((Int.toNat (T 13 (Int.toNat (prF b (te b c) (N 1) (nP T) 0)))) ||| (2 ^ (Int.toNat (prF b (te b c) (N 1) (nP T) 0)))))), some (vI 8), none] dX4_linkLine_87 rfl (by decide) rfl ?_
          refine wp_iload (pc := 89) dX4_linkLine_89 rfl ?_
          refine wp_iconst (pc := 91) dX4_linkLine_91 ?_
          refine wp_icmp_ne (pc := 92) 97 dX4_linkLine_92 (by decide) (by omega) (by decide) (fun h_5 => ?_) (fun h_5 => ?_)
          · refine wp_aload_n (pc := 97) 1 dX4_linkLine_97 rfl rfl ?_
            refine wp_iload (pc := 98) dX4_linkLine_98 rfl ?_
            refine wp_dup2 (pc := 100) dX4_linkLine_100 rfl rfl ?_
            refine wq_iald (pc := 101) (Int.toNat (prF b (te b c) (N 1) (nP T) 0)) dX4_linkLine_101 (tk_13 ht) (tl_13 ht) (by omega) (by omega) ?_
            refine wp_eqst (st' := [vI (T 13 (Int.toNat (prF b (te b c) (N 1) (nP T) 0))), vI (prF b (te b c) (N 1) (nP T) 0), vR ((D 2) + 13)]) (by rw [← hT_4] <;> rfl) ?_
            refine wp_iconst (pc := 102) dX4_linkLine_102 ?_
            refine wp_iload (pc := 103) dX4_linkLine_103 rfl ?_
            refine wn_shl1 (pc := 105) (Int.toNat (prF b (te b (te b c)) (N 1) (nP T) ((Int.toNat (T 13 (Int.toNat (prF b (te b c) (N 1) (nP T) 0)))) ||| (2 ^ (Int.toNat (prF b (te b c) (N 1) (nP T) 0)))))) dX4_linkLine_105 (by omega) (by omega) ?_
            refine wn_or (pc := 106) (Int.toNat (T 13 (Int.toNat (prF b (te b c) (N 1) (nP T) 0)))) (2 ^ (Int.toNat (prF b (te b (te b c)) (N 1) (nP T) ((Int.toNat (T 13 (Int.toNat (prF b (te b c) (N 1) (nP T) 0)))) ||| (2 ^ (Int.toNat (prF b (te b c) (N 1) (nP T) 0))))))) dX4_linkLine_106 (by omega) rfl ?_
            refine wq_iast (pc := 107) (Int.toNat (prF b (te b c) (N 1) (nP T) 0)) dX4_linkLine_107 (tk_13 ht) (tl_13 ht) (by omega) (by omega) ?_
            have bo : (T 13 (Int.toNat (prF b (te b c) (N 1) (nP T) 0))).toNat ||| 2 ^ (Int.toNat (prF b (te b (te b c)) (N 1) (nP T) ((Int.toNat (T 13 (Int.toNat (prF b (te b c) (N 1) (nP T) 0)))) ||| (2 ^ (Int.toNat (prF b (te b c) (N 1) (nP T) 0)))))) < 2 ^ 8 := or_lt (by omega) (two_lt (by omega))
            have hP6_ : PS (up J4 ((D 2) + 13) (Int.toNat (prF b (te b c) (N 1) (nP T) 0)) (((Int.toNat (T 13 (Int.toNat (prF b (te b c) (N 1) (nP T) 0)))) ||| (2 ^ (Int.toNat (prF b (te b (te b c)) (N 1) (nP T) ((Int.toNat (T 13 (Int.toNat (prF b (te b c) (N 1) (nP T) 0)))) ||| (2 ^ (Int.toNat (prF b (te b c) (N 1) (nP T) 0))))))) : Nat) : Int)) (M4) D b n (te b (te b (te b c))) (setT T 13 (Int.toNat (prF b (te b c) (N 1) (nP T) 0)) (((Int.toNat (T 13 (Int.toNat (prF b (te b c) (N 1) (nP T) 0)))) ||| (2 ^ (Int.toNat (prF b (te b (te b c)) (N 1) (nP T) ((Int.toNat (T 13 (Int.toNat (prF b (te b c) (N 1) (nP T) 0)))) ||| (2 ^ (Int.toNat (prF b (te b c) (N 1) (nP T) 0))))))) : Nat) : Int)) N mo := hP4.upT1 (k := 13) (by decide) (by unfold twB; omega) (fun e => absurd e (by decide)) (by first | exact Or.inl (by decide) | exact Or.inr (by decide))
            have hF6_ : Fp I (up J4 ((D 2) + 13) (Int.toNat (prF b (te b c) (N 1) (nP T) 0)) (((Int.toNat (T 13 (Int.toNat (prF b (te b c) (N 1) (nP T) 0)))) ||| (2 ^ (Int.toNat (prF b (te b (te b c)) (N 1) (nP T) ((Int.toNat (T 13 (Int.toNat (prF b (te b c) (N 1) (nP T) 0)))) ||| (2 ^ (Int.toNat (prF b (te b c) (N 1) (nP T) 0))))))) : Nat) : Int)) (D 2) := (((Fp.refl.trans hFa1.p).trans hF2).trans hF4).upt ht (by omega)
            refine wp_gen (fun J => Fp I J (D 2) ∧ PS J (M4) D b n (te b (te b (te b c))) (setT T 13 (Int.toNat (prF b (te b c) (N 1) (nP T) 0)) (((Int.toNat (T 13 (Int.toNat (prF b (te b c) (N 1) (nP T) 0)))) ||| (2 ^ (Int.toNat (prF b (te b (te b c)) (N 1) (nP T) ((Int.toNat (T 13 (Int.toNat (prF b (te b c) (N 1) (nP T) 0)))) ||| (2 ^ (Int.toNat (prF b (te b c) (N 1) (nP T) 0))))))) : Nat) : Int)) N mo) ⟨hF6_, hP6_⟩ (fun J6 hJ6 => ?_)
            have hF6 := hJ6.1
            have hP6 := hJ6.2
            have hT_6 := hP6.2.2.2.1
            have hw_6 := hP6.tw
            have k4_6 := hP6.2.2.1.1
            have k5_6 := hP6.2.2.1.2.1
            have k6_6 := hP6.2.2.1.2.2.1.1
            have m4_6 := hP6.2.2.2.2.2.1
            have ki_6 := kC_in b (te b (te b (te b c)))
            have kw_6 := wi_in b (te b (te b (te b c)))
            have tr_6 := ts_rng b (te b (te b (te b c)))
            have l7_6 := hP6.2.2.1.2.2.2.2.1
            refine wp_iconst (pc := 108) dX4_linkLine_108 ?_
            refine wp_zret (pc := 109) dX4_linkLine_109 rfl rfl (by decide) ?_
            exact h1 _ _ _ (by unfold linkF; (repeat (first | rw [if_pos (by omega)] | rw [if_neg (by omega)])); first | done | rfl) _ _ hF6 (((Lp.refl.trans hLa1.p).trans hL2).trans hL4) hP6
          · refine wp_iconst (pc := 95) dX4_linkLine_95 ?_
            refine wp_zret (pc := 96) dX4_linkLine_96 rfl rfl (by decide) ?_
            exfalso; omega
        · skip
          refine wp_eqst (st' := [vI (-1)]) rfl ?_
          refine wq_istore (pc := 87) [some (vR 44), some (vR ((D 2) + 13)), some (vI 12), some (vI ((kcN (T 13) 8 : Nat) : Int)), some (vI (prF b (te b c) (N 1) (nP T) 0)), some (vI (-1)), some (vI 8), none] dX4_linkLine_87 rfl (by decide) rfl ?_
          refine wp_iload (pc := 89) dX4_linkLine_89 rfl ?_
          refine wp_iconst (pc := 91) dX4_linkLine_91 ?_
          refine wp_icmp_ne (pc := 92) 97 dX4_linkLine_92 (by decide) (by decide) (by decide) (fun hh => absurd hh (by decide)) (fun _ => ?_)
          refine wp_iconst (pc := 95) dX4_linkLine_95 ?_
          refine wp_zret (pc := 96) dX4_linkLine_96 rfl rfl (by decide) ?_
          exact h0 _ (by unfold linkF; (repeat (first | rw [if_pos (by omega)] | rw [if_neg (by omega)])); first | done | rfl) _ _ (((Fp.refl.trans hFa1.p).trans hF2).trans hF5) (((Lp.refl.trans hLa1.p).trans hL2).trans hL5) hE5
      · refine wp_iconst (pc := 72) dX4_linkLine_72 ?_
        refine wp_zret (pc := 73) dX4_linkLine_73 rfl rfl (by decide) ?_
        exfalso; omega
    · skip
      refine wp_eqst (st' := [vI (-1)]) rfl ?_
      refine wq_istore (pc := 64) [some (vR 44), some (vR ((D 2) + 13)), some (vI 12), some (vI ((kcN (T 13) 8 : Nat) : Int)), some (vI (-1)), some (vI 8), some (vI 8), none] dX4_linkLine_64 rfl (by decide) rfl ?_
      refine wp_iload (pc := 66) dX4_linkLine_66 rfl ?_
      refine wp_iconst (pc := 68) dX4_linkLine_68 ?_
      refine wp_icmp_ne (pc := 69) 74 dX4_linkLine_69 (by decide) (by decide) (by decide) (fun hh => absurd hh (by decide)) (fun _ => ?_)
      refine wp_iconst (pc := 72) dX4_linkLine_72 ?_
      refine wp_zret (pc := 73) dX4_linkLine_73 rfl rfl (by decide) ?_
      exact h0 _ (by unfold linkF; (repeat (first | rw [if_pos (by omega)] | rw [if_neg (by omega)])); first | done | rfl) _ _ ((Fp.refl.trans hFa1.p).trans hF3) ((Lp.refl.trans hLa1.p).trans hL3) hE3
  · refine wp_aload_n (pc := 46) 0 dX4_linkLine_46 rfl rfl ?_
    refine wp_iconst (pc := 47) dX4_linkLine_47 ?_
    refine wp_callV (pc := 48) (st := []) (nf' := 153) [vI 2] [some (vR 44), some (vI 2)] dX4_linkLine_48 rfl c_X4_42 rfl kd_44 (by decide) rfl la_44 rfl (Nat.le_of_ble_eq_true rfl) rfl (Nat.le_of_ble_eq_true rfl) (by omega) (Nat.le_refl _) (Nat.le_refl _) ?_
    refine sp_refuse hP.2.2.1 (by decide) (by omega) ?_
    refine wp_eqst (st' := [vI 0]) rfl ?_
    refine wp_zret (pc := 51) dX4_linkLine_51 rfl rfl (by decide) ?_
    exact h0 _ (by unfold linkF; (repeat (first | rw [if_pos (by omega)] | rw [if_neg (by omega)])); first | done | rfl) _ _ Fp.refl.up44.up44 Lp.refl (hP.ref 2)

theorem lp_link5 {l : Launch} {G : mG} {d : Nat} {I : mI} {L : Nat → Nat → Int} {D : Nat → Nat} {Q : mQ} {T : mT} (ht : isT (D 2)) (hT : TT I (D 2) = T) (hw : tw T) (hd : 8 ≤ d) (hN : WP l G m_X4_linkLine d 153 I (XX L D) 41 [some (vR 44), some (vR ((D 2) + 5)), some (vI 8), some (vI ((kcN (T 5) 8 : Nat) : Int)), some (vR ((D 2) + 5)), some (vI 8), some (vI 8), none] [] Q) : ∀ i : Nat, i ≤ 8 → WP l G m_X4_linkLine d 153 I (XX L D) 13 [some (vR 44), some (vR ((D 2) + 5)), some (vI 8), some (vI ((kcN (T 5) i : Nat) : Int)), some (vR ((D 2) + 5)), some (vI 8), some (vI (i : Int)), none] [] Q := by
  have g2 : D 2 = 1 ∨ D 2 = 21 := ht
  refine loop_dn (fun i => WP l G m_X4_linkLine d 153 I (XX L D) 13 [some (vR 44), some (vR ((D 2) + 5)), some (vI 8), some (vI ((kcN (T 5) i : Nat) : Int)), some (vR ((D 2) + 5)), some (vI 8), some (vI (i : Int)), none] [] Q) 8 ?_ (fun i hi ih => ?_)
  · refine wp_iload (pc := 13) dX4_linkLine_13 rfl ?_
    refine wp_iload (pc := 15) dX4_linkLine_15 rfl ?_
    refine wp_icmp_ge (pc := 17) 41 dX4_linkLine_17 (by decide) (by decide) (by decide) (fun _ => ?_) (fun hh => absurd hh (by decide))
    exact hN
  · have b1 := tw_spites hw i
    have b2 := kcN_le (T 5) i
    have b3 : pc8 (T 5 i).toNat ≤ 8 := cnt_le _ 8
    refine wp_iload (pc := 13) dX4_linkLine_13 rfl ?_
    refine wp_iload (pc := 15) dX4_linkLine_15 rfl ?_
    refine wp_icmp_ge (pc := 17) 41 dX4_linkLine_17 (by decide) (by omega) (by decide) (fun h_1 => ?_) (fun h_1 => ?_)
    · exfalso; omega
    · refine wp_aload (pc := 20) dX4_linkLine_20 rfl ?_
      refine wp_iload (pc := 22) dX4_linkLine_22 rfl ?_
      refine wq_iald (pc := 24) i dX4_linkLine_24 (tk_5 ht) (tl_5 ht) rfl (by omega) ?_
      refine wp_eqst (st' := [vI (T 5 i)]) (by rw [← hT] <;> rfl) ?_
      refine wq_istore (pc := 25) [some (vR 44), some (vR ((D 2) + 5)), some (vI 8), some (vI ((kcN (T 5) i : Nat) : Int)), some (vR ((D 2) + 5)), some (vI 8), some (vI (i : Int)), some (vI (T 5 i))] dX4_linkLine_25 rfl (by decide) rfl ?_
      refine wp_iload_n (pc := 27) 3 dX4_linkLine_27 rfl rfl ?_
      refine wp_iload (pc := 28) dX4_linkLine_28 rfl ?_
      refine wp_callS (pc := 30) (st := [vI ((kcN (T 5) i : Nat) : Int)]) (nf' := 153) [vI (T 5 i)] [some (vI (T 5 i))] dX4_linkLine_30 rfl c_X4_157 rfl rfl (Nat.le_of_ble_eq_true rfl) rfl (Nat.le_of_ble_eq_true rfl) (by omega) (Nat.le_refl _) (Nat.le_refl _) ?_
      refine sp_bitCount (Int.toNat (T 5 i)) (by omega) (by omega) (by omega) ?_
      refine wp_eqst (st' := [vI ((pc8 (Int.toNat (T 5 i)) : Nat) : Int), vI ((kcN (T 5) i : Nat) : Int)]) rfl ?_
      refine wp_iadd (pc := 33) dX4_linkLine_33 ?_
      refine wq_istore_n (pc := 34) 3 [some (vR 44), some (vR ((D 2) + 5)), some (vI 8), some (vI (((kcN (T 5) i : Nat) : Int) + ((pc8 (Int.toNat (T 5 i)) : Nat) : Int))), some (vR ((D 2) + 5)), some (vI 8), some (vI (i : Int)), some (vI (T 5 i))] dX4_linkLine_34 rfl rfl (by decide) rfl ?_
      refine wq_iinc (pc := 35) [some (vR 44), some (vR ((D 2) + 5)), some (vI 8), some (vI (((kcN (T 5) i : Nat) : Int) + ((pc8 (Int.toNat (T 5 i)) : Nat) : Int))), some (vR ((D 2) + 5)), some (vI 8), some (vI ((i : Int) + 1)), some (vI (T 5 i))] dX4_linkLine_35 rfl rfl (by decide) rfl ?_
      refine wp_goto (pc := 38) 13 dX4_linkLine_38 (by decide) ?_
      refine wp_none 7 [some (vR 44), some (vR ((D 2) + 5)), some (vI 8), some (vI (((kcN (T 5) i : Nat) : Int) + ((pc8 (Int.toNat (T 5 i)) : Nat) : Int))), some (vR ((D 2) + 5)), some (vI 8), some (vI ((i : Int) + 1)), none] rfl ?_
      exact wp_eqls (ls' := [some (vR 44), some (vR ((D 2) + 5)), some (vI 8), some (vI ((kcN (T 5) (i + 1) : Nat) : Int)), some (vR ((D 2) + 5)), some (vI 8), some (vI (((i + 1) : Nat) : Int)), none]) rfl ih

theorem sp_linkLine5 {l : Launch} {G : mG} {d : Nat} {I : mI} {L : Nat → Nat → Int} {D : Nat → Nat} {Q : mQ} {b : Nat → Int} {n c : Nat} {T N : mT} {mo : Nat}   (hP : PS I L D b n c T N mo) (hwi : 0 ≤ wi b c) (hd : 8 ≤ d) (h1 : ∀ c' T' N', linkF b c T N 5 8 = .inr (c', T', N') → ∀ J M, Fp I J (D 2) → Lp L M (D 2) → PS J M D b n c' T' N' mo → Q (some (vI 1)) J (XX M D)) (h0 : ∀ er, linkF b c T N 5 8 = .inl er → ∀ J M, Fp I J (D 2) → Lp L M (D 2) → PE J M D b n er → Q (some (vI 0)) J (XX M D)) : WP l G m_X4_linkLine d 153 I (XX L D) 0 [some (vR 44), some (vR ((D 2) + 5)), some (vI 8), none, none, none, none, none] [] Q := by
  have ht := hP.1.1
  have g2 : D 2 = 1 ∨ D 2 = 21 := ht
  have hT := hP.2.2.2.1
  have hw := hP.tw
  have k4 := hP.2.2.1.1
  have k5 := hP.2.2.1.2.1
  have k6 := hP.2.2.1.2.2.1.1
  have m4 := hP.2.2.2.2.2.1
  have ki := kC_in b c
  have kw := wi_in b c
  have tr := ts_rng b c
  have l7 := hP.2.2.1.2.2.2.2.1
  have b_c := tw_c hw
  have b_p := tw_p hw
  have b_q := tw_q hw
  have b_v := tw_vows hw
  have eC : nC T = (T 0 11).toNat := rfl
  have eP : nP T = (T 0 12).toNat := rfl
  have eQ : nQ T = (T 0 13).toNat := rfl
  refine wp_iconst (pc := 0) dX4_linkLine_0 ?_
  refine wq_istore_n (pc := 1) 3 [some (vR 44), some (vR ((D 2) + 5)), some (vI 8), some (vI 0), none, none, none, none] dX4_linkLine_1 rfl rfl (by decide) rfl ?_
  refine wp_aload_n (pc := 2) 1 dX4_linkLine_2 rfl rfl ?_
  refine wq_astore (pc := 3) [some (vR 44), some (vR ((D 2) + 5)), some (vI 8), some (vI 0), some (vR ((D 2) + 5)), none, none, none] dX4_linkLine_3 rfl (by decide) rfl ?_
  refine wp_aload (pc := 5) dX4_linkLine_5 rfl ?_
  refine wp_alen (pc := 7) dX4_linkLine_7 (tk_5 ht) (by decide) (tl_5 ht) ?_
  refine wq_istore (pc := 8) [some (vR 44), some (vR ((D 2) + 5)), some (vI 8), some (vI 0), some (vR ((D 2) + 5)), some (vI 8), none, none] dX4_linkLine_8 rfl (by decide) rfl ?_
  refine wp_iconst (pc := 10) dX4_linkLine_10 ?_
  refine wq_istore (pc := 11) [some (vR 44), some (vR ((D 2) + 5)), some (vI 8), some (vI 0), some (vR ((D 2) + 5)), some (vI 8), some (vI 0), none] dX4_linkLine_11 rfl (by decide) rfl ?_
  refine lp_link5 ht hT hw hd ?_ 0 (Nat.zero_le _)
  have b2 := kcN_le (T 5) 8
  refine wp_iload_n (pc := 41) 3 dX4_linkLine_41 rfl rfl ?_
  refine wp_iload_n (pc := 42) 2 dX4_linkLine_42 rfl rfl ?_
  refine wp_icmp_lt (pc := 43) 52 dX4_linkLine_43 (by decide) (by omega) (by decide) (fun h_1 => ?_) (fun h_1 => ?_)
  · refine wp_aload_n (pc := 52) 0 dX4_linkLine_52 rfl rfl ?_
    refine wp_getr (pc := 53) dX4_linkLine_53 rfl f_X4_15 kd_44 la_44 rfl (r_44_0 D) ?_
    refine wp_callV (pc := 56) (st := []) (nf' := 153) [] [some (vR 41), none] dX4_linkLine_56 rfl c_X4_93 rfl kd_41 (by decide) rfl la_41 rfl (Nat.le_of_ble_eq_true rfl) rfl (Nat.le_of_ble_eq_true rfl) (by omega) (Nat.le_refl _) (Nat.le_refl _) ?_
    have n31 : ts b c ≠ 3 := (by first | exact n3_k (by omega) | exact n3_4 (by omega) | exact n3_w (by omega) | exact n3_s (by omega))
    refine sp_advance hP.1.2.1 hP.nx hP.1.2.2.1 (hP.2.2.1.2.2.2.1 n31) (by omega) (fun J1 M1 hFa1 hLa1 hTk1 => ?_)
    have hP1 := hP.adv hP.nx hFa1 hLa1 hTk1
    have hT_1 := hP1.2.2.2.1
    have hw_1 := hP1.tw
    have k4_1 := hP1.2.2.1.1
    have k5_1 := hP1.2.2.1.2.1
    have k6_1 := hP1.2.2.1.2.2.1.1
    have m4_1 := hP1.2.2.2.2.2.1
    have ki_1 := kC_in b (te b c)
    have kw_1 := wi_in b (te b c)
    have tr_1 := ts_rng b (te b c)
    have l7_1 := hP1.2.2.1.2.2.2.2.1
    refine wp_eqst (st' := []) rfl ?_
    refine wp_aload_n (pc := 59) 0 dX4_linkLine_59 rfl rfl ?_
    refine wp_iconst (pc := 60) dX4_linkLine_60 ?_
    refine wp_callV (pc := 61) (st := []) (nf' := 153) [vI 0] [some (vR 44), some (vI 0), none] dX4_linkLine_61 rfl c_X4_137 rfl kd_44 (by decide) rfl la_44 rfl (Nat.le_of_ble_eq_true rfl) rfl (Nat.le_of_ble_eq_true rfl) (by omega) (Nat.le_refl _) (Nat.le_refl _) ?_
    refine sp_takePerson 0 rfl hP1 (by first | omega | exact Nat.lt_of_lt_of_le (two_lt (by omega)) (by decide) | exact Nat.lt_of_lt_of_le (or_lt (n := 8) (by omega) (two_lt (by omega))) (by decide)) (nn := nP T) rfl (by omega) (fun h_2 J2 M2 hF2 hL2 hP2 => ?_) (fun h_2 J3 M3 hF3 hL3 hE3 => ?_)
    · skip
      have pi2 := prF_in (b := b) (c := te b c) (N := N 1) (n := nP T) (rep := 0)
      have po2 := (prF_ok (b := b) (c := te b c) (N := N 1) (n := nP T) (rep := 0) (by assumption)).1
      have hT_2 := hP2.2.2.2.1
      have hw_2 := hP2.tw
      have k4_2 := hP2.2.2.1.1
      have k5_2 := hP2.2.2.1.2.1
      have k6_2 := hP2.2.2.1.2.2.1.1
      have m4_2 := hP2.2.2.2.2.2.1
      have ki_2 := kC_in b (te b (te b c))
      have kw_2 := wi_in b (te b (te b c))
      have tr_2 := ts_rng b (te b (te b c))
      have l7_2 := hP2.2.2.1.2.2.2.2.1
      refine wp_eqst (st' := [vI (prF b (te b c) (N 1) (nP T) 0)]) rfl ?_
      refine wq_istore (pc := 64) [some (vR 44), some (vR ((D 2) + 5)), some (vI 8), some (vI ((kcN (T 5) 8 : Nat) : Int)), some (vI (prF b (te b c) (N 1) (nP T) 0)), some (vI 8), some (vI 8), none] dX4_linkLine_64 rfl (by decide) rfl ?_
      refine wp_iload (pc := 66) dX4_linkLine_66 rfl ?_
      refine wp_iconst (pc := 68) dX4_linkLine_68 ?_
      refine wp_icmp_ne (pc := 69) 74 dX4_linkLine_69 (by decide) (by omega) (by decide) (fun h_3 => ?_) (fun h_3 => ?_)
      · refine wp_aload_n (pc := 74) 0 dX4_linkLine_74 rfl rfl ?_
        refine wp_aload_n (pc := 75) 1 dX4_linkLine_75 rfl rfl ?_
        refine wp_iload (pc := 76) dX4_linkLine_76 rfl ?_
        refine wq_iald (pc := 78) (Int.toNat (prF b (te b c) (N 1) (nP T) 0)) dX4_linkLine_78 (tk_5 ht) (tl_5 ht) (by omega) (by omega) ?_
        refine wp_eqst (st' := [vI (T 5 (Int.toNat (prF b (te b c) (N 1) (nP T) 0))), vR 44]) (by rw [← hT_2] <;> rfl) ?_
        have bl := tw_spites hw (Int.toNat (prF b (te b c) (N 1) (nP T) 0))
        refine wp_iconst (pc := 79) dX4_linkLine_79 ?_
        refine wp_iload (pc := 80) dX4_linkLine_80 rfl ?_
        refine wn_shl1 (pc := 82) (Int.toNat (prF b (te b c) (N 1) (nP T) 0)) dX4_linkLine_82 (by omega) (by omega) ?_
        refine wn_or (pc := 83) (Int.toNat (T 5 (Int.toNat (prF b (te b c) (N 1) (nP T) 0)))) (2 ^ (Int.toNat (prF b (te b c) (N 1) (nP T) 0))) dX4_linkLine_83 (by omega) rfl ?_
        refine wp_callV (pc := 84) (st := []) (nf' := 153) [vI (((Int.toNat (T 5 (Int.toNat (prF b (te b c) (N 1) (nP T) 0)))) ||| (2 ^ (Int.toNat (prF b (te b c) (N 1) (nP T) 0))) : Nat) : Int)] [some (vR 44), some (vI (((Int.toNat (T 5 (Int.toNat (prF b (te b c) (N 1) (nP T) 0)))) ||| (2 ^ (Int.toNat (prF b (te b c) (N 1) (nP T) 0))) : Nat) : Int)), none] dX4_linkLine_84 rfl c_X4_137 rfl kd_44 (by decide) rfl la_44 rfl (Nat.le_of_ble_eq_true rfl) rfl (Nat.le_of_ble_eq_true rfl) (by omega) (Nat.le_refl _) (Nat.le_refl _) ?_
        refine sp_takePerson ((Int.toNat (T 5 (Int.toNat (prF b (te b c) (N 1) (nP T) 0)))) ||| (2 ^ (Int.toNat (prF b (te b c) (N 1) (nP T) 0)))) rfl hP2 (by first | omega | exact Nat.lt_of_lt_of_le (two_lt (by omega)) (by decide) | exact Nat.lt_of_lt_of_le (or_lt (n := 8) (by omega) (two_lt (by omega))) (by decide)) (nn := nP T) rfl (by omega) (fun h_4 J4 M4 hF4 hL4 hP4 => ?_) (fun h_4 J5 M5 hF5 hL5 hE5 => ?_)
        · skip
          have pi4 := prF_in (b := b) (c := te b (te b c)) (N := N 1) (n := nP T) (rep := (Int.toNat (T 5 (Int.toNat (prF b (te b c) (N 1) (nP T) 0)))) ||| (2 ^ (Int.toNat (prF b (te b c) (N 1) (nP T) 0))))
          have po4 := (prF_ok (b := b) (c := te b (te b c)) (N := N 1) (n := nP T) (rep := (Int.toNat (T 5 (Int.toNat (prF b (te b c) (N 1) (nP T) 0)))) ||| (2 ^ (Int.toNat (prF b (te b c) (N 1) (nP T) 0)))) (by assumption)).1
          have hT_4 := hP4.2.2.2.1
          have hw_4 := hP4.tw
          have k4_4 := hP4.2.2.1.1
          have k5_4 := hP4.2.2.1.2.1
          have k6_4 := hP4.2.2.1.2.2.1.1
          have m4_4 := hP4.2.2.2.2.2.1
          have ki_4 := kC_in b (te b (te b (te b c)))
          have kw_4 := wi_in b (te b (te b (te b c)))
          have tr_4 := ts_rng b (te b (te b (te b c)))
          have l7_4 := hP4.2.2.1.2.2.2.2.1
          refine wp_eqst (st' := [vI (prF b (te b (te b c)) (N 1) (nP T) ((Int.toNat (T 5 (Int.toNat (prF b (te b c) (N 1) (nP T) 0)))) ||| (2 ^ (Int.toNat (prF b (te b c) (N 1) (nP T) 0)))))]) rfl ?_
          refine wq_istore (pc := 87) [some (vR 44), some (vR ((D 2) + 5)), some (vI 8), some (vI ((kcN (T 5) 8 : Nat) : Int)), some (vI (prF b (te b c) (N 1) (nP T) 0)), some (vI (prF b (te b (te b c)) (N 1) (nP T) ((Int.toNat (T 5 (Int.toNat (prF b (te b c) (N 1) (nP T) 0)))) ||| (2 ^ (Int.toNat (prF b (te b c) (N 1) (nP T) 0)))))), some (vI 8), none] dX4_linkLine_87 rfl (by decide) rfl ?_
          refine wp_iload (pc := 89) dX4_linkLine_89 rfl ?_
          refine wp_iconst (pc := 91) dX4_linkLine_91 ?_
          refine wp_icmp_ne (pc := 92) 97 dX4_linkLine_92 (by decide) (by omega) (by decide) (fun h_5 => ?_) (fun h_5 => ?_)
          · refine wp_aload_n (pc := 97) 1 dX4_linkLine_97 rfl rfl ?_
            refine wp_iload (pc := 98) dX4_linkLine_98 rfl ?_
            refine wp_dup2 (pc := 100) dX4_linkLine_100 rfl rfl ?_
            refine wq_iald (pc := 101) (Int.toNat (prF b (te b c) (N 1) (nP T) 0)) dX4_linkLine_101 (tk_5 ht) (tl_5 ht) (by omega) (by omega) ?_
            refine wp_eqst (st' := [vI (T 5 (Int.toNat (prF b (te b c) (N 1) (nP T) 0))), vI (prF b (te b c) (N 1) (nP T) 0), vR ((D 2) + 5)]) (by rw [← hT_4] <;> rfl) ?_
            refine wp_iconst (pc := 102) dX4_linkLine_102 ?_
            refine wp_iload (pc := 103) dX4_linkLine_103 rfl ?_
            refine wn_shl1 (pc := 105) (Int.toNat (prF b (te b (te b c)) (N 1) (nP T) ((Int.toNat (T 5 (Int.toNat (prF b (te b c) (N 1) (nP T) 0)))) ||| (2 ^ (Int.toNat (prF b (te b c) (N 1) (nP T) 0)))))) dX4_linkLine_105 (by omega) (by omega) ?_
            refine wn_or (pc := 106) (Int.toNat (T 5 (Int.toNat (prF b (te b c) (N 1) (nP T) 0)))) (2 ^ (Int.toNat (prF b (te b (te b c)) (N 1) (nP T) ((Int.toNat (T 5 (Int.toNat (prF b (te b c) (N 1) (nP T) 0)))) ||| (2 ^ (Int.toNat (prF b (te b c) (N 1) (nP T) 0))))))) dX4_linkLine_106 (by omega) rfl ?_
            refine wq_iast (pc := 107) (Int.toNat (prF b (te b c) (N 1) (nP T) 0)) dX4_linkLine_107 (tk_5 ht) (tl_5 ht) (by omega) (by omega) ?_
            have bo : (T 5 (Int.toNat (prF b (te b c) (N 1) (nP T) 0))).toNat ||| 2 ^ (Int.toNat (prF b (te b (te b c)) (N 1) (nP T) ((Int.toNat (T 5 (Int.toNat (prF b (te b c) (N 1) (nP T) 0)))) ||| (2 ^ (Int.toNat (prF b (te b c) (N 1) (nP T) 0)))))) < 2 ^ 8 := or_lt (by omega) (two_lt (by omega))
            have hP6_ : PS (up J4 ((D 2) + 5) (Int.toNat (prF b (te b c) (N 1) (nP T) 0)) (((Int.toNat (T 5 (Int.toNat (prF b (te b c) (N 1) (nP T) 0)))) ||| (2 ^ (Int.toNat (prF b (te b (te b c)) (N 1) (nP T) ((Int.toNat (T 5 (Int.toNat (prF b (te b c) (N 1) (nP T) 0)))) ||| (2 ^ (Int.toNat (prF b (te b c) (N 1) (nP T) 0))))))) : Nat) : Int)) (M4) D b n (te b (te b (te b c))) (setT T 5 (Int.toNat (prF b (te b c) (N 1) (nP T) 0)) (((Int.toNat (T 5 (Int.toNat (prF b (te b c) (N 1) (nP T) 0)))) ||| (2 ^ (Int.toNat (prF b (te b (te b c)) (N 1) (nP T) ((Int.toNat (T 5 (Int.toNat (prF b (te b c) (N 1) (nP T) 0)))) ||| (2 ^ (Int.toNat (prF b (te b c) (N 1) (nP T) 0))))))) : Nat) : Int)) N mo := hP4.upT1 (k := 5) (by decide) (by unfold twB; omega) (fun e => absurd e (by decide)) (by first | exact Or.inl (by decide) | exact Or.inr (by decide))
            have hF6_ : Fp I (up J4 ((D 2) + 5) (Int.toNat (prF b (te b c) (N 1) (nP T) 0)) (((Int.toNat (T 5 (Int.toNat (prF b (te b c) (N 1) (nP T) 0)))) ||| (2 ^ (Int.toNat (prF b (te b (te b c)) (N 1) (nP T) ((Int.toNat (T 5 (Int.toNat (prF b (te b c) (N 1) (nP T) 0)))) ||| (2 ^ (Int.toNat (prF b (te b c) (N 1) (nP T) 0))))))) : Nat) : Int)) (D 2) := (((Fp.refl.trans hFa1.p).trans hF2).trans hF4).upt ht (by omega)
            refine wp_gen (fun J => Fp I J (D 2) ∧ PS J (M4) D b n (te b (te b (te b c))) (setT T 5 (Int.toNat (prF b (te b c) (N 1) (nP T) 0)) (((Int.toNat (T 5 (Int.toNat (prF b (te b c) (N 1) (nP T) 0)))) ||| (2 ^ (Int.toNat (prF b (te b (te b c)) (N 1) (nP T) ((Int.toNat (T 5 (Int.toNat (prF b (te b c) (N 1) (nP T) 0)))) ||| (2 ^ (Int.toNat (prF b (te b c) (N 1) (nP T) 0))))))) : Nat) : Int)) N mo) ⟨hF6_, hP6_⟩ (fun J6 hJ6 => ?_)
            have hF6 := hJ6.1
            have hP6 := hJ6.2
            have hT_6 := hP6.2.2.2.1
            have hw_6 := hP6.tw
            have k4_6 := hP6.2.2.1.1
            have k5_6 := hP6.2.2.1.2.1
            have k6_6 := hP6.2.2.1.2.2.1.1
            have m4_6 := hP6.2.2.2.2.2.1
            have ki_6 := kC_in b (te b (te b (te b c)))
            have kw_6 := wi_in b (te b (te b (te b c)))
            have tr_6 := ts_rng b (te b (te b (te b c)))
            have l7_6 := hP6.2.2.1.2.2.2.2.1
            refine wp_iconst (pc := 108) dX4_linkLine_108 ?_
            refine wp_zret (pc := 109) dX4_linkLine_109 rfl rfl (by decide) ?_
            exact h1 _ _ _ (by unfold linkF; (repeat (first | rw [if_pos (by omega)] | rw [if_neg (by omega)])); first | done | rfl) _ _ hF6 (((Lp.refl.trans hLa1.p).trans hL2).trans hL4) hP6
          · refine wp_iconst (pc := 95) dX4_linkLine_95 ?_
            refine wp_zret (pc := 96) dX4_linkLine_96 rfl rfl (by decide) ?_
            exfalso; omega
        · skip
          refine wp_eqst (st' := [vI (-1)]) rfl ?_
          refine wq_istore (pc := 87) [some (vR 44), some (vR ((D 2) + 5)), some (vI 8), some (vI ((kcN (T 5) 8 : Nat) : Int)), some (vI (prF b (te b c) (N 1) (nP T) 0)), some (vI (-1)), some (vI 8), none] dX4_linkLine_87 rfl (by decide) rfl ?_
          refine wp_iload (pc := 89) dX4_linkLine_89 rfl ?_
          refine wp_iconst (pc := 91) dX4_linkLine_91 ?_
          refine wp_icmp_ne (pc := 92) 97 dX4_linkLine_92 (by decide) (by decide) (by decide) (fun hh => absurd hh (by decide)) (fun _ => ?_)
          refine wp_iconst (pc := 95) dX4_linkLine_95 ?_
          refine wp_zret (pc := 96) dX4_linkLine_96 rfl rfl (by decide) ?_
          exact h0 _ (by unfold linkF; (repeat (first | rw [if_pos (by omega)] | rw [if_neg (by omega)])); first | done | rfl) _ _ (((Fp.refl.trans hFa1.p).trans hF2).trans hF5) (((Lp.refl.trans hLa1.p).trans hL2).trans hL5) hE5
      · refine wp_iconst (pc := 72) dX4_linkLine_72 ?_
        refine wp_zret (pc := 73) dX4_linkLine_73 rfl rfl (by decide) ?_
        exfalso; omega
    · skip
      refine wp_eqst (st' := [vI (-1)]) rfl ?_
      refine wq_istore (pc := 64) [some (vR 44), some (vR ((D 2) + 5)), some (vI 8), some (vI ((kcN (T 5) 8 : Nat) : Int)), some (vI (-1)), some (vI 8), some (vI 8), none] dX4_linkLine_64 rfl (by decide) rfl ?_
      refine wp_iload (pc := 66) dX4_linkLine_66 rfl ?_
      refine wp_iconst (pc := 68) dX4_linkLine_68 ?_
      refine wp_icmp_ne (pc := 69) 74 dX4_linkLine_69 (by decide) (by decide) (by decide) (fun hh => absurd hh (by decide)) (fun _ => ?_)
      refine wp_iconst (pc := 72) dX4_linkLine_72 ?_
      refine wp_zret (pc := 73) dX4_linkLine_73 rfl rfl (by decide) ?_
      exact h0 _ (by unfold linkF; (repeat (first | rw [if_pos (by omega)] | rw [if_neg (by omega)])); first | done | rfl) _ _ ((Fp.refl.trans hFa1.p).trans hF3) ((Lp.refl.trans hLa1.p).trans hL3) hE3
  · refine wp_aload_n (pc := 46) 0 dX4_linkLine_46 rfl rfl ?_
    refine wp_iconst (pc := 47) dX4_linkLine_47 ?_
    refine wp_callV (pc := 48) (st := []) (nf' := 153) [vI 2] [some (vR 44), some (vI 2)] dX4_linkLine_48 rfl c_X4_42 rfl kd_44 (by decide) rfl la_44 rfl (Nat.le_of_ble_eq_true rfl) rfl (Nat.le_of_ble_eq_true rfl) (by omega) (Nat.le_refl _) (Nat.le_refl _) ?_
    refine sp_refuse hP.2.2.1 (by decide) (by omega) ?_
    refine wp_eqst (st' := [vI 0]) rfl ?_
    refine wp_zret (pc := 51) dX4_linkLine_51 rfl rfl (by decide) ?_
    exact h0 _ (by unfold linkF; (repeat (first | rw [if_pos (by omega)] | rw [if_neg (by omega)])); first | done | rfl) _ _ Fp.refl.up44.up44 Lp.refl (hP.ref 2)

theorem pwN_lt {T : mT} (hw : tw T) (p : Nat) : ∀ n, pwN T p n < 256
  | 0 => (by decide : (0 : Nat) < 256)
  | n + 1 => by
    rw [pwN]
    split
    · exact or_lt (n := 8) (pwN_lt hw p n) (pm_lt hw n)
    · exact pwN_lt hw p n

theorem lp_pairedWith {l : Launch} {G : mG} {d : Nat} {I : mI} {L : Nat → Nat → Int} {D : Nat → Nat} {Q : mQ} {t : Nat} {T : mT} {p : Nat} (ht : isT t) (hT : TT I t = T) (hw : tw T) (hp : p < 8) (hd : 1 ≤ d) (hQ : Q (some (vI (((pwN T p (nQ T) : Nat) : Int)))) I (XX L D)) : ∀ i : Nat, i ≤ nQ T → WP l G m_X9_pairedWith d 153 I (XX L D) 4 [some (vR t), some (vI (p : Int)), some (vI ((pwN T p i : Nat) : Int)), some (vI (i : Int))] [] Q := by
  have b0 := tw_q hw
  have eN : nQ T = (T 0 13).toNat := rfl
  refine loop_dn (fun i => WP l G m_X9_pairedWith d 153 I (XX L D) 4 [some (vR t), some (vI (p : Int)), some (vI ((pwN T p i : Nat) : Int)), some (vI (i : Int))] [] Q) (nQ T) ?_ (fun i hi ih => ?_)
  · refine wp_iload_n (pc := 4) 3 dX9_pairedWith_4 rfl rfl ?_
    refine wp_aload_n (pc := 5) 0 dX9_pairedWith_5 rfl rfl ?_
    refine wp_geti (pc := 6) dX9_pairedWith_6 rfl f_X9_67 (tk_0 ht) (tl_0 ht) (Or.inl rfl) ?_
    refine wp_eqst (st' := [vI (T 0 13), vI (((nQ T) : Nat) : Int)]) (by rw [← hT] <;> rfl) ?_
    refine wp_icmp_ge (pc := 9) 39 dX9_pairedWith_9 (by decide) (by omega) (by omega) (fun h_1 => ?_) (fun h_1 => ?_)
    · refine wp_iload_n (pc := 39) 2 dX9_pairedWith_39 rfl rfl ?_
      refine wp_iret (pc := 40) dX9_pairedWith_40 rfl rfl ?_
      exact hQ
    · exfalso; omega
  · have b3 := bit_lt (pm T i) p
    have b4 := pm_lt hw i
    refine wp_iload_n (pc := 4) 3 dX9_pairedWith_4 rfl rfl ?_
    refine wp_aload_n (pc := 5) 0 dX9_pairedWith_5 rfl rfl ?_
    refine wp_geti (pc := 6) dX9_pairedWith_6 rfl f_X9_67 (tk_0 ht) (tl_0 ht) (Or.inl rfl) ?_
    refine wp_eqst (st' := [vI (T 0 13), vI (i : Int)]) (by rw [← hT] <;> rfl) ?_
    refine wp_icmp_ge (pc := 9) 39 dX9_pairedWith_9 (by decide) (by omega) (by omega) (fun h_1 => ?_) (fun h_1 => ?_)
    · exfalso; omega
    · refine wp_aload_n (pc := 12) 0 dX9_pairedWith_12 rfl rfl ?_
      refine wp_iload_n (pc := 13) 3 dX9_pairedWith_13 rfl rfl ?_
      refine wp_callV (pc := 14) (st := []) (nf' := 153) [vI (i : Int)] [some (vR t), some (vI (i : Int))] dX9_pairedWith_14 rfl c_X9_90 rfl (tk_0 ht) (by decide) rfl (tl_0 ht) rfl (Nat.le_of_ble_eq_true rfl) rfl (Nat.le_of_ble_eq_true rfl) (by omega) (Nat.le_refl _) (Nat.le_refl _) ?_
      refine sp_pairMask i rfl ht hT hw (by omega) (by omega) ?_
      refine wp_eqst (st' := [vI ((pm T i : Nat) : Int)]) rfl ?_
      refine wp_iload_n (pc := 17) 1 dX9_pairedWith_17 rfl rfl ?_
      refine wn_shr (pc := 18) (pm T i) p dX9_pairedWith_18 rfl rfl (by omega) (by omega) ?_
      refine wp_iconst (pc := 19) dX9_pairedWith_19 ?_
      refine wn_mask (pc := 20) ((pm T i) / 2 ^ p) 1 dX9_pairedWith_20 rfl rfl (by decide) ?_
      refine wp_iconst (pc := 21) dX9_pairedWith_21 ?_
      refine wp_icmp_ne (pc := 22) 33 dX9_pairedWith_22 (by decide) (by omega) (by decide) (fun h_2 => ?_) (fun h_2 => ?_)
      · refine wq_iinc (pc := 33) [some (vR t), some (vI (p : Int)), some (vI ((pwN T p i : Nat) : Int)), some (vI ((i : Int) + 1))] dX9_pairedWith_33 rfl rfl (by decide) rfl ?_
        refine wp_goto (pc := 36) 4 dX9_pairedWith_36 (by decide) ?_
        refine wp_eqls (ls' := [some (vR t), some (vI (p : Int)), some (vI ((pwN T p (i + 1) : Nat) : Int)), some (vI (((i + 1) : Nat) : Int))]) (by rw [show pwN T p (i + 1) = pwN T p i from if_neg (fun x => h_2 ((bit_iff _ _).mpr x))]; rfl) ih
      · refine wp_iload_n (pc := 25) 2 dX9_pairedWith_25 rfl rfl ?_
        refine wp_aload_n (pc := 26) 0 dX9_pairedWith_26 rfl rfl ?_
        refine wp_iload_n (pc := 27) 3 dX9_pairedWith_27 rfl rfl ?_
        refine wp_callV (pc := 28) (st := [vI ((pwN T p i : Nat) : Int)]) (nf' := 153) [vI (i : Int)] [some (vR t), some (vI (i : Int))] dX9_pairedWith_28 rfl c_X9_90 rfl (tk_0 ht) (by decide) rfl (tl_0 ht) rfl (Nat.le_of_ble_eq_true rfl) rfl (Nat.le_of_ble_eq_true rfl) (by omega) (Nat.le_refl _) (Nat.le_refl _) ?_
        refine sp_pairMask i rfl ht hT hw (by omega) (by omega) ?_
        refine wp_eqst (st' := [vI ((pm T i : Nat) : Int), vI ((pwN T p i : Nat) : Int)]) rfl ?_
        refine wn_or (pc := 31) (pwN T p i) (pm T i) dX9_pairedWith_31 rfl rfl ?_
        refine wq_istore_n (pc := 32) 2 [some (vR t), some (vI (p : Int)), some (vI (((pwN T p i) ||| (pm T i) : Nat) : Int)), some (vI (i : Int))] dX9_pairedWith_32 rfl rfl (by decide) rfl ?_
        refine wq_iinc (pc := 33) [some (vR t), some (vI (p : Int)), some (vI (((pwN T p i) ||| (pm T i) : Nat) : Int)), some (vI ((i : Int) + 1))] dX9_pairedWith_33 rfl rfl (by decide) rfl ?_
        refine wp_goto (pc := 36) 4 dX9_pairedWith_36 (by decide) ?_
        refine wp_eqls (ls' := [some (vR t), some (vI (p : Int)), some (vI ((pwN T p (i + 1) : Nat) : Int)), some (vI (((i + 1) : Nat) : Int))]) (by rw [show pwN T p (i + 1) = (pwN T p i) ||| (pm T i) from if_pos ((bit_iff _ _).mp h_2)]; rfl) ih

theorem sp_pairedWith {l : Launch} {G : mG} {d : Nat} {I : mI} {L : Nat → Nat → Int} {D : Nat → Nat} {Q : mQ} {t : Nat} {T : mT} (p : Nat) {p_ : Int} (hp_ : p_ = (p : Int)) (ht : isT t) (hT : TT I t = T) (hw : tw T) (hp : p < 8) (hd : 1 ≤ d) (hQ : Q (some (vI (((pwN T p (nQ T) : Nat) : Int)))) I (XX L D)) : WP l G m_X9_pairedWith d 153 I (XX L D) 0 [some (vR t), some (vI p_), none, none] [] Q := by
  subst hp_
  refine wp_iconst (pc := 0) dX9_pairedWith_0 ?_
  refine wq_istore_n (pc := 1) 2 [some (vR t), some (vI (p : Int)), some (vI 0), none] dX9_pairedWith_1 rfl rfl (by decide) rfl ?_
  refine wp_iconst (pc := 2) dX9_pairedWith_2 ?_
  refine wq_istore_n (pc := 3) 3 [some (vR t), some (vI (p : Int)), some (vI 0), some (vI 0)] dX9_pairedWith_3 rfl rfl (by decide) rfl ?_
  exact lp_pairedWith ht hT hw hp hd hQ 0 (Nat.zero_le _)

theorem sp_pairPlaces {l : Launch} {G : mG} {d : Nat} {I : mI} {L : Nat → Nat → Int} {D : Nat → Nat} {Q : mQ} {b : Nat → Int} {n c : Nat} {T N : mT} {mo : Nat} {a e : Int}  (hP : PS I L D b n c T N mo) (h5 : T 0 13 < 5) (ha : 0 ≤ a ∧ a ≤ 7) (he : 0 ≤ e ∧ e ≤ 7) (hd : 8 ≤ d) (h1 : ∀ c' T' N', plcF b c T N a e = .inr (c', T', N') → ∀ J M, Fp I J (D 2) → Lp L M (D 2) → PS J M D b n c' T' N' mo → Q (some (vI 1)) J (XX M D)) (h0 : ∀ er, plcF b c T N a e = .inl er → ∀ J M, Fp I J (D 2) → Lp L M (D 2) → PE J M D b n er → Q (some (vI 0)) J (XX M D)) : WP l G m_X4_pairPlaces d 153 I (XX L D) 0 [some (vR 44), some (vI a), some (vI e), none, none] [] Q := by
  have ht := hP.1.1
  have g2 : D 2 = 1 ∨ D 2 = 21 := ht
  have hT := hP.2.2.2.1
  have hw := hP.tw
  have k4 := hP.2.2.1.1
  have k5 := hP.2.2.1.2.1
  have k6 := hP.2.2.1.2.2.1.1
  have m4 := hP.2.2.2.2.2.1
  have ki := kC_in b c
  have kw := wi_in b c
  have tr := ts_rng b c
  have l7 := hP.2.2.1.2.2.2.2.1
  have b_c := tw_c hw
  have b_p := tw_p hw
  have b_q := tw_q hw
  have b_v := tw_vows hw
  have eC : nC T = (T 0 11).toNat := rfl
  have eP : nP T = (T 0 12).toNat := rfl
  have eQ : nQ T = (T 0 13).toNat := rfl
  have h3a := tw_home hw a.toNat
  have h3e := tw_home hw e.toNat
  refine wp_aload_n (pc := 0) 0 dX4_pairPlaces_0 rfl rfl ?_
  refine wp_getr (pc := 1) dX4_pairPlaces_1 rfl f_X4_15 kd_44 la_44 rfl (r_44_0 D) ?_
  refine wp_bipush (pc := 4) dX4_pairPlaces_4 (by decide) ?_
  refine wp_callV (pc := 6) (st := []) (nf' := 153) [vI 10] [some (vR 41), some (vI 10)] dX4_pairPlaces_6 rfl c_X4_134 rfl kd_41 (by decide) rfl la_41 rfl (Nat.le_of_ble_eq_true rfl) rfl (Nat.le_of_ble_eq_true rfl) (by omega) (Nat.le_refl _) (Nat.le_refl _) ?_
  refine sp_isWord hP.2.2.1 (by decide) (by omega) (fun h_1 => ?_) (fun h_1 => ?_)
  · refine wp_eqst (st' := [vI 1]) rfl ?_
    refine wp_if_ne (pc := 9) 41 dX4_pairPlaces_9 (by decide) (by decide) (fun _ => ?_) (fun hh => absurd hh (by decide))
    refine wp_aload_n (pc := 41) 0 dX4_pairPlaces_41 rfl rfl ?_
    refine wp_getr (pc := 42) dX4_pairPlaces_42 rfl f_X4_15 kd_44 la_44 rfl (r_44_0 D) ?_
    refine wp_callV (pc := 45) (st := []) (nf' := 153) [] [some (vR 41), none] dX4_pairPlaces_45 rfl c_X4_93 rfl kd_41 (by decide) rfl la_41 rfl (Nat.le_of_ble_eq_true rfl) rfl (Nat.le_of_ble_eq_true rfl) (by omega) (Nat.le_refl _) (Nat.le_refl _) ?_
    have n31 : ts b c ≠ 3 := (by first | exact n3_k (by omega) | exact n3_4 (by omega) | exact n3_w (by omega) | exact n3_s (by omega))
    refine sp_advance hP.1.2.1 hP.nx hP.1.2.2.1 (hP.2.2.1.2.2.2.1 n31) (by omega) (fun J1 M1 hFa1 hLa1 hTk1 => ?_)
    have hP1 := hP.adv hP.nx hFa1 hLa1 hTk1
    have hT_1 := hP1.2.2.2.1
    have hw_1 := hP1.tw
    have k4_1 := hP1.2.2.1.1
    have k5_1 := hP1.2.2.1.2.1
    have k6_1 := hP1.2.2.1.2.2.1.1
    have m4_1 := hP1.2.2.2.2.2.1
    have ki_1 := kC_in b (te b c)
    have kw_1 := wi_in b (te b c)
    have tr_1 := ts_rng b (te b c)
    have l7_1 := hP1.2.2.1.2.2.2.2.1
    refine wp_eqst (st' := []) rfl ?_
    refine wp_aload_n (pc := 48) 0 dX4_pairPlaces_48 rfl rfl ?_
    refine wp_callV (pc := 49) (st := []) (nf' := 153) [] [some (vR 44), none] dX4_pairPlaces_49 rfl c_X4_120 rfl kd_44 (by decide) rfl la_44 rfl (Nat.le_of_ble_eq_true rfl) rfl (Nat.le_of_ble_eq_true rfl) (by omega) (Nat.le_refl _) (Nat.le_refl _) ?_
    refine sp_takeChurch hP1 (nn := nC T) rfl (by omega) (fun h_2 J2 M2 hF2 hL2 hP2 => ?_) (fun h_2 J3 M3 hF3 hL3 hE3 => ?_)
    · skip
      have pi2 := prF_in (b := b) (c := te b c) (N := N 0) (n := nC T) (rep := 0)
      have hT_2 := hP2.2.2.2.1
      have hw_2 := hP2.tw
      have k4_2 := hP2.2.2.1.1
      have k5_2 := hP2.2.2.1.2.1
      have k6_2 := hP2.2.2.1.2.2.1.1
      have m4_2 := hP2.2.2.2.2.2.1
      have ki_2 := kC_in b (te b (te b c))
      have kw_2 := wi_in b (te b (te b c))
      have tr_2 := ts_rng b (te b (te b c))
      have l7_2 := hP2.2.2.1.2.2.2.2.1
      refine wp_eqst (st' := [vI (prF b (te b c) (N 0) (nC T) 0)]) rfl ?_
      refine wq_istore_n (pc := 52) 3 [some (vR 44), some (vI a), some (vI e), some (vI (prF b (te b c) (N 0) (nC T) 0)), none] dX4_pairPlaces_52 rfl rfl (by decide) rfl ?_
      refine wp_iload_n (pc := 53) 3 dX4_pairPlaces_53 rfl rfl ?_
      refine wp_iconst (pc := 54) dX4_pairPlaces_54 ?_
      refine wp_icmp_ne (pc := 55) 60 dX4_pairPlaces_55 (by decide) (by omega) (by decide) (fun h_3 => ?_) (fun h_3 => ?_)
      · refine wp_aload_n (pc := 60) 0 dX4_pairPlaces_60 rfl rfl ?_
        refine wp_callV (pc := 61) (st := []) (nf' := 153) [] [some (vR 44), none] dX4_pairPlaces_61 rfl c_X4_120 rfl kd_44 (by decide) rfl la_44 rfl (Nat.le_of_ble_eq_true rfl) rfl (Nat.le_of_ble_eq_true rfl) (by omega) (Nat.le_refl _) (Nat.le_refl _) ?_
        refine sp_takeChurch hP2 (nn := nC T) rfl (by omega) (fun h_4 J4 M4 hF4 hL4 hP4 => ?_) (fun h_4 J5 M5 hF5 hL5 hE5 => ?_)
        · skip
          have pi4 := prF_in (b := b) (c := te b (te b c)) (N := N 0) (n := nC T) (rep := 0)
          have hT_4 := hP4.2.2.2.1
          have hw_4 := hP4.tw
          have k4_4 := hP4.2.2.1.1
          have k5_4 := hP4.2.2.1.2.1
          have k6_4 := hP4.2.2.1.2.2.1.1
          have m4_4 := hP4.2.2.2.2.2.1
          have ki_4 := kC_in b (te b (te b (te b c)))
          have kw_4 := wi_in b (te b (te b (te b c)))
          have tr_4 := ts_rng b (te b (te b (te b c)))
          have l7_4 := hP4.2.2.1.2.2.2.2.1
          refine wp_eqst (st' := [vI (prF b (te b (te b c)) (N 0) (nC T) 0)]) rfl ?_
          refine wq_istore (pc := 64) [some (vR 44), some (vI a), some (vI e), some (vI (prF b (te b c) (N 0) (nC T) 0)), some (vI (prF b (te b (te b c)) (N 0) (nC T) 0))] dX4_pairPlaces_64 rfl (by decide) rfl ?_
          refine wp_iload (pc := 66) dX4_pairPlaces_66 rfl ?_
          refine wp_iconst (pc := 68) dX4_pairPlaces_68 ?_
          refine wp_icmp_ne (pc := 69) 74 dX4_pairPlaces_69 (by decide) (by omega) (by decide) (fun h_5 => ?_) (fun h_5 => ?_)
          · refine wp_aload_n (pc := 74) 0 dX4_pairPlaces_74 rfl rfl ?_
            refine wp_getr (pc := 75) dX4_pairPlaces_75 rfl f_X4_19 kd_44 la_44 rfl (r_44_1 D) ?_
            refine wp_iload_n (pc := 78) 1 dX4_pairPlaces_78 rfl rfl ?_
            refine wp_iload_n (pc := 79) 2 dX4_pairPlaces_79 rfl rfl ?_
            refine wp_iload_n (pc := 80) 3 dX4_pairPlaces_80 rfl rfl ?_
            refine wp_iload (pc := 81) dX4_pairPlaces_81 rfl ?_
            refine wp_callV (pc := 83) (st := []) (nf' := 153) [vI a, vI e, vI (prF b (te b c) (N 0) (nC T) 0), vI (prF b (te b (te b c)) (N 0) (nC T) 0)] [some (vR (D 2)), some (vI a), some (vI e), some (vI (prF b (te b c) (N 0) (nC T) 0)), some (vI (prF b (te b (te b c)) (N 0) (nC T) 0))] dX4_pairPlaces_83 rfl c_X4_174 rfl (tk_0 ht) (by decide) rfl (tl_0 ht) rfl (Nat.le_of_ble_eq_true rfl) rfl (Nat.le_of_ble_eq_true rfl) (by omega) (Nat.le_refl _) (Nat.le_refl _) ?_
            refine sp_addPair ht hT_4 hw_4 (by omega) (by omega) ?_
            have hP6_ : PS (up (up (up (up (up J4 (D 2 + 6) (nQ T) a) (D 2 + 7) (nQ T) e) (D 2 + 8) (nQ T) (prF b (te b c) (N 0) (nC T) 0)) (D 2 + 9) (nQ T) (prF b (te b (te b c)) (N 0) (nC T) 0)) (D 2) 13 (T 0 13 + 1)) (M4) D b n (te b (te b (te b c))) (addP T a e (prF b (te b c) (N 0) (nC T) 0) (prF b (te b (te b c)) (N 0) (nC T) 0)) N mo := hP4.addPr (by omega) (by omega) (by omega) (by omega) (by omega)
            have hF6_ : Fp I (up (up (up (up (up J4 (D 2 + 6) (nQ T) a) (D 2 + 7) (nQ T) e) (D 2 + 8) (nQ T) (prF b (te b c) (N 0) (nC T) 0)) (D 2 + 9) (nQ T) (prF b (te b (te b c)) (N 0) (nC T) 0)) (D 2) 13 (T 0 13 + 1)) (D 2) := ((((((((Fp.refl.trans hFa1.p).trans hF2).trans hF4).upt ht (by omega)).upt ht (by omega)).upt ht (by omega)).upt ht (by omega)).upt ht (by omega))
            refine wp_gen (fun J => Fp I J (D 2) ∧ PS J (M4) D b n (te b (te b (te b c))) (addP T a e (prF b (te b c) (N 0) (nC T) 0) (prF b (te b (te b c)) (N 0) (nC T) 0)) N mo) ⟨hF6_, hP6_⟩ (fun J6 hJ6 => ?_)
            have hF6 := hJ6.1
            have hP6 := hJ6.2
            have hT_6 := hP6.2.2.2.1
            have hw_6 := hP6.tw
            have k4_6 := hP6.2.2.1.1
            have k5_6 := hP6.2.2.1.2.1
            have k6_6 := hP6.2.2.1.2.2.1.1
            have m4_6 := hP6.2.2.2.2.2.1
            have ki_6 := kC_in b (te b (te b (te b c)))
            have kw_6 := wi_in b (te b (te b (te b c)))
            have tr_6 := ts_rng b (te b (te b (te b c)))
            have l7_6 := hP6.2.2.1.2.2.2.2.1
            refine wp_eqst (st' := []) rfl ?_
            refine wp_iconst (pc := 86) dX4_pairPlaces_86 ?_
            refine wp_zret (pc := 87) dX4_pairPlaces_87 rfl rfl (by decide) ?_
            exact h1 _ _ _ (by unfold plcF; (repeat (first | rw [if_pos (by omega)] | rw [if_neg (by omega)])); first | done | rfl) _ _ hF6 (((Lp.refl.trans hLa1.p).trans hL2).trans hL4) hP6
          · refine wp_iconst (pc := 72) dX4_pairPlaces_72 ?_
            refine wp_zret (pc := 73) dX4_pairPlaces_73 rfl rfl (by decide) ?_
            exfalso; omega
        · skip
          refine wp_eqst (st' := [vI (-1)]) rfl ?_
          refine wq_istore (pc := 64) [some (vR 44), some (vI a), some (vI e), some (vI (prF b (te b c) (N 0) (nC T) 0)), some (vI (-1))] dX4_pairPlaces_64 rfl (by decide) rfl ?_
          refine wp_iload (pc := 66) dX4_pairPlaces_66 rfl ?_
          refine wp_iconst (pc := 68) dX4_pairPlaces_68 ?_
          refine wp_icmp_ne (pc := 69) 74 dX4_pairPlaces_69 (by decide) (by decide) (by decide) (fun hh => absurd hh (by decide)) (fun _ => ?_)
          refine wp_iconst (pc := 72) dX4_pairPlaces_72 ?_
          refine wp_zret (pc := 73) dX4_pairPlaces_73 rfl rfl (by decide) ?_
          exact h0 _ (by unfold plcF; (repeat (first | rw [if_pos (by omega)] | rw [if_neg (by omega)])); first | done | rfl) _ _ (((Fp.refl.trans hFa1.p).trans hF2).trans hF5) (((Lp.refl.trans hLa1.p).trans hL2).trans hL5) hE5
      · refine wp_iconst (pc := 58) dX4_pairPlaces_58 ?_
        refine wp_zret (pc := 59) dX4_pairPlaces_59 rfl rfl (by decide) ?_
        exfalso; omega
    · skip
      refine wp_eqst (st' := [vI (-1)]) rfl ?_
      refine wq_istore_n (pc := 52) 3 [some (vR 44), some (vI a), some (vI e), some (vI (-1)), none] dX4_pairPlaces_52 rfl rfl (by decide) rfl ?_
      refine wp_iload_n (pc := 53) 3 dX4_pairPlaces_53 rfl rfl ?_
      refine wp_iconst (pc := 54) dX4_pairPlaces_54 ?_
      refine wp_icmp_ne (pc := 55) 60 dX4_pairPlaces_55 (by decide) (by decide) (by decide) (fun hh => absurd hh (by decide)) (fun _ => ?_)
      refine wp_iconst (pc := 58) dX4_pairPlaces_58 ?_
      refine wp_zret (pc := 59) dX4_pairPlaces_59 rfl rfl (by decide) ?_
      exact h0 _ (by unfold plcF; (repeat (first | rw [if_pos (by omega)] | rw [if_neg (by omega)])); first | done | rfl) _ _ ((Fp.refl.trans hFa1.p).trans hF3) ((Lp.refl.trans hLa1.p).trans hL3) hE3
  · refine wp_eqst (st' := [vI 0]) rfl ?_
    refine wp_if_ne (pc := 9) 41 dX4_pairPlaces_9 (by decide) (by decide) (fun hh => absurd hh (by decide)) (fun _ => ?_)
    refine wp_aload_n (pc := 12) 0 dX4_pairPlaces_12 rfl rfl ?_
    refine wp_getr (pc := 13) dX4_pairPlaces_13 rfl f_X4_19 kd_44 la_44 rfl (r_44_1 D) ?_
    refine wp_iload_n (pc := 16) 1 dX4_pairPlaces_16 rfl rfl ?_
    refine wp_iload_n (pc := 17) 2 dX4_pairPlaces_17 rfl rfl ?_
    refine wp_aload_n (pc := 18) 0 dX4_pairPlaces_18 rfl rfl ?_
    refine wp_getr (pc := 19) dX4_pairPlaces_19 rfl f_X4_19 kd_44 la_44 rfl (r_44_1 D) ?_
    refine wp_getr (pc := 22) dX4_pairPlaces_22 rfl f_X4_171 (tk_0 ht) (tl_0 ht) rfl (tr_0_2 D ht) ?_
    refine wp_iload_n (pc := 25) 1 dX4_pairPlaces_25 rfl rfl ?_
    refine wq_iald (pc := 26) a.toNat dX4_pairPlaces_26 (tk_3 ht) (tl_3 ht) (by omega) (by omega) ?_
    refine wp_eqst (st' := [vI (T 3 a.toNat), vI e, vI a, vR (D 2)]) (by rw [← hT] <;> rfl) ?_
    refine wp_aload_n (pc := 27) 0 dX4_pairPlaces_27 rfl rfl ?_
    refine wp_getr (pc := 28) dX4_pairPlaces_28 rfl f_X4_19 kd_44 la_44 rfl (r_44_1 D) ?_
    refine wp_getr (pc := 31) dX4_pairPlaces_31 rfl f_X4_171 (tk_0 ht) (tl_0 ht) rfl (tr_0_2 D ht) ?_
    refine wp_iload_n (pc := 34) 2 dX4_pairPlaces_34 rfl rfl ?_
    refine wq_iald (pc := 35) e.toNat dX4_pairPlaces_35 (tk_3 ht) (tl_3 ht) (by omega) (by omega) ?_
    refine wp_eqst (st' := [vI (T 3 e.toNat), vI (T 3 a.toNat), vI e, vI a, vR (D 2)]) (by rw [← hT] <;> rfl) ?_
    refine wp_callV (pc := 36) (st := []) (nf' := 153) [vI a, vI e, vI (T 3 a.toNat), vI (T 3 e.toNat)] [some (vR (D 2)), some (vI a), some (vI e), some (vI (T 3 a.toNat)), some (vI (T 3 e.toNat))] dX4_pairPlaces_36 rfl c_X4_174 rfl (tk_0 ht) (by decide) rfl (tl_0 ht) rfl (Nat.le_of_ble_eq_true rfl) rfl (Nat.le_of_ble_eq_true rfl) (by omega) (Nat.le_refl _) (Nat.le_refl _) ?_
    refine sp_addPair ht hT hw (by omega) (by omega) ?_
    have hP7_ : PS (up (up (up (up (up I (D 2 + 6) (nQ T) a) (D 2 + 7) (nQ T) e) (D 2 + 8) (nQ T) (T 3 a.toNat)) (D 2 + 9) (nQ T) (T 3 e.toNat)) (D 2) 13 (T 0 13 + 1)) (L) D b n c (addP T a e (T 3 a.toNat) (T 3 e.toNat)) N mo := hP.addPr (by omega) (by omega) (by omega) (by omega) (by omega)
    have hF7_ : Fp I (up (up (up (up (up I (D 2 + 6) (nQ T) a) (D 2 + 7) (nQ T) e) (D 2 + 8) (nQ T) (T 3 a.toNat)) (D 2 + 9) (nQ T) (T 3 e.toNat)) (D 2) 13 (T 0 13 + 1)) (D 2) := (((((Fp.refl.upt ht (by omega)).upt ht (by omega)).upt ht (by omega)).upt ht (by omega)).upt ht (by omega))
    refine wp_gen (fun J => Fp I J (D 2) ∧ PS J (L) D b n c (addP T a e (T 3 a.toNat) (T 3 e.toNat)) N mo) ⟨hF7_, hP7_⟩ (fun J7 hJ7 => ?_)
    have hF7 := hJ7.1
    have hP7 := hJ7.2
    have hT_7 := hP7.2.2.2.1
    have hw_7 := hP7.tw
    have k4_7 := hP7.2.2.1.1
    have k5_7 := hP7.2.2.1.2.1
    have k6_7 := hP7.2.2.1.2.2.1.1
    have m4_7 := hP7.2.2.2.2.2.1
    have ki_7 := kC_in b c
    have kw_7 := wi_in b c
    have tr_7 := ts_rng b c
    have l7_7 := hP7.2.2.1.2.2.2.2.1
    refine wp_eqst (st' := []) rfl ?_
    refine wp_iconst (pc := 39) dX4_pairPlaces_39 ?_
    refine wp_zret (pc := 40) dX4_pairPlaces_40 rfl rfl (by decide) ?_
    exact h1 _ _ _ (by unfold plcF; (repeat (first | rw [if_pos (by omega)] | rw [if_neg (by omega)])); first | done | rfl) _ _ hF7 Lp.refl hP7

theorem sp_pairLine {l : Launch} {G : mG} {d : Nat} {I : mI} {L : Nat → Nat → Int} {D : Nat → Nat} {Q : mQ} {b : Nat → Int} {n c : Nat} {T N : mT} {mo : Nat}   (hP : PS I L D b n c T N mo) (hwi : 0 ≤ wi b c) (hd : 9 ≤ d) (h1 : ∀ c' T' N', pairF b c T N = .inr (c', T', N') → ∀ J M, Fp I J (D 2) → Lp L M (D 2) → PS J M D b n c' T' N' mo → Q (some (vI 1)) J (XX M D)) (h0 : ∀ er, pairF b c T N = .inl er → ∀ J M, Fp I J (D 2) → Lp L M (D 2) → PE J M D b n er → Q (some (vI 0)) J (XX M D)) : WP l G m_X4_pairLine d 153 I (XX L D) 0 [some (vR 44), none, none] [] Q := by
  have ht := hP.1.1
  have g2 : D 2 = 1 ∨ D 2 = 21 := ht
  have hT := hP.2.2.2.1
  have hw := hP.tw
  have k4 := hP.2.2.1.1
  have k5 := hP.2.2.1.2.1
  have k6 := hP.2.2.1.2.2.1.1
  have m4 := hP.2.2.2.2.2.1
  have ki := kC_in b c
  have kw := wi_in b c
  have tr := ts_rng b c
  have l7 := hP.2.2.1.2.2.2.2.1
  have b_c := tw_c hw
  have b_p := tw_p hw
  have b_q := tw_q hw
  have b_v := tw_vows hw
  have eC : nC T = (T 0 11).toNat := rfl
  have eP : nP T = (T 0 12).toNat := rfl
  have eQ : nQ T = (T 0 13).toNat := rfl
  refine wp_aload_n (pc := 0) 0 dX4_pairLine_0 rfl rfl ?_
  refine wp_getr (pc := 1) dX4_pairLine_1 rfl f_X4_19 kd_44 la_44 rfl (r_44_1 D) ?_
  refine wp_geti (pc := 4) dX4_pairLine_4 rfl f_X4_162 (tk_0 ht) (tl_0 ht) (Or.inl rfl) ?_
  refine wp_eqst (st' := [vI (T 0 13)]) (by rw [← hT] <;> rfl) ?_
  refine wp_iconst (pc := 7) dX4_pairLine_7 ?_
  refine wp_icmp_lt (pc := 8) 17 dX4_pairLine_8 (by decide) (by omega) (by decide) (fun h_1 => ?_) (fun h_1 => ?_)
  · refine wp_aload_n (pc := 17) 0 dX4_pairLine_17 rfl rfl ?_
    refine wp_getr (pc := 18) dX4_pairLine_18 rfl f_X4_15 kd_44 la_44 rfl (r_44_0 D) ?_
    refine wp_callV (pc := 21) (st := []) (nf' := 153) [] [some (vR 41), none] dX4_pairLine_21 rfl c_X4_93 rfl kd_41 (by decide) rfl la_41 rfl (Nat.le_of_ble_eq_true rfl) rfl (Nat.le_of_ble_eq_true rfl) (by omega) (Nat.le_refl _) (Nat.le_refl _) ?_
    have n31 : ts b c ≠ 3 := (by first | exact n3_k (by omega) | exact n3_4 (by omega) | exact n3_w (by omega) | exact n3_s (by omega))
    refine sp_advance hP.1.2.1 hP.nx hP.1.2.2.1 (hP.2.2.1.2.2.2.1 n31) (by omega) (fun J1 M1 hFa1 hLa1 hTk1 => ?_)
    have hP1 := hP.adv hP.nx hFa1 hLa1 hTk1
    have hT_1 := hP1.2.2.2.1
    have hw_1 := hP1.tw
    have k4_1 := hP1.2.2.1.1
    have k5_1 := hP1.2.2.1.2.1
    have k6_1 := hP1.2.2.1.2.2.1.1
    have m4_1 := hP1.2.2.2.2.2.1
    have ki_1 := kC_in b (te b c)
    have kw_1 := wi_in b (te b c)
    have tr_1 := ts_rng b (te b c)
    have l7_1 := hP1.2.2.1.2.2.2.2.1
    refine wp_eqst (st' := []) rfl ?_
    refine wp_aload_n (pc := 24) 0 dX4_pairLine_24 rfl rfl ?_
    refine wp_iconst (pc := 25) dX4_pairLine_25 ?_
    refine wp_callV (pc := 26) (st := []) (nf' := 153) [vI 0] [some (vR 44), some (vI 0), none] dX4_pairLine_26 rfl c_X4_137 rfl kd_44 (by decide) rfl la_44 rfl (Nat.le_of_ble_eq_true rfl) rfl (Nat.le_of_ble_eq_true rfl) (by omega) (Nat.le_refl _) (Nat.le_refl _) ?_
    refine sp_takePerson 0 rfl hP1 (by first | omega | exact Nat.lt_of_lt_of_le (two_lt (by omega)) (by decide) | exact Nat.lt_of_lt_of_le (or_lt (n := 8) (by omega) (two_lt (by omega))) (by decide)) (nn := nP T) rfl (by omega) (fun h_2 J2 M2 hF2 hL2 hP2 => ?_) (fun h_2 J3 M3 hF3 hL3 hE3 => ?_)
    · skip
      have pi2 := prF_in (b := b) (c := te b c) (N := N 1) (n := nP T) (rep := 0)
      have po2 := (prF_ok (b := b) (c := te b c) (N := N 1) (n := nP T) (rep := 0) (by assumption)).1
      have hT_2 := hP2.2.2.2.1
      have hw_2 := hP2.tw
      have k4_2 := hP2.2.2.1.1
      have k5_2 := hP2.2.2.1.2.1
      have k6_2 := hP2.2.2.1.2.2.1.1
      have m4_2 := hP2.2.2.2.2.2.1
      have ki_2 := kC_in b (te b (te b c))
      have kw_2 := wi_in b (te b (te b c))
      have tr_2 := ts_rng b (te b (te b c))
      have l7_2 := hP2.2.2.1.2.2.2.2.1
      refine wp_eqst (st' := [vI (prF b (te b c) (N 1) (nP T) 0)]) rfl ?_
      refine wq_istore_n (pc := 29) 1 [some (vR 44), some (vI (prF b (te b c) (N 1) (nP T) 0)), none] dX4_pairLine_29 rfl rfl (by decide) rfl ?_
      refine wp_iload_n (pc := 30) 1 dX4_pairLine_30 rfl rfl ?_
      refine wp_iconst (pc := 31) dX4_pairLine_31 ?_
      refine wp_icmp_ne (pc := 32) 37 dX4_pairLine_32 (by decide) (by omega) (by decide) (fun h_3 => ?_) (fun h_3 => ?_)
      · refine wp_aload_n (pc := 37) 0 dX4_pairLine_37 rfl rfl ?_
        refine wp_aload_n (pc := 38) 0 dX4_pairLine_38 rfl rfl ?_
        refine wp_getr (pc := 39) dX4_pairLine_39 rfl f_X4_19 kd_44 la_44 rfl (r_44_1 D) ?_
        refine wp_iload_n (pc := 42) 1 dX4_pairLine_42 rfl rfl ?_
        refine wp_callV (pc := 43) (st := [vR 44]) (nf' := 153) [vI (prF b (te b c) (N 1) (nP T) 0)] [some (vR (D 2)), some (vI (prF b (te b c) (N 1) (nP T) 0)), none, none] dX4_pairLine_43 rfl c_X4_165 rfl (tk_0 ht) (by decide) rfl (tl_0 ht) rfl (Nat.le_of_ble_eq_true rfl) rfl (Nat.le_of_ble_eq_true rfl) (by omega) (Nat.le_refl _) (Nat.le_refl _) ?_
        refine sp_pairedWith (Int.toNat (prF b (te b c) (N 1) (nP T) 0)) (by omega) ht hT_2 hw_2 (by omega) (by omega) ?_
        have bw := pwN_lt hw_2 (Int.toNat (prF b (te b c) (N 1) (nP T) 0)) (nQ T)
        refine wp_eqst (st' := [vI ((pwN T (Int.toNat (prF b (te b c) (N 1) (nP T) 0)) (nQ T) : Nat) : Int), vR 44]) rfl ?_
        refine wp_iconst (pc := 46) dX4_pairLine_46 ?_
        refine wp_iload_n (pc := 47) 1 dX4_pairLine_47 rfl rfl ?_
        refine wn_shl1 (pc := 48) (Int.toNat (prF b (te b c) (N 1) (nP T) 0)) dX4_pairLine_48 (by omega) (by omega) ?_
        refine wn_or (pc := 49) (pwN T (Int.toNat (prF b (te b c) (N 1) (nP T) 0)) (nQ T)) (2 ^ (Int.toNat (prF b (te b c) (N 1) (nP T) 0))) dX4_pairLine_49 rfl rfl ?_
        refine wp_callV (pc := 50) (st := []) (nf' := 153) [vI (((pwN T (Int.toNat (prF b (te b c) (N 1) (nP T) 0)) (nQ T)) ||| (2 ^ (Int.toNat (prF b (te b c) (N 1) (nP T) 0))) : Nat) : Int)] [some (vR 44), some (vI (((pwN T (Int.toNat (prF b (te b c) (N 1) (nP T) 0)) (nQ T)) ||| (2 ^ (Int.toNat (prF b (te b c) (N 1) (nP T) 0))) : Nat) : Int)), none] dX4_pairLine_50 rfl c_X4_137 rfl kd_44 (by decide) rfl la_44 rfl (Nat.le_of_ble_eq_true rfl) rfl (Nat.le_of_ble_eq_true rfl) (by omega) (Nat.le_refl _) (Nat.le_refl _) ?_
        refine sp_takePerson ((pwN T (Int.toNat (prF b (te b c) (N 1) (nP T) 0)) (nQ T)) ||| (2 ^ (Int.toNat (prF b (te b c) (N 1) (nP T) 0)))) rfl hP2 (by first | omega | exact Nat.lt_of_lt_of_le (two_lt (by omega)) (by decide) | exact Nat.lt_of_lt_of_le (or_lt (n := 8) (by omega) (two_lt (by omega))) (by decide)) (nn := nP T) rfl (by omega) (fun h_4 J4 M4 hF4 hL4 hP4 => ?_) (fun h_4 J5 M5 hF5 hL5 hE5 => ?_)
        · skip
          have pi4 := prF_in (b := b) (c := te b (te b c)) (N := N 1) (n := nP T) (rep := (pwN T (Int.toNat (prF b (te b c) (N 1) (nP T) 0)) (nQ T)) ||| (2 ^ (Int.toNat (prF b (te b c) (N 1) (nP T) 0))))
          have po4 := (prF_ok (b := b) (c := te b (te b c)) (N := N 1) (n := nP T) (rep := (pwN T (Int.toNat (prF b (te b c) (N 1) (nP T) 0)) (nQ T)) ||| (2 ^ (Int.toNat (prF b (te b c) (N 1) (nP T) 0)))) (by assumption)).1
          have hT_4 := hP4.2.2.2.1
          have hw_4 := hP4.tw
          have k4_4 := hP4.2.2.1.1
          have k5_4 := hP4.2.2.1.2.1
          have k6_4 := hP4.2.2.1.2.2.1.1
          have m4_4 := hP4.2.2.2.2.2.1
          have ki_4 := kC_in b (te b (te b (te b c)))
          have kw_4 := wi_in b (te b (te b (te b c)))
          have tr_4 := ts_rng b (te b (te b (te b c)))
          have l7_4 := hP4.2.2.1.2.2.2.2.1
          refine wp_eqst (st' := [vI (prF b (te b (te b c)) (N 1) (nP T) ((pwN T (Int.toNat (prF b (te b c) (N 1) (nP T) 0)) (nQ T)) ||| (2 ^ (Int.toNat (prF b (te b c) (N 1) (nP T) 0)))))]) rfl ?_
          refine wq_istore_n (pc := 53) 2 [some (vR 44), some (vI (prF b (te b c) (N 1) (nP T) 0)), some (vI (prF b (te b (te b c)) (N 1) (nP T) ((pwN T (Int.toNat (prF b (te b c) (N 1) (nP T) 0)) (nQ T)) ||| (2 ^ (Int.toNat (prF b (te b c) (N 1) (nP T) 0))))))] dX4_pairLine_53 rfl rfl (by decide) rfl ?_
          refine wp_iload_n (pc := 54) 2 dX4_pairLine_54 rfl rfl ?_
          refine wp_iconst (pc := 55) dX4_pairLine_55 ?_
          refine wp_icmp_eq (pc := 56) 72 dX4_pairLine_56 (by decide) (by omega) (by decide) (fun h_5 => ?_) (fun h_5 => ?_)
          · refine wp_iconst (pc := 72) dX4_pairLine_72 ?_
            refine wp_zret (pc := 73) dX4_pairLine_73 rfl rfl (by decide) ?_
            exfalso; omega
          · refine wp_aload_n (pc := 59) 0 dX4_pairLine_59 rfl rfl ?_
            refine wp_iload_n (pc := 60) 1 dX4_pairLine_60 rfl rfl ?_
            refine wp_iload_n (pc := 61) 2 dX4_pairLine_61 rfl rfl ?_
            refine wp_callV (pc := 62) (st := []) (nf' := 153) [vI (prF b (te b c) (N 1) (nP T) 0), vI (prF b (te b (te b c)) (N 1) (nP T) ((pwN T (Int.toNat (prF b (te b c) (N 1) (nP T) 0)) (nQ T)) ||| (2 ^ (Int.toNat (prF b (te b c) (N 1) (nP T) 0)))))] [some (vR 44), some (vI (prF b (te b c) (N 1) (nP T) 0)), some (vI (prF b (te b (te b c)) (N 1) (nP T) ((pwN T (Int.toNat (prF b (te b c) (N 1) (nP T) 0)) (nQ T)) ||| (2 ^ (Int.toNat (prF b (te b c) (N 1) (nP T) 0)))))), none, none] dX4_pairLine_62 rfl c_X4_168 rfl kd_44 (by decide) rfl la_44 rfl (Nat.le_of_ble_eq_true rfl) rfl (Nat.le_of_ble_eq_true rfl) (by omega) (Nat.le_refl _) (Nat.le_refl _) ?_
            refine sp_pairPlaces hP4 (by omega) (by omega) (by omega) (by omega) (fun c6 T6 N6 hR6 J6 M6 hF6 hL6 hP6 => ?_) (fun e7 hR7 J7 M7 hF7 hL7 hE7 => ?_)
            · skip
              have hT_6 := hP6.2.2.2.1
              have hw_6 := hP6.tw
              have k4_6 := hP6.2.2.1.1
              have k5_6 := hP6.2.2.1.2.1
              have k6_6 := hP6.2.2.1.2.2.1.1
              have m4_6 := hP6.2.2.2.2.2.1
              have ki_6 := kC_in b c6
              have kw_6 := wi_in b c6
              have tr_6 := ts_rng b c6
              have l7_6 := hP6.2.2.1.2.2.2.2.1
              refine wp_eqst (st' := [vI 1]) rfl ?_
              refine wp_if_eq (pc := 65) 72 dX4_pairLine_65 (by decide) (by decide) (fun hh => absurd hh (by decide)) (fun _ => ?_)
              refine wp_iconst (pc := 68) dX4_pairLine_68 ?_
              refine wp_goto (pc := 69) 73 dX4_pairLine_69 (by decide) ?_
              refine wp_zret (pc := 73) dX4_pairLine_73 rfl rfl (by decide) ?_
              exact h1 _ _ _ (by unfold pairF; (repeat (first | rw [if_pos (by omega)] | rw [if_neg (by omega)])); exact hR6) _ _ ((((Fp.refl.trans hFa1.p).trans hF2).trans hF4).trans hF6) ((((Lp.refl.trans hLa1.p).trans hL2).trans hL4).trans hL6) hP6
            · skip
              refine wp_eqst (st' := [vI 0]) rfl ?_
              refine wp_if_eq (pc := 65) 72 dX4_pairLine_65 (by decide) (by decide) (fun _ => ?_) (fun hh => absurd hh (by decide))
              refine wp_iconst (pc := 72) dX4_pairLine_72 ?_
              refine wp_zret (pc := 73) dX4_pairLine_73 rfl rfl (by decide) ?_
              exact h0 _ (by unfold pairF; (repeat (first | rw [if_pos (by omega)] | rw [if_neg (by omega)])); exact hR7) _ _ ((((Fp.refl.trans hFa1.p).trans hF2).trans hF4).trans hF7) ((((Lp.refl.trans hLa1.p).trans hL2).trans hL4).trans hL7) hE7
        · skip
          refine wp_eqst (st' := [vI (-1)]) rfl ?_
          refine wq_istore_n (pc := 53) 2 [some (vR 44), some (vI (prF b (te b c) (N 1) (nP T) 0)), some (vI (-1))] dX4_pairLine_53 rfl rfl (by decide) rfl ?_
          refine wp_iload_n (pc := 54) 2 dX4_pairLine_54 rfl rfl ?_
          refine wp_iconst (pc := 55) dX4_pairLine_55 ?_
          refine wp_icmp_eq (pc := 56) 72 dX4_pairLine_56 (by decide) (by decide) (by decide) (fun _ => ?_) (fun hh => absurd hh (by decide))
          refine wp_iconst (pc := 72) dX4_pairLine_72 ?_
          refine wp_zret (pc := 73) dX4_pairLine_73 rfl rfl (by decide) ?_
          exact h0 _ (by unfold pairF; (repeat (first | rw [if_pos (by omega)] | rw [if_neg (by omega)])); first | done | rfl) _ _ (((Fp.refl.trans hFa1.p).trans hF2).trans hF5) (((Lp.refl.trans hLa1.p).trans hL2).trans hL5) hE5
      · refine wp_iconst (pc := 35) dX4_pairLine_35 ?_
        refine wp_zret (pc := 36) dX4_pairLine_36 rfl rfl (by decide) ?_
        exfalso; omega
    · skip
      refine wp_eqst (st' := [vI (-1)]) rfl ?_
      refine wq_istore_n (pc := 29) 1 [some (vR 44), some (vI (-1)), none] dX4_pairLine_29 rfl rfl (by decide) rfl ?_
      refine wp_iload_n (pc := 30) 1 dX4_pairLine_30 rfl rfl ?_
      refine wp_iconst (pc := 31) dX4_pairLine_31 ?_
      refine wp_icmp_ne (pc := 32) 37 dX4_pairLine_32 (by decide) (by decide) (by decide) (fun hh => absurd hh (by decide)) (fun _ => ?_)
      refine wp_iconst (pc := 35) dX4_pairLine_35 ?_
      refine wp_zret (pc := 36) dX4_pairLine_36 rfl rfl (by decide) ?_
      exact h0 _ (by unfold pairF; (repeat (first | rw [if_pos (by omega)] | rw [if_neg (by omega)])); first | done | rfl) _ _ ((Fp.refl.trans hFa1.p).trans hF3) ((Lp.refl.trans hLa1.p).trans hL3) hE3
  · refine wp_aload_n (pc := 11) 0 dX4_pairLine_11 rfl rfl ?_
    refine wp_iconst (pc := 12) dX4_pairLine_12 ?_
    refine wp_callV (pc := 13) (st := []) (nf' := 153) [vI 2] [some (vR 44), some (vI 2)] dX4_pairLine_13 rfl c_X4_42 rfl kd_44 (by decide) rfl la_44 rfl (Nat.le_of_ble_eq_true rfl) rfl (Nat.le_of_ble_eq_true rfl) (by omega) (Nat.le_refl _) (Nat.le_refl _) ?_
    refine sp_refuse hP.2.2.1 (by decide) (by omega) ?_
    refine wp_eqst (st' := [vI 0]) rfl ?_
    refine wp_zret (pc := 16) dX4_pairLine_16 rfl rfl (by decide) ?_
    exact h0 _ (by unfold pairF; (repeat (first | rw [if_pos (by omega)] | rw [if_neg (by omega)])); first | done | rfl) _ _ Fp.refl.up44.up44 Lp.refl (hP.ref 2)

theorem sp_isFirst {l : Launch} {G : mG} {d : Nat} {I : mI} {L : Nat → Nat → Int} {D : Nat → Nat} {Q : mQ} {b : Nat → Int} {n c : Nat} {T N : mT} {mo : Nat}  (wh : Nat) {wh_ : Int} (hwh_ : wh_ = (wh : Int)) (hP : PS I L D b n c T N mo) (hwh : wh ≤ 14) (hd : 1 ≤ d) (h1 : ¬ mo.testBit wh = true → ∀ J, Fp I J (D 2) → PS J L D b n c T N (mo ||| 2 ^ wh) → Q (some (vI 1)) J (XX L D)) (h0 : mo.testBit wh = true → ∀ J, Fp I J (D 2) → PE J L D b n (bad b c 2) → Q (some (vI 0)) J (XX L D)) : WP l G m_X4_isFirst d 153 I (XX L D) 0 [some (vR 44), some (vI wh_)] [] Q := by
  subst hwh_
  have ht := hP.1.1
  have g2 : D 2 = 1 ∨ D 2 = 21 := ht
  have hT := hP.2.2.2.1
  have hw := hP.tw
  have k4 := hP.2.2.1.1
  have k5 := hP.2.2.1.2.1
  have k6 := hP.2.2.1.2.2.1.1
  have m4 := hP.2.2.2.2.2.1
  have ki := kC_in b c
  have kw := wi_in b c
  have tr := ts_rng b c
  have l7 := hP.2.2.1.2.2.2.2.1
  have b_c := tw_c hw
  have b_p := tw_p hw
  have b_q := tw_q hw
  have b_v := tw_vows hw
  have eC : nC T = (T 0 11).toNat := rfl
  have eP : nP T = (T 0 12).toNat := rfl
  have eQ : nQ T = (T 0 13).toNat := rfl
  have b3 := bit_lt mo wh
  have hm15 := hP.2.2.2.2.2.2.1.1
  refine wp_aload_n (pc := 0) 0 dX4_isFirst_0 rfl rfl ?_
  refine wp_geti (pc := 1) dX4_isFirst_1 rfl f_X4_28 kd_44 la_44 (Or.inl rfl) ?_
  refine wp_eqst (st' := [vI ((mo : Nat) : Int)]) (by rw [m4]) ?_
  refine wp_iload_n (pc := 4) 1 dX4_isFirst_4 rfl rfl ?_
  refine wn_shr (pc := 5) mo wh dX4_isFirst_5 rfl rfl (by omega) (by omega) ?_
  refine wp_iconst (pc := 6) dX4_isFirst_6 ?_
  refine wn_mask (pc := 7) (mo / 2 ^ wh) 1 dX4_isFirst_7 rfl rfl (by decide) ?_
  refine wp_iconst (pc := 8) dX4_isFirst_8 ?_
  refine wp_icmp_ne (pc := 9) 18 dX4_isFirst_9 (by decide) (by omega) (by decide) (fun h_1 => ?_) (fun h_1 => ?_)
  · refine wp_aload_n (pc := 18) 0 dX4_isFirst_18 rfl rfl ?_
    refine wp_dup (pc := 19) dX4_isFirst_19 rfl ?_
    refine wp_geti (pc := 20) dX4_isFirst_20 rfl f_X4_28 kd_44 la_44 (Or.inl rfl) ?_
    refine wp_eqst (st' := [vI ((mo : Nat) : Int), vR 44]) (by rw [m4]) ?_
    refine wp_iconst (pc := 23) dX4_isFirst_23 ?_
    refine wp_iload_n (pc := 24) 1 dX4_isFirst_24 rfl rfl ?_
    refine wn_shl1 (pc := 25) wh dX4_isFirst_25 rfl (by omega) ?_
    refine wn_or (pc := 26) mo (2 ^ wh) dX4_isFirst_26 rfl rfl ?_
    refine wp_puti (pc := 27) dX4_isFirst_27 rfl f_X4_28 kd_44 la_44 (fun _ h => by cases h; rfl) rfl ?_
    refine wp_iconst (pc := 30) dX4_isFirst_30 ?_
    refine wp_zret (pc := 31) dX4_isFirst_31 rfl rfl (by decide) ?_
    exact h1 (fun z => h_1 ((bit_iff _ _).mpr z)) _ Fp.refl.up44 (hP.upm (or_lt (n := 15) (by omega) (Nat.pow_lt_pow_right (by decide) (by omega))))
  · refine wp_aload_n (pc := 12) 0 dX4_isFirst_12 rfl rfl ?_
    refine wp_iconst (pc := 13) dX4_isFirst_13 ?_
    refine wp_callV (pc := 14) (st := []) (nf' := 153) [vI 2] [some (vR 44), some (vI 2)] dX4_isFirst_14 rfl c_X4_42 rfl kd_44 (by decide) rfl la_44 rfl (Nat.le_of_ble_eq_true rfl) rfl (Nat.le_of_ble_eq_true rfl) (by omega) (Nat.le_refl _) (Nat.le_refl _) ?_
    refine sp_refuse hP.2.2.1 (by decide) (by omega) ?_
    refine wp_eqst (st' := [vI 0]) rfl ?_
    refine wp_zret (pc := 17) dX4_isFirst_17 rfl rfl (by decide) ?_
    exact h0 ((bit_iff _ _).mp h_1) _ Fp.refl.up44.up44 (hP.ref 2)

theorem sp_set12 {l : Launch} {G : mG} {d : Nat} {I : mI} {L : Nat → Nat → Int} {D : Nat → Nat} {Q : mQ} {t : Nat} {T : mT} {x : Int}  (ht : isT t) (hT : TT I t = T) (hw : tw T) (hd : 0 ≤ d) (hQ : Q none (up I t 15 x) (XX L D)) : WP l G m_X9_set d 153 I (XX L D) 0 [some (vR t), some (vI 12), some (vI x)] [] Q := by
  refine wp_iload_n (pc := 0) 1 dX9_set_0 rfl rfl ?_
  refine wp_lsw (pc := 1) (off := 27) 28 dX9_set_1 (by decide) (by decide) (by decide) (by decide) ?_
  refine wp_aload_n (pc := 28) 0 dX9_set_28 rfl rfl ?_
  refine wp_iload_n (pc := 29) 2 dX9_set_29 rfl rfl ?_
  refine wp_puti (pc := 30) dX9_set_30 rfl f_X9_54 (tk_0 ht) (tl_0 ht) (fun _ h => by cases h; rfl) rfl ?_
  refine wp_goto (pc := 33) 49 dX9_set_33 (by decide) ?_
  refine wp_vret (pc := 49) dX9_set_49 rfl rfl ?_
  exact hQ

theorem sp_set13 {l : Launch} {G : mG} {d : Nat} {I : mI} {L : Nat → Nat → Int} {D : Nat → Nat} {Q : mQ} {t : Nat} {T : mT} {x : Int}  (ht : isT t) (hT : TT I t = T) (hw : tw T) (hd : 0 ≤ d) (hQ : Q none (up I t 16 x) (XX L D)) : WP l G m_X9_set d 153 I (XX L D) 0 [some (vR t), some (vI 13), some (vI x)] [] Q := by
  refine wp_iload_n (pc := 0) 1 dX9_set_0 rfl rfl ?_
  refine wp_lsw (pc := 1) (off := 35) 36 dX9_set_1 (by decide) (by decide) (by decide) (by decide) ?_
  refine wp_aload_n (pc := 36) 0 dX9_set_36 rfl rfl ?_
  refine wp_iload_n (pc := 37) 2 dX9_set_37 rfl rfl ?_
  refine wp_puti (pc := 38) dX9_set_38 rfl f_X9_58 (tk_0 ht) (tl_0 ht) (fun _ h => by cases h; rfl) rfl ?_
  refine wp_goto (pc := 41) 49 dX9_set_41 (by decide) ?_
  refine wp_vret (pc := 49) dX9_set_49 rfl rfl ?_
  exact hQ

theorem sp_set14 {l : Launch} {G : mG} {d : Nat} {I : mI} {L : Nat → Nat → Int} {D : Nat → Nat} {Q : mQ} {t : Nat} {T : mT} {x : Int}  (ht : isT t) (hT : TT I t = T) (hw : tw T) (hd : 0 ≤ d) (hQ : Q none (up I t 17 x) (XX L D)) : WP l G m_X9_set d 153 I (XX L D) 0 [some (vR t), some (vI 14), some (vI x)] [] Q := by
  refine wp_iload_n (pc := 0) 1 dX9_set_0 rfl rfl ?_
  refine wp_lsw (pc := 1) (off := 43) 44 dX9_set_1 (by decide) (by decide) (by decide) (by decide) ?_
  refine wp_aload_n (pc := 44) 0 dX9_set_44 rfl rfl ?_
  refine wp_iload_n (pc := 45) 2 dX9_set_45 rfl rfl ?_
  refine wp_puti (pc := 46) dX9_set_46 rfl f_X9_73 (tk_0 ht) (tl_0 ht) (fun _ h => by cases h; rfl) rfl ?_
  refine wp_vret (pc := 49) dX9_set_49 rfl rfl ?_
  exact hQ

theorem sp_settingLine12 {l : Launch} {G : mG} {d : Nat} {I : mI} {L : Nat → Nat → Int} {D : Nat → Nat} {Q : mQ} {b : Nat → Int} {n c : Nat} {T N : mT} {mo : Nat}   (hP : PS I L D b n c T N mo) (hwi : wi b c = 12) (hd : 8 ≤ d) (h1 : ∀ c' T' N', settF b c T N mo 12 0 8 = .inr (c', T', N') → ∀ J M, Fp I J (D 2) → Lp L M (D 2) → PS J M D b n c' T' N' (mo ||| 2 ^ 12) → Q (some (vI 1)) J (XX M D)) (h0 : ∀ er, settF b c T N mo 12 0 8 = .inl er → ∀ J M, Fp I J (D 2) → Lp L M (D 2) → PE J M D b n er → Q (some (vI 0)) J (XX M D)) : WP l G m_X4_settingLine d 153 I (XX L D) 0 [some (vR 44), some (vI 0), some (vI 8), none, none] [] Q := by
  have ht := hP.1.1
  have g2 : D 2 = 1 ∨ D 2 = 21 := ht
  have hT := hP.2.2.2.1
  have hw := hP.tw
  have k4 := hP.2.2.1.1
  have k5 := hP.2.2.1.2.1
  have k6 := hP.2.2.1.2.2.1.1
  have m4 := hP.2.2.2.2.2.1
  have ki := kC_in b c
  have kw := wi_in b c
  have tr := ts_rng b c
  have l7 := hP.2.2.1.2.2.2.2.1
  have b_c := tw_c hw
  have b_p := tw_p hw
  have b_q := tw_q hw
  have b_v := tw_vows hw
  have eC : nC T = (T 0 11).toNat := rfl
  have eP : nP T = (T 0 12).toNat := rfl
  have eQ : nQ T = (T 0 13).toNat := rfl
  have kvw : I 41 6 = 12 := by rw [hP.2.2.1.2.2.1.2 (n3_w (by omega)), vC_w (wi_ts (by omega)), if_neg (by omega), hwi]
  refine wp_aload_n (pc := 0) 0 dX4_settingLine_0 rfl rfl ?_
  refine wp_getr (pc := 1) dX4_settingLine_1 rfl f_X4_15 kd_44 la_44 rfl (r_44_0 D) ?_
  refine wp_geti (pc := 4) dX4_settingLine_4 rfl f_X4_46 kd_41 la_41 (Or.inl rfl) ?_
  refine wp_eqst (st' := [vI 12]) (by rw [kvw]) ?_
  refine wq_istore_n (pc := 7) 3 [some (vR 44), some (vI 0), some (vI 8), some (vI 12), none] dX4_settingLine_7 rfl rfl (by decide) rfl ?_
  refine wp_aload_n (pc := 8) 0 dX4_settingLine_8 rfl rfl ?_
  refine wp_iload_n (pc := 9) 3 dX4_settingLine_9 rfl rfl ?_
  refine wp_callV (pc := 10) (st := []) (nf' := 153) [vI 12] [some (vR 44), some (vI 12)] dX4_settingLine_10 rfl c_X4_178 rfl kd_44 (by decide) rfl la_44 rfl (Nat.le_of_ble_eq_true rfl) rfl (Nat.le_of_ble_eq_true rfl) (by omega) (Nat.le_refl _) (Nat.le_refl _) ?_
  refine sp_isFirst 12 rfl hP (by omega) (by omega) (fun h_1 J1 hF1 hP1 => ?_) (fun h_1 J2 hF2 hE2 => ?_)
  · skip
    have hT_1 := hP1.2.2.2.1
    have hw_1 := hP1.tw
    have k4_1 := hP1.2.2.1.1
    have k5_1 := hP1.2.2.1.2.1
    have k6_1 := hP1.2.2.1.2.2.1.1
    have m4_1 := hP1.2.2.2.2.2.1
    have ki_1 := kC_in b c
    have kw_1 := wi_in b c
    have tr_1 := ts_rng b c
    have l7_1 := hP1.2.2.1.2.2.2.2.1
    refine wp_eqst (st' := [vI 1]) rfl ?_
    refine wp_if_ne (pc := 13) 18 dX4_settingLine_13 (by decide) (by decide) (fun _ => ?_) (fun hh => absurd hh (by decide))
    refine wp_aload_n (pc := 18) 0 dX4_settingLine_18 rfl rfl ?_
    refine wp_getr (pc := 19) dX4_settingLine_19 rfl f_X4_15 kd_44 la_44 rfl (r_44_0 D) ?_
    refine wp_callV (pc := 22) (st := []) (nf' := 153) [] [some (vR 41), none] dX4_settingLine_22 rfl c_X4_93 rfl kd_41 (by decide) rfl la_41 rfl (Nat.le_of_ble_eq_true rfl) rfl (Nat.le_of_ble_eq_true rfl) (by omega) (Nat.le_refl _) (Nat.le_refl _) ?_
    have n33 : ts b c ≠ 3 := (by first | exact n3_k (by omega) | exact n3_4 (by omega) | exact n3_w (by omega) | exact n3_s (by omega))
    refine sp_advance hP1.1.2.1 hP1.nx hP1.1.2.2.1 (hP1.2.2.1.2.2.2.1 n33) (by omega) (fun J3 M3 hFa3 hLa3 hTk3 => ?_)
    have hP3 := hP1.adv hP1.nx hFa3 hLa3 hTk3
    have hT_3 := hP3.2.2.2.1
    have hw_3 := hP3.tw
    have k4_3 := hP3.2.2.1.1
    have k5_3 := hP3.2.2.1.2.1
    have k6_3 := hP3.2.2.1.2.2.1.1
    have m4_3 := hP3.2.2.2.2.2.1
    have ki_3 := kC_in b (te b c)
    have kw_3 := wi_in b (te b c)
    have tr_3 := ts_rng b (te b c)
    have l7_3 := hP3.2.2.1.2.2.2.2.1
    refine wp_eqst (st' := []) rfl ?_
    refine wp_aload_n (pc := 25) 0 dX4_settingLine_25 rfl rfl ?_
    refine wp_iload_n (pc := 26) 1 dX4_settingLine_26 rfl rfl ?_
    refine wp_iload_n (pc := 27) 2 dX4_settingLine_27 rfl rfl ?_
    refine wp_callV (pc := 28) (st := []) (nf' := 153) [vI 0, vI 8] [some (vR 44), some (vI 0), some (vI 8), none] dX4_settingLine_28 rfl c_X4_150 rfl kd_44 (by decide) rfl la_44 rfl (Nat.le_of_ble_eq_true rfl) rfl (Nat.le_of_ble_eq_true rfl) (by omega) (Nat.le_refl _) (Nat.le_refl _) ?_
    refine sp_number hP3 (by decide) (by decide) (by omega) (fun h_2 J4 M4 hF4 hL4 hP4 => ?_) (fun h_2 J5 M5 hF5 hL5 hE5 => ?_)
    · skip
      have nb4 := nbF_ok (b := b) (c := te b c) (lo := 0) (hi := 8) (by decide) (by assumption)
      have hT_4 := hP4.2.2.2.1
      have hw_4 := hP4.tw
      have k4_4 := hP4.2.2.1.1
      have k5_4 := hP4.2.2.1.2.1
      have k6_4 := hP4.2.2.1.2.2.1.1
      have m4_4 := hP4.2.2.2.2.2.1
      have ki_4 := kC_in b (te b (te b c))
      have kw_4 := wi_in b (te b (te b c))
      have tr_4 := ts_rng b (te b (te b c))
      have l7_4 := hP4.2.2.1.2.2.2.2.1
      refine wp_eqst (st' := [vI (nbF b (te b c) 0 8)]) rfl ?_
      refine wq_istore (pc := 31) [some (vR 44), some (vI 0), some (vI 8), some (vI 12), some (vI (nbF b (te b c) 0 8))] dX4_settingLine_31 rfl (by decide) rfl ?_
      refine wp_iload (pc := 33) dX4_settingLine_33 rfl ?_
      refine wp_iconst (pc := 35) dX4_settingLine_35 ?_
      refine wp_icmp_ne (pc := 36) 41 dX4_settingLine_36 (by decide) (by omega) (by decide) (fun h_3 => ?_) (fun h_3 => ?_)
      · refine wp_aload_n (pc := 41) 0 dX4_settingLine_41 rfl rfl ?_
        refine wp_getr (pc := 42) dX4_settingLine_42 rfl f_X4_19 kd_44 la_44 rfl (r_44_1 D) ?_
        refine wp_iload_n (pc := 45) 3 dX4_settingLine_45 rfl rfl ?_
        refine wp_iload (pc := 46) dX4_settingLine_46 rfl ?_
        refine wp_callV (pc := 48) (st := []) (nf' := 153) [vI 12, vI (nbF b (te b c) 0 8)] [some (vR (D 2)), some (vI 12), some (vI (nbF b (te b c) 0 8))] dX4_settingLine_48 rfl c_X4_181 rfl (tk_0 ht) (by decide) rfl (tl_0 ht) rfl (Nat.le_of_ble_eq_true rfl) rfl (Nat.le_of_ble_eq_true rfl) (by omega) (Nat.le_refl _) (Nat.le_refl _) ?_
        refine sp_set12 ht hT_4 hw_4 (by omega) ?_
        have hP6_ : PS (up J4 (D 2) 15 (nbF b (te b c) 0 8)) (M4) D b n (te b (te b c)) (setT T 0 15 (nbF b (te b c) 0 8)) N (mo ||| 2 ^ 12) := hP4.upT1 (k := 0) (by decide) (by unfold twB; omega) (fun e => absurd e (by decide)) (Or.inr (by decide))
        have hF6_ : Fp I (up J4 (D 2) 15 (nbF b (te b c) 0 8)) (D 2) := (((Fp.refl.trans hF1).trans hFa3.p).trans hF4).upt ht (by omega)
        refine wp_gen (fun J => Fp I J (D 2) ∧ PS J (M4) D b n (te b (te b c)) (setT T 0 15 (nbF b (te b c) 0 8)) N (mo ||| 2 ^ 12)) ⟨hF6_, hP6_⟩ (fun J6 hJ6 => ?_)
        have hF6 := hJ6.1
        have hP6 := hJ6.2
        have hT_6 := hP6.2.2.2.1
        have hw_6 := hP6.tw
        have k4_6 := hP6.2.2.1.1
        have k5_6 := hP6.2.2.1.2.1
        have k6_6 := hP6.2.2.1.2.2.1.1
        have m4_6 := hP6.2.2.2.2.2.1
        have ki_6 := kC_in b (te b (te b c))
        have kw_6 := wi_in b (te b (te b c))
        have tr_6 := ts_rng b (te b (te b c))
        have l7_6 := hP6.2.2.1.2.2.2.2.1
        refine wp_eqst (st' := []) rfl ?_
        refine wp_iconst (pc := 51) dX4_settingLine_51 ?_
        refine wp_zret (pc := 52) dX4_settingLine_52 rfl rfl (by decide) ?_
        exact h1 _ _ _ (by unfold settF; rw [if_neg h_1]; (repeat (first | rw [if_pos (by omega)] | rw [if_neg (by omega)])); first | done | rfl) _ _ hF6 ((Lp.refl.trans hLa3.p).trans hL4) hP6
      · refine wp_iconst (pc := 39) dX4_settingLine_39 ?_
        refine wp_zret (pc := 40) dX4_settingLine_40 rfl rfl (by decide) ?_
        exfalso; omega
    · skip
      refine wp_eqst (st' := [vI (-1)]) rfl ?_
      refine wq_istore (pc := 31) [some (vR 44), some (vI 0), some (vI 8), some (vI 12), some (vI (-1))] dX4_settingLine_31 rfl (by decide) rfl ?_
      refine wp_iload (pc := 33) dX4_settingLine_33 rfl ?_
      refine wp_iconst (pc := 35) dX4_settingLine_35 ?_
      refine wp_icmp_ne (pc := 36) 41 dX4_settingLine_36 (by decide) (by decide) (by decide) (fun hh => absurd hh (by decide)) (fun _ => ?_)
      refine wp_iconst (pc := 39) dX4_settingLine_39 ?_
      refine wp_zret (pc := 40) dX4_settingLine_40 rfl rfl (by decide) ?_
      exact h0 _ (by unfold settF; rw [if_neg h_1]; (repeat (first | rw [if_pos (by omega)] | rw [if_neg (by omega)])); first | done | rfl) _ _ (((Fp.refl.trans hF1).trans hFa3.p).trans hF5) ((Lp.refl.trans hLa3.p).trans hL5) hE5
  · skip
    refine wp_eqst (st' := [vI 0]) rfl ?_
    refine wp_if_ne (pc := 13) 18 dX4_settingLine_13 (by decide) (by decide) (fun hh => absurd hh (by decide)) (fun _ => ?_)
    refine wp_iconst (pc := 16) dX4_settingLine_16 ?_
    refine wp_zret (pc := 17) dX4_settingLine_17 rfl rfl (by decide) ?_
    exact h0 _ (by unfold settF; rw [if_pos h_1]; (repeat (first | rw [if_pos (by omega)] | rw [if_neg (by omega)])); first | done | rfl) _ _ (Fp.refl.trans hF2) Lp.refl hE2

theorem sp_settingLine13 {l : Launch} {G : mG} {d : Nat} {I : mI} {L : Nat → Nat → Int} {D : Nat → Nat} {Q : mQ} {b : Nat → Int} {n c : Nat} {T N : mT} {mo : Nat}   (hP : PS I L D b n c T N mo) (hwi : wi b c = 13) (hd : 8 ≤ d) (h1 : ∀ c' T' N', settF b c T N mo 13 1 5 = .inr (c', T', N') → ∀ J M, Fp I J (D 2) → Lp L M (D 2) → PS J M D b n c' T' N' (mo ||| 2 ^ 13) → Q (some (vI 1)) J (XX M D)) (h0 : ∀ er, settF b c T N mo 13 1 5 = .inl er → ∀ J M, Fp I J (D 2) → Lp L M (D 2) → PE J M D b n er → Q (some (vI 0)) J (XX M D)) : WP l G m_X4_settingLine d 153 I (XX L D) 0 [some (vR 44), some (vI 1), some (vI 5), none, none] [] Q := by
  have ht := hP.1.1
  have g2 : D 2 = 1 ∨ D 2 = 21 := ht
  have hT := hP.2.2.2.1
  have hw := hP.tw
  have k4 := hP.2.2.1.1
  have k5 := hP.2.2.1.2.1
  have k6 := hP.2.2.1.2.2.1.1
  have m4 := hP.2.2.2.2.2.1
  have ki := kC_in b c
  have kw := wi_in b c
  have tr := ts_rng b c
  have l7 := hP.2.2.1.2.2.2.2.1
  have b_c := tw_c hw
  have b_p := tw_p hw
  have b_q := tw_q hw
  have b_v := tw_vows hw
  have eC : nC T = (T 0 11).toNat := rfl
  have eP : nP T = (T 0 12).toNat := rfl
  have eQ : nQ T = (T 0 13).toNat := rfl
  have kvw : I 41 6 = 13 := by rw [hP.2.2.1.2.2.1.2 (n3_w (by omega)), vC_w (wi_ts (by omega)), if_neg (by omega), hwi]
  refine wp_aload_n (pc := 0) 0 dX4_settingLine_0 rfl rfl ?_
  refine wp_getr (pc := 1) dX4_settingLine_1 rfl f_X4_15 kd_44 la_44 rfl (r_44_0 D) ?_
  refine wp_geti (pc := 4) dX4_settingLine_4 rfl f_X4_46 kd_41 la_41 (Or.inl rfl) ?_
  refine wp_eqst (st' := [vI 13]) (by rw [kvw]) ?_
  refine wq_istore_n (pc := 7) 3 [some (vR 44), some (vI 1), some (vI 5), some (vI 13), none] dX4_settingLine_7 rfl rfl (by decide) rfl ?_
  refine wp_aload_n (pc := 8) 0 dX4_settingLine_8 rfl rfl ?_
  refine wp_iload_n (pc := 9) 3 dX4_settingLine_9 rfl rfl ?_
  refine wp_callV (pc := 10) (st := []) (nf' := 153) [vI 13] [some (vR 44), some (vI 13)] dX4_settingLine_10 rfl c_X4_178 rfl kd_44 (by decide) rfl la_44 rfl (Nat.le_of_ble_eq_true rfl) rfl (Nat.le_of_ble_eq_true rfl) (by omega) (Nat.le_refl _) (Nat.le_refl _) ?_
  refine sp_isFirst 13 rfl hP (by omega) (by omega) (fun h_1 J1 hF1 hP1 => ?_) (fun h_1 J2 hF2 hE2 => ?_)
  · skip
    have hT_1 := hP1.2.2.2.1
    have hw_1 := hP1.tw
    have k4_1 := hP1.2.2.1.1
    have k5_1 := hP1.2.2.1.2.1
    have k6_1 := hP1.2.2.1.2.2.1.1
    have m4_1 := hP1.2.2.2.2.2.1
    have ki_1 := kC_in b c
    have kw_1 := wi_in b c
    have tr_1 := ts_rng b c
    have l7_1 := hP1.2.2.1.2.2.2.2.1
    refine wp_eqst (st' := [vI 1]) rfl ?_
    refine wp_if_ne (pc := 13) 18 dX4_settingLine_13 (by decide) (by decide) (fun _ => ?_) (fun hh => absurd hh (by decide))
    refine wp_aload_n (pc := 18) 0 dX4_settingLine_18 rfl rfl ?_
    refine wp_getr (pc := 19) dX4_settingLine_19 rfl f_X4_15 kd_44 la_44 rfl (r_44_0 D) ?_
    refine wp_callV (pc := 22) (st := []) (nf' := 153) [] [some (vR 41), none] dX4_settingLine_22 rfl c_X4_93 rfl kd_41 (by decide) rfl la_41 rfl (Nat.le_of_ble_eq_true rfl) rfl (Nat.le_of_ble_eq_true rfl) (by omega) (Nat.le_refl _) (Nat.le_refl _) ?_
    have n33 : ts b c ≠ 3 := (by first | exact n3_k (by omega) | exact n3_4 (by omega) | exact n3_w (by omega) | exact n3_s (by omega))
    refine sp_advance hP1.1.2.1 hP1.nx hP1.1.2.2.1 (hP1.2.2.1.2.2.2.1 n33) (by omega) (fun J3 M3 hFa3 hLa3 hTk3 => ?_)
    have hP3 := hP1.adv hP1.nx hFa3 hLa3 hTk3
    have hT_3 := hP3.2.2.2.1
    have hw_3 := hP3.tw
    have k4_3 := hP3.2.2.1.1
    have k5_3 := hP3.2.2.1.2.1
    have k6_3 := hP3.2.2.1.2.2.1.1
    have m4_3 := hP3.2.2.2.2.2.1
    have ki_3 := kC_in b (te b c)
    have kw_3 := wi_in b (te b c)
    have tr_3 := ts_rng b (te b c)
    have l7_3 := hP3.2.2.1.2.2.2.2.1
    refine wp_eqst (st' := []) rfl ?_
    refine wp_aload_n (pc := 25) 0 dX4_settingLine_25 rfl rfl ?_
    refine wp_iload_n (pc := 26) 1 dX4_settingLine_26 rfl rfl ?_
    refine wp_iload_n (pc := 27) 2 dX4_settingLine_27 rfl rfl ?_
    refine wp_callV (pc := 28) (st := []) (nf' := 153) [vI 1, vI 5] [some (vR 44), some (vI 1), some (vI 5), none] dX4_settingLine_28 rfl c_X4_150 rfl kd_44 (by decide) rfl la_44 rfl (Nat.le_of_ble_eq_true rfl) rfl (Nat.le_of_ble_eq_true rfl) (by omega) (Nat.le_refl _) (Nat.le_refl _) ?_
    refine sp_number hP3 (by decide) (by decide) (by omega) (fun h_2 J4 M4 hF4 hL4 hP4 => ?_) (fun h_2 J5 M5 hF5 hL5 hE5 => ?_)
    · skip
      have nb4 := nbF_ok (b := b) (c := te b c) (lo := 1) (hi := 5) (by decide) (by assumption)
      have hT_4 := hP4.2.2.2.1
      have hw_4 := hP4.tw
      have k4_4 := hP4.2.2.1.1
      have k5_4 := hP4.2.2.1.2.1
      have k6_4 := hP4.2.2.1.2.2.1.1
      have m4_4 := hP4.2.2.2.2.2.1
      have ki_4 := kC_in b (te b (te b c))
      have kw_4 := wi_in b (te b (te b c))
      have tr_4 := ts_rng b (te b (te b c))
      have l7_4 := hP4.2.2.1.2.2.2.2.1
      refine wp_eqst (st' := [vI (nbF b (te b c) 1 5)]) rfl ?_
      refine wq_istore (pc := 31) [some (vR 44), some (vI 1), some (vI 5), some (vI 13), some (vI (nbF b (te b c) 1 5))] dX4_settingLine_31 rfl (by decide) rfl ?_
      refine wp_iload (pc := 33) dX4_settingLine_33 rfl ?_
      refine wp_iconst (pc := 35) dX4_settingLine_35 ?_
      refine wp_icmp_ne (pc := 36) 41 dX4_settingLine_36 (by decide) (by omega) (by decide) (fun h_3 => ?_) (fun h_3 => ?_)
      · refine wp_aload_n (pc := 41) 0 dX4_settingLine_41 rfl rfl ?_
        refine wp_getr (pc := 42) dX4_settingLine_42 rfl f_X4_19 kd_44 la_44 rfl (r_44_1 D) ?_
        refine wp_iload_n (pc := 45) 3 dX4_settingLine_45 rfl rfl ?_
        refine wp_iload (pc := 46) dX4_settingLine_46 rfl ?_
        refine wp_callV (pc := 48) (st := []) (nf' := 153) [vI 13, vI (nbF b (te b c) 1 5)] [some (vR (D 2)), some (vI 13), some (vI (nbF b (te b c) 1 5))] dX4_settingLine_48 rfl c_X4_181 rfl (tk_0 ht) (by decide) rfl (tl_0 ht) rfl (Nat.le_of_ble_eq_true rfl) rfl (Nat.le_of_ble_eq_true rfl) (by omega) (Nat.le_refl _) (Nat.le_refl _) ?_
        refine sp_set13 ht hT_4 hw_4 (by omega) ?_
        have hP6_ : PS (up J4 (D 2) 16 (nbF b (te b c) 1 5)) (M4) D b n (te b (te b c)) (setT T 0 16 (nbF b (te b c) 1 5)) N (mo ||| 2 ^ 13) := hP4.upT1 (k := 0) (by decide) (by unfold twB; omega) (fun e => absurd e (by decide)) (Or.inr (by decide))
        have hF6_ : Fp I (up J4 (D 2) 16 (nbF b (te b c) 1 5)) (D 2) := (((Fp.refl.trans hF1).trans hFa3.p).trans hF4).upt ht (by omega)
        refine wp_gen (fun J => Fp I J (D 2) ∧ PS J (M4) D b n (te b (te b c)) (setT T 0 16 (nbF b (te b c) 1 5)) N (mo ||| 2 ^ 13)) ⟨hF6_, hP6_⟩ (fun J6 hJ6 => ?_)
        have hF6 := hJ6.1
        have hP6 := hJ6.2
        have hT_6 := hP6.2.2.2.1
        have hw_6 := hP6.tw
        have k4_6 := hP6.2.2.1.1
        have k5_6 := hP6.2.2.1.2.1
        have k6_6 := hP6.2.2.1.2.2.1.1
        have m4_6 := hP6.2.2.2.2.2.1
        have ki_6 := kC_in b (te b (te b c))
        have kw_6 := wi_in b (te b (te b c))
        have tr_6 := ts_rng b (te b (te b c))
        have l7_6 := hP6.2.2.1.2.2.2.2.1
        refine wp_eqst (st' := []) rfl ?_
        refine wp_iconst (pc := 51) dX4_settingLine_51 ?_
        refine wp_zret (pc := 52) dX4_settingLine_52 rfl rfl (by decide) ?_
        exact h1 _ _ _ (by unfold settF; rw [if_neg h_1]; (repeat (first | rw [if_pos (by omega)] | rw [if_neg (by omega)])); first | done | rfl) _ _ hF6 ((Lp.refl.trans hLa3.p).trans hL4) hP6
      · refine wp_iconst (pc := 39) dX4_settingLine_39 ?_
        refine wp_zret (pc := 40) dX4_settingLine_40 rfl rfl (by decide) ?_
        exfalso; omega
    · skip
      refine wp_eqst (st' := [vI (-1)]) rfl ?_
      refine wq_istore (pc := 31) [some (vR 44), some (vI 1), some (vI 5), some (vI 13), some (vI (-1))] dX4_settingLine_31 rfl (by decide) rfl ?_
      refine wp_iload (pc := 33) dX4_settingLine_33 rfl ?_
      refine wp_iconst (pc := 35) dX4_settingLine_35 ?_
      refine wp_icmp_ne (pc := 36) 41 dX4_settingLine_36 (by decide) (by decide) (by decide) (fun hh => absurd hh (by decide)) (fun _ => ?_)
      refine wp_iconst (pc := 39) dX4_settingLine_39 ?_
      refine wp_zret (pc := 40) dX4_settingLine_40 rfl rfl (by decide) ?_
      exact h0 _ (by unfold settF; rw [if_neg h_1]; (repeat (first | rw [if_pos (by omega)] | rw [if_neg (by omega)])); first | done | rfl) _ _ (((Fp.refl.trans hF1).trans hFa3.p).trans hF5) ((Lp.refl.trans hLa3.p).trans hL5) hE5
  · skip
    refine wp_eqst (st' := [vI 0]) rfl ?_
    refine wp_if_ne (pc := 13) 18 dX4_settingLine_13 (by decide) (by decide) (fun hh => absurd hh (by decide)) (fun _ => ?_)
    refine wp_iconst (pc := 16) dX4_settingLine_16 ?_
    refine wp_zret (pc := 17) dX4_settingLine_17 rfl rfl (by decide) ?_
    exact h0 _ (by unfold settF; rw [if_pos h_1]; (repeat (first | rw [if_pos (by omega)] | rw [if_neg (by omega)])); first | done | rfl) _ _ (Fp.refl.trans hF2) Lp.refl hE2

theorem sp_settingLine14 {l : Launch} {G : mG} {d : Nat} {I : mI} {L : Nat → Nat → Int} {D : Nat → Nat} {Q : mQ} {b : Nat → Int} {n c : Nat} {T N : mT} {mo : Nat}   (hP : PS I L D b n c T N mo) (hwi : wi b c = 14) (hd : 8 ≤ d) (h1 : ∀ c' T' N', settF b c T N mo 14 0 999 = .inr (c', T', N') → ∀ J M, Fp I J (D 2) → Lp L M (D 2) → PS J M D b n c' T' N' (mo ||| 2 ^ 14) → Q (some (vI 1)) J (XX M D)) (h0 : ∀ er, settF b c T N mo 14 0 999 = .inl er → ∀ J M, Fp I J (D 2) → Lp L M (D 2) → PE J M D b n er → Q (some (vI 0)) J (XX M D)) : WP l G m_X4_settingLine d 153 I (XX L D) 0 [some (vR 44), some (vI 0), some (vI 999), none, none] [] Q := by
  have ht := hP.1.1
  have g2 : D 2 = 1 ∨ D 2 = 21 := ht
  have hT := hP.2.2.2.1
  have hw := hP.tw
  have k4 := hP.2.2.1.1
  have k5 := hP.2.2.1.2.1
  have k6 := hP.2.2.1.2.2.1.1
  have m4 := hP.2.2.2.2.2.1
  have ki := kC_in b c
  have kw := wi_in b c
  have tr := ts_rng b c
  have l7 := hP.2.2.1.2.2.2.2.1
  have b_c := tw_c hw
  have b_p := tw_p hw
  have b_q := tw_q hw
  have b_v := tw_vows hw
  have eC : nC T = (T 0 11).toNat := rfl
  have eP : nP T = (T 0 12).toNat := rfl
  have eQ : nQ T = (T 0 13).toNat := rfl
  have kvw : I 41 6 = 14 := by rw [hP.2.2.1.2.2.1.2 (n3_w (by omega)), vC_w (wi_ts (by omega)), if_neg (by omega), hwi]
  refine wp_aload_n (pc := 0) 0 dX4_settingLine_0 rfl rfl ?_
  refine wp_getr (pc := 1) dX4_settingLine_1 rfl f_X4_15 kd_44 la_44 rfl (r_44_0 D) ?_
  refine wp_geti (pc := 4) dX4_settingLine_4 rfl f_X4_46 kd_41 la_41 (Or.inl rfl) ?_
  refine wp_eqst (st' := [vI 14]) (by rw [kvw]) ?_
  refine wq_istore_n (pc := 7) 3 [some (vR 44), some (vI 0), some (vI 999), some (vI 14), none] dX4_settingLine_7 rfl rfl (by decide) rfl ?_
  refine wp_aload_n (pc := 8) 0 dX4_settingLine_8 rfl rfl ?_
  refine wp_iload_n (pc := 9) 3 dX4_settingLine_9 rfl rfl ?_
  refine wp_callV (pc := 10) (st := []) (nf' := 153) [vI 14] [some (vR 44), some (vI 14)] dX4_settingLine_10 rfl c_X4_178 rfl kd_44 (by decide) rfl la_44 rfl (Nat.le_of_ble_eq_true rfl) rfl (Nat.le_of_ble_eq_true rfl) (by omega) (Nat.le_refl _) (Nat.le_refl _) ?_
  refine sp_isFirst 14 rfl hP (by omega) (by omega) (fun h_1 J1 hF1 hP1 => ?_) (fun h_1 J2 hF2 hE2 => ?_)
  · skip
    have hT_1 := hP1.2.2.2.1
    have hw_1 := hP1.tw
    have k4_1 := hP1.2.2.1.1
    have k5_1 := hP1.2.2.1.2.1
    have k6_1 := hP1.2.2.1.2.2.1.1
    have m4_1 := hP1.2.2.2.2.2.1
    have ki_1 := kC_in b c
    have kw_1 := wi_in b c
    have tr_1 := ts_rng b c
    have l7_1 := hP1.2.2.1.2.2.2.2.1
    refine wp_eqst (st' := [vI 1]) rfl ?_
    refine wp_if_ne (pc := 13) 18 dX4_settingLine_13 (by decide) (by decide) (fun _ => ?_) (fun hh => absurd hh (by decide))
    refine wp_aload_n (pc := 18) 0 dX4_settingLine_18 rfl rfl ?_
    refine wp_getr (pc := 19) dX4_settingLine_19 rfl f_X4_15 kd_44 la_44 rfl (r_44_0 D) ?_
    refine wp_callV (pc := 22) (st := []) (nf' := 153) [] [some (vR 41), none] dX4_settingLine_22 rfl c_X4_93 rfl kd_41 (by decide) rfl la_41 rfl (Nat.le_of_ble_eq_true rfl) rfl (Nat.le_of_ble_eq_true rfl) (by omega) (Nat.le_refl _) (Nat.le_refl _) ?_
    have n33 : ts b c ≠ 3 := (by first | exact n3_k (by omega) | exact n3_4 (by omega) | exact n3_w (by omega) | exact n3_s (by omega))
    refine sp_advance hP1.1.2.1 hP1.nx hP1.1.2.2.1 (hP1.2.2.1.2.2.2.1 n33) (by omega) (fun J3 M3 hFa3 hLa3 hTk3 => ?_)
    have hP3 := hP1.adv hP1.nx hFa3 hLa3 hTk3
    have hT_3 := hP3.2.2.2.1
    have hw_3 := hP3.tw
    have k4_3 := hP3.2.2.1.1
    have k5_3 := hP3.2.2.1.2.1
    have k6_3 := hP3.2.2.1.2.2.1.1
    have m4_3 := hP3.2.2.2.2.2.1
    have ki_3 := kC_in b (te b c)
    have kw_3 := wi_in b (te b c)
    have tr_3 := ts_rng b (te b c)
    have l7_3 := hP3.2.2.1.2.2.2.2.1
    refine wp_eqst (st' := []) rfl ?_
    refine wp_aload_n (pc := 25) 0 dX4_settingLine_25 rfl rfl ?_
    refine wp_iload_n (pc := 26) 1 dX4_settingLine_26 rfl rfl ?_
    refine wp_iload_n (pc := 27) 2 dX4_settingLine_27 rfl rfl ?_
    refine wp_callV (pc := 28) (st := []) (nf' := 153) [vI 0, vI 999] [some (vR 44), some (vI 0), some (vI 999), none] dX4_settingLine_28 rfl c_X4_150 rfl kd_44 (by decide) rfl la_44 rfl (Nat.le_of_ble_eq_true rfl) rfl (Nat.le_of_ble_eq_true rfl) (by omega) (Nat.le_refl _) (Nat.le_refl _) ?_
    refine sp_number hP3 (by decide) (by decide) (by omega) (fun h_2 J4 M4 hF4 hL4 hP4 => ?_) (fun h_2 J5 M5 hF5 hL5 hE5 => ?_)
    · skip
      have nb4 := nbF_ok (b := b) (c := te b c) (lo := 0) (hi := 999) (by decide) (by assumption)
      have hT_4 := hP4.2.2.2.1
      have hw_4 := hP4.tw
      have k4_4 := hP4.2.2.1.1
      have k5_4 := hP4.2.2.1.2.1
      have k6_4 := hP4.2.2.1.2.2.1.1
      have m4_4 := hP4.2.2.2.2.2.1
      have ki_4 := kC_in b (te b (te b c))
      have kw_4 := wi_in b (te b (te b c))
      have tr_4 := ts_rng b (te b (te b c))
      have l7_4 := hP4.2.2.1.2.2.2.2.1
      refine wp_eqst (st' := [vI (nbF b (te b c) 0 999)]) rfl ?_
      refine wq_istore (pc := 31) [some (vR 44), some (vI 0), some (vI 999), some (vI 14), some (vI (nbF b (te b c) 0 999))] dX4_settingLine_31 rfl (by decide) rfl ?_
      refine wp_iload (pc := 33) dX4_settingLine_33 rfl ?_
      refine wp_iconst (pc := 35) dX4_settingLine_35 ?_
      refine wp_icmp_ne (pc := 36) 41 dX4_settingLine_36 (by decide) (by omega) (by decide) (fun h_3 => ?_) (fun h_3 => ?_)
      · refine wp_aload_n (pc := 41) 0 dX4_settingLine_41 rfl rfl ?_
        refine wp_getr (pc := 42) dX4_settingLine_42 rfl f_X4_19 kd_44 la_44 rfl (r_44_1 D) ?_
        refine wp_iload_n (pc := 45) 3 dX4_settingLine_45 rfl rfl ?_
        refine wp_iload (pc := 46) dX4_settingLine_46 rfl ?_
        refine wp_callV (pc := 48) (st := []) (nf' := 153) [vI 14, vI (nbF b (te b c) 0 999)] [some (vR (D 2)), some (vI 14), some (vI (nbF b (te b c) 0 999))] dX4_settingLine_48 rfl c_X4_181 rfl (tk_0 ht) (by decide) rfl (tl_0 ht) rfl (Nat.le_of_ble_eq_true rfl) rfl (Nat.le_of_ble_eq_true rfl) (by omega) (Nat.le_refl _) (Nat.le_refl _) ?_
        refine sp_set14 ht hT_4 hw_4 (by omega) ?_
        have hP6_ : PS (up J4 (D 2) 17 (nbF b (te b c) 0 999)) (M4) D b n (te b (te b c)) (setT T 0 17 (nbF b (te b c) 0 999)) N (mo ||| 2 ^ 14) := hP4.upT1 (k := 0) (by decide) (by unfold twB; omega) (fun e => absurd e (by decide)) (Or.inr (by decide))
        have hF6_ : Fp I (up J4 (D 2) 17 (nbF b (te b c) 0 999)) (D 2) := (((Fp.refl.trans hF1).trans hFa3.p).trans hF4).upt ht (by omega)
        refine wp_gen (fun J => Fp I J (D 2) ∧ PS J (M4) D b n (te b (te b c)) (setT T 0 17 (nbF b (te b c) 0 999)) N (mo ||| 2 ^ 14)) ⟨hF6_, hP6_⟩ (fun J6 hJ6 => ?_)
        have hF6 := hJ6.1
        have hP6 := hJ6.2
        have hT_6 := hP6.2.2.2.1
        have hw_6 := hP6.tw
        have k4_6 := hP6.2.2.1.1
        have k5_6 := hP6.2.2.1.2.1
        have k6_6 := hP6.2.2.1.2.2.1.1
        have m4_6 := hP6.2.2.2.2.2.1
        have ki_6 := kC_in b (te b (te b c))
        have kw_6 := wi_in b (te b (te b c))
        have tr_6 := ts_rng b (te b (te b c))
        have l7_6 := hP6.2.2.1.2.2.2.2.1
        refine wp_eqst (st' := []) rfl ?_
        refine wp_iconst (pc := 51) dX4_settingLine_51 ?_
        refine wp_zret (pc := 52) dX4_settingLine_52 rfl rfl (by decide) ?_
        exact h1 _ _ _ (by unfold settF; rw [if_neg h_1]; (repeat (first | rw [if_pos (by omega)] | rw [if_neg (by omega)])); first | done | rfl) _ _ hF6 ((Lp.refl.trans hLa3.p).trans hL4) hP6
      · refine wp_iconst (pc := 39) dX4_settingLine_39 ?_
        refine wp_zret (pc := 40) dX4_settingLine_40 rfl rfl (by decide) ?_
        exfalso; omega
    · skip
      refine wp_eqst (st' := [vI (-1)]) rfl ?_
      refine wq_istore (pc := 31) [some (vR 44), some (vI 0), some (vI 999), some (vI 14), some (vI (-1))] dX4_settingLine_31 rfl (by decide) rfl ?_
      refine wp_iload (pc := 33) dX4_settingLine_33 rfl ?_
      refine wp_iconst (pc := 35) dX4_settingLine_35 ?_
      refine wp_icmp_ne (pc := 36) 41 dX4_settingLine_36 (by decide) (by decide) (by decide) (fun hh => absurd hh (by decide)) (fun _ => ?_)
      refine wp_iconst (pc := 39) dX4_settingLine_39 ?_
      refine wp_zret (pc := 40) dX4_settingLine_40 rfl rfl (by decide) ?_
      exact h0 _ (by unfold settF; rw [if_neg h_1]; (repeat (first | rw [if_pos (by omega)] | rw [if_neg (by omega)])); first | done | rfl) _ _ (((Fp.refl.trans hF1).trans hFa3.p).trans hF5) ((Lp.refl.trans hLa3.p).trans hL5) hE5
  · skip
    refine wp_eqst (st' := [vI 0]) rfl ?_
    refine wp_if_ne (pc := 13) 18 dX4_settingLine_13 (by decide) (by decide) (fun hh => absurd hh (by decide)) (fun _ => ?_)
    refine wp_iconst (pc := 16) dX4_settingLine_16 ?_
    refine wp_zret (pc := 17) dX4_settingLine_17 rfl rfl (by decide) ?_
    exact h0 _ (by unfold settF; rw [if_pos h_1]; (repeat (first | rw [if_pos (by omega)] | rw [if_neg (by omega)])); first | done | rfl) _ _ (Fp.refl.trans hF2) Lp.refl hE2
