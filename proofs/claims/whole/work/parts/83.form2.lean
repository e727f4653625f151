theorem lf_term {l : Launch} {G : mG} {dep d : Nat} {I : mI} {L : Nat → Nat → Int} {D : Nat → Nat} {Q : mQ} {b : Nat → Int} {n c : Nat} {T N : mT} {mo : Nat} {out : List Int} {un : Nat} (hdep : dep ≤ 7) (hY : FSp l G m_X4_unit 2 (7 * (8 - dep) + 4) 7 7 7 true 8 dep) (hl : out.length ≤ 9 * un) (hd : (7 * (8 - dep) + 5) ≤ d) (h1 : ∀ c' T' out' un', OKx b 6 6 6 true 8 dep c out un (c') (out') (un') → OF T' out' un' → TF T T' → ∀ J M, Fp I J (D 2) → Lp L M (D 2) → PS J M D b n c' T' N mo → Q (some (vI 1)) J (XX M D)) (h0 : ∀ c', BADx b 6 true dep c out un c' → ∀ J M, Fp I J (D 2) → Lp L M (D 2) → PE J M D b n (bad b c' 2) → Q (some (vI 0)) J (XX M D)) : ∀ k : Nat, k ≤ 1600 → ∀ (Jz : mI) (Mz : Nat → Nat → Int) (cz : Nat) (Tz : mT) (oz : List Int) (uz : Nat), k ≤ cz → OKx b 6 6 7 true 8 dep c out un cz oz uz → OF Tz oz uz → TF T Tz → Fp I Jz (D 2) → Lp L Mz (D 2) → PS Jz Mz D b n cz Tz N mo → WP l G m_X4_term d 153 Jz (XX Mz D) 8 [some (vR 44), some (vI (dep : Int)), some (vI 1), some (vI (k : Int)), none] [] Q := by
  refine loop_dn (fun k => ∀ (Jz : mI) (Mz : Nat → Nat → Int) (cz : Nat) (Tz : mT) (oz : List Int) (uz : Nat), k ≤ cz → OKx b 6 6 7 true 8 dep c out un cz oz uz → OF Tz oz uz → TF T Tz → Fp I Jz (D 2) → Lp L Mz (D 2) → PS Jz Mz D b n cz Tz N mo → WP l G m_X4_term d 153 Jz (XX Mz D) 8 [some (vR 44), some (vI (dep : Int)), some (vI 1), some (vI (k : Int)), none] [] Q) 1600 ?_ (fun k hk ih => ?_)
  · intro Jz Mz cz Tz oz uz hkz hKz hOz hTFz hFz hLz hPz
    have ht := hPz.1.1
    have g2 : D 2 = 1 ∨ D 2 = 21 := ht
    have hqz := hKz.1
    have hq4z := hqz.2.2.2.1
    have hq2z := hqz.2.1
    have hq3z : uz ≤ 30 := hqz.2.2.1
    have hT_z := hPz.2.2.2.1
    have hw_z := hPz.tw
    have k4_z := hPz.2.2.1.1
    have k5_z := hPz.2.2.1.2.1
    have k6_z := hPz.2.2.1.2.2.1.1
    have m4_z := hPz.2.2.2.2.2.1
    have ki_z := kC_in b cz
    have kw_z := wi_in b cz
    have tr_z := ts_rng b cz
    have l7_z := hPz.2.2.1.2.2.2.2.1
    have u3_z : Jz ((D 2) + 17) 3 = ((uz : Nat) : Int) := by rw [← hOz.2.1, ← hT_z]; rfl
    refine wp_iload_n (pc := 8) 3 dX4_term_8 rfl rfl ?_
    refine wp_sipush (pc := 9) dX4_term_9 (by decide) ?_
    refine wp_icmp_ge (pc := 12) 67 dX4_term_12 (by decide) (by decide) (by decide) (fun _ => ?_) (fun hh => absurd hh (by decide))
    refine wp_iload_n (pc := 67) 2 dX4_term_67 rfl rfl ?_
    refine wp_zret (pc := 68) dX4_term_68 rfl rfl (by decide) ?_
    have hse : sg b cz = 0 := by have z := (ts_end (g := Jz 42) (n := n) (c := cz) (by have := hPz.1.2.1.2.2; omega)).2; rw [← hPz.1.2.1.1] at z; exact z
    exact h1 _ _ _ _ (ok_mono hKz (Nat.le_refl _) (Nat.le_refl _) (Nat.le_refl _) (fun z => Or.inl z) (fun _ _ _ _ _ => Or.inl hse)) hOz hTFz _ _ hFz hLz hPz
  · intro Jz Mz cz Tz oz uz hkz hKz hOz hTFz hFz hLz hPz
    have ht := hPz.1.1
    have g2 : D 2 = 1 ∨ D 2 = 21 := ht
    have hqz := hKz.1
    have hq4z := hqz.2.2.2.1
    have hq2z := hqz.2.1
    have hq3z : uz ≤ 30 := hqz.2.2.1
    have hT_z := hPz.2.2.2.1
    have hw_z := hPz.tw
    have k4_z := hPz.2.2.1.1
    have k5_z := hPz.2.2.1.2.1
    have k6_z := hPz.2.2.1.2.2.1.1
    have m4_z := hPz.2.2.2.2.2.1
    have ki_z := kC_in b cz
    have kw_z := wi_in b cz
    have tr_z := ts_rng b cz
    have l7_z := hPz.2.2.1.2.2.2.2.1
    have u3_z : Jz ((D 2) + 17) 3 = ((uz : Nat) : Int) := by rw [← hOz.2.1, ← hT_z]; rfl
    refine wp_iload_n (pc := 8) 3 dX4_term_8 rfl rfl ?_
    refine wp_sipush (pc := 9) dX4_term_9 (by decide) ?_
    refine wp_icmp_ge (pc := 12) 67 dX4_term_12 (by decide) (by omega) (by decide) (fun h_1 => ?_) (fun h_1 => ?_)
    · refine wp_iload_n (pc := 67) 2 dX4_term_67 rfl rfl ?_
      refine wp_zret (pc := 68) dX4_term_68 rfl rfl (by decide) ?_
      have hse : sg b cz = 0 := by have z := (ts_end (g := Jz 42) (n := n) (c := cz) (by have := hPz.1.2.1.2.2; omega)).2; rw [← hPz.1.2.1.1] at z; exact z
      exact h1 _ _ _ _ (ok_mono hKz (Nat.le_refl _) (Nat.le_refl _) (Nat.le_refl _) (fun z => Or.inl z) (fun _ _ _ _ _ => Or.inl hse)) hOz hTFz _ _ hFz hLz hPz
    · refine wp_iload_n (pc := 15) 2 dX4_term_15 rfl rfl ?_
      refine wp_if_eq (pc := 16) 67 dX4_term_16 (by decide) (by decide) (fun hh => absurd hh (by decide)) (fun _ => ?_)
      refine wp_aload_n (pc := 19) 0 dX4_term_19 rfl rfl ?_
      refine wp_callV (pc := 20) (st := []) (nf' := 153) [] [some (vR 44)] dX4_term_20 rfl c_X4_222 rfl kd_44 (by decide) rfl la_44 rfl (Nat.le_of_ble_eq_true rfl) rfl (Nat.le_of_ble_eq_true rfl) (by omega) (Nat.le_refl _) (Nat.le_refl _) ?_
      refine wp_aload_n (pc := 0) 0 dX4_isTermSign_0 rfl rfl ?_
      refine wp_getr (pc := 1) dX4_isTermSign_1 rfl f_X4_15 kd_44 la_44 rfl (r_44_0 D) ?_
      refine wp_bipush (pc := 4) dX4_isTermSign_4 (by decide) ?_
      refine wp_callV (pc := 6) (st := []) (nf' := 153) [vI 42] [some (vR 41), some (vI 42)] dX4_isTermSign_6 rfl c_X4_191 rfl kd_41 (by decide) rfl la_41 rfl (Nat.le_of_ble_eq_true rfl) rfl (Nat.le_of_ble_eq_true rfl) (by omega) (Nat.le_refl _) (Nat.le_refl _) ?_
      refine sp_isSign hPz.2.2.1 (by decide) (by omega) (fun h_2 => ?_) (fun h_2 => ?_)
      · refine wp_eqst (st' := [vI 1]) rfl ?_
        refine wp_if_ne (pc := 9) 36 dX4_isTermSign_9 (by decide) (by decide) (fun _ => ?_) (fun hh => absurd hh (by decide))
        refine wp_iconst (pc := 36) dX4_isTermSign_36 ?_
        refine wp_goto (pc := 37) 41 dX4_isTermSign_37 (by decide) ?_
        refine wp_zret (pc := 41) dX4_isTermSign_41 rfl rfl (by decide) ?_
        refine wp_eqst (st' := [vI 1]) rfl ?_
        refine wp_if_eq (pc := 23) 67 dX4_term_23 (by decide) (by decide) (fun hh => absurd hh (by decide)) (fun _ => ?_)
        refine wp_aload_n (pc := 26) 0 dX4_term_26 rfl rfl ?_
        refine wp_getr (pc := 27) dX4_term_27 rfl f_X4_15 kd_44 la_44 rfl (r_44_0 D) ?_
        refine wp_geti (pc := 30) dX4_term_30 rfl f_X4_46 kd_41 la_41 (Or.inl rfl) ?_
        refine wp_eqst (st' := [vI (ts b cz)]) (by rw [hPz.2.2.1.2.2.1.2 (by omega), vC_s (by omega) (by omega)]) ?_
        refine wq_istore (pc := 33) [some (vR 44), some (vI (dep : Int)), some (vI 1), some (vI (k : Int)), some (vI (ts b cz))] dX4_term_33 rfl (by decide) rfl ?_
        refine wp_aload_n (pc := 35) 0 dX4_term_35 rfl rfl ?_
        refine wp_getr (pc := 36) dX4_term_36 rfl f_X4_15 kd_44 la_44 rfl (r_44_0 D) ?_
        refine wp_callV (pc := 39) (st := []) (nf' := 153) [] [some (vR 41), none] dX4_term_39 rfl c_X4_93 rfl kd_41 (by decide) rfl la_41 rfl (Nat.le_of_ble_eq_true rfl) rfl (Nat.le_of_ble_eq_true rfl) (by omega) (Nat.le_refl _) (Nat.le_refl _) ?_
        have n31 : ts b cz ≠ 3 := (by first | exact n3_k (by omega) | exact n3_4 (by omega) | exact n3_w (by omega) | exact n3_s (by omega) | exact n3_l (by omega))
        refine sp_advance hPz.1.2.1 hPz.nx hPz.1.2.2.1 (hPz.2.2.1.2.2.2.1 n31) (by omega) (fun J1 M1 hFa1 hLa1 hTk1 => ?_)
        have hP1 := hPz.adv hPz.nx hFa1 hLa1 hTk1
        have hT_1 := hP1.2.2.2.1
        have hw_1 := hP1.tw
        have k4_1 := hP1.2.2.1.1
        have k5_1 := hP1.2.2.1.2.1
        have k6_1 := hP1.2.2.1.2.2.1.1
        have m4_1 := hP1.2.2.2.2.2.1
        have ki_1 := kC_in b (te b cz)
        have kw_1 := wi_in b (te b cz)
        have tr_1 := ts_rng b (te b cz)
        have l7_1 := hP1.2.2.1.2.2.2.2.1
        have u3_1 : J1 ((D 2) + 17) 3 = ((uz : Nat) : Int) := by rw [← hOz.2.1, ← hT_1]; rfl
        refine wp_eqst (st' := []) rfl ?_
        refine wp_aload_n (pc := 42) 0 dX4_term_42 rfl rfl ?_
        refine wp_iload_n (pc := 43) 1 dX4_term_43 rfl rfl ?_
        refine wp_callV (pc := 44) (st := []) (nf' := 153) [vI (dep : Int)] [some (vR 44), some (vI (dep : Int)), none, none] dX4_term_44 rfl c_X4_219 rfl kd_44 (by decide) rfl la_44 rfl (Nat.le_of_ble_eq_true rfl) rfl (Nat.le_of_ble_eq_true rfl) (by omega) (Nat.le_refl _) (Nat.le_refl _) ?_
        refine wp_eqls (ls' := [some (vR 44), some (vI (dep : Int)), none, none]) rfl ?_
        refine hY _ _ _ _ _ _ _ _ _ _ _ _ _ hP1 hOz (show oz.length ≤ 9 * uz by omega) hq3z (by omega) (fun c2 T2 o2 u2 hK2 hO2 hTF2 J2 M2 hF2 hL2 hP2 => ?_) (fun c3 hK3 J3 M3 hF3 hL3 hE3 => ?_)
        · have hq2 := hK2.1
          have hq32 : u2 ≤ 30 := hq2.2.2.1
          have hq12 := hq2.1
          have hq22 := hq2.2.1
          have hq42 := hq2.2.2.2.1
          have hT_2 := hP2.2.2.2.1
          have hw_2 := hP2.tw
          have k4_2 := hP2.2.2.1.1
          have k5_2 := hP2.2.2.1.2.1
          have k6_2 := hP2.2.2.1.2.2.1.1
          have m4_2 := hP2.2.2.2.2.2.1
          have ki_2 := kC_in b c2
          have kw_2 := wi_in b c2
          have tr_2 := ts_rng b c2
          have l7_2 := hP2.2.2.1.2.2.2.2.1
          have u3_2 : J2 ((D 2) + 17) 3 = ((u2 : Nat) : Int) := by rw [← hO2.2.1, ← hT_2]; rfl
          refine wp_eqst (st' := [vI 1]) rfl ?_
          refine wq_istore_n (pc := 47) 2 [some (vR 44), some (vI (dep : Int)), some (vI 1), some (vI (k : Int)), some (vI (ts b cz))] dX4_term_47 rfl rfl (by decide) rfl ?_
          refine wp_aload_n (pc := 48) 0 dX4_term_48 rfl rfl ?_
          refine wp_getr (pc := 49) dX4_term_49 rfl f_X4_19 kd_44 la_44 rfl (r_44_1 D) ?_
          refine wp_getr (pc := 52) dX4_term_52 rfl f_X4_197 (tk_0 ht) (tl_0 ht) rfl (tr_0_10 D ht) ?_
          refine wp_iload (pc := 55) dX4_term_55 rfl ?_
          refine wp_ineg (pc := 57) dX4_term_57 ?_
          have ops := opc_s (s := ts b cz) (by omega)
          refine wp_eqst (st' := [vI (opc (ts b cz)), vR ((D 2) + 17)]) (by rw [ops]) ?_
          refine wp_callV (pc := 58) (st := []) (nf' := 153) [vI (opc (ts b cz))] [some (vR ((D 2) + 17)), some (vI (opc (ts b cz)))] dX4_term_58 rfl c_X4_203 rfl (tk_17 ht) (by decide) rfl (tl_17 ht) rfl (Nat.le_of_ble_eq_true rfl) rfl (Nat.le_of_ble_eq_true rfl) (by omega) (Nat.le_refl _) (Nat.le_refl _) ?_
          refine sp_fadd hP2.1 hT_2 (by omega) (by omega) (fun J4 hA4 => ?_)
          have hP4 := hP2.add hA4
          have hO4 := addT_O (code := opc (ts b cz)) hO2 (by omega)
          have hT_4 := hP4.2.2.2.1
          have hw_4 := hP4.tw
          have k4_4 := hP4.2.2.1.1
          have k5_4 := hP4.2.2.1.2.1
          have k6_4 := hP4.2.2.1.2.2.1.1
          have m4_4 := hP4.2.2.2.2.2.1
          have ki_4 := kC_in b c2
          have kw_4 := wi_in b c2
          have tr_4 := ts_rng b c2
          have l7_4 := hP4.2.2.1.2.2.2.2.1
          have u3_4 : J4 ((D 2) + 17) 3 = ((u2 : Nat) : Int) := by rw [← hO4.2.1, ← hT_4]; rfl
          refine wp_eqst (st' := []) rfl ?_
          refine wq_iinc (pc := 61) [some (vR 44), some (vI (dep : Int)), some (vI 1), some (vI ((k : Int) + 1)), some (vI (ts b cz))] dX4_term_61 rfl rfl (by decide) rfl ?_
          refine wp_goto (pc := 64) 8 dX4_term_64 (by decide) ?_
          refine wp_none 4 [some (vR 44), some (vI (dep : Int)), some (vI 1), some (vI ((k : Int) + 1)), none] rfl ?_
          have hltz := (hPz.lt (by first | omega | (have z := @wi_ts b cz (by omega); omega)))
          exact wp_eqls (ls' := [some (vR 44), some (vI (dep : Int)), some (vI 1), some (vI (((k + 1) : Nat) : Int)), none]) rfl (ih _ _ _ _ _ _ (by omega) (ok_bin (s := (ts b cz)) (l := 6) hKz (Nat.le_refl _) (by decide) (sg_s (by omega)) (by omega) ((tg_s (s := ts b cz)).2.1 (by omega)) (fun _ _ _ _ z => by have z1 := (tg_s (s := ts b cz)).2.1 (by omega); omega) hltz hK2 (by decide) (by decide) (fun _ => by rw [(tg_s (s := ts b cz)).2.1 (by omega)]; decide) (by decide) (fun _ _ _ e => e)) hO4 ((hTFz.trans hTF2).trans addT_F) (((hFz.trans hFa1.p).trans hF2).trans hA4.1) ((hLz.trans hLa1.p).trans hL2) hP4)
        · skip
          refine wp_eqst (st' := [vI 0]) rfl ?_
          refine wq_istore_n (pc := 47) 2 [some (vR 44), some (vI (dep : Int)), some (vI 0), some (vI (k : Int)), some (vI (ts b cz))] dX4_term_47 rfl rfl (by decide) rfl ?_
          refine wp_aload_n (pc := 48) 0 dX4_term_48 rfl rfl ?_
          refine wp_getr (pc := 49) dX4_term_49 rfl f_X4_19 kd_44 la_44 rfl (r_44_1 D) ?_
          refine wp_getr (pc := 52) dX4_term_52 rfl f_X4_197 (tk_0 ht) (tl_0 ht) rfl (tr_0_10 D ht) ?_
          refine wp_iload (pc := 55) dX4_term_55 rfl ?_
          refine wp_ineg (pc := 57) dX4_term_57 ?_
          have ops := opc_s (s := ts b cz) (by omega)
          refine wp_eqst (st' := [vI (opc (ts b cz)), vR ((D 2) + 17)]) (by rw [ops]) ?_
          refine wp_callV (pc := 58) (st := []) (nf' := 153) [vI (opc (ts b cz))] [some (vR ((D 2) + 17)), some (vI (opc (ts b cz)))] dX4_term_58 rfl c_X4_203 rfl (tk_17 ht) (by decide) rfl (tl_17 ht) rfl (Nat.le_of_ble_eq_true rfl) rfl (Nat.le_of_ble_eq_true rfl) (by omega) (Nat.le_refl _) (Nat.le_refl _) ?_
          refine sp_fadd (T := TT J3 (D 2)) hE3.1 rfl (by omega) (by omega) (fun J5 hA5 => ?_)
          refine wp_eqst (st' := []) rfl ?_
          refine wq_iinc (pc := 61) [some (vR 44), some (vI (dep : Int)), some (vI 0), some (vI ((k : Int) + 1)), some (vI (ts b cz))] dX4_term_61 rfl rfl (by decide) rfl ?_
          refine wp_goto (pc := 64) 8 dX4_term_64 (by decide) ?_
          refine wp_iload_n (pc := 8) 3 dX4_term_8 rfl rfl ?_
          refine wp_sipush (pc := 9) dX4_term_9 (by decide) ?_
          refine wp_icmp_ge (pc := 12) 67 dX4_term_12 (by decide) (by omega) (by decide) (fun h_3 => ?_) (fun h_3 => ?_)
          · refine wp_iload_n (pc := 67) 2 dX4_term_67 rfl rfl ?_
            refine wp_zret (pc := 68) dX4_term_68 rfl rfl (by decide) ?_
            exact h0 _ (bad_bin (s := (ts b cz)) (l := 6) hKz (Nat.le_refl _) (by decide) (sg_s (by omega)) (by omega) ((tg_s (s := ts b cz)).2.1 (by omega)) (fun _ _ _ _ z => by have z1 := (tg_s (s := ts b cz)).2.1 (by omega); omega) hK3 (by decide) (fun _ => by rw [(tg_s (s := ts b cz)).2.1 (by omega)]; decide)) _ _ (((hFz.trans hFa1.p).trans hF3).trans hA5.1) ((hLz.trans hLa1.p).trans hL3) (hE3.add hA5)
          · refine wp_iload_n (pc := 15) 2 dX4_term_15 rfl rfl ?_
            refine wp_if_eq (pc := 16) 67 dX4_term_16 (by decide) (by decide) (fun _ => ?_) (fun hh => absurd hh (by decide))
            refine wp_iload_n (pc := 67) 2 dX4_term_67 rfl rfl ?_
            refine wp_zret (pc := 68) dX4_term_68 rfl rfl (by decide) ?_
            exact h0 _ (bad_bin (s := (ts b cz)) (l := 6) hKz (Nat.le_refl _) (by decide) (sg_s (by omega)) (by omega) ((tg_s (s := ts b cz)).2.1 (by omega)) (fun _ _ _ _ z => by have z1 := (tg_s (s := ts b cz)).2.1 (by omega); omega) hK3 (by decide) (fun _ => by rw [(tg_s (s := ts b cz)).2.1 (by omega)]; decide)) _ _ (((hFz.trans hFa1.p).trans hF3).trans hA5.1) ((hLz.trans hLa1.p).trans hL3) (hE3.add hA5)
      · refine wp_eqst (st' := [vI 0]) rfl ?_
        refine wp_if_ne (pc := 9) 36 dX4_isTermSign_9 (by decide) (by decide) (fun hh => absurd hh (by decide)) (fun _ => ?_)
        refine wp_aload_n (pc := 12) 0 dX4_isTermSign_12 rfl rfl ?_
        refine wp_getr (pc := 13) dX4_isTermSign_13 rfl f_X4_15 kd_44 la_44 rfl (r_44_0 D) ?_
        refine wp_bipush (pc := 16) dX4_isTermSign_16 (by decide) ?_
        refine wp_callV (pc := 18) (st := []) (nf' := 153) [vI 47] [some (vR 41), some (vI 47)] dX4_isTermSign_18 rfl c_X4_191 rfl kd_41 (by decide) rfl la_41 rfl (Nat.le_of_ble_eq_true rfl) rfl (Nat.le_of_ble_eq_true rfl) (by omega) (Nat.le_refl _) (Nat.le_refl _) ?_
        refine sp_isSign hPz.2.2.1 (by decide) (by omega) (fun h_4 => ?_) (fun h_4 => ?_)
        · refine wp_eqst (st' := [vI 1]) rfl ?_
          refine wp_if_ne (pc := 21) 36 dX4_isTermSign_21 (by decide) (by decide) (fun _ => ?_) (fun hh => absurd hh (by decide))
          refine wp_iconst (pc := 36) dX4_isTermSign_36 ?_
          refine wp_goto (pc := 37) 41 dX4_isTermSign_37 (by decide) ?_
          refine wp_zret (pc := 41) dX4_isTermSign_41 rfl rfl (by decide) ?_
          refine wp_eqst (st' := [vI 1]) rfl ?_
          refine wp_if_eq (pc := 23) 67 dX4_term_23 (by decide) (by decide) (fun hh => absurd hh (by decide)) (fun _ => ?_)
          refine wp_aload_n (pc := 26) 0 dX4_term_26 rfl rfl ?_
          refine wp_getr (pc := 27) dX4_term_27 rfl f_X4_15 kd_44 la_44 rfl (r_44_0 D) ?_
          refine wp_geti (pc := 30) dX4_term_30 rfl f_X4_46 kd_41 la_41 (Or.inl rfl) ?_
          refine wp_eqst (st' := [vI (ts b cz)]) (by rw [hPz.2.2.1.2.2.1.2 (by omega), vC_s (by omega) (by omega)]) ?_
          refine wq_istore (pc := 33) [some (vR 44), some (vI (dep : Int)), some (vI 1), some (vI (k : Int)), some (vI (ts b cz))] dX4_term_33 rfl (by decide) rfl ?_
          refine wp_aload_n (pc := 35) 0 dX4_term_35 rfl rfl ?_
          refine wp_getr (pc := 36) dX4_term_36 rfl f_X4_15 kd_44 la_44 rfl (r_44_0 D) ?_
          refine wp_callV (pc := 39) (st := []) (nf' := 153) [] [some (vR 41), none] dX4_term_39 rfl c_X4_93 rfl kd_41 (by decide) rfl la_41 rfl (Nat.le_of_ble_eq_true rfl) rfl (Nat.le_of_ble_eq_true rfl) (by omega) (Nat.le_refl _) (Nat.le_refl _) ?_
          have n36 : ts b cz ≠ 3 := (by first | exact n3_k (by omega) | exact n3_4 (by omega) | exact n3_w (by omega) | exact n3_s (by omega) | exact n3_l (by omega))
          refine sp_advance hPz.1.2.1 hPz.nx hPz.1.2.2.1 (hPz.2.2.1.2.2.2.1 n36) (by omega) (fun J6 M6 hFa6 hLa6 hTk6 => ?_)
          have hP6 := hPz.adv hPz.nx hFa6 hLa6 hTk6
          have hT_6 := hP6.2.2.2.1
          have hw_6 := hP6.tw
          have k4_6 := hP6.2.2.1.1
          have k5_6 := hP6.2.2.1.2.1
          have k6_6 := hP6.2.2.1.2.2.1.1
          have m4_6 := hP6.2.2.2.2.2.1
          have ki_6 := kC_in b (te b cz)
          have kw_6 := wi_in b (te b cz)
          have tr_6 := ts_rng b (te b cz)
          have l7_6 := hP6.2.2.1.2.2.2.2.1
          have u3_6 : J6 ((D 2) + 17) 3 = ((uz : Nat) : Int) := by rw [← hOz.2.1, ← hT_6]; rfl
          refine wp_eqst (st' := []) rfl ?_
          refine wp_aload_n (pc := 42) 0 dX4_term_42 rfl rfl ?_
          refine wp_iload_n (pc := 43) 1 dX4_term_43 rfl rfl ?_
          refine wp_callV (pc := 44) (st := []) (nf' := 153) [vI (dep : Int)] [some (vR 44), some (vI (dep : Int)), none, none] dX4_term_44 rfl c_X4_219 rfl kd_44 (by decide) rfl la_44 rfl (Nat.le_of_ble_eq_true rfl) rfl (Nat.le_of_ble_eq_true rfl) (by omega) (Nat.le_refl _) (Nat.le_refl _) ?_
          refine wp_eqls (ls' := [some (vR 44), some (vI (dep : Int)), none, none]) rfl ?_
          refine hY _ _ _ _ _ _ _ _ _ _ _ _ _ hP6 hOz (show oz.length ≤ 9 * uz by omega) hq3z (by omega) (fun c7 T7 o7 u7 hK7 hO7 hTF7 J7 M7 hF7 hL7 hP7 => ?_) (fun c8 hK8 J8 M8 hF8 hL8 hE8 => ?_)
          · have hq7 := hK7.1
            have hq37 : u7 ≤ 30 := hq7.2.2.1
            have hq17 := hq7.1
            have hq27 := hq7.2.1
            have hq47 := hq7.2.2.2.1
            have hT_7 := hP7.2.2.2.1
            have hw_7 := hP7.tw
            have k4_7 := hP7.2.2.1.1
            have k5_7 := hP7.2.2.1.2.1
            have k6_7 := hP7.2.2.1.2.2.1.1
            have m4_7 := hP7.2.2.2.2.2.1
            have ki_7 := kC_in b c7
            have kw_7 := wi_in b c7
            have tr_7 := ts_rng b c7
            have l7_7 := hP7.2.2.1.2.2.2.2.1
            have u3_7 : J7 ((D 2) + 17) 3 = ((u7 : Nat) : Int) := by rw [← hO7.2.1, ← hT_7]; rfl
            refine wp_eqst (st' := [vI 1]) rfl ?_
            refine wq_istore_n (pc := 47) 2 [some (vR 44), some (vI (dep : Int)), some (vI 1), some (vI (k : Int)), some (vI (ts b cz))] dX4_term_47 rfl rfl (by decide) rfl ?_
            refine wp_aload_n (pc := 48) 0 dX4_term_48 rfl rfl ?_
            refine wp_getr (pc := 49) dX4_term_49 rfl f_X4_19 kd_44 la_44 rfl (r_44_1 D) ?_
            refine wp_getr (pc := 52) dX4_term_52 rfl f_X4_197 (tk_0 ht) (tl_0 ht) rfl (tr_0_10 D ht) ?_
            refine wp_iload (pc := 55) dX4_term_55 rfl ?_
            refine wp_ineg (pc := 57) dX4_term_57 ?_
            have ops := opc_s (s := ts b cz) (by omega)
            refine wp_eqst (st' := [vI (opc (ts b cz)), vR ((D 2) + 17)]) (by rw [ops]) ?_
            refine wp_callV (pc := 58) (st := []) (nf' := 153) [vI (opc (ts b cz))] [some (vR ((D 2) + 17)), some (vI (opc (ts b cz)))] dX4_term_58 rfl c_X4_203 rfl (tk_17 ht) (by decide) rfl (tl_17 ht) rfl (Nat.le_of_ble_eq_true rfl) rfl (Nat.le_of_ble_eq_true rfl) (by omega) (Nat.le_refl _) (Nat.le_refl _) ?_
            refine sp_fadd hP7.1 hT_7 (by omega) (by omega) (fun J9 hA9 => ?_)
            have hP9 := hP7.add hA9
            have hO9 := addT_O (code := opc (ts b cz)) hO7 (by omega)
            have hT_9 := hP9.2.2.2.1
            have hw_9 := hP9.tw
            have k4_9 := hP9.2.2.1.1
            have k5_9 := hP9.2.2.1.2.1
            have k6_9 := hP9.2.2.1.2.2.1.1
            have m4_9 := hP9.2.2.2.2.2.1
            have ki_9 := kC_in b c7
            have kw_9 := wi_in b c7
            have tr_9 := ts_rng b c7
            have l7_9 := hP9.2.2.1.2.2.2.2.1
            have u3_9 : J9 ((D 2) + 17) 3 = ((u7 : Nat) : Int) := by rw [← hO9.2.1, ← hT_9]; rfl
            refine wp_eqst (st' := []) rfl ?_
            refine wq_iinc (pc := 61) [some (vR 44), some (vI (dep : Int)), some (vI 1), some (vI ((k : Int) + 1)), some (vI (ts b cz))] dX4_term_61 rfl rfl (by decide) rfl ?_
            refine wp_goto (pc := 64) 8 dX4_term_64 (by decide) ?_
            refine wp_none 4 [some (vR 44), some (vI (dep : Int)), some (vI 1), some (vI ((k : Int) + 1)), none] rfl ?_
            have hltz := (hPz.lt (by first | omega | (have z := @wi_ts b cz (by omega); omega)))
            exact wp_eqls (ls' := [some (vR 44), some (vI (dep : Int)), some (vI 1), some (vI (((k + 1) : Nat) : Int)), none]) rfl (ih _ _ _ _ _ _ (by omega) (ok_bin (s := (ts b cz)) (l := 6) hKz (Nat.le_refl _) (by decide) (sg_s (by omega)) (by omega) ((tg_s (s := ts b cz)).2.1 (by omega)) (fun _ _ _ _ z => by have z1 := (tg_s (s := ts b cz)).2.1 (by omega); omega) hltz hK7 (by decide) (by decide) (fun _ => by rw [(tg_s (s := ts b cz)).2.1 (by omega)]; decide) (by decide) (fun _ _ _ e => e)) hO9 ((hTFz.trans hTF7).trans addT_F) (((hFz.trans hFa6.p).trans hF7).trans hA9.1) ((hLz.trans hLa6.p).trans hL7) hP9)
          · skip
            refine wp_eqst (st' := [vI 0]) rfl ?_
            refine wq_istore_n (pc := 47) 2 [some (vR 44), some (vI (dep : Int)), some (vI 0), some (vI (k : Int)), some (vI (ts b cz))] dX4_term_47 rfl rfl (by decide) rfl ?_
            refine wp_aload_n (pc := 48) 0 dX4_term_48 rfl rfl ?_
            refine wp_getr (pc := 49) dX4_term_49 rfl f_X4_19 kd_44 la_44 rfl (r_44_1 D) ?_
            refine wp_getr (pc := 52) dX4_term_52 rfl f_X4_197 (tk_0 ht) (tl_0 ht) rfl (tr_0_10 D ht) ?_
            refine wp_iload (pc := 55) dX4_term_55 rfl ?_
            refine wp_ineg (pc := 57) dX4_term_57 ?_
            have ops := opc_s (s := ts b cz) (by omega)
            refine wp_eqst (st' := [vI (opc (ts b cz)), vR ((D 2) + 17)]) (by rw [ops]) ?_
            refine wp_callV (pc := 58) (st := []) (nf' := 153) [vI (opc (ts b cz))] [some (vR ((D 2) + 17)), some (vI (opc (ts b cz)))] dX4_term_58 rfl c_X4_203 rfl (tk_17 ht) (by decide) rfl (tl_17 ht) rfl (Nat.le_of_ble_eq_true rfl) rfl (Nat.le_of_ble_eq_true rfl) (by omega) (Nat.le_refl _) (Nat.le_refl _) ?_
            refine sp_fadd (T := TT J8 (D 2)) hE8.1 rfl (by omega) (by omega) (fun J10 hA10 => ?_)
            refine wp_eqst (st' := []) rfl ?_
            refine wq_iinc (pc := 61) [some (vR 44), some (vI (dep : Int)), some (vI 0), some (vI ((k : Int) + 1)), some (vI (ts b cz))] dX4_term_61 rfl rfl (by decide) rfl ?_
            refine wp_goto (pc := 64) 8 dX4_term_64 (by decide) ?_
            refine wp_iload_n (pc := 8) 3 dX4_term_8 rfl rfl ?_
            refine wp_sipush (pc := 9) dX4_term_9 (by decide) ?_
            refine wp_icmp_ge (pc := 12) 67 dX4_term_12 (by decide) (by omega) (by decide) (fun h_5 => ?_) (fun h_5 => ?_)
            · refine wp_iload_n (pc := 67) 2 dX4_term_67 rfl rfl ?_
              refine wp_zret (pc := 68) dX4_term_68 rfl rfl (by decide) ?_
              exact h0 _ (bad_bin (s := (ts b cz)) (l := 6) hKz (Nat.le_refl _) (by decide) (sg_s (by omega)) (by omega) ((tg_s (s := ts b cz)).2.1 (by omega)) (fun _ _ _ _ z => by have z1 := (tg_s (s := ts b cz)).2.1 (by omega); omega) hK8 (by decide) (fun _ => by rw [(tg_s (s := ts b cz)).2.1 (by omega)]; decide)) _ _ (((hFz.trans hFa6.p).trans hF8).trans hA10.1) ((hLz.trans hLa6.p).trans hL8) (hE8.add hA10)
            · refine wp_iload_n (pc := 15) 2 dX4_term_15 rfl rfl ?_
              refine wp_if_eq (pc := 16) 67 dX4_term_16 (by decide) (by decide) (fun _ => ?_) (fun hh => absurd hh (by decide))
              refine wp_iload_n (pc := 67) 2 dX4_term_67 rfl rfl ?_
              refine wp_zret (pc := 68) dX4_term_68 rfl rfl (by decide) ?_
              exact h0 _ (bad_bin (s := (ts b cz)) (l := 6) hKz (Nat.le_refl _) (by decide) (sg_s (by omega)) (by omega) ((tg_s (s := ts b cz)).2.1 (by omega)) (fun _ _ _ _ z => by have z1 := (tg_s (s := ts b cz)).2.1 (by omega); omega) hK8 (by decide) (fun _ => by rw [(tg_s (s := ts b cz)).2.1 (by omega)]; decide)) _ _ (((hFz.trans hFa6.p).trans hF8).trans hA10.1) ((hLz.trans hLa6.p).trans hL8) (hE8.add hA10)
        · refine wp_eqst (st' := [vI 0]) rfl ?_
          refine wp_if_ne (pc := 21) 36 dX4_isTermSign_21 (by decide) (by decide) (fun hh => absurd hh (by decide)) (fun _ => ?_)
          refine wp_aload_n (pc := 24) 0 dX4_isTermSign_24 rfl rfl ?_
          refine wp_getr (pc := 25) dX4_isTermSign_25 rfl f_X4_15 kd_44 la_44 rfl (r_44_0 D) ?_
          refine wp_bipush (pc := 28) dX4_isTermSign_28 (by decide) ?_
          refine wp_callV (pc := 30) (st := []) (nf' := 153) [vI 37] [some (vR 41), some (vI 37)] dX4_isTermSign_30 rfl c_X4_191 rfl kd_41 (by decide) rfl la_41 rfl (Nat.le_of_ble_eq_true rfl) rfl (Nat.le_of_ble_eq_true rfl) (by omega) (Nat.le_refl _) (Nat.le_refl _) ?_
          refine sp_isSign hPz.2.2.1 (by decide) (by omega) (fun h_6 => ?_) (fun h_6 => ?_)
          · refine wp_eqst (st' := [vI 1]) rfl ?_
            refine wp_if_eq (pc := 33) 40 dX4_isTermSign_33 (by decide) (by decide) (fun hh => absurd hh (by decide)) (fun _ => ?_)
            refine wp_iconst (pc := 36) dX4_isTermSign_36 ?_
            refine wp_goto (pc := 37) 41 dX4_isTermSign_37 (by decide) ?_
            refine wp_zret (pc := 41) dX4_isTermSign_41 rfl rfl (by decide) ?_
            refine wp_eqst (st' := [vI 1]) rfl ?_
            refine wp_if_eq (pc := 23) 67 dX4_term_23 (by decide) (by decide) (fun hh => absurd hh (by decide)) (fun _ => ?_)
            refine wp_aload_n (pc := 26) 0 dX4_term_26 rfl rfl ?_
            refine wp_getr (pc := 27) dX4_term_27 rfl f_X4_15 kd_44 la_44 rfl (r_44_0 D) ?_
            refine wp_geti (pc := 30) dX4_term_30 rfl f_X4_46 kd_41 la_41 (Or.inl rfl) ?_
            refine wp_eqst (st' := [vI (ts b cz)]) (by rw [hPz.2.2.1.2.2.1.2 (by omega), vC_s (by omega) (by omega)]) ?_
            refine wq_istore (pc := 33) [some (vR 44), some (vI (dep : Int)), some (vI 1), some (vI (k : Int)), some (vI (ts b cz))] dX4_term_33 rfl (by decide) rfl ?_
            refine wp_aload_n (pc := 35) 0 dX4_term_35 rfl rfl ?_
            refine wp_getr (pc := 36) dX4_term_36 rfl f_X4_15 kd_44 la_44 rfl (r_44_0 D) ?_
            refine wp_callV (pc := 39) (st := []) (nf' := 153) [] [some (vR 41), none] dX4_term_39 rfl c_X4_93 rfl kd_41 (by decide) rfl la_41 rfl (Nat.le_of_ble_eq_true rfl) rfl (Nat.le_of_ble_eq_true rfl) (by omega) (Nat.le_refl _) (Nat.le_refl _) ?_
            have n311 : ts b cz ≠ 3 := (by first | exact n3_k (by omega) | exact n3_4 (by omega) | exact n3_w (by omega) | exact n3_s (by omega) | exact n3_l (by omega))
            refine sp_advance hPz.1.2.1 hPz.nx hPz.1.2.2.1 (hPz.2.2.1.2.2.2.1 n311) (by omega) (fun J11 M11 hFa11 hLa11 hTk11 => ?_)
            have hP11 := hPz.adv hPz.nx hFa11 hLa11 hTk11
            have hT_11 := hP11.2.2.2.1
            have hw_11 := hP11.tw
            have k4_11 := hP11.2.2.1.1
            have k5_11 := hP11.2.2.1.2.1
            have k6_11 := hP11.2.2.1.2.2.1.1
            have m4_11 := hP11.2.2.2.2.2.1
            have ki_11 := kC_in b (te b cz)
            have kw_11 := wi_in b (te b cz)
            have tr_11 := ts_rng b (te b cz)
            have l7_11 := hP11.2.2.1.2.2.2.2.1
            have u3_11 : J11 ((D 2) + 17) 3 = ((uz : Nat) : Int) := by rw [← hOz.2.1, ← hT_11]; rfl
            refine wp_eqst (st' := []) rfl ?_
            refine wp_aload_n (pc := 42) 0 dX4_term_42 rfl rfl ?_
            refine wp_iload_n (pc := 43) 1 dX4_term_43 rfl rfl ?_
            refine wp_callV (pc := 44) (st := []) (nf' := 153) [vI (dep : Int)] [some (vR 44), some (vI (dep : Int)), none, none] dX4_term_44 rfl c_X4_219 rfl kd_44 (by decide) rfl la_44 rfl (Nat.le_of_ble_eq_true rfl) rfl (Nat.le_of_ble_eq_true rfl) (by omega) (Nat.le_refl _) (Nat.le_refl _) ?_
            refine wp_eqls (ls' := [some (vR 44), some (vI (dep : Int)), none, none]) rfl ?_
            refine hY _ _ _ _ _ _ _ _ _ _ _ _ _ hP11 hOz (show oz.length ≤ 9 * uz by omega) hq3z (by omega) (fun c12 T12 o12 u12 hK12 hO12 hTF12 J12 M12 hF12 hL12 hP12 => ?_) (fun c13 hK13 J13 M13 hF13 hL13 hE13 => ?_)
            · have hq12 := hK12.1
              have hq312 : u12 ≤ 30 := hq12.2.2.1
              have hq112 := hq12.1
              have hq212 := hq12.2.1
              have hq412 := hq12.2.2.2.1
              have hT_12 := hP12.2.2.2.1
              have hw_12 := hP12.tw
              have k4_12 := hP12.2.2.1.1
              have k5_12 := hP12.2.2.1.2.1
              have k6_12 := hP12.2.2.1.2.2.1.1
              have m4_12 := hP12.2.2.2.2.2.1
              have ki_12 := kC_in b c12
              have kw_12 := wi_in b c12
              have tr_12 := ts_rng b c12
              have l7_12 := hP12.2.2.1.2.2.2.2.1
              have u3_12 : J12 ((D 2) + 17) 3 = ((u12 : Nat) : Int) := by rw [← hO12.2.1, ← hT_12]; rfl
              refine wp_eqst (st' := [vI 1]) rfl ?_
              refine wq_istore_n (pc := 47) 2 [some (vR 44), some (vI (dep : Int)), some (vI 1), some (vI (k : Int)), some (vI (ts b cz))] dX4_term_47 rfl rfl (by decide) rfl ?_
              refine wp_aload_n (pc := 48) 0 dX4_term_48 rfl rfl ?_
              refine wp_getr (pc := 49) dX4_term_49 rfl f_X4_19 kd_44 la_44 rfl (r_44_1 D) ?_
              refine wp_getr (pc := 52) dX4_term_52 rfl f_X4_197 (tk_0 ht) (tl_0 ht) rfl (tr_0_10 D ht) ?_
              refine wp_iload (pc := 55) dX4_term_55 rfl ?_
              refine wp_ineg (pc := 57) dX4_term_57 ?_
              have ops := opc_s (s := ts b cz) (by omega)
              refine wp_eqst (st' := [vI (opc (ts b cz)), vR ((D 2) + 17)]) (by rw [ops]) ?_
              refine wp_callV (pc := 58) (st := []) (nf' := 153) [vI (opc (ts b cz))] [some (vR ((D 2) + 17)), some (vI (opc (ts b cz)))] dX4_term_58 rfl c_X4_203 rfl (tk_17 ht) (by decide) rfl (tl_17 ht) rfl (Nat.le_of_ble_eq_true rfl) rfl (Nat.le_of_ble_eq_true rfl) (by omega) (Nat.le_refl _) (Nat.le_refl _) ?_
              refine sp_fadd hP12.1 hT_12 (by omega) (by omega) (fun J14 hA14 => ?_)
              have hP14 := hP12.add hA14
              have hO14 := addT_O (code := opc (ts b cz)) hO12 (by omega)
              have hT_14 := hP14.2.2.2.1
              have hw_14 := hP14.tw
              have k4_14 := hP14.2.2.1.1
              have k5_14 := hP14.2.2.1.2.1
              have k6_14 := hP14.2.2.1.2.2.1.1
              have m4_14 := hP14.2.2.2.2.2.1
              have ki_14 := kC_in b c12
              have kw_14 := wi_in b c12
              have tr_14 := ts_rng b c12
              have l7_14 := hP14.2.2.1.2.2.2.2.1
              have u3_14 : J14 ((D 2) + 17) 3 = ((u12 : Nat) : Int) := by rw [← hO14.2.1, ← hT_14]; rfl
              refine wp_eqst (st' := []) rfl ?_
              refine wq_iinc (pc := 61) [some (vR 44), some (vI (dep : Int)), some (vI 1), some (vI ((k : Int) + 1)), some (vI (ts b cz))] dX4_term_61 rfl rfl (by decide) rfl ?_
              refine wp_goto (pc := 64) 8 dX4_term_64 (by decide) ?_
              refine wp_none 4 [some (vR 44), some (vI (dep : Int)), some (vI 1), some (vI ((k : Int) + 1)), none] rfl ?_
              have hltz := (hPz.lt (by first | omega | (have z := @wi_ts b cz (by omega); omega)))
              exact wp_eqls (ls' := [some (vR 44), some (vI (dep : Int)), some (vI 1), some (vI (((k + 1) : Nat) : Int)), none]) rfl (ih _ _ _ _ _ _ (by omega) (ok_bin (s := (ts b cz)) (l := 6) hKz (Nat.le_refl _) (by decide) (sg_s (by omega)) (by omega) ((tg_s (s := ts b cz)).2.1 (by omega)) (fun _ _ _ _ z => by have z1 := (tg_s (s := ts b cz)).2.1 (by omega); omega) hltz hK12 (by decide) (by decide) (fun _ => by rw [(tg_s (s := ts b cz)).2.1 (by omega)]; decide) (by decide) (fun _ _ _ e => e)) hO14 ((hTFz.trans hTF12).trans addT_F) (((hFz.trans hFa11.p).trans hF12).trans hA14.1) ((hLz.trans hLa11.p).trans hL12) hP14)
            · skip
              refine wp_eqst (st' := [vI 0]) rfl ?_
              refine wq_istore_n (pc := 47) 2 [some (vR 44), some (vI (dep : Int)), some (vI 0), some (vI (k : Int)), some (vI (ts b cz))] dX4_term_47 rfl rfl (by decide) rfl ?_
              refine wp_aload_n (pc := 48) 0 dX4_term_48 rfl rfl ?_
              refine wp_getr (pc := 49) dX4_term_49 rfl f_X4_19 kd_44 la_44 rfl (r_44_1 D) ?_
              refine wp_getr (pc := 52) dX4_term_52 rfl f_X4_197 (tk_0 ht) (tl_0 ht) rfl (tr_0_10 D ht) ?_
              refine wp_iload (pc := 55) dX4_term_55 rfl ?_
              refine wp_ineg (pc := 57) dX4_term_57 ?_
              have ops := opc_s (s := ts b cz) (by omega)
              refine wp_eqst (st' := [vI (opc (ts b cz)), vR ((D 2) + 17)]) (by rw [ops]) ?_
              refine wp_callV (pc := 58) (st := []) (nf' := 153) [vI (opc (ts b cz))] [some (vR ((D 2) + 17)), some (vI (opc (ts b cz)))] dX4_term_58 rfl c_X4_203 rfl (tk_17 ht) (by decide) rfl (tl_17 ht) rfl (Nat.le_of_ble_eq_true rfl) rfl (Nat.le_of_ble_eq_true rfl) (by omega) (Nat.le_refl _) (Nat.le_refl _) ?_
              refine sp_fadd (T := TT J13 (D 2)) hE13.1 rfl (by omega) (by omega) (fun J15 hA15 => ?_)
              refine wp_eqst (st' := []) rfl ?_
              refine wq_iinc (pc := 61) [some (vR 44), some (vI (dep : Int)), some (vI 0), some (vI ((k : Int) + 1)), some (vI (ts b cz))] dX4_term_61 rfl rfl (by decide) rfl ?_
              refine wp_goto (pc := 64) 8 dX4_term_64 (by decide) ?_
              refine wp_iload_n (pc := 8) 3 dX4_term_8 rfl rfl ?_
              refine wp_sipush (pc := 9) dX4_term_9 (by decide) ?_
              refine wp_icmp_ge (pc := 12) 67 dX4_term_12 (by decide) (by omega) (by decide) (fun h_7 => ?_) (fun h_7 => ?_)
              · refine wp_iload_n (pc := 67) 2 dX4_term_67 rfl rfl ?_
                refine wp_zret (pc := 68) dX4_term_68 rfl rfl (by decide) ?_
                exact h0 _ (bad_bin (s := (ts b cz)) (l := 6) hKz (Nat.le_refl _) (by decide) (sg_s (by omega)) (by omega) ((tg_s (s := ts b cz)).2.1 (by omega)) (fun _ _ _ _ z => by have z1 := (tg_s (s := ts b cz)).2.1 (by omega); omega) hK13 (by decide) (fun _ => by rw [(tg_s (s := ts b cz)).2.1 (by omega)]; decide)) _ _ (((hFz.trans hFa11.p).trans hF13).trans hA15.1) ((hLz.trans hLa11.p).trans hL13) (hE13.add hA15)
              · refine wp_iload_n (pc := 15) 2 dX4_term_15 rfl rfl ?_
                refine wp_if_eq (pc := 16) 67 dX4_term_16 (by decide) (by decide) (fun _ => ?_) (fun hh => absurd hh (by decide))
                refine wp_iload_n (pc := 67) 2 dX4_term_67 rfl rfl ?_
                refine wp_zret (pc := 68) dX4_term_68 rfl rfl (by decide) ?_
                exact h0 _ (bad_bin (s := (ts b cz)) (l := 6) hKz (Nat.le_refl _) (by decide) (sg_s (by omega)) (by omega) ((tg_s (s := ts b cz)).2.1 (by omega)) (fun _ _ _ _ z => by have z1 := (tg_s (s := ts b cz)).2.1 (by omega); omega) hK13 (by decide) (fun _ => by rw [(tg_s (s := ts b cz)).2.1 (by omega)]; decide)) _ _ (((hFz.trans hFa11.p).trans hF13).trans hA15.1) ((hLz.trans hLa11.p).trans hL13) (hE13.add hA15)
          · refine wp_eqst (st' := [vI 0]) rfl ?_
            refine wp_if_eq (pc := 33) 40 dX4_isTermSign_33 (by decide) (by decide) (fun _ => ?_) (fun hh => absurd hh (by decide))
            refine wp_iconst (pc := 40) dX4_isTermSign_40 ?_
            refine wp_zret (pc := 41) dX4_isTermSign_41 rfl rfl (by decide) ?_
            refine wp_eqst (st' := [vI 0]) rfl ?_
            refine wp_if_eq (pc := 23) 67 dX4_term_23 (by decide) (by decide) (fun _ => ?_) (fun hh => absurd hh (by decide))
            refine wp_iload_n (pc := 67) 2 dX4_term_67 rfl rfl ?_
            refine wp_zret (pc := 68) dX4_term_68 rfl rfl (by decide) ?_
            exact h1 _ _ _ _ (ok_mono hKz (Nat.le_refl _) (Nat.le_refl _) (Nat.le_refl _) (fun z => Or.inl z) (fun _ _ _ _ e => ex_term (by omega) (by omega) (by omega))) hOz hTFz _ _ hFz hLz hPz

theorem fs_term {l : Launch} {G : mG} {dep : Nat} (hdep : dep ≤ 7) (hY : FSp l G m_X4_unit 2 (7 * (8 - dep) + 4) 7 7 7 true 8 dep) : FSp l G m_X4_term 3 (7 * (8 - dep) + 5) 6 6 6 true 8 dep := by
  intro d I L D Q b n c T N mo out un hP hO hl hu hd h1 h0
  have ht := hP.1.1
  have g2 : D 2 = 1 ∨ D 2 = 21 := ht
  have hT := hP.2.2.2.1
  have hw := hP.tw
  have k4 := hP.2.2.1.1
  have k5 := hP.2.2.1.2.1
  have k6 := hP.2.2.1.2.2.1.1
  have m4 := hP.2.2.2.2.2.1
  have ki := kC_in b c
  have kw := wi_in b c
  have tr := ts_rng b c
  have l7 := hP.2.2.1.2.2.2.2.1
  have b_c := tw_c hw
  have b_p := tw_p hw
  have b_q := tw_q hw
  have b_v := tw_vows hw
  have eC : nC T = (T 0 11).toNat := rfl
  have eP : nP T = (T 0 12).toNat := rfl
  have eQ : nQ T = (T 0 13).toNat := rfl
  have u3 : I ((D 2) + 17) 3 = ((un : Nat) : Int) := by rw [← hO.2.1, ← hT]; rfl
  refine wp_aload_n (pc := 0) 0 dX4_term_0 rfl rfl ?_
  refine wp_iload_n (pc := 1) 1 dX4_term_1 rfl rfl ?_
  refine wp_callV (pc := 2) (st := []) (nf' := 153) [vI (dep : Int)] [some (vR 44), some (vI (dep : Int)), none, none] dX4_term_2 rfl c_X4_219 rfl kd_44 (by decide) rfl la_44 rfl (Nat.le_of_ble_eq_true rfl) rfl (Nat.le_of_ble_eq_true rfl) (by omega) (Nat.le_refl _) (Nat.le_refl _) ?_
  refine wp_eqls (ls' := [some (vR 44), some (vI (dep : Int)), none, none]) rfl ?_
  refine hY _ _ _ _ _ _ _ _ _ _ _ _ _ hP hO hl hu (by omega) (fun c1 T1 o1 u1 hK1 hO1 hTF1 J1 M1 hF1 hL1 hP1 => ?_) (fun c2 hK2 J2 M2 hF2 hL2 hE2 => ?_)
  · have hq1 := hK1.1
    have hq31 : u1 ≤ 30 := hq1.2.2.1
    have hq11 := hq1.1
    have hq21 := hq1.2.1
    have hq41 := hq1.2.2.2.1
    have hT_1 := hP1.2.2.2.1
    have hw_1 := hP1.tw
    have k4_1 := hP1.2.2.1.1
    have k5_1 := hP1.2.2.1.2.1
    have k6_1 := hP1.2.2.1.2.2.1.1
    have m4_1 := hP1.2.2.2.2.2.1
    have ki_1 := kC_in b c1
    have kw_1 := wi_in b c1
    have tr_1 := ts_rng b c1
    have l7_1 := hP1.2.2.1.2.2.2.2.1
    have u3_1 : J1 ((D 2) + 17) 3 = ((u1 : Nat) : Int) := by rw [← hO1.2.1, ← hT_1]; rfl
    refine wp_eqst (st' := [vI 1]) rfl ?_
    refine wq_istore_n (pc := 5) 2 [some (vR 44), some (vI (dep : Int)), some (vI 1), none, none] dX4_term_5 rfl rfl (by decide) rfl ?_
    refine wp_iconst (pc := 6) dX4_term_6 ?_
    refine wq_istore_n (pc := 7) 3 [some (vR 44), some (vI (dep : Int)), some (vI 1), some (vI 0), none] dX4_term_7 rfl rfl (by decide) rfl ?_
    exact lf_term hdep hY hl hd h1 h0 0 (Nat.zero_le _) _ _ _ _ _ _ (Nat.zero_le _) (ok_mono hK1 (by decide) (by decide) (by decide) (fun z => Or.inl z) (fun _ _ _ _ e => e)) hO1 (TF.refl.trans hTF1) (Fp.refl.trans hF1) (Lp.refl.trans hL1) hP1
  · skip
    refine wp_eqst (st' := [vI 0]) rfl ?_
    refine wq_istore_n (pc := 5) 2 [some (vR 44), some (vI (dep : Int)), some (vI 0), none, none] dX4_term_5 rfl rfl (by decide) rfl ?_
    refine wp_iconst (pc := 6) dX4_term_6 ?_
    refine wq_istore_n (pc := 7) 3 [some (vR 44), some (vI (dep : Int)), some (vI 0), some (vI 0), none] dX4_term_7 rfl rfl (by decide) rfl ?_
    refine wp_iload_n (pc := 8) 3 dX4_term_8 rfl rfl ?_
    refine wp_sipush (pc := 9) dX4_term_9 (by decide) ?_
    refine wp_icmp_ge (pc := 12) 67 dX4_term_12 (by decide) (by decide) (by decide) (fun hh => absurd hh (by decide)) (fun _ => ?_)
    refine wp_iload_n (pc := 15) 2 dX4_term_15 rfl rfl ?_
    refine wp_if_eq (pc := 16) 67 dX4_term_16 (by decide) (by decide) (fun _ => ?_) (fun hh => absurd hh (by decide))
    refine wp_iload_n (pc := 67) 2 dX4_term_67 rfl rfl ?_
    refine wp_zret (pc := 68) dX4_term_68 rfl rfl (by decide) ?_
    exact h0 _ (bad_mono hK2 (by decide) (fun z => Or.inl z)) _ _ (Fp.refl.trans hF2) (Lp.refl.trans hL2) hE2

theorem lf_sum {l : Launch} {G : mG} {dep d : Nat} {I : mI} {L : Nat → Nat → Int} {D : Nat → Nat} {Q : mQ} {b : Nat → Int} {n c : Nat} {T N : mT} {mo : Nat} {out : List Int} {un : Nat} (hdep : dep ≤ 7) (hY : FSp l G m_X4_term 3 (7 * (8 - dep) + 5) 6 6 6 true 8 dep) (hl : out.length ≤ 9 * un) (hd : (7 * (8 - dep) + 6) ≤ d) (h1 : ∀ c' T' out' un', OKx b 5 5 5 true 8 dep c out un (c') (out') (un') → OF T' out' un' → TF T T' → ∀ J M, Fp I J (D 2) → Lp L M (D 2) → PS J M D b n c' T' N mo → Q (some (vI 1)) J (XX M D)) (h0 : ∀ c', BADx b 5 true dep c out un c' → ∀ J M, Fp I J (D 2) → Lp L M (D 2) → PE J M D b n (bad b c' 2) → Q (some (vI 0)) J (XX M D)) : ∀ k : Nat, k ≤ 1600 → ∀ (Jz : mI) (Mz : Nat → Nat → Int) (cz : Nat) (Tz : mT) (oz : List Int) (uz : Nat), k ≤ cz → OKx b 5 5 6 true 8 dep c out un cz oz uz → OF Tz oz uz → TF T Tz → Fp I Jz (D 2) → Lp L Mz (D 2) → PS Jz Mz D b n cz Tz N mo → WP l G m_X4_sum d 153 Jz (XX Mz D) 8 [some (vR 44), some (vI (dep : Int)), some (vI 1), some (vI (k : Int)), none] [] Q := by
  refine loop_dn (fun k => ∀ (Jz : mI) (Mz : Nat → Nat → Int) (cz : Nat) (Tz : mT) (oz : List Int) (uz : Nat), k ≤ cz → OKx b 5 5 6 true 8 dep c out un cz oz uz → OF Tz oz uz → TF T Tz → Fp I Jz (D 2) → Lp L Mz (D 2) → PS Jz Mz D b n cz Tz N mo → WP l G m_X4_sum d 153 Jz (XX Mz D) 8 [some (vR 44), some (vI (dep : Int)), some (vI 1), some (vI (k : Int)), none] [] Q) 1600 ?_ (fun k hk ih => ?_)
  · intro Jz Mz cz Tz oz uz hkz hKz hOz hTFz hFz hLz hPz
    have ht := hPz.1.1
    have g2 : D 2 = 1 ∨ D 2 = 21 := ht
    have hqz := hKz.1
    have hq4z := hqz.2.2.2.1
    have hq2z := hqz.2.1
    have hq3z : uz ≤ 30 := hqz.2.2.1
    have hT_z := hPz.2.2.2.1
    have hw_z := hPz.tw
    have k4_z := hPz.2.2.1.1
    have k5_z := hPz.2.2.1.2.1
    have k6_z := hPz.2.2.1.2.2.1.1
    have m4_z := hPz.2.2.2.2.2.1
    have ki_z := kC_in b cz
    have kw_z := wi_in b cz
    have tr_z := ts_rng b cz
    have l7_z := hPz.2.2.1.2.2.2.2.1
    have u3_z : Jz ((D 2) + 17) 3 = ((uz : Nat) : Int) := by rw [← hOz.2.1, ← hT_z]; rfl
    refine wp_iload_n (pc := 8) 3 dX4_sum_8 rfl rfl ?_
    refine wp_sipush (pc := 9) dX4_sum_9 (by decide) ?_
    refine wp_icmp_ge (pc := 12) 84 dX4_sum_12 (by decide) (by decide) (by decide) (fun _ => ?_) (fun hh => absurd hh (by decide))
    refine wp_iload_n (pc := 84) 2 dX4_sum_84 rfl rfl ?_
    refine wp_zret (pc := 85) dX4_sum_85 rfl rfl (by decide) ?_
    have hse : sg b cz = 0 := by have z := (ts_end (g := Jz 42) (n := n) (c := cz) (by have := hPz.1.2.1.2.2; omega)).2; rw [← hPz.1.2.1.1] at z; exact z
    exact h1 _ _ _ _ (ok_mono hKz (Nat.le_refl _) (Nat.le_refl _) (Nat.le_refl _) (fun z => Or.inl z) (fun _ _ _ _ _ => Or.inl hse)) hOz hTFz _ _ hFz hLz hPz
  · intro Jz Mz cz Tz oz uz hkz hKz hOz hTFz hFz hLz hPz
    have ht := hPz.1.1
    have g2 : D 2 = 1 ∨ D 2 = 21 := ht
    have hqz := hKz.1
    have hq4z := hqz.2.2.2.1
    have hq2z := hqz.2.1
    have hq3z : uz ≤ 30 := hqz.2.2.1
    have hT_z := hPz.2.2.2.1
    have hw_z := hPz.tw
    have k4_z := hPz.2.2.1.1
    have k5_z := hPz.2.2.1.2.1
    have k6_z := hPz.2.2.1.2.2.1.1
    have m4_z := hPz.2.2.2.2.2.1
    have ki_z := kC_in b cz
    have kw_z := wi_in b cz
    have tr_z := ts_rng b cz
    have l7_z := hPz.2.2.1.2.2.2.2.1
    have u3_z : Jz ((D 2) + 17) 3 = ((uz : Nat) : Int) := by rw [← hOz.2.1, ← hT_z]; rfl
    refine wp_iload_n (pc := 8) 3 dX4_sum_8 rfl rfl ?_
    refine wp_sipush (pc := 9) dX4_sum_9 (by decide) ?_
    refine wp_icmp_ge (pc := 12) 84 dX4_sum_12 (by decide) (by omega) (by decide) (fun h_1 => ?_) (fun h_1 => ?_)
    · refine wp_iload_n (pc := 84) 2 dX4_sum_84 rfl rfl ?_
      refine wp_zret (pc := 85) dX4_sum_85 rfl rfl (by decide) ?_
      have hse : sg b cz = 0 := by have z := (ts_end (g := Jz 42) (n := n) (c := cz) (by have := hPz.1.2.1.2.2; omega)).2; rw [← hPz.1.2.1.1] at z; exact z
      exact h1 _ _ _ _ (ok_mono hKz (Nat.le_refl _) (Nat.le_refl _) (Nat.le_refl _) (fun z => Or.inl z) (fun _ _ _ _ _ => Or.inl hse)) hOz hTFz _ _ hFz hLz hPz
    · refine wp_iload_n (pc := 15) 2 dX4_sum_15 rfl rfl ?_
      refine wp_if_eq (pc := 16) 84 dX4_sum_16 (by decide) (by decide) (fun hh => absurd hh (by decide)) (fun _ => ?_)
      refine wp_aload_n (pc := 19) 0 dX4_sum_19 rfl rfl ?_
      refine wp_getr (pc := 20) dX4_sum_20 rfl f_X4_15 kd_44 la_44 rfl (r_44_0 D) ?_
      refine wp_bipush (pc := 23) dX4_sum_23 (by decide) ?_
      refine wp_callV (pc := 25) (st := []) (nf' := 153) [vI 43] [some (vR 41), some (vI 43)] dX4_sum_25 rfl c_X4_191 rfl kd_41 (by decide) rfl la_41 rfl (Nat.le_of_ble_eq_true rfl) rfl (Nat.le_of_ble_eq_true rfl) (by omega) (Nat.le_refl _) (Nat.le_refl _) ?_
      refine sp_isSign hPz.2.2.1 (by decide) (by omega) (fun h_2 => ?_) (fun h_2 => ?_)
      · refine wp_eqst (st' := [vI 1]) rfl ?_
        refine wp_if_ne (pc := 28) 43 dX4_sum_28 (by decide) (by decide) (fun _ => ?_) (fun hh => absurd hh (by decide))
        refine wp_aload_n (pc := 43) 0 dX4_sum_43 rfl rfl ?_
        refine wp_getr (pc := 44) dX4_sum_44 rfl f_X4_15 kd_44 la_44 rfl (r_44_0 D) ?_
        refine wp_geti (pc := 47) dX4_sum_47 rfl f_X4_46 kd_41 la_41 (Or.inl rfl) ?_
        refine wp_eqst (st' := [vI (ts b cz)]) (by rw [hPz.2.2.1.2.2.1.2 (by omega), vC_s (by omega) (by omega)]) ?_
        refine wq_istore (pc := 50) [some (vR 44), some (vI (dep : Int)), some (vI 1), some (vI (k : Int)), some (vI (ts b cz))] dX4_sum_50 rfl (by decide) rfl ?_
        refine wp_aload_n (pc := 52) 0 dX4_sum_52 rfl rfl ?_
        refine wp_getr (pc := 53) dX4_sum_53 rfl f_X4_15 kd_44 la_44 rfl (r_44_0 D) ?_
        refine wp_callV (pc := 56) (st := []) (nf' := 153) [] [some (vR 41), none] dX4_sum_56 rfl c_X4_93 rfl kd_41 (by decide) rfl la_41 rfl (Nat.le_of_ble_eq_true rfl) rfl (Nat.le_of_ble_eq_true rfl) (by omega) (Nat.le_refl _) (Nat.le_refl _) ?_
        have n31 : ts b cz ≠ 3 := (by first | exact n3_k (by omega) | exact n3_4 (by omega) | exact n3_w (by omega) | exact n3_s (by omega) | exact n3_l (by omega))
        refine sp_advance hPz.1.2.1 hPz.nx hPz.1.2.2.1 (hPz.2.2.1.2.2.2.1 n31) (by omega) (fun J1 M1 hFa1 hLa1 hTk1 => ?_)
        have hP1 := hPz.adv hPz.nx hFa1 hLa1 hTk1
        have hT_1 := hP1.2.2.2.1
        have hw_1 := hP1.tw
        have k4_1 := hP1.2.2.1.1
        have k5_1 := hP1.2.2.1.2.1
        have k6_1 := hP1.2.2.1.2.2.1.1
        have m4_1 := hP1.2.2.2.2.2.1
        have ki_1 := kC_in b (te b cz)
        have kw_1 := wi_in b (te b cz)
        have tr_1 := ts_rng b (te b cz)
        have l7_1 := hP1.2.2.1.2.2.2.2.1
        have u3_1 : J1 ((D 2) + 17) 3 = ((uz : Nat) : Int) := by rw [← hOz.2.1, ← hT_1]; rfl
        refine wp_eqst (st' := []) rfl ?_
        refine wp_aload_n (pc := 59) 0 dX4_sum_59 rfl rfl ?_
        refine wp_iload_n (pc := 60) 1 dX4_sum_60 rfl rfl ?_
        refine wp_callV (pc := 61) (st := []) (nf' := 153) [vI (dep : Int)] [some (vR 44), some (vI (dep : Int)), none, none, none] dX4_sum_61 rfl c_X4_216 rfl kd_44 (by decide) rfl la_44 rfl (Nat.le_of_ble_eq_true rfl) rfl (Nat.le_of_ble_eq_true rfl) (by omega) (Nat.le_refl _) (Nat.le_refl _) ?_
        refine wp_eqls (ls' := [some (vR 44), some (vI (dep : Int)), none, none, none]) rfl ?_
        refine hY _ _ _ _ _ _ _ _ _ _ _ _ _ hP1 hOz (show oz.length ≤ 9 * uz by omega) hq3z (by omega) (fun c2 T2 o2 u2 hK2 hO2 hTF2 J2 M2 hF2 hL2 hP2 => ?_) (fun c3 hK3 J3 M3 hF3 hL3 hE3 => ?_)
        · have hq2 := hK2.1
          have hq32 : u2 ≤ 30 := hq2.2.2.1
          have hq12 := hq2.1
          have hq22 := hq2.2.1
          have hq42 := hq2.2.2.2.1
          have hT_2 := hP2.2.2.2.1
          have hw_2 := hP2.tw
          have k4_2 := hP2.2.2.1.1
          have k5_2 := hP2.2.2.1.2.1
          have k6_2 := hP2.2.2.1.2.2.1.1
          have m4_2 := hP2.2.2.2.2.2.1
          have ki_2 := kC_in b c2
          have kw_2 := wi_in b c2
          have tr_2 := ts_rng b c2
          have l7_2 := hP2.2.2.1.2.2.2.2.1
          have u3_2 : J2 ((D 2) + 17) 3 = ((u2 : Nat) : Int) := by rw [← hO2.2.1, ← hT_2]; rfl
          refine wp_eqst (st' := [vI 1]) rfl ?_
          refine wq_istore_n (pc := 64) 2 [some (vR 44), some (vI (dep : Int)), some (vI 1), some (vI (k : Int)), some (vI (ts b cz))] dX4_sum_64 rfl rfl (by decide) rfl ?_
          refine wp_aload_n (pc := 65) 0 dX4_sum_65 rfl rfl ?_
          refine wp_getr (pc := 66) dX4_sum_66 rfl f_X4_19 kd_44 la_44 rfl (r_44_1 D) ?_
          refine wp_getr (pc := 69) dX4_sum_69 rfl f_X4_197 (tk_0 ht) (tl_0 ht) rfl (tr_0_10 D ht) ?_
          refine wp_iload (pc := 72) dX4_sum_72 rfl ?_
          refine wp_ineg (pc := 74) dX4_sum_74 ?_
          have ops := opc_s (s := ts b cz) (by omega)
          refine wp_eqst (st' := [vI (opc (ts b cz)), vR ((D 2) + 17)]) (by rw [ops]) ?_
          refine wp_callV (pc := 75) (st := []) (nf' := 153) [vI (opc (ts b cz))] [some (vR ((D 2) + 17)), some (vI (opc (ts b cz)))] dX4_sum_75 rfl c_X4_203 rfl (tk_17 ht) (by decide) rfl (tl_17 ht) rfl (Nat.le_of_ble_eq_true rfl) rfl (Nat.le_of_ble_eq_true rfl) (by omega) (Nat.le_refl _) (Nat.le_refl _) ?_
          refine sp_fadd hP2.1 hT_2 (by omega) (by omega) (fun J4 hA4 => ?_)
          have hP4 := hP2.add hA4
          have hO4 := addT_O (code := opc (ts b cz)) hO2 (by omega)
          have hT_4 := hP4.2.2.2.1
          have hw_4 := hP4.tw
          have k4_4 := hP4.2.2.1.1
          have k5_4 := hP4.2.2.1.2.1
          have k6_4 := hP4.2.2.1.2.2.1.1
          have m4_4 := hP4.2.2.2.2.2.1
          have ki_4 := kC_in b c2
          have kw_4 := wi_in b c2
          have tr_4 := ts_rng b c2
          have l7_4 := hP4.2.2.1.2.2.2.2.1
          have u3_4 : J4 ((D 2) + 17) 3 = ((u2 : Nat) : Int) := by rw [← hO4.2.1, ← hT_4]; rfl
          refine wp_eqst (st' := []) rfl ?_
          refine wq_iinc (pc := 78) [some (vR 44), some (vI (dep : Int)), some (vI 1), some (vI ((k : Int) + 1)), some (vI (ts b cz))] dX4_sum_78 rfl rfl (by decide) rfl ?_
          refine wp_goto (pc := 81) 8 dX4_sum_81 (by decide) ?_
          refine wp_none 4 [some (vR 44), some (vI (dep : Int)), some (vI 1), some (vI ((k : Int) + 1)), none] rfl ?_
          have hltz := (hPz.lt (by first | omega | (have z := @wi_ts b cz (by omega); omega)))
          exact wp_eqls (ls' := [some (vR 44), some (vI (dep : Int)), some (vI 1), some (vI (((k + 1) : Nat) : Int)), none]) rfl (ih _ _ _ _ _ _ (by omega) (ok_bin (s := (ts b cz)) (l := 5) hKz (Nat.le_refl _) (by decide) (sg_s (by omega)) (by omega) ((tg_s (s := ts b cz)).1 (by omega)) (fun _ _ _ _ z => by have z1 := (tg_s (s := ts b cz)).1 (by omega); omega) hltz hK2 (by decide) (by decide) (fun _ => by rw [(tg_s (s := ts b cz)).1 (by omega)]; decide) (by decide) (fun _ _ _ e => e)) hO4 ((hTFz.trans hTF2).trans addT_F) (((hFz.trans hFa1.p).trans hF2).trans hA4.1) ((hLz.trans hLa1.p).trans hL2) hP4)
        · skip
          refine wp_eqst (st' := [vI 0]) rfl ?_
          refine wq_istore_n (pc := 64) 2 [some (vR 44), some (vI (dep : Int)), some (vI 0), some (vI (k : Int)), some (vI (ts b cz))] dX4_sum_64 rfl rfl (by decide) rfl ?_
          refine wp_aload_n (pc := 65) 0 dX4_sum_65 rfl rfl ?_
          refine wp_getr (pc := 66) dX4_sum_66 rfl f_X4_19 kd_44 la_44 rfl (r_44_1 D) ?_
          refine wp_getr (pc := 69) dX4_sum_69 rfl f_X4_197 (tk_0 ht) (tl_0 ht) rfl (tr_0_10 D ht) ?_
          refine wp_iload (pc := 72) dX4_sum_72 rfl ?_
          refine wp_ineg (pc := 74) dX4_sum_74 ?_
          have ops := opc_s (s := ts b cz) (by omega)
          refine wp_eqst (st' := [vI (opc (ts b cz)), vR ((D 2) + 17)]) (by rw [ops]) ?_
          refine wp_callV (pc := 75) (st := []) (nf' := 153) [vI (opc (ts b cz))] [some (vR ((D 2) + 17)), some (vI (opc (ts b cz)))] dX4_sum_75 rfl c_X4_203 rfl (tk_17 ht) (by decide) rfl (tl_17 ht) rfl (Nat.le_of_ble_eq_true rfl) rfl (Nat.le_of_ble_eq_true rfl) (by omega) (Nat.le_refl _) (Nat.le_refl _) ?_
          refine sp_fadd (T := TT J3 (D 2)) hE3.1 rfl (by omega) (by omega) (fun J5 hA5 => ?_)
          refine wp_eqst (st' := []) rfl ?_
          refine wq_iinc (pc := 78) [some (vR 44), some (vI (dep : Int)), some (vI 0), some (vI ((k : Int) + 1)), some (vI (ts b cz))] dX4_sum_78 rfl rfl (by decide) rfl ?_
          refine wp_goto (pc := 81) 8 dX4_sum_81 (by decide) ?_
          refine wp_iload_n (pc := 8) 3 dX4_sum_8 rfl rfl ?_
          refine wp_sipush (pc := 9) dX4_sum_9 (by decide) ?_
          refine wp_icmp_ge (pc := 12) 84 dX4_sum_12 (by decide) (by omega) (by decide) (fun h_3 => ?_) (fun h_3 => ?_)
          · refine wp_iload_n (pc := 84) 2 dX4_sum_84 rfl rfl ?_
            refine wp_zret (pc := 85) dX4_sum_85 rfl rfl (by decide) ?_
            exact h0 _ (bad_bin (s := (ts b cz)) (l := 5) hKz (Nat.le_refl _) (by decide) (sg_s (by omega)) (by omega) ((tg_s (s := ts b cz)).1 (by omega)) (fun _ _ _ _ z => by have z1 := (tg_s (s := ts b cz)).1 (by omega); omega) hK3 (by decide) (fun _ => by rw [(tg_s (s := ts b cz)).1 (by omega)]; decide)) _ _ (((hFz.trans hFa1.p).trans hF3).trans hA5.1) ((hLz.trans hLa1.p).trans hL3) (hE3.add hA5)
          · refine wp_iload_n (pc := 15) 2 dX4_sum_15 rfl rfl ?_
            refine wp_if_eq (pc := 16) 84 dX4_sum_16 (by decide) (by decide) (fun _ => ?_) (fun hh => absurd hh (by decide))
            refine wp_iload_n (pc := 84) 2 dX4_sum_84 rfl rfl ?_
            refine wp_zret (pc := 85) dX4_sum_85 rfl rfl (by decide) ?_
            exact h0 _ (bad_bin (s := (ts b cz)) (l := 5) hKz (Nat.le_refl _) (by decide) (sg_s (by omega)) (by omega) ((tg_s (s := ts b cz)).1 (by omega)) (fun _ _ _ _ z => by have z1 := (tg_s (s := ts b cz)).1 (by omega); omega) hK3 (by decide) (fun _ => by rw [(tg_s (s := ts b cz)).1 (by omega)]; decide)) _ _ (((hFz.trans hFa1.p).trans hF3).trans hA5.1) ((hLz.trans hLa1.p).trans hL3) (hE3.add hA5)
      · refine wp_eqst (st' := [vI 0]) rfl ?_
        refine wp_if_ne (pc := 28) 43 dX4_sum_28 (by decide) (by decide) (fun hh => absurd hh (by decide)) (fun _ => ?_)
        refine wp_aload_n (pc := 31) 0 dX4_sum_31 rfl rfl ?_
        refine wp_getr (pc := 32) dX4_sum_32 rfl f_X4_15 kd_44 la_44 rfl (r_44_0 D) ?_
        refine wp_bipush (pc := 35) dX4_sum_35 (by decide) ?_
        refine wp_callV (pc := 37) (st := []) (nf' := 153) [vI 45] [some (vR 41), some (vI 45)] dX4_sum_37 rfl c_X4_191 rfl kd_41 (by decide) rfl la_41 rfl (Nat.le_of_ble_eq_true rfl) rfl (Nat.le_of_ble_eq_true rfl) (by omega) (Nat.le_refl _) (Nat.le_refl _) ?_
        refine sp_isSign hPz.2.2.1 (by decide) (by omega) (fun h_4 => ?_) (fun h_4 => ?_)
        · refine wp_eqst (st' := [vI 1]) rfl ?_
          refine wp_if_eq (pc := 40) 84 dX4_sum_40 (by decide) (by decide) (fun hh => absurd hh (by decide)) (fun _ => ?_)
          refine wp_aload_n (pc := 43) 0 dX4_sum_43 rfl rfl ?_
          refine wp_getr (pc := 44) dX4_sum_44 rfl f_X4_15 kd_44 la_44 rfl (r_44_0 D) ?_
          refine wp_geti (pc := 47) dX4_sum_47 rfl f_X4_46 kd_41 la_41 (Or.inl rfl) ?_
          refine wp_eqst (st' := [vI (ts b cz)]) (by rw [hPz.2.2.1.2.2.1.2 (by omega), vC_s (by omega) (by omega)]) ?_
          refine wq_istore (pc := 50) [some (vR 44), some (vI (dep : Int)), some (vI 1), some (vI (k : Int)), some (vI (ts b cz))] dX4_sum_50 rfl (by decide) rfl ?_
          refine wp_aload_n (pc := 52) 0 dX4_sum_52 rfl rfl ?_
          refine wp_getr (pc := 53) dX4_sum_53 rfl f_X4_15 kd_44 la_44 rfl (r_44_0 D) ?_
          refine wp_callV (pc := 56) (st := []) (nf' := 153) [] [some (vR 41), none] dX4_sum_56 rfl c_X4_93 rfl kd_41 (by decide) rfl la_41 rfl (Nat.le_of_ble_eq_true rfl) rfl (Nat.le_of_ble_eq_true rfl) (by omega) (Nat.le_refl _) (Nat.le_refl _) ?_
          have n36 : ts b cz ≠ 3 := (by first | exact n3_k (by omega) | exact n3_4 (by omega) | exact n3_w (by omega) | exact n3_s (by omega) | exact n3_l (by omega))
          refine sp_advance hPz.1.2.1 hPz.nx hPz.1.2.2.1 (hPz.2.2.1.2.2.2.1 n36) (by omega) (fun J6 M6 hFa6 hLa6 hTk6 => ?_)
          have hP6 := hPz.adv hPz.nx hFa6 hLa6 hTk6
          have hT_6 := hP6.2.2.2.1
          have hw_6 := hP6.tw
          have k4_6 := hP6.2.2.1.1
          have k5_6 := hP6.2.2.1.2.1
          have k6_6 := hP6.2.2.1.2.2.1.1
          have m4_6 := hP6.2.2.2.2.2.1
          have ki_6 := kC_in b (te b cz)
          have kw_6 := wi_in b (te b cz)
          have tr_6 := ts_rng b (te b cz)
          have l7_6 := hP6.2.2.1.2.2.2.2.1
          have u3_6 : J6 ((D 2) + 17) 3 = ((uz : Nat) : Int) := by rw [← hOz.2.1, ← hT_6]; rfl
          refine wp_eqst (st' := []) rfl ?_
          refine wp_aload_n (pc := 59) 0 dX4_sum_59 rfl rfl ?_
          refine wp_iload_n (pc := 60) 1 dX4_sum_60 rfl rfl ?_
          refine wp_callV (pc := 61) (st := []) (nf' := 153) [vI (dep : Int)] [some (vR 44), some (vI (dep : Int)), none, none, none] dX4_sum_61 rfl c_X4_216 rfl kd_44 (by decide) rfl la_44 rfl (Nat.le_of_ble_eq_true rfl) rfl (Nat.le_of_ble_eq_true rfl) (by omega) (Nat.le_refl _) (Nat.le_refl _) ?_
          refine wp_eqls (ls' := [some (vR 44), some (vI (dep : Int)), none, none, none]) rfl ?_
          refine hY _ _ _ _ _ _ _ _ _ _ _ _ _ hP6 hOz (show oz.length ≤ 9 * uz by omega) hq3z (by omega) (fun c7 T7 o7 u7 hK7 hO7 hTF7 J7 M7 hF7 hL7 hP7 => ?_) (fun c8 hK8 J8 M8 hF8 hL8 hE8 => ?_)
          · have hq7 := hK7.1
            have hq37 : u7 ≤ 30 := hq7.2.2.1
            have hq17 := hq7.1
            have hq27 := hq7.2.1
            have hq47 := hq7.2.2.2.1
            have hT_7 := hP7.2.2.2.1
            have hw_7 := hP7.tw
            have k4_7 := hP7.2.2.1.1
            have k5_7 := hP7.2.2.1.2.1
            have k6_7 := hP7.2.2.1.2.2.1.1
            have m4_7 := hP7.2.2.2.2.2.1
            have ki_7 := kC_in b c7
            have kw_7 := wi_in b c7
            have tr_7 := ts_rng b c7
            have l7_7 := hP7.2.2.1.2.2.2.2.1
            have u3_7 : J7 ((D 2) + 17) 3 = ((u7 : Nat) : Int) := by rw [← hO7.2.1, ← hT_7]; rfl
            refine wp_eqst (st' := [vI 1]) rfl ?_
            refine wq_istore_n (pc := 64) 2 [some (vR 44), some (vI (dep : Int)), some (vI 1), some (vI (k : Int)), some (vI (ts b cz))] dX4_sum_64 rfl rfl (by decide) rfl ?_
            refine wp_aload_n (pc := 65) 0 dX4_sum_65 rfl rfl ?_
            refine wp_getr (pc := 66) dX4_sum_66 rfl f_X4_19 kd_44 la_44 rfl (r_44_1 D) ?_
            refine wp_getr (pc := 69) dX4_sum_69 rfl f_X4_197 (tk_0 ht) (tl_0 ht) rfl (tr_0_10 D ht) ?_
            refine wp_iload (pc := 72) dX4_sum_72 rfl ?_
            refine wp_ineg (pc := 74) dX4_sum_74 ?_
            have ops := opc_s (s := ts b cz) (by omega)
            refine wp_eqst (st' := [vI (opc (ts b cz)), vR ((D 2) + 17)]) (by rw [ops]) ?_
            refine wp_callV (pc := 75) (st := []) (nf' := 153) [vI (opc (ts b cz))] [some (vR ((D 2) + 17)), some (vI (opc (ts b cz)))] dX4_sum_75 rfl c_X4_203 rfl (tk_17 ht) (by decide) rfl (tl_17 ht) rfl (Nat.le_of_ble_eq_true rfl) rfl (Nat.le_of_ble_eq_true rfl) (by omega) (Nat.le_refl _) (Nat.le_refl _) ?_
            refine sp_fadd hP7.1 hT_7 (by omega) (by omega) (fun J9 hA9 => ?_)
            have hP9 := hP7.add hA9
            have hO9 := addT_O (code := opc (ts b cz)) hO7 (by omega)
            have hT_9 := hP9.2.2.2.1
            have hw_9 := hP9.tw
            have k4_9 := hP9.2.2.1.1
            have k5_9 := hP9.2.2.1.2.1
            have k6_9 := hP9.2.2.1.2.2.1.1
            have m4_9 := hP9.2.2.2.2.2.1
            have ki_9 := kC_in b c7
            have kw_9 := wi_in b c7
            have tr_9 := ts_rng b c7
            have l7_9 := hP9.2.2.1.2.2.2.2.1
            have u3_9 : J9 ((D 2) + 17) 3 = ((u7 : Nat) : Int) := by rw [← hO9.2.1, ← hT_9]; rfl
            refine wp_eqst (st' := []) rfl ?_
            refine wq_iinc (pc := 78) [some (vR 44), some (vI (dep : Int)), some (vI 1), some (vI ((k : Int) + 1)), some (vI (ts b cz))] dX4_sum_78 rfl rfl (by decide) rfl ?_
            refine wp_goto (pc := 81) 8 dX4_sum_81 (by decide) ?_
            refine wp_none 4 [some (vR 44), some (vI (dep : Int)), some (vI 1), some (vI ((k : Int) + 1)), none] rfl ?_
            have hltz := (hPz.lt (by first | omega | (have z := @wi_ts b cz (by omega); omega)))
            exact wp_eqls (ls' := [some (vR 44), some (vI (dep : Int)), some (vI 1), some (vI (((k + 1) : Nat) : Int)), none]) rfl (ih _ _ _ _ _ _ (by omega) (ok_bin (s := (ts b cz)) (l := 5) hKz (Nat.le_refl _) (by decide) (sg_s (by omega)) (by omega) ((tg_s (s := ts b cz)).1 (by omega)) (fun _ _ _ _ z => by have z1 := (tg_s (s := ts b cz)).1 (by omega); omega) hltz hK7 (by decide) (by decide) (fun _ => by rw [(tg_s (s := ts b cz)).1 (by omega)]; decide) (by decide) (fun _ _ _ e => e)) hO9 ((hTFz.trans hTF7).trans addT_F) (((hFz.trans hFa6.p).trans hF7).trans hA9.1) ((hLz.trans hLa6.p).trans hL7) hP9)
          · skip
            refine wp_eqst (st' := [vI 0]) rfl ?_
            refine wq_istore_n (pc := 64) 2 [some (vR 44), some (vI (dep : Int)), some (vI 0), some (vI (k : Int)), some (vI (ts b cz))] dX4_sum_64 rfl rfl (by decide) rfl ?_
            refine wp_aload_n (pc := 65) 0 dX4_sum_65 rfl rfl ?_
            refine wp_getr (pc := 66) dX4_sum_66 rfl f_X4_19 kd_44 la_44 rfl (r_44_1 D) ?_
            refine wp_getr (pc := 69) dX4_sum_69 rfl f_X4_197 (tk_0 ht) (tl_0 ht) rfl (tr_0_10 D ht) ?_
            refine wp_iload (pc := 72) dX4_sum_72 rfl ?_
            refine wp_ineg (pc := 74) dX4_sum_74 ?_
            have ops := opc_s (s := ts b cz) (by omega)
            refine wp_eqst (st' := [vI (opc (ts b cz)), vR ((D 2) + 17)]) (by rw [ops]) ?_
            refine wp_callV (pc := 75) (st := []) (nf' := 153) [vI (opc (ts b cz))] [some (vR ((D 2) + 17)), some (vI (opc (ts b cz)))] dX4_sum_75 rfl c_X4_203 rfl (tk_17 ht) (by decide) rfl (tl_17 ht) rfl (Nat.le_of_ble_eq_true rfl) rfl (Nat.le_of_ble_eq_true rfl) (by omega) (Nat.le_refl _) (Nat.le_refl _) ?_
            refine sp_fadd (T := TT J8 (D 2)) hE8.1 rfl (by omega) (by omega) (fun J10 hA10 => ?_)
            refine wp_eqst (st' := []) rfl ?_
            refine wq_iinc (pc := 78) [some (vR 44), some (vI (dep : Int)), some (vI 0), some (vI ((k : Int) + 1)), some (vI (ts b cz))] dX4_sum_78 rfl rfl (by decide) rfl ?_
            refine wp_goto (pc := 81) 8 dX4_sum_81 (by decide) ?_
            refine wp_iload_n (pc := 8) 3 dX4_sum_8 rfl rfl ?_
            refine wp_sipush (pc := 9) dX4_sum_9 (by decide) ?_
            refine wp_icmp_ge (pc := 12) 84 dX4_sum_12 (by decide) (by omega) (by decide) (fun h_5 => ?_) (fun h_5 => ?_)
            · refine wp_iload_n (pc := 84) 2 dX4_sum_84 rfl rfl ?_
              refine wp_zret (pc := 85) dX4_sum_85 rfl rfl (by decide) ?_
              exact h0 _ (bad_bin (s := (ts b cz)) (l := 5) hKz (Nat.le_refl _) (by decide) (sg_s (by omega)) (by omega) ((tg_s (s := ts b cz)).1 (by omega)) (fun _ _ _ _ z => by have z1 := (tg_s (s := ts b cz)).1 (by omega); omega) hK8 (by decide) (fun _ => by rw [(tg_s (s := ts b cz)).1 (by omega)]; decide)) _ _ (((hFz.trans hFa6.p).trans hF8).trans hA10.1) ((hLz.trans hLa6.p).trans hL8) (hE8.add hA10)
            · refine wp_iload_n (pc := 15) 2 dX4_sum_15 rfl rfl ?_
              refine wp_if_eq (pc := 16) 84 dX4_sum_16 (by decide) (by decide) (fun _ => ?_) (fun hh => absurd hh (by decide))
              refine wp_iload_n (pc := 84) 2 dX4_sum_84 rfl rfl ?_
              refine wp_zret (pc := 85) dX4_sum_85 rfl rfl (by decide) ?_
              exact h0 _ (bad_bin (s := (ts b cz)) (l := 5) hKz (Nat.le_refl _) (by decide) (sg_s (by omega)) (by omega) ((tg_s (s := ts b cz)).1 (by omega)) (fun _ _ _ _ z => by have z1 := (tg_s (s := ts b cz)).1 (by omega); omega) hK8 (by decide) (fun _ => by rw [(tg_s (s := ts b cz)).1 (by omega)]; decide)) _ _ (((hFz.trans hFa6.p).trans hF8).trans hA10.1) ((hLz.trans hLa6.p).trans hL8) (hE8.add hA10)
        · refine wp_eqst (st' := [vI 0]) rfl ?_
          refine wp_if_eq (pc := 40) 84 dX4_sum_40 (by decide) (by decide) (fun _ => ?_) (fun hh => absurd hh (by decide))
          refine wp_iload_n (pc := 84) 2 dX4_sum_84 rfl rfl ?_
          refine wp_zret (pc := 85) dX4_sum_85 rfl rfl (by decide) ?_
          exact h1 _ _ _ _ (ok_mono hKz (Nat.le_refl _) (Nat.le_refl _) (Nat.le_refl _) (fun z => Or.inl z) (fun _ _ _ _ e => ex_sum e (by omega) (by omega))) hOz hTFz _ _ hFz hLz hPz

theorem fs_sum {l : Launch} {G : mG} {dep : Nat} (hdep : dep ≤ 7) (hY : FSp l G m_X4_term 3 (7 * (8 - dep) + 5) 6 6 6 true 8 dep) : FSp l G m_X4_sum 3 (7 * (8 - dep) + 6) 5 5 5 true 8 dep := by
  intro d I L D Q b n c T N mo out un hP hO hl hu hd h1 h0
  have ht := hP.1.1
  have g2 : D 2 = 1 ∨ D 2 = 21 := ht
  have hT := hP.2.2.2.1
  have hw := hP.tw
  have k4 := hP.2.2.1.1
  have k5 := hP.2.2.1.2.1
  have k6 := hP.2.2.1.2.2.1.1
  have m4 := hP.2.2.2.2.2.1
  have ki := kC_in b c
  have kw := wi_in b c
  have tr := ts_rng b c
  have l7 := hP.2.2.1.2.2.2.2.1
  have b_c := tw_c hw
  have b_p := tw_p hw
  have b_q := tw_q hw
  have b_v := tw_vows hw
  have eC : nC T = (T 0 11).toNat := rfl
  have eP : nP T = (T 0 12).toNat := rfl
  have eQ : nQ T = (T 0 13).toNat := rfl
  have u3 : I ((D 2) + 17) 3 = ((un : Nat) : Int) := by rw [← hO.2.1, ← hT]; rfl
  refine wp_aload_n (pc := 0) 0 dX4_sum_0 rfl rfl ?_
  refine wp_iload_n (pc := 1) 1 dX4_sum_1 rfl rfl ?_
  refine wp_callV (pc := 2) (st := []) (nf' := 153) [vI (dep : Int)] [some (vR 44), some (vI (dep : Int)), none, none, none] dX4_sum_2 rfl c_X4_216 rfl kd_44 (by decide) rfl la_44 rfl (Nat.le_of_ble_eq_true rfl) rfl (Nat.le_of_ble_eq_true rfl) (by omega) (Nat.le_refl _) (Nat.le_refl _) ?_
  refine wp_eqls (ls' := [some (vR 44), some (vI (dep : Int)), none, none, none]) rfl ?_
  refine hY _ _ _ _ _ _ _ _ _ _ _ _ _ hP hO hl hu (by omega) (fun c1 T1 o1 u1 hK1 hO1 hTF1 J1 M1 hF1 hL1 hP1 => ?_) (fun c2 hK2 J2 M2 hF2 hL2 hE2 => ?_)
  · have hq1 := hK1.1
    have hq31 : u1 ≤ 30 := hq1.2.2.1
    have hq11 := hq1.1
    have hq21 := hq1.2.1
    have hq41 := hq1.2.2.2.1
    have hT_1 := hP1.2.2.2.1
    have hw_1 := hP1.tw
    have k4_1 := hP1.2.2.1.1
    have k5_1 := hP1.2.2.1.2.1
    have k6_1 := hP1.2.2.1.2.2.1.1
    have m4_1 := hP1.2.2.2.2.2.1
    have ki_1 := kC_in b c1
    have kw_1 := wi_in b c1
    have tr_1 := ts_rng b c1
    have l7_1 := hP1.2.2.1.2.2.2.2.1
    have u3_1 : J1 ((D 2) + 17) 3 = ((u1 : Nat) : Int) := by rw [← hO1.2.1, ← hT_1]; rfl
    refine wp_eqst (st' := [vI 1]) rfl ?_
    refine wq_istore_n (pc := 5) 2 [some (vR 44), some (vI (dep : Int)), some (vI 1), none, none] dX4_sum_5 rfl rfl (by decide) rfl ?_
    refine wp_iconst (pc := 6) dX4_sum_6 ?_
    refine wq_istore_n (pc := 7) 3 [some (vR 44), some (vI (dep : Int)), some (vI 1), some (vI 0), none] dX4_sum_7 rfl rfl (by decide) rfl ?_
    exact lf_sum hdep hY hl hd h1 h0 0 (Nat.zero_le _) _ _ _ _ _ _ (Nat.zero_le _) (ok_mono hK1 (by decide) (by decide) (by decide) (fun z => Or.inl z) (fun _ _ _ _ e => e)) hO1 (TF.refl.trans hTF1) (Fp.refl.trans hF1) (Lp.refl.trans hL1) hP1
  · skip
    refine wp_eqst (st' := [vI 0]) rfl ?_
    refine wq_istore_n (pc := 5) 2 [some (vR 44), some (vI (dep : Int)), some (vI 0), none, none] dX4_sum_5 rfl rfl (by decide) rfl ?_
    refine wp_iconst (pc := 6) dX4_sum_6 ?_
    refine wq_istore_n (pc := 7) 3 [some (vR 44), some (vI (dep : Int)), some (vI 0), some (vI 0), none] dX4_sum_7 rfl rfl (by decide) rfl ?_
    refine wp_iload_n (pc := 8) 3 dX4_sum_8 rfl rfl ?_
    refine wp_sipush (pc := 9) dX4_sum_9 (by decide) ?_
    refine wp_icmp_ge (pc := 12) 84 dX4_sum_12 (by decide) (by decide) (by decide) (fun hh => absurd hh (by decide)) (fun _ => ?_)
    refine wp_iload_n (pc := 15) 2 dX4_sum_15 rfl rfl ?_
    refine wp_if_eq (pc := 16) 84 dX4_sum_16 (by decide) (by decide) (fun _ => ?_) (fun hh => absurd hh (by decide))
    refine wp_iload_n (pc := 84) 2 dX4_sum_84 rfl rfl ?_
    refine wp_zret (pc := 85) dX4_sum_85 rfl rfl (by decide) ?_
    exact h0 _ (bad_mono hK2 (by decide) (fun z => Or.inl z)) _ _ (Fp.refl.trans hF2) (Lp.refl.trans hL2) hE2

theorem fs_relation {l : Launch} {G : mG} {dep : Nat} (hdep : dep ≤ 7) (hY : FSp l G m_X4_sum 3 (7 * (8 - dep) + 6) 5 5 5 true 8 dep) : FSp l G m_X4_relation 2 (7 * (8 - dep) + 7) 4 4 4 true 8 dep := by
  intro d I L D Q b n c T N mo out un hP hO hl hu hd h1 h0
  have ht := hP.1.1
  have g2 : D 2 = 1 ∨ D 2 = 21 := ht
  have hT := hP.2.2.2.1
  have hw := hP.tw
  have k4 := hP.2.2.1.1
  have k5 := hP.2.2.1.2.1
  have k6 := hP.2.2.1.2.2.1.1
  have m4 := hP.2.2.2.2.2.1
  have ki := kC_in b c
  have kw := wi_in b c
  have tr := ts_rng b c
  have l7 := hP.2.2.1.2.2.2.2.1
  have b_c := tw_c hw
  have b_p := tw_p hw
  have b_q := tw_q hw
  have b_v := tw_vows hw
  have eC : nC T = (T 0 11).toNat := rfl
  have eP : nP T = (T 0 12).toNat := rfl
  have eQ : nQ T = (T 0 13).toNat := rfl
  have u3 : I ((D 2) + 17) 3 = ((un : Nat) : Int) := by rw [← hO.2.1, ← hT]; rfl
  refine wp_aload_n (pc := 0) 0 dX4_relation_0 rfl rfl ?_
  refine wp_iload_n (pc := 1) 1 dX4_relation_1 rfl rfl ?_
  refine wp_callV (pc := 2) (st := []) (nf' := 153) [vI (dep : Int)] [some (vR 44), some (vI (dep : Int)), none, none, none] dX4_relation_2 rfl c_X4_213 rfl kd_44 (by decide) rfl la_44 rfl (Nat.le_of_ble_eq_true rfl) rfl (Nat.le_of_ble_eq_true rfl) (by omega) (Nat.le_refl _) (Nat.le_refl _) ?_
  refine wp_eqls (ls' := [some (vR 44), some (vI (dep : Int)), none, none, none]) rfl ?_
  refine hY _ _ _ _ _ _ _ _ _ _ _ _ _ hP hO hl hu (by omega) (fun c1 T1 o1 u1 hK1 hO1 hTF1 J1 M1 hF1 hL1 hP1 => ?_) (fun c2 hK2 J2 M2 hF2 hL2 hE2 => ?_)
  · have hq1 := hK1.1
    have hq31 : u1 ≤ 30 := hq1.2.2.1
    have hq11 := hq1.1
    have hq21 := hq1.2.1
    have hq41 := hq1.2.2.2.1
    have hT_1 := hP1.2.2.2.1
    have hw_1 := hP1.tw
    have k4_1 := hP1.2.2.1.1
    have k5_1 := hP1.2.2.1.2.1
    have k6_1 := hP1.2.2.1.2.2.1.1
    have m4_1 := hP1.2.2.2.2.2.1
    have ki_1 := kC_in b c1
    have kw_1 := wi_in b c1
    have tr_1 := ts_rng b c1
    have l7_1 := hP1.2.2.1.2.2.2.2.1
    have u3_1 : J1 ((D 2) + 17) 3 = ((u1 : Nat) : Int) := by rw [← hO1.2.1, ← hT_1]; rfl
    refine wp_eqst (st' := [vI 1]) rfl ?_
    refine wp_if_ne (pc := 5) 10 dX4_relation_5 (by decide) (by decide) (fun _ => ?_) (fun hh => absurd hh (by decide))
    refine wp_aload_n (pc := 10) 0 dX4_relation_10 rfl rfl ?_
    refine wp_getr (pc := 11) dX4_relation_11 rfl f_X4_15 kd_44 la_44 rfl (r_44_0 D) ?_
    refine wp_bipush (pc := 14) dX4_relation_14 (by decide) ?_
    refine wp_callV (pc := 16) (st := []) (nf' := 153) [vI 60] [some (vR 41), some (vI 60)] dX4_relation_16 rfl c_X4_191 rfl kd_41 (by decide) rfl la_41 rfl (Nat.le_of_ble_eq_true rfl) rfl (Nat.le_of_ble_eq_true rfl) (by omega) (Nat.le_refl _) (Nat.le_refl _) ?_
    refine sp_isSign hP1.2.2.1 (by decide) (by omega) (fun h_1 => ?_) (fun h_1 => ?_)
    · refine wp_eqst (st' := [vI 1]) rfl ?_
      refine wp_if_ne (pc := 19) 48 dX4_relation_19 (by decide) (by decide) (fun _ => ?_) (fun hh => absurd hh (by decide))
      refine wp_aload_n (pc := 48) 0 dX4_relation_48 rfl rfl ?_
      refine wp_getr (pc := 49) dX4_relation_49 rfl f_X4_15 kd_44 la_44 rfl (r_44_0 D) ?_
      refine wp_geti (pc := 52) dX4_relation_52 rfl f_X4_46 kd_41 la_41 (Or.inl rfl) ?_
      refine wp_eqst (st' := [vI (ts b c1)]) (by rw [hP1.2.2.1.2.2.1.2 (by omega), vC_s (by omega) (by omega)]) ?_
      refine wq_istore_n (pc := 55) 2 [some (vR 44), some (vI (dep : Int)), some (vI (ts b c1)), none] dX4_relation_55 rfl rfl (by decide) rfl ?_
      refine wp_aload_n (pc := 56) 0 dX4_relation_56 rfl rfl ?_
      refine wp_getr (pc := 57) dX4_relation_57 rfl f_X4_15 kd_44 la_44 rfl (r_44_0 D) ?_
      refine wp_callV (pc := 60) (st := []) (nf' := 153) [] [some (vR 41), none] dX4_relation_60 rfl c_X4_93 rfl kd_41 (by decide) rfl la_41 rfl (Nat.le_of_ble_eq_true rfl) rfl (Nat.le_of_ble_eq_true rfl) (by omega) (Nat.le_refl _) (Nat.le_refl _) ?_
      have n33 : ts b c1 ≠ 3 := (by first | exact n3_k (by omega) | exact n3_4 (by omega) | exact n3_w (by omega) | exact n3_s (by omega) | exact n3_l (by omega))
      refine sp_advance hP1.1.2.1 hP1.nx hP1.1.2.2.1 (hP1.2.2.1.2.2.2.1 n33) (by omega) (fun J3 M3 hFa3 hLa3 hTk3 => ?_)
      have hP3 := hP1.adv hP1.nx hFa3 hLa3 hTk3
      have hT_3 := hP3.2.2.2.1
      have hw_3 := hP3.tw
      have k4_3 := hP3.2.2.1.1
      have k5_3 := hP3.2.2.1.2.1
      have k6_3 := hP3.2.2.1.2.2.1.1
      have m4_3 := hP3.2.2.2.2.2.1
      have ki_3 := kC_in b (te b c1)
      have kw_3 := wi_in b (te b c1)
      have tr_3 := ts_rng b (te b c1)
      have l7_3 := hP3.2.2.1.2.2.2.2.1
      have u3_3 : J3 ((D 2) + 17) 3 = ((u1 : Nat) : Int) := by rw [← hO1.2.1, ← hT_3]; rfl
      refine wp_eqst (st' := []) rfl ?_
      refine wp_aload_n (pc := 63) 0 dX4_relation_63 rfl rfl ?_
      refine wp_iload_n (pc := 64) 1 dX4_relation_64 rfl rfl ?_
      refine wp_callV (pc := 65) (st := []) (nf' := 153) [vI (dep : Int)] [some (vR 44), some (vI (dep : Int)), none, none, none] dX4_relation_65 rfl c_X4_213 rfl kd_44 (by decide) rfl la_44 rfl (Nat.le_of_ble_eq_true rfl) rfl (Nat.le_of_ble_eq_true rfl) (by omega) (Nat.le_refl _) (Nat.le_refl _) ?_
      refine wp_eqls (ls' := [some (vR 44), some (vI (dep : Int)), none, none, none]) rfl ?_
      refine hY _ _ _ _ _ _ _ _ _ _ _ _ _ hP3 hO1 (by omega) hq31 (by omega) (fun c4 T4 o4 u4 hK4 hO4 hTF4 J4 M4 hF4 hL4 hP4 => ?_) (fun c5 hK5 J5 M5 hF5 hL5 hE5 => ?_)
      · have hq4 := hK4.1
        have hq34 : u4 ≤ 30 := hq4.2.2.1
        have hq14 := hq4.1
        have hq24 := hq4.2.1
        have hq44 := hq4.2.2.2.1
        have hT_4 := hP4.2.2.2.1
        have hw_4 := hP4.tw
        have k4_4 := hP4.2.2.1.1
        have k5_4 := hP4.2.2.1.2.1
        have k6_4 := hP4.2.2.1.2.2.1.1
        have m4_4 := hP4.2.2.2.2.2.1
        have ki_4 := kC_in b c4
        have kw_4 := wi_in b c4
        have tr_4 := ts_rng b c4
        have l7_4 := hP4.2.2.1.2.2.2.2.1
        have u3_4 : J4 ((D 2) + 17) 3 = ((u4 : Nat) : Int) := by rw [← hO4.2.1, ← hT_4]; rfl
        refine wp_eqst (st' := [vI 1]) rfl ?_
        refine wq_istore_n (pc := 68) 3 [some (vR 44), some (vI (dep : Int)), some (vI (ts b c1)), some (vI 1)] dX4_relation_68 rfl rfl (by decide) rfl ?_
        refine wp_aload_n (pc := 69) 0 dX4_relation_69 rfl rfl ?_
        refine wp_getr (pc := 70) dX4_relation_70 rfl f_X4_19 kd_44 la_44 rfl (r_44_1 D) ?_
        refine wp_getr (pc := 73) dX4_relation_73 rfl f_X4_197 (tk_0 ht) (tl_0 ht) rfl (tr_0_10 D ht) ?_
        refine wp_iload_n (pc := 76) 2 dX4_relation_76 rfl rfl ?_
        refine wp_ineg (pc := 77) dX4_relation_77 ?_
        have ops := opc_s (s := ts b c1) (by omega)
        refine wp_eqst (st' := [vI (opc (ts b c1)), vR ((D 2) + 17)]) (by rw [ops]) ?_
        refine wp_callV (pc := 78) (st := []) (nf' := 153) [vI (opc (ts b c1))] [some (vR ((D 2) + 17)), some (vI (opc (ts b c1)))] dX4_relation_78 rfl c_X4_203 rfl (tk_17 ht) (by decide) rfl (tl_17 ht) rfl (Nat.le_of_ble_eq_true rfl) rfl (Nat.le_of_ble_eq_true rfl) (by omega) (Nat.le_refl _) (Nat.le_refl _) ?_
        refine sp_fadd hP4.1 hT_4 (by omega) (by omega) (fun J6 hA6 => ?_)
        have hP6 := hP4.add hA6
        have hO6 := addT_O (code := opc (ts b c1)) hO4 (by omega)
        have hT_6 := hP6.2.2.2.1
        have hw_6 := hP6.tw
        have k4_6 := hP6.2.2.1.1
        have k5_6 := hP6.2.2.1.2.1
        have k6_6 := hP6.2.2.1.2.2.1.1
        have m4_6 := hP6.2.2.2.2.2.1
        have ki_6 := kC_in b c4
        have kw_6 := wi_in b c4
        have tr_6 := ts_rng b c4
        have l7_6 := hP6.2.2.1.2.2.2.2.1
        have u3_6 : J6 ((D 2) + 17) 3 = ((u4 : Nat) : Int) := by rw [← hO6.2.1, ← hT_6]; rfl
        refine wp_eqst (st' := []) rfl ?_
        refine wp_iload_n (pc := 81) 3 dX4_relation_81 rfl rfl ?_
        refine wp_zret (pc := 82) dX4_relation_82 rfl rfl (by decide) ?_
        have hltz := hP1.lt (by omega)
        have tgz := (tg_s (s := ts b c1)).2.2 (by omega)
        exact h1 _ _ _ _ (ok_bin (s := ts b c1) (l := 4) (ok_mono (x2 := 5) hK1 (by decide) (Nat.le_refl _) (Nat.le_refl _) (fun z => Or.inl z) (fun _ _ _ _ e => e)) (by decide) (Nat.le_refl _) (sg_s (by omega)) (by omega) tgz (fun P K h5 h4 z => by rw [hasR_skip P h5, hasR_ok h4] at z; exact absurd z.2 (by decide)) hltz hK4 (by decide) (by decide) (fun _ => by rw [tgz]; decide) (by decide) (fun _ _ h5 e => ex_rel1 h5 tgz (by omega) e)) hO6 (((TF.refl.trans hTF1).trans hTF4).trans addT_F) _ _ ((((Fp.refl.trans hF1).trans hFa3.p).trans hF4).trans hA6.1) (((Lp.refl.trans hL1).trans hLa3.p).trans hL4) hP6
      · skip
        refine wp_eqst (st' := [vI 0]) rfl ?_
        refine wq_istore_n (pc := 68) 3 [some (vR 44), some (vI (dep : Int)), some (vI (ts b c1)), some (vI 0)] dX4_relation_68 rfl rfl (by decide) rfl ?_
        refine wp_aload_n (pc := 69) 0 dX4_relation_69 rfl rfl ?_
        refine wp_getr (pc := 70) dX4_relation_70 rfl f_X4_19 kd_44 la_44 rfl (r_44_1 D) ?_
        refine wp_getr (pc := 73) dX4_relation_73 rfl f_X4_197 (tk_0 ht) (tl_0 ht) rfl (tr_0_10 D ht) ?_
        refine wp_iload_n (pc := 76) 2 dX4_relation_76 rfl rfl ?_
        refine wp_ineg (pc := 77) dX4_relation_77 ?_
        have ops := opc_s (s := ts b c1) (by omega)
        refine wp_eqst (st' := [vI (opc (ts b c1)), vR ((D 2) + 17)]) (by rw [ops]) ?_
        refine wp_callV (pc := 78) (st := []) (nf' := 153) [vI (opc (ts b c1))] [some (vR ((D 2) + 17)), some (vI (opc (ts b c1)))] dX4_relation_78 rfl c_X4_203 rfl (tk_17 ht) (by decide) rfl (tl_17 ht) rfl (Nat.le_of_ble_eq_true rfl) rfl (Nat.le_of_ble_eq_true rfl) (by omega) (Nat.le_refl _) (Nat.le_refl _) ?_
        refine sp_fadd (T := TT J5 (D 2)) hE5.1 rfl (by omega) (by omega) (fun J7 hA7 => ?_)
        refine wp_eqst (st' := []) rfl ?_
        refine wp_iload_n (pc := 81) 3 dX4_relation_81 rfl rfl ?_
        refine wp_zret (pc := 82) dX4_relation_82 rfl rfl (by decide) ?_
        exact h0 _ (bad_bin (s := ts b c1) (l := 4) (ok_mono (x2 := 5) hK1 (by decide) (Nat.le_refl _) (Nat.le_refl _) (fun z => Or.inl z) (fun _ _ _ _ e => e)) (by decide) (Nat.le_refl _) (sg_s (by omega)) (by omega) ((tg_s (s := ts b c1)).2.2 (by omega)) (fun P K h5 h4 z => by rw [hasR_skip P h5, hasR_ok h4] at z; exact absurd z.2 (by decide)) hK5 (by decide) (fun _ => by rw [(tg_s (s := ts b c1)).2.2 (by omega)]; decide)) _ _ ((((Fp.refl.trans hF1).trans hFa3.p).trans hF5).trans hA7.1) (((Lp.refl.trans hL1).trans hLa3.p).trans hL5) (hE5.add hA7)
    · refine wp_eqst (st' := [vI 0]) rfl ?_
      refine wp_if_ne (pc := 19) 48 dX4_relation_19 (by decide) (by decide) (fun hh => absurd hh (by decide)) (fun _ => ?_)
      refine wp_aload_n (pc := 22) 0 dX4_relation_22 rfl rfl ?_
      refine wp_getr (pc := 23) dX4_relation_23 rfl f_X4_15 kd_44 la_44 rfl (r_44_0 D) ?_
      refine wp_bipush (pc := 26) dX4_relation_26 (by decide) ?_
      refine wp_callV (pc := 28) (st := []) (nf' := 153) [vI 62] [some (vR 41), some (vI 62)] dX4_relation_28 rfl c_X4_191 rfl kd_41 (by decide) rfl la_41 rfl (Nat.le_of_ble_eq_true rfl) rfl (Nat.le_of_ble_eq_true rfl) (by omega) (Nat.le_refl _) (Nat.le_refl _) ?_
      refine sp_isSign hP1.2.2.1 (by decide) (by omega) (fun h_2 => ?_) (fun h_2 => ?_)
      · refine wp_eqst (st' := [vI 1]) rfl ?_
        refine wp_if_ne (pc := 31) 48 dX4_relation_31 (by decide) (by decide) (fun _ => ?_) (fun hh => absurd hh (by decide))
        refine wp_aload_n (pc := 48) 0 dX4_relation_48 rfl rfl ?_
        refine wp_getr (pc := 49) dX4_relation_49 rfl f_X4_15 kd_44 la_44 rfl (r_44_0 D) ?_
        refine wp_geti (pc := 52) dX4_relation_52 rfl f_X4_46 kd_41 la_41 (Or.inl rfl) ?_
        refine wp_eqst (st' := [vI (ts b c1)]) (by rw [hP1.2.2.1.2.2.1.2 (by omega), vC_s (by omega) (by omega)]) ?_
        refine wq_istore_n (pc := 55) 2 [some (vR 44), some (vI (dep : Int)), some (vI (ts b c1)), none] dX4_relation_55 rfl rfl (by decide) rfl ?_
        refine wp_aload_n (pc := 56) 0 dX4_relation_56 rfl rfl ?_
        refine wp_getr (pc := 57) dX4_relation_57 rfl f_X4_15 kd_44 la_44 rfl (r_44_0 D) ?_
        refine wp_callV (pc := 60) (st := []) (nf' := 153) [] [some (vR 41), none] dX4_relation_60 rfl c_X4_93 rfl kd_41 (by decide) rfl la_41 rfl (Nat.le_of_ble_eq_true rfl) rfl (Nat.le_of_ble_eq_true rfl) (by omega) (Nat.le_refl _) (Nat.le_refl _) ?_
        have n38 : ts b c1 ≠ 3 := (by first | exact n3_k (by omega) | exact n3_4 (by omega) | exact n3_w (by omega) | exact n3_s (by omega) | exact n3_l (by omega))
        refine sp_advance hP1.1.2.1 hP1.nx hP1.1.2.2.1 (hP1.2.2.1.2.2.2.1 n38) (by omega) (fun J8 M8 hFa8 hLa8 hTk8 => ?_)
        have hP8 := hP1.adv hP1.nx hFa8 hLa8 hTk8
        have hT_8 := hP8.2.2.2.1
        have hw_8 := hP8.tw
        have k4_8 := hP8.2.2.1.1
        have k5_8 := hP8.2.2.1.2.1
        have k6_8 := hP8.2.2.1.2.2.1.1
        have m4_8 := hP8.2.2.2.2.2.1
        have ki_8 := kC_in b (te b c1)
        have kw_8 := wi_in b (te b c1)
        have tr_8 := ts_rng b (te b c1)
        have l7_8 := hP8.2.2.1.2.2.2.2.1
        have u3_8 : J8 ((D 2) + 17) 3 = ((u1 : Nat) : Int) := by rw [← hO1.2.1, ← hT_8]; rfl
        refine wp_eqst (st' := []) rfl ?_
        refine wp_aload_n (pc := 63) 0 dX4_relation_63 rfl rfl ?_
        refine wp_iload_n (pc := 64) 1 dX4_relation_64 rfl rfl ?_
        refine wp_callV (pc := 65) (st := []) (nf' := 153) [vI (dep : Int)] [some (vR 44), some (vI (dep : Int)), none, none, none] dX4_relation_65 rfl c_X4_213 rfl kd_44 (by decide) rfl la_44 rfl (Nat.le_of_ble_eq_true rfl) rfl (Nat.le_of_ble_eq_true rfl) (by omega) (Nat.le_refl _) (Nat.le_refl _) ?_
        refine wp_eqls (ls' := [some (vR 44), some (vI (dep : Int)), none, none, none]) rfl ?_
        refine hY _ _ _ _ _ _ _ _ _ _ _ _ _ hP8 hO1 (by omega) hq31 (by omega) (fun c9 T9 o9 u9 hK9 hO9 hTF9 J9 M9 hF9 hL9 hP9 => ?_) (fun c10 hK10 J10 M10 hF10 hL10 hE10 => ?_)
        · have hq9 := hK9.1
          have hq39 : u9 ≤ 30 := hq9.2.2.1
          have hq19 := hq9.1
          have hq29 := hq9.2.1
          have hq49 := hq9.2.2.2.1
          have hT_9 := hP9.2.2.2.1
          have hw_9 := hP9.tw
          have k4_9 := hP9.2.2.1.1
          have k5_9 := hP9.2.2.1.2.1
          have k6_9 := hP9.2.2.1.2.2.1.1
          have m4_9 := hP9.2.2.2.2.2.1
          have ki_9 := kC_in b c9
          have kw_9 := wi_in b c9
          have tr_9 := ts_rng b c9
          have l7_9 := hP9.2.2.1.2.2.2.2.1
          have u3_9 : J9 ((D 2) + 17) 3 = ((u9 : Nat) : Int) := by rw [← hO9.2.1, ← hT_9]; rfl
          refine wp_eqst (st' := [vI 1]) rfl ?_
          refine wq_istore_n (pc := 68) 3 [some (vR 44), some (vI (dep : Int)), some (vI (ts b c1)), some (vI 1)] dX4_relation_68 rfl rfl (by decide) rfl ?_
          refine wp_aload_n (pc := 69) 0 dX4_relation_69 rfl rfl ?_
          refine wp_getr (pc := 70) dX4_relation_70 rfl f_X4_19 kd_44 la_44 rfl (r_44_1 D) ?_
          refine wp_getr (pc := 73) dX4_relation_73 rfl f_X4_197 (tk_0 ht) (tl_0 ht) rfl (tr_0_10 D ht) ?_
          refine wp_iload_n (pc := 76) 2 dX4_relation_76 rfl rfl ?_
          refine wp_ineg (pc := 77) dX4_relation_77 ?_
          have ops := opc_s (s := ts b c1) (by omega)
          refine wp_eqst (st' := [vI (opc (ts b c1)), vR ((D 2) + 17)]) (by rw [ops]) ?_
          refine wp_callV (pc := 78) (st := []) (nf' := 153) [vI (opc (ts b c1))] [some (vR ((D 2) + 17)), some (vI (opc (ts b c1)))] dX4_relation_78 rfl c_X4_203 rfl (tk_17 ht) (by decide) rfl (tl_17 ht) rfl (Nat.le_of_ble_eq_true rfl) rfl (Nat.le_of_ble_eq_true rfl) (by omega) (Nat.le_refl _) (Nat.le_refl _) ?_
          refine sp_fadd hP9.1 hT_9 (by omega) (by omega) (fun J11 hA11 => ?_)
          have hP11 := hP9.add hA11
          have hO11 := addT_O (code := opc (ts b c1)) hO9 (by omega)
          have hT_11 := hP11.2.2.2.1
          have hw_11 := hP11.tw
          have k4_11 := hP11.2.2.1.1
          have k5_11 := hP11.2.2.1.2.1
          have k6_11 := hP11.2.2.1.2.2.1.1
          have m4_11 := hP11.2.2.2.2.2.1
          have ki_11 := kC_in b c9
          have kw_11 := wi_in b c9
          have tr_11 := ts_rng b c9
          have l7_11 := hP11.2.2.1.2.2.2.2.1
          have u3_11 : J11 ((D 2) + 17) 3 = ((u9 : Nat) : Int) := by rw [← hO11.2.1, ← hT_11]; rfl
          refine wp_eqst (st' := []) rfl ?_
          refine wp_iload_n (pc := 81) 3 dX4_relation_81 rfl rfl ?_
          refine wp_zret (pc := 82) dX4_relation_82 rfl rfl (by decide) ?_
          have hltz := hP1.lt (by omega)
          have tgz := (tg_s (s := ts b c1)).2.2 (by omega)
          exact h1 _ _ _ _ (ok_bin (s := ts b c1) (l := 4) (ok_mono (x2 := 5) hK1 (by decide) (Nat.le_refl _) (Nat.le_refl _) (fun z => Or.inl z) (fun _ _ _ _ e => e)) (by decide) (Nat.le_refl _) (sg_s (by omega)) (by omega) tgz (fun P K h5 h4 z => by rw [hasR_skip P h5, hasR_ok h4] at z; exact absurd z.2 (by decide)) hltz hK9 (by decide) (by decide) (fun _ => by rw [tgz]; decide) (by decide) (fun _ _ h5 e => ex_rel1 h5 tgz (by omega) e)) hO11 (((TF.refl.trans hTF1).trans hTF9).trans addT_F) _ _ ((((Fp.refl.trans hF1).trans hFa8.p).trans hF9).trans hA11.1) (((Lp.refl.trans hL1).trans hLa8.p).trans hL9) hP11
        · skip
          refine wp_eqst (st' := [vI 0]) rfl ?_
          refine wq_istore_n (pc := 68) 3 [some (vR 44), some (vI (dep : Int)), some (vI (ts b c1)), some (vI 0)] dX4_relation_68 rfl rfl (by decide) rfl ?_
          refine wp_aload_n (pc := 69) 0 dX4_relation_69 rfl rfl ?_
          refine wp_getr (pc := 70) dX4_relation_70 rfl f_X4_19 kd_44 la_44 rfl (r_44_1 D) ?_
          refine wp_getr (pc := 73) dX4_relation_73 rfl f_X4_197 (tk_0 ht) (tl_0 ht) rfl (tr_0_10 D ht) ?_
          refine wp_iload_n (pc := 76) 2 dX4_relation_76 rfl rfl ?_
          refine wp_ineg (pc := 77) dX4_relation_77 ?_
          have ops := opc_s (s := ts b c1) (by omega)
          refine wp_eqst (st' := [vI (opc (ts b c1)), vR ((D 2) + 17)]) (by rw [ops]) ?_
          refine wp_callV (pc := 78) (st := []) (nf' := 153) [vI (opc (ts b c1))] [some (vR ((D 2) + 17)), some (vI (opc (ts b c1)))] dX4_relation_78 rfl c_X4_203 rfl (tk_17 ht) (by decide) rfl (tl_17 ht) rfl (Nat.le_of_ble_eq_true rfl) rfl (Nat.le_of_ble_eq_true rfl) (by omega) (Nat.le_refl _) (Nat.le_refl _) ?_
          refine sp_fadd (T := TT J10 (D 2)) hE10.1 rfl (by omega) (by omega) (fun J12 hA12 => ?_)
          refine wp_eqst (st' := []) rfl ?_
          refine wp_iload_n (pc := 81) 3 dX4_relation_81 rfl rfl ?_
          refine wp_zret (pc := 82) dX4_relation_82 rfl rfl (by decide) ?_
          exact h0 _ (bad_bin (s := ts b c1) (l := 4) (ok_mono (x2 := 5) hK1 (by decide) (Nat.le_refl _) (Nat.le_refl _) (fun z => Or.inl z) (fun _ _ _ _ e => e)) (by decide) (Nat.le_refl _) (sg_s (by omega)) (by omega) ((tg_s (s := ts b c1)).2.2 (by omega)) (fun P K h5 h4 z => by rw [hasR_skip P h5, hasR_ok h4] at z; exact absurd z.2 (by decide)) hK10 (by decide) (fun _ => by rw [(tg_s (s := ts b c1)).2.2 (by omega)]; decide)) _ _ ((((Fp.refl.trans hF1).trans hFa8.p).trans hF10).trans hA12.1) (((Lp.refl.trans hL1).trans hLa8.p).trans hL10) (hE10.add hA12)
      · refine wp_eqst (st' := [vI 0]) rfl ?_
        refine wp_if_ne (pc := 31) 48 dX4_relation_31 (by decide) (by decide) (fun hh => absurd hh (by decide)) (fun _ => ?_)
        refine wp_aload_n (pc := 34) 0 dX4_relation_34 rfl rfl ?_
        refine wp_getr (pc := 35) dX4_relation_35 rfl f_X4_15 kd_44 la_44 rfl (r_44_0 D) ?_
        refine wp_bipush (pc := 38) dX4_relation_38 (by decide) ?_
        refine wp_callV (pc := 40) (st := []) (nf' := 153) [vI 61] [some (vR 41), some (vI 61)] dX4_relation_40 rfl c_X4_191 rfl kd_41 (by decide) rfl la_41 rfl (Nat.le_of_ble_eq_true rfl) rfl (Nat.le_of_ble_eq_true rfl) (by omega) (Nat.le_refl _) (Nat.le_refl _) ?_
        refine sp_isSign hP1.2.2.1 (by decide) (by omega) (fun h_3 => ?_) (fun h_3 => ?_)
        · refine wp_eqst (st' := [vI 1]) rfl ?_
          refine wp_if_ne (pc := 43) 48 dX4_relation_43 (by decide) (by decide) (fun _ => ?_) (fun hh => absurd hh (by decide))
          refine wp_aload_n (pc := 48) 0 dX4_relation_48 rfl rfl ?_
          refine wp_getr (pc := 49) dX4_relation_49 rfl f_X4_15 kd_44 la_44 rfl (r_44_0 D) ?_
          refine wp_geti (pc := 52) dX4_relation_52 rfl f_X4_46 kd_41 la_41 (Or.inl rfl) ?_
          refine wp_eqst (st' := [vI (ts b c1)]) (by rw [hP1.2.2.1.2.2.1.2 (by omega), vC_s (by omega) (by omega)]) ?_
          refine wq_istore_n (pc := 55) 2 [some (vR 44), some (vI (dep : Int)), some (vI (ts b c1)), none] dX4_relation_55 rfl rfl (by decide) rfl ?_
          refine wp_aload_n (pc := 56) 0 dX4_relation_56 rfl rfl ?_
          refine wp_getr (pc := 57) dX4_relation_57 rfl f_X4_15 kd_44 la_44 rfl (r_44_0 D) ?_
          refine wp_callV (pc := 60) (st := []) (nf' := 153) [] [some (vR 41), none] dX4_relation_60 rfl c_X4_93 rfl kd_41 (by decide) rfl la_41 rfl (Nat.le_of_ble_eq_true rfl) rfl (Nat.le_of_ble_eq_true rfl) (by omega) (Nat.le_refl _) (Nat.le_refl _) ?_
          have n313 : ts b c1 ≠ 3 := (by first | exact n3_k (by omega) | exact n3_4 (by omega) | exact n3_w (by omega) | exact n3_s (by omega) | exact n3_l (by omega))
          refine sp_advance hP1.1.2.1 hP1.nx hP1.1.2.2.1 (hP1.2.2.1.2.2.2.1 n313) (by omega) (fun J13 M13 hFa13 hLa13 hTk13 => ?_)
          have hP13 := hP1.adv hP1.nx hFa13 hLa13 hTk13
          have hT_13 := hP13.2.2.2.1
          have hw_13 := hP13.tw
          have k4_13 := hP13.2.2.1.1
          have k5_13 := hP13.2.2.1.2.1
          have k6_13 := hP13.2.2.1.2.2.1.1
          have m4_13 := hP13.2.2.2.2.2.1
          have ki_13 := kC_in b (te b c1)
          have kw_13 := wi_in b (te b c1)
          have tr_13 := ts_rng b (te b c1)
          have l7_13 := hP13.2.2.1.2.2.2.2.1
          have u3_13 : J13 ((D 2) + 17) 3 = ((u1 : Nat) : Int) := by rw [← hO1.2.1, ← hT_13]; rfl
          refine wp_eqst (st' := []) rfl ?_
          refine wp_aload_n (pc := 63) 0 dX4_relation_63 rfl rfl ?_
          refine wp_iload_n (pc := 64) 1 dX4_relation_64 rfl rfl ?_
          refine wp_callV (pc := 65) (st := []) (nf' := 153) [vI (dep : Int)] [some (vR 44), some (vI (dep : Int)), none, none, none] dX4_relation_65 rfl c_X4_213 rfl kd_44 (by decide) rfl la_44 rfl (Nat.le_of_ble_eq_true rfl) rfl (Nat.le_of_ble_eq_true rfl) (by omega) (Nat.le_refl _) (Nat.le_refl _) ?_
          refine wp_eqls (ls' := [some (vR 44), some (vI (dep : Int)), none, none, none]) rfl ?_
          refine hY _ _ _ _ _ _ _ _ _ _ _ _ _ hP13 hO1 (by omega) hq31 (by omega) (fun c14 T14 o14 u14 hK14 hO14 hTF14 J14 M14 hF14 hL14 hP14 => ?_) (fun c15 hK15 J15 M15 hF15 hL15 hE15 => ?_)
          · have hq14 := hK14.1
            have hq314 : u14 ≤ 30 := hq14.2.2.1
            have hq114 := hq14.1
            have hq214 := hq14.2.1
            have hq414 := hq14.2.2.2.1
            have hT_14 := hP14.2.2.2.1
            have hw_14 := hP14.tw
            have k4_14 := hP14.2.2.1.1
            have k5_14 := hP14.2.2.1.2.1
            have k6_14 := hP14.2.2.1.2.2.1.1
            have m4_14 := hP14.2.2.2.2.2.1
            have ki_14 := kC_in b c14
            have kw_14 := wi_in b c14
            have tr_14 := ts_rng b c14
            have l7_14 := hP14.2.2.1.2.2.2.2.1
            have u3_14 : J14 ((D 2) + 17) 3 = ((u14 : Nat) : Int) := by rw [← hO14.2.1, ← hT_14]; rfl
            refine wp_eqst (st' := [vI 1]) rfl ?_
            refine wq_istore_n (pc := 68) 3 [some (vR 44), some (vI (dep : Int)), some (vI (ts b c1)), some (vI 1)] dX4_relation_68 rfl rfl (by decide) rfl ?_
            refine wp_aload_n (pc := 69) 0 dX4_relation_69 rfl rfl ?_
            refine wp_getr (pc := 70) dX4_relation_70 rfl f_X4_19 kd_44 la_44 rfl (r_44_1 D) ?_
            refine wp_getr (pc := 73) dX4_relation_73 rfl f_X4_197 (tk_0 ht) (tl_0 ht) rfl (tr_0_10 D ht) ?_
            refine wp_iload_n (pc := 76) 2 dX4_relation_76 rfl rfl ?_
            refine wp_ineg (pc := 77) dX4_relation_77 ?_
            have ops := opc_s (s := ts b c1) (by omega)
            refine wp_eqst (st' := [vI (opc (ts b c1)), vR ((D 2) + 17)]) (by rw [ops]) ?_
            refine wp_callV (pc := 78) (st := []) (nf' := 153) [vI (opc (ts b c1))] [some (vR ((D 2) + 17)), some (vI (opc (ts b c1)))] dX4_relation_78 rfl c_X4_203 rfl (tk_17 ht) (by decide) rfl (tl_17 ht) rfl (Nat.le_of_ble_eq_true rfl) rfl (Nat.le_of_ble_eq_true rfl) (by omega) (Nat.le_refl _) (Nat.le_refl _) ?_
            refine sp_fadd hP14.1 hT_14 (by omega) (by omega) (fun J16 hA16 => ?_)
            have hP16 := hP14.add hA16
            have hO16 := addT_O (code := opc (ts b c1)) hO14 (by omega)
            have hT_16 := hP16.2.2.2.1
            have hw_16 := hP16.tw
            have k4_16 := hP16.2.2.1.1
            have k5_16 := hP16.2.2.1.2.1
            have k6_16 := hP16.2.2.1.2.2.1.1
            have m4_16 := hP16.2.2.2.2.2.1
            have ki_16 := kC_in b c14
            have kw_16 := wi_in b c14
            have tr_16 := ts_rng b c14
            have l7_16 := hP16.2.2.1.2.2.2.2.1
            have u3_16 : J16 ((D 2) + 17) 3 = ((u14 : Nat) : Int) := by rw [← hO16.2.1, ← hT_16]; rfl
            refine wp_eqst (st' := []) rfl ?_
            refine wp_iload_n (pc := 81) 3 dX4_relation_81 rfl rfl ?_
            refine wp_zret (pc := 82) dX4_relation_82 rfl rfl (by decide) ?_
            have hltz := hP1.lt (by omega)
            have tgz := (tg_s (s := ts b c1)).2.2 (by omega)
            exact h1 _ _ _ _ (ok_bin (s := ts b c1) (l := 4) (ok_mono (x2 := 5) hK1 (by decide) (Nat.le_refl _) (Nat.le_refl _) (fun z => Or.inl z) (fun _ _ _ _ e => e)) (by decide) (Nat.le_refl _) (sg_s (by omega)) (by omega) tgz (fun P K h5 h4 z => by rw [hasR_skip P h5, hasR_ok h4] at z; exact absurd z.2 (by decide)) hltz hK14 (by decide) (by decide) (fun _ => by rw [tgz]; decide) (by decide) (fun _ _ h5 e => ex_rel1 h5 tgz (by omega) e)) hO16 (((TF.refl.trans hTF1).trans hTF14).trans addT_F) _ _ ((((Fp.refl.trans hF1).trans hFa13.p).trans hF14).trans hA16.1) (((Lp.refl.trans hL1).trans hLa13.p).trans hL14) hP16
          · skip
            refine wp_eqst (st' := [vI 0]) rfl ?_
            refine wq_istore_n (pc := 68) 3 [some (vR 44), some (vI (dep : Int)), some (vI (ts b c1)), some (vI 0)] dX4_relation_68 rfl rfl (by decide) rfl ?_
            refine wp_aload_n (pc := 69) 0 dX4_relation_69 rfl rfl ?_
            refine wp_getr (pc := 70) dX4_relation_70 rfl f_X4_19 kd_44 la_44 rfl (r_44_1 D) ?_
            refine wp_getr (pc := 73) dX4_relation_73 rfl f_X4_197 (tk_0 ht) (tl_0 ht) rfl (tr_0_10 D ht) ?_
            refine wp_iload_n (pc := 76) 2 dX4_relation_76 rfl rfl ?_
            refine wp_ineg (pc := 77) dX4_relation_77 ?_
            have ops := opc_s (s := ts b c1) (by omega)
            refine wp_eqst (st' := [vI (opc (ts b c1)), vR ((D 2) + 17)]) (by rw [ops]) ?_
            refine wp_callV (pc := 78) (st := []) (nf' := 153) [vI (opc (ts b c1))] [some (vR ((D 2) + 17)), some (vI (opc (ts b c1)))] dX4_relation_78 rfl c_X4_203 rfl (tk_17 ht) (by decide) rfl (tl_17 ht) rfl (Nat.le_of_ble_eq_true rfl) rfl (Nat.le_of_ble_eq_true rfl) (by omega) (Nat.le_refl _) (Nat.le_refl _) ?_
            refine sp_fadd (T := TT J15 (D 2)) hE15.1 rfl (by omega) (by omega) (fun J17 hA17 => ?_)
            refine wp_eqst (st' := []) rfl ?_
            refine wp_iload_n (pc := 81) 3 dX4_relation_81 rfl rfl ?_
            refine wp_zret (pc := 82) dX4_relation_82 rfl rfl (by decide) ?_
            exact h0 _ (bad_bin (s := ts b c1) (l := 4) (ok_mono (x2 := 5) hK1 (by decide) (Nat.le_refl _) (Nat.le_refl _) (fun z => Or.inl z) (fun _ _ _ _ e => e)) (by decide) (Nat.le_refl _) (sg_s (by omega)) (by omega) ((tg_s (s := ts b c1)).2.2 (by omega)) (fun P K h5 h4 z => by rw [hasR_skip P h5, hasR_ok h4] at z; exact absurd z.2 (by decide)) hK15 (by decide) (fun _ => by rw [(tg_s (s := ts b c1)).2.2 (by omega)]; decide)) _ _ ((((Fp.refl.trans hF1).trans hFa13.p).trans hF15).trans hA17.1) (((Lp.refl.trans hL1).trans hLa13.p).trans hL15) (hE15.add hA17)
        · refine wp_eqst (st' := [vI 0]) rfl ?_
          refine wp_if_ne (pc := 43) 48 dX4_relation_43 (by decide) (by decide) (fun hh => absurd hh (by decide)) (fun _ => ?_)
          refine wp_iconst (pc := 46) dX4_relation_46 ?_
          refine wp_zret (pc := 47) dX4_relation_47 rfl rfl (by decide) ?_
          exact h1 _ _ _ _ (ok_mono hK1 (by decide) (by decide) (Nat.le_refl _) (fun z => Or.inl z) (fun _ _ _ _ e => ex_rel0 e (by omega) (by omega) (by omega))) hO1 (TF.refl.trans hTF1) _ _ (Fp.refl.trans hF1) (Lp.refl.trans hL1) hP1
  · skip
    refine wp_eqst (st' := [vI 0]) rfl ?_
    refine wp_if_ne (pc := 5) 10 dX4_relation_5 (by decide) (by decide) (fun hh => absurd hh (by decide)) (fun _ => ?_)
    refine wp_iconst (pc := 8) dX4_relation_8 ?_
    refine wp_zret (pc := 9) dX4_relation_9 rfl rfl (by decide) ?_
    exact h0 _ (bad_mono hK2 (by decide) (fun z => Or.inl z)) _ _ (Fp.refl.trans hF2) (Lp.refl.trans hL2) hE2

theorem fs_one {l : Launch} {G : mG} {dep : Nat} (hdep : dep ≤ 7) (hY : FSp l G m_X4_relation 2 (7 * (8 - dep) + 7) 4 4 4 true 8 dep) (hS : dep < 7 → FSp l G m_X4_one 1 (7 * (8 - (dep + 1)) + 8) 4 3 4 false (1 + (dep + 1)) (dep + 1)) : FSp l G m_X4_one 1 (7 * (8 - dep) + 8) 4 3 4 false (1 + dep) dep := by
  intro d I L D Q b n c T N mo out un hP hO hl hu hd h1 h0
  have ht := hP.1.1
  have g2 : D 2 = 1 ∨ D 2 = 21 := ht
  have hT := hP.2.2.2.1
  have hw := hP.tw
  have k4 := hP.2.2.1.1
  have k5 := hP.2.2.1.2.1
  have k6 := hP.2.2.1.2.2.1.1
  have m4 := hP.2.2.2.2.2.1
  have ki := kC_in b c
  have kw := wi_in b c
  have tr := ts_rng b c
  have l7 := hP.2.2.1.2.2.2.2.1
  have b_c := tw_c hw
  have b_p := tw_p hw
  have b_q := tw_q hw
  have b_v := tw_vows hw
  have eC : nC T = (T 0 11).toNat := rfl
  have eP : nP T = (T 0 12).toNat := rfl
  have eQ : nQ T = (T 0 13).toNat := rfl
  have u3 : I ((D 2) + 17) 3 = ((un : Nat) : Int) := by rw [← hO.2.1, ← hT]; rfl
  refine wp_aload_n (pc := 0) 0 dX4_one_0 rfl rfl ?_
  refine wp_getr (pc := 1) dX4_one_1 rfl f_X4_15 kd_44 la_44 rfl (r_44_0 D) ?_
  refine wp_bipush (pc := 4) dX4_one_4 (by decide) ?_
  refine wp_callV (pc := 6) (st := []) (nf' := 153) [vI 16] [some (vR 41), some (vI 16)] dX4_one_6 rfl c_X4_134 rfl kd_41 (by decide) rfl la_41 rfl (Nat.le_of_ble_eq_true rfl) rfl (Nat.le_of_ble_eq_true rfl) (by omega) (Nat.le_refl _) (Nat.le_refl _) ?_
  refine sp_isWord hP.2.2.1 (by decide) (by omega) (fun h_1 => ?_) (fun h_1 => ?_)
  · refine wp_eqst (st' := [vI 1]) rfl ?_
    refine wp_if_ne (pc := 9) 18 dX4_one_9 (by decide) (by decide) (fun _ => ?_) (fun hh => absurd hh (by decide))
    refine wp_iload_n (pc := 18) 1 dX4_one_18 rfl rfl ?_
    refine wp_bipush (pc := 19) dX4_one_19 (by decide) ?_
    refine wp_icmp_lt (pc := 21) 30 dX4_one_21 (by decide) (by omega) (by decide) (fun h_2 => ?_) (fun h_2 => ?_)
    · refine wp_aload_n (pc := 30) 0 dX4_one_30 rfl rfl ?_
      refine wp_getr (pc := 31) dX4_one_31 rfl f_X4_15 kd_44 la_44 rfl (r_44_0 D) ?_
      refine wp_callV (pc := 34) (st := []) (nf' := 153) [] [some (vR 41), none] dX4_one_34 rfl c_X4_93 rfl kd_41 (by decide) rfl la_41 rfl (Nat.le_of_ble_eq_true rfl) rfl (Nat.le_of_ble_eq_true rfl) (by omega) (Nat.le_refl _) (Nat.le_refl _) ?_
      have n31 : ts b c ≠ 3 := (by first | exact n3_k (by omega) | exact n3_4 (by omega) | exact n3_w (by omega) | exact n3_s (by omega) | exact n3_l (by omega))
      refine sp_advance hP.1.2.1 hP.nx hP.1.2.2.1 (hP.2.2.1.2.2.2.1 n31) (by omega) (fun J1 M1 hFa1 hLa1 hTk1 => ?_)
      have hP1 := hP.adv hP.nx hFa1 hLa1 hTk1
      have hT_1 := hP1.2.2.2.1
      have hw_1 := hP1.tw
      have k4_1 := hP1.2.2.1.1
      have k5_1 := hP1.2.2.1.2.1
      have k6_1 := hP1.2.2.1.2.2.1.1
      have m4_1 := hP1.2.2.2.2.2.1
      have ki_1 := kC_in b (te b c)
      have kw_1 := wi_in b (te b c)
      have tr_1 := ts_rng b (te b c)
      have l7_1 := hP1.2.2.1.2.2.2.2.1
      have u3_1 : J1 ((D 2) + 17) 3 = ((un : Nat) : Int) := by rw [← hO.2.1, ← hT_1]; rfl
      refine wp_eqst (st' := []) rfl ?_
      refine wp_aload_n (pc := 37) 0 dX4_one_37 rfl rfl ?_
      refine wp_iload_n (pc := 38) 1 dX4_one_38 rfl rfl ?_
      refine wp_iconst (pc := 39) dX4_one_39 ?_
      refine wp_iadd (pc := 40) dX4_one_40 ?_
      refine wp_callV (pc := 41) (st := []) (nf' := 153) [vI ((dep : Int) + 1)] [some (vR 44), some (vI ((dep : Int) + 1)), none] dX4_one_41 rfl c_X4_207 rfl kd_44 (by decide) rfl la_44 rfl (Nat.le_of_ble_eq_true rfl) rfl (Nat.le_of_ble_eq_true rfl) (by omega) (Nat.le_refl _) (Nat.le_refl _) ?_
      refine wp_eqls (ls' := [some (vR 44), some (vI (((dep + 1) : Nat) : Int)), none]) rfl ?_
      refine hS (by omega) _ _ _ _ _ _ _ _ _ _ _ _ _ hP1 hO hl hu (by omega) (fun c2 T2 o2 u2 hK2 hO2 hTF2 J2 M2 hF2 hL2 hP2 => ?_) (fun c3 hK3 J3 M3 hF3 hL3 hE3 => ?_)
      · have hq2 := hK2.1
        have hq32 : u2 ≤ 30 := hq2.2.2.1
        have hq12 := hq2.1
        have hq22 := hq2.2.1
        have hq42 := hq2.2.2.2.1
        have hT_2 := hP2.2.2.2.1
        have hw_2 := hP2.tw
        have k4_2 := hP2.2.2.1.1
        have k5_2 := hP2.2.2.1.2.1
        have k6_2 := hP2.2.2.1.2.2.1.1
        have m4_2 := hP2.2.2.2.2.2.1
        have ki_2 := kC_in b c2
        have kw_2 := wi_in b c2
        have tr_2 := ts_rng b c2
        have l7_2 := hP2.2.2.1.2.2.2.2.1
        have u3_2 : J2 ((D 2) + 17) 3 = ((u2 : Nat) : Int) := by rw [← hO2.2.1, ← hT_2]; rfl
        refine wp_eqst (st' := [vI 1]) rfl ?_
        refine wq_istore_n (pc := 44) 2 [some (vR 44), some (vI (dep : Int)), some (vI 1)] dX4_one_44 rfl rfl (by decide) rfl ?_
        refine wp_aload_n (pc := 45) 0 dX4_one_45 rfl rfl ?_
        refine wp_getr (pc := 46) dX4_one_46 rfl f_X4_19 kd_44 la_44 rfl (r_44_1 D) ?_
        refine wp_getr (pc := 49) dX4_one_49 rfl f_X4_197 (tk_0 ht) (tl_0 ht) rfl (tr_0_10 D ht) ?_
        refine wp_bipush (pc := 52) dX4_one_52 (by decide) ?_
        refine wp_callV (pc := 54) (st := []) (nf' := 153) [vI (-6)] [some (vR ((D 2) + 17)), some (vI (-6))] dX4_one_54 rfl c_X4_203 rfl (tk_17 ht) (by decide) rfl (tl_17 ht) rfl (Nat.le_of_ble_eq_true rfl) rfl (Nat.le_of_ble_eq_true rfl) (by omega) (Nat.le_refl _) (Nat.le_refl _) ?_
        refine sp_fadd hP2.1 hT_2 (by omega) (by omega) (fun J4 hA4 => ?_)
        have hP4 := hP2.add hA4
        have hO4 := addT_O (code := (-6)) hO2 (by omega)
        have hT_4 := hP4.2.2.2.1
        have hw_4 := hP4.tw
        have k4_4 := hP4.2.2.1.1
        have k5_4 := hP4.2.2.1.2.1
        have k6_4 := hP4.2.2.1.2.2.1.1
        have m4_4 := hP4.2.2.2.2.2.1
        have ki_4 := kC_in b c2
        have kw_4 := wi_in b c2
        have tr_4 := ts_rng b c2
        have l7_4 := hP4.2.2.1.2.2.2.2.1
        have u3_4 : J4 ((D 2) + 17) 3 = ((u2 : Nat) : Int) := by rw [← hO4.2.1, ← hT_4]; rfl
        refine wp_eqst (st' := []) rfl ?_
        refine wp_iload_n (pc := 57) 2 dX4_one_57 rfl rfl ?_
        refine wp_zret (pc := 58) dX4_one_58 rfl rfl (by decide) ?_
        exact h1 _ _ _ _ (ok_not (by omega) (by omega) (hP.lt (by have z := @wi_ts b c (by omega); omega)) hK2) hO4 ((TF.refl.trans hTF2).trans addT_F) _ _ (((Fp.refl.trans hFa1.p).trans hF2).trans hA4.1) ((Lp.refl.trans hLa1.p).trans hL2) hP4
      · skip
        refine wp_eqst (st' := [vI 0]) rfl ?_
        refine wq_istore_n (pc := 44) 2 [some (vR 44), some (vI (dep : Int)), some (vI 0)] dX4_one_44 rfl rfl (by decide) rfl ?_
        refine wp_aload_n (pc := 45) 0 dX4_one_45 rfl rfl ?_
        refine wp_getr (pc := 46) dX4_one_46 rfl f_X4_19 kd_44 la_44 rfl (r_44_1 D) ?_
        refine wp_getr (pc := 49) dX4_one_49 rfl f_X4_197 (tk_0 ht) (tl_0 ht) rfl (tr_0_10 D ht) ?_
        refine wp_bipush (pc := 52) dX4_one_52 (by decide) ?_
        refine wp_callV (pc := 54) (st := []) (nf' := 153) [vI (-6)] [some (vR ((D 2) + 17)), some (vI (-6))] dX4_one_54 rfl c_X4_203 rfl (tk_17 ht) (by decide) rfl (tl_17 ht) rfl (Nat.le_of_ble_eq_true rfl) rfl (Nat.le_of_ble_eq_true rfl) (by omega) (Nat.le_refl _) (Nat.le_refl _) ?_
        refine sp_fadd (T := TT J3 (D 2)) hE3.1 rfl (by omega) (by omega) (fun J5 hA5 => ?_)
        refine wp_eqst (st' := []) rfl ?_
        refine wp_iload_n (pc := 57) 2 dX4_one_57 rfl rfl ?_
        refine wp_zret (pc := 58) dX4_one_58 rfl rfl (by decide) ?_
        exact h0 _ (bad_not (by omega) (by omega) hK3) _ _ (((Fp.refl.trans hFa1.p).trans hF3).trans hA5.1) ((Lp.refl.trans hLa1.p).trans hL3) (hE3.add hA5)
    · refine wp_aload_n (pc := 24) 0 dX4_one_24 rfl rfl ?_
      refine wp_iconst (pc := 25) dX4_one_25 ?_
      refine wp_callV (pc := 26) (st := []) (nf' := 153) [vI 2] [some (vR 44), some (vI 2)] dX4_one_26 rfl c_X4_42 rfl kd_44 (by decide) rfl la_44 rfl (Nat.le_of_ble_eq_true rfl) rfl (Nat.le_of_ble_eq_true rfl) (by omega) (Nat.le_refl _) (Nat.le_refl _) ?_
      refine sp_refuse hP.2.2.1 (by decide) (by omega) ?_
      refine wp_eqst (st' := [vI 0]) rfl ?_
      refine wp_zret (pc := 29) dX4_one_29 rfl rfl (by decide) ?_
      exact h0 _ (bad_deep (by omega) (by omega)) _ _ Fp.refl.up44.up44 Lp.refl (hP.ref 2)
  · refine wp_eqst (st' := [vI 0]) rfl ?_
    refine wp_if_ne (pc := 9) 18 dX4_one_9 (by decide) (by decide) (fun hh => absurd hh (by decide)) (fun _ => ?_)
    refine wp_aload_n (pc := 12) 0 dX4_one_12 rfl rfl ?_
    refine wp_iload_n (pc := 13) 1 dX4_one_13 rfl rfl ?_
    refine wp_callV (pc := 14) (st := []) (nf' := 153) [vI (dep : Int)] [some (vR 44), some (vI (dep : Int)), none, none] dX4_one_14 rfl c_X4_210 rfl kd_44 (by decide) rfl la_44 rfl (Nat.le_of_ble_eq_true rfl) rfl (Nat.le_of_ble_eq_true rfl) (by omega) (Nat.le_refl _) (Nat.le_refl _) ?_
    refine wp_eqls (ls' := [some (vR 44), some (vI (dep : Int)), none, none]) rfl ?_
    refine hY _ _ _ _ _ _ _ _ _ _ _ _ _ hP hO hl hu (by omega) (fun c6 T6 o6 u6 hK6 hO6 hTF6 J6 M6 hF6 hL6 hP6 => ?_) (fun c7 hK7 J7 M7 hF7 hL7 hE7 => ?_)
    · have hq6 := hK6.1
      have hq36 : u6 ≤ 30 := hq6.2.2.1
      have hq16 := hq6.1
      have hq26 := hq6.2.1
      have hq46 := hq6.2.2.2.1
      have hT_6 := hP6.2.2.2.1
      have hw_6 := hP6.tw
      have k4_6 := hP6.2.2.1.1
      have k5_6 := hP6.2.2.1.2.1
      have k6_6 := hP6.2.2.1.2.2.1.1
      have m4_6 := hP6.2.2.2.2.2.1
      have ki_6 := kC_in b c6
      have kw_6 := wi_in b c6
      have tr_6 := ts_rng b c6
      have l7_6 := hP6.2.2.1.2.2.2.2.1
      have u3_6 : J6 ((D 2) + 17) 3 = ((u6 : Nat) : Int) := by rw [← hO6.2.1, ← hT_6]; rfl
      refine wp_eqst (st' := [vI 1]) rfl ?_
      refine wp_zret (pc := 17) dX4_one_17 rfl rfl (by decide) ?_
      exact h1 _ _ _ _ (ok_mono hK6 (Nat.le_refl _) (by decide) (by omega) (fun _ => Or.inr (by omega)) (fun _ _ _ _ e => e)) hO6 (TF.refl.trans hTF6) _ _ (Fp.refl.trans hF6) (Lp.refl.trans hL6) hP6
    · skip
      refine wp_eqst (st' := [vI 0]) rfl ?_
      refine wp_zret (pc := 17) dX4_one_17 rfl rfl (by decide) ?_
      exact h0 _ (bad_mono hK7 (Nat.le_refl _) (fun _ => Or.inr (by omega))) _ _ (Fp.refl.trans hF7) (Lp.refl.trans hL7) hE7

theorem lf_both {l : Launch} {G : mG} {dep d : Nat} {I : mI} {L : Nat → Nat → Int} {D : Nat → Nat} {Q : mQ} {b : Nat → Int} {n c : Nat} {T N : mT} {mo : Nat} {out : List Int} {un : Nat} (hdep : dep ≤ 7) (hY : FSp l G m_X4_one 1 (7 * (8 - dep) + 8) 4 3 4 false (1 + dep) dep) (hl : out.length ≤ 9 * un) (hd : (7 * (8 - dep) + 9) ≤ d) (h1 : ∀ c' T' out' un', OKx b 2 2 2 false 1 dep c out un (c') (out') (un') → OF T' out' un' → TF T T' → ∀ J M, Fp I J (D 2) → Lp L M (D 2) → PS J M D b n c' T' N mo → Q (some (vI 1)) J (XX M D)) (h0 : ∀ c', BADx b 2 false dep c out un c' → ∀ J M, Fp I J (D 2) → Lp L M (D 2) → PE J M D b n (bad b c' 2) → Q (some (vI 0)) J (XX M D)) : ∀ k : Nat, k ≤ 1600 → ∀ (Jz : mI) (Mz : Nat → Nat → Int) (cz : Nat) (Tz : mT) (oz : List Int) (uz : Nat), k ≤ cz → OKx b 2 2 4 false 1 dep c out un cz oz uz → OF Tz oz uz → TF T Tz → Fp I Jz (D 2) → Lp L Mz (D 2) → PS Jz Mz D b n cz Tz N mo → WP l G m_X4_both d 153 Jz (XX Mz D) 8 [some (vR 44), some (vI (dep : Int)), some (vI 1), some (vI (k : Int))] [] Q := by
  refine loop_dn (fun k => ∀ (Jz : mI) (Mz : Nat → Nat → Int) (cz : Nat) (Tz : mT) (oz : List Int) (uz : Nat), k ≤ cz → OKx b 2 2 4 false 1 dep c out un cz oz uz → OF Tz oz uz → TF T Tz → Fp I Jz (D 2) → Lp L Mz (D 2) → PS Jz Mz D b n cz Tz N mo → WP l G m_X4_both d 153 Jz (XX Mz D) 8 [some (vR 44), some (vI (dep : Int)), some (vI 1), some (vI (k : Int))] [] Q) 1600 ?_ (fun k hk ih => ?_)
  · intro Jz Mz cz Tz oz uz hkz hKz hOz hTFz hFz hLz hPz
    have ht := hPz.1.1
    have g2 : D 2 = 1 ∨ D 2 = 21 := ht
    have hqz := hKz.1
    have hq4z := hqz.2.2.2.1
    have hq2z := hqz.2.1
    have hq3z : uz ≤ 30 := hqz.2.2.1
    have hT_z := hPz.2.2.2.1
    have hw_z := hPz.tw
    have k4_z := hPz.2.2.1.1
    have k5_z := hPz.2.2.1.2.1
    have k6_z := hPz.2.2.1.2.2.1.1
    have m4_z := hPz.2.2.2.2.2.1
    have ki_z := kC_in b cz
    have kw_z := wi_in b cz
    have tr_z := ts_rng b cz
    have l7_z := hPz.2.2.1.2.2.2.2.1
    have u3_z : Jz ((D 2) + 17) 3 = ((uz : Nat) : Int) := by rw [← hOz.2.1, ← hT_z]; rfl
    refine wp_iload_n (pc := 8) 3 dX4_both_8 rfl rfl ?_
    refine wp_sipush (pc := 9) dX4_both_9 (by decide) ?_
    refine wp_icmp_ge (pc := 12) 61 dX4_both_12 (by decide) (by decide) (by decide) (fun _ => ?_) (fun hh => absurd hh (by decide))
    refine wp_iload_n (pc := 61) 2 dX4_both_61 rfl rfl ?_
    refine wp_zret (pc := 62) dX4_both_62 rfl rfl (by decide) ?_
    have hse : sg b cz = 0 := by have z := (ts_end (g := Jz 42) (n := n) (c := cz) (by have := hPz.1.2.1.2.2; omega)).2; rw [← hPz.1.2.1.1] at z; exact z
    exact h1 _ _ _ _ (ok_mono hKz (Nat.le_refl _) (Nat.le_refl _) (Nat.le_refl _) (fun z => Or.inl z) (fun _ _ _ _ _ => Or.inl hse)) hOz hTFz _ _ hFz hLz hPz
  · intro Jz Mz cz Tz oz uz hkz hKz hOz hTFz hFz hLz hPz
    have ht := hPz.1.1
    have g2 : D 2 = 1 ∨ D 2 = 21 := ht
    have hqz := hKz.1
    have hq4z := hqz.2.2.2.1
    have hq2z := hqz.2.1
    have hq3z : uz ≤ 30 := hqz.2.2.1
    have hT_z := hPz.2.2.2.1
    have hw_z := hPz.tw
    have k4_z := hPz.2.2.1.1
    have k5_z := hPz.2.2.1.2.1
    have k6_z := hPz.2.2.1.2.2.1.1
    have m4_z := hPz.2.2.2.2.2.1
    have ki_z := kC_in b cz
    have kw_z := wi_in b cz
    have tr_z := ts_rng b cz
    have l7_z := hPz.2.2.1.2.2.2.2.1
    have u3_z : Jz ((D 2) + 17) 3 = ((uz : Nat) : Int) := by rw [← hOz.2.1, ← hT_z]; rfl
    refine wp_iload_n (pc := 8) 3 dX4_both_8 rfl rfl ?_
    refine wp_sipush (pc := 9) dX4_both_9 (by decide) ?_
    refine wp_icmp_ge (pc := 12) 61 dX4_both_12 (by decide) (by omega) (by decide) (fun h_1 => ?_) (fun h_1 => ?_)
    · refine wp_iload_n (pc := 61) 2 dX4_both_61 rfl rfl ?_
      refine wp_zret (pc := 62) dX4_both_62 rfl rfl (by decide) ?_
      have hse : sg b cz = 0 := by have z := (ts_end (g := Jz 42) (n := n) (c := cz) (by have := hPz.1.2.1.2.2; omega)).2; rw [← hPz.1.2.1.1] at z; exact z
      exact h1 _ _ _ _ (ok_mono hKz (Nat.le_refl _) (Nat.le_refl _) (Nat.le_refl _) (fun z => Or.inl z) (fun _ _ _ _ _ => Or.inl hse)) hOz hTFz _ _ hFz hLz hPz
    · refine wp_iload_n (pc := 15) 2 dX4_both_15 rfl rfl ?_
      refine wp_if_eq (pc := 16) 61 dX4_both_16 (by decide) (by decide) (fun hh => absurd hh (by decide)) (fun _ => ?_)
      refine wp_aload_n (pc := 19) 0 dX4_both_19 rfl rfl ?_
      refine wp_getr (pc := 20) dX4_both_20 rfl f_X4_15 kd_44 la_44 rfl (r_44_0 D) ?_
      refine wp_iconst (pc := 23) dX4_both_23 ?_
      refine wp_callV (pc := 24) (st := []) (nf' := 153) [vI 4] [some (vR 41), some (vI 4)] dX4_both_24 rfl c_X4_134 rfl kd_41 (by decide) rfl la_41 rfl (Nat.le_of_ble_eq_true rfl) rfl (Nat.le_of_ble_eq_true rfl) (by omega) (Nat.le_refl _) (Nat.le_refl _) ?_
      refine sp_isWord hPz.2.2.1 (by decide) (by omega) (fun h_2 => ?_) (fun h_2 => ?_)
      · refine wp_eqst (st' := [vI 1]) rfl ?_
        refine wp_if_eq (pc := 27) 61 dX4_both_27 (by decide) (by decide) (fun hh => absurd hh (by decide)) (fun _ => ?_)
        refine wp_aload_n (pc := 30) 0 dX4_both_30 rfl rfl ?_
        refine wp_getr (pc := 31) dX4_both_31 rfl f_X4_15 kd_44 la_44 rfl (r_44_0 D) ?_
        refine wp_callV (pc := 34) (st := []) (nf' := 153) [] [some (vR 41), none] dX4_both_34 rfl c_X4_93 rfl kd_41 (by decide) rfl la_41 rfl (Nat.le_of_ble_eq_true rfl) rfl (Nat.le_of_ble_eq_true rfl) (by omega) (Nat.le_refl _) (Nat.le_refl _) ?_
        have n31 : ts b cz ≠ 3 := (by first | exact n3_k (by omega) | exact n3_4 (by omega) | exact n3_w (by omega) | exact n3_s (by omega) | exact n3_l (by omega))
        refine sp_advance hPz.1.2.1 hPz.nx hPz.1.2.2.1 (hPz.2.2.1.2.2.2.1 n31) (by omega) (fun J1 M1 hFa1 hLa1 hTk1 => ?_)
        have hP1 := hPz.adv hPz.nx hFa1 hLa1 hTk1
        have hT_1 := hP1.2.2.2.1
        have hw_1 := hP1.tw
        have k4_1 := hP1.2.2.1.1
        have k5_1 := hP1.2.2.1.2.1
        have k6_1 := hP1.2.2.1.2.2.1.1
        have m4_1 := hP1.2.2.2.2.2.1
        have ki_1 := kC_in b (te b cz)
        have kw_1 := wi_in b (te b cz)
        have tr_1 := ts_rng b (te b cz)
        have l7_1 := hP1.2.2.1.2.2.2.2.1
        have u3_1 : J1 ((D 2) + 17) 3 = ((uz : Nat) : Int) := by rw [← hOz.2.1, ← hT_1]; rfl
        refine wp_eqst (st' := []) rfl ?_
        refine wp_aload_n (pc := 37) 0 dX4_both_37 rfl rfl ?_
        refine wp_iload_n (pc := 38) 1 dX4_both_38 rfl rfl ?_
        refine wp_callV (pc := 39) (st := []) (nf' := 153) [vI (dep : Int)] [some (vR 44), some (vI (dep : Int)), none] dX4_both_39 rfl c_X4_207 rfl kd_44 (by decide) rfl la_44 rfl (Nat.le_of_ble_eq_true rfl) rfl (Nat.le_of_ble_eq_true rfl) (by omega) (Nat.le_refl _) (Nat.le_refl _) ?_
        refine wp_eqls (ls' := [some (vR 44), some (vI (dep : Int)), none]) rfl ?_
        refine hY _ _ _ _ _ _ _ _ _ _ _ _ _ hP1 hOz (show oz.length ≤ 9 * uz by omega) hq3z (by omega) (fun c2 T2 o2 u2 hK2 hO2 hTF2 J2 M2 hF2 hL2 hP2 => ?_) (fun c3 hK3 J3 M3 hF3 hL3 hE3 => ?_)
        · have hq2 := hK2.1
          have hq32 : u2 ≤ 30 := hq2.2.2.1
          have hq12 := hq2.1
          have hq22 := hq2.2.1
          have hq42 := hq2.2.2.2.1
          have hT_2 := hP2.2.2.2.1
          have hw_2 := hP2.tw
          have k4_2 := hP2.2.2.1.1
          have k5_2 := hP2.2.2.1.2.1
          have k6_2 := hP2.2.2.1.2.2.1.1
          have m4_2 := hP2.2.2.2.2.2.1
          have ki_2 := kC_in b c2
          have kw_2 := wi_in b c2
          have tr_2 := ts_rng b c2
          have l7_2 := hP2.2.2.1.2.2.2.2.1
          have u3_2 : J2 ((D 2) + 17) 3 = ((u2 : Nat) : Int) := by rw [← hO2.2.1, ← hT_2]; rfl
          refine wp_eqst (st' := [vI 1]) rfl ?_
          refine wq_istore_n (pc := 42) 2 [some (vR 44), some (vI (dep : Int)), some (vI 1), some (vI (k : Int))] dX4_both_42 rfl rfl (by decide) rfl ?_
          refine wp_aload_n (pc := 43) 0 dX4_both_43 rfl rfl ?_
          refine wp_getr (pc := 44) dX4_both_44 rfl f_X4_19 kd_44 la_44 rfl (r_44_1 D) ?_
          refine wp_getr (pc := 47) dX4_both_47 rfl f_X4_197 (tk_0 ht) (tl_0 ht) rfl (tr_0_10 D ht) ?_
          refine wp_bipush (pc := 50) dX4_both_50 (by decide) ?_
          refine wp_callV (pc := 52) (st := []) (nf' := 153) [vI (-7)] [some (vR ((D 2) + 17)), some (vI (-7))] dX4_both_52 rfl c_X4_203 rfl (tk_17 ht) (by decide) rfl (tl_17 ht) rfl (Nat.le_of_ble_eq_true rfl) rfl (Nat.le_of_ble_eq_true rfl) (by omega) (Nat.le_refl _) (Nat.le_refl _) ?_
          refine sp_fadd hP2.1 hT_2 (by omega) (by omega) (fun J4 hA4 => ?_)
          have hP4 := hP2.add hA4
          have hO4 := addT_O (code := (-7)) hO2 (by omega)
          have hT_4 := hP4.2.2.2.1
          have hw_4 := hP4.tw
          have k4_4 := hP4.2.2.1.1
          have k5_4 := hP4.2.2.1.2.1
          have k6_4 := hP4.2.2.1.2.2.1.1
          have m4_4 := hP4.2.2.2.2.2.1
          have ki_4 := kC_in b c2
          have kw_4 := wi_in b c2
          have tr_4 := ts_rng b c2
          have l7_4 := hP4.2.2.1.2.2.2.2.1
          have u3_4 : J4 ((D 2) + 17) 3 = ((u2 : Nat) : Int) := by rw [← hO4.2.1, ← hT_4]; rfl
          refine wp_eqst (st' := []) rfl ?_
          refine wq_iinc (pc := 55) [some (vR 44), some (vI (dep : Int)), some (vI 1), some (vI ((k : Int) + 1))] dX4_both_55 rfl rfl (by decide) rfl ?_
          refine wp_goto (pc := 58) 8 dX4_both_58 (by decide) ?_
          have hltz := (hPz.lt (by first | omega | (have z := @wi_ts b cz (by omega); omega)))
          exact wp_eqls (ls' := [some (vR 44), some (vI (dep : Int)), some (vI 1), some (vI (((k + 1) : Nat) : Int))]) rfl (ih _ _ _ _ _ _ (by omega) (ok_bin (s := 38) (l := 2) hKz (Nat.le_refl _) (by decide) (sg_4 (by omega)) (by decide) (by decide) (fun _ _ _ _ z => absurd z.1 (by decide)) hltz hK2 (by decide) (by decide) (fun z => absurd z (by decide)) (by omega) (fun _ _ _ e => e)) hO4 ((hTFz.trans hTF2).trans addT_F) (((hFz.trans hFa1.p).trans hF2).trans hA4.1) ((hLz.trans hLa1.p).trans hL2) hP4)
        · skip
          refine wp_eqst (st' := [vI 0]) rfl ?_
          refine wq_istore_n (pc := 42) 2 [some (vR 44), some (vI (dep : Int)), some (vI 0), some (vI (k : Int))] dX4_both_42 rfl rfl (by decide) rfl ?_
          refine wp_aload_n (pc := 43) 0 dX4_both_43 rfl rfl ?_
          refine wp_getr (pc := 44) dX4_both_44 rfl f_X4_19 kd_44 la_44 rfl (r_44_1 D) ?_
          refine wp_getr (pc := 47) dX4_both_47 rfl f_X4_197 (tk_0 ht) (tl_0 ht) rfl (tr_0_10 D ht) ?_
          refine wp_bipush (pc := 50) dX4_both_50 (by decide) ?_
          refine wp_callV (pc := 52) (st := []) (nf' := 153) [vI (-7)] [some (vR ((D 2) + 17)), some (vI (-7))] dX4_both_52 rfl c_X4_203 rfl (tk_17 ht) (by decide) rfl (tl_17 ht) rfl (Nat.le_of_ble_eq_true rfl) rfl (Nat.le_of_ble_eq_true rfl) (by omega) (Nat.le_refl _) (Nat.le_refl _) ?_
          refine sp_fadd (T := TT J3 (D 2)) hE3.1 rfl (by omega) (by omega) (fun J5 hA5 => ?_)
          refine wp_eqst (st' := []) rfl ?_
          refine wq_iinc (pc := 55) [some (vR 44), some (vI (dep : Int)), some (vI 0), some (vI ((k : Int) + 1))] dX4_both_55 rfl rfl (by decide) rfl ?_
          refine wp_goto (pc := 58) 8 dX4_both_58 (by decide) ?_
          refine wp_iload_n (pc := 8) 3 dX4_both_8 rfl rfl ?_
          refine wp_sipush (pc := 9) dX4_both_9 (by decide) ?_
          refine wp_icmp_ge (pc := 12) 61 dX4_both_12 (by decide) (by omega) (by decide) (fun h_3 => ?_) (fun h_3 => ?_)
          · refine wp_iload_n (pc := 61) 2 dX4_both_61 rfl rfl ?_
            refine wp_zret (pc := 62) dX4_both_62 rfl rfl (by decide) ?_
            exact h0 _ (bad_bin (s := 38) (l := 2) hKz (Nat.le_refl _) (by decide) (sg_4 (by omega)) (by decide) (by decide) (fun _ _ _ _ z => absurd z.1 (by decide)) hK3 (by decide) (fun z => absurd z (by decide))) _ _ (((hFz.trans hFa1.p).trans hF3).trans hA5.1) ((hLz.trans hLa1.p).trans hL3) (hE3.add hA5)
          · refine wp_iload_n (pc := 15) 2 dX4_both_15 rfl rfl ?_
            refine wp_if_eq (pc := 16) 61 dX4_both_16 (by decide) (by decide) (fun _ => ?_) (fun hh => absurd hh (by decide))
            refine wp_iload_n (pc := 61) 2 dX4_both_61 rfl rfl ?_
            refine wp_zret (pc := 62) dX4_both_62 rfl rfl (by decide) ?_
            exact h0 _ (bad_bin (s := 38) (l := 2) hKz (Nat.le_refl _) (by decide) (sg_4 (by omega)) (by decide) (by decide) (fun _ _ _ _ z => absurd z.1 (by decide)) hK3 (by decide) (fun z => absurd z (by decide))) _ _ (((hFz.trans hFa1.p).trans hF3).trans hA5.1) ((hLz.trans hLa1.p).trans hL3) (hE3.add hA5)
      · refine wp_eqst (st' := [vI 0]) rfl ?_
        refine wp_if_eq (pc := 27) 61 dX4_both_27 (by decide) (by decide) (fun _ => ?_) (fun hh => absurd hh (by decide))
        refine wp_iload_n (pc := 61) 2 dX4_both_61 rfl rfl ?_
        refine wp_zret (pc := 62) dX4_both_62 rfl rfl (by decide) ?_
        exact h1 _ _ _ _ (ok_mono hKz (Nat.le_refl _) (Nat.le_refl _) (Nat.le_refl _) (fun z => Or.inl z) (fun _ _ _ _ e => ex_and e (by omega))) hOz hTFz _ _ hFz hLz hPz

theorem fs_both {l : Launch} {G : mG} {dep : Nat} (hdep : dep ≤ 7) (hY : FSp l G m_X4_one 1 (7 * (8 - dep) + 8) 4 3 4 false (1 + dep) dep) : FSp l G m_X4_both 2 (7 * (8 - dep) + 9) 2 2 2 false 1 dep := by
  intro d I L D Q b n c T N mo out un hP hO hl hu hd h1 h0
  have ht := hP.1.1
  have g2 : D 2 = 1 ∨ D 2 = 21 := ht
  have hT := hP.2.2.2.1
  have hw := hP.tw
  have k4 := hP.2.2.1.1
  have k5 := hP.2.2.1.2.1
  have k6 := hP.2.2.1.2.2.1.1
  have m4 := hP.2.2.2.2.2.1
  have ki := kC_in b c
  have kw := wi_in b c
  have tr := ts_rng b c
  have l7 := hP.2.2.1.2.2.2.2.1
  have b_c := tw_c hw
  have b_p := tw_p hw
  have b_q := tw_q hw
  have b_v := tw_vows hw
  have eC : nC T = (T 0 11).toNat := rfl
  have eP : nP T = (T 0 12).toNat := rfl
  have eQ : nQ T = (T 0 13).toNat := rfl
  have u3 : I ((D 2) + 17) 3 = ((un : Nat) : Int) := by rw [← hO.2.1, ← hT]; rfl
  refine wp_aload_n (pc := 0) 0 dX4_both_0 rfl rfl ?_
  refine wp_iload_n (pc := 1) 1 dX4_both_1 rfl rfl ?_
  refine wp_callV (pc := 2) (st := []) (nf' := 153) [vI (dep : Int)] [some (vR 44), some (vI (dep : Int)), none] dX4_both_2 rfl c_X4_207 rfl kd_44 (by decide) rfl la_44 rfl (Nat.le_of_ble_eq_true rfl) rfl (Nat.le_of_ble_eq_true rfl) (by omega) (Nat.le_refl _) (Nat.le_refl _) ?_
  refine wp_eqls (ls' := [some (vR 44), some (vI (dep : Int)), none]) rfl ?_
  refine hY _ _ _ _ _ _ _ _ _ _ _ _ _ hP hO hl hu (by omega) (fun c1 T1 o1 u1 hK1 hO1 hTF1 J1 M1 hF1 hL1 hP1 => ?_) (fun c2 hK2 J2 M2 hF2 hL2 hE2 => ?_)
  · have hq1 := hK1.1
    have hq31 : u1 ≤ 30 := hq1.2.2.1
    have hq11 := hq1.1
    have hq21 := hq1.2.1
    have hq41 := hq1.2.2.2.1
    have hT_1 := hP1.2.2.2.1
    have hw_1 := hP1.tw
    have k4_1 := hP1.2.2.1.1
    have k5_1 := hP1.2.2.1.2.1
    have k6_1 := hP1.2.2.1.2.2.1.1
    have m4_1 := hP1.2.2.2.2.2.1
    have ki_1 := kC_in b c1
    have kw_1 := wi_in b c1
    have tr_1 := ts_rng b c1
    have l7_1 := hP1.2.2.1.2.2.2.2.1
    have u3_1 : J1 ((D 2) + 17) 3 = ((u1 : Nat) : Int) := by rw [← hO1.2.1, ← hT_1]; rfl
    refine wp_eqst (st' := [vI 1]) rfl ?_
    refine wq_istore_n (pc := 5) 2 [some (vR 44), some (vI (dep : Int)), some (vI 1), none] dX4_both_5 rfl rfl (by decide) rfl ?_
    refine wp_iconst (pc := 6) dX4_both_6 ?_
    refine wq_istore_n (pc := 7) 3 [some (vR 44), some (vI (dep : Int)), some (vI 1), some (vI 0)] dX4_both_7 rfl rfl (by decide) rfl ?_
    exact lf_both hdep hY hl hd h1 h0 0 (Nat.zero_le _) _ _ _ _ _ _ (Nat.zero_le _) (ok_mono hK1 (by decide) (by decide) (by omega) (fun z => absurd z (by decide)) (fun _ _ _ _ e => e)) hO1 (TF.refl.trans hTF1) (Fp.refl.trans hF1) (Lp.refl.trans hL1) hP1
  · skip
    refine wp_eqst (st' := [vI 0]) rfl ?_
    refine wq_istore_n (pc := 5) 2 [some (vR 44), some (vI (dep : Int)), some (vI 0), none] dX4_both_5 rfl rfl (by decide) rfl ?_
    refine wp_iconst (pc := 6) dX4_both_6 ?_
    refine wq_istore_n (pc := 7) 3 [some (vR 44), some (vI (dep : Int)), some (vI 0), some (vI 0)] dX4_both_7 rfl rfl (by decide) rfl ?_
    refine wp_iload_n (pc := 8) 3 dX4_both_8 rfl rfl ?_
    refine wp_sipush (pc := 9) dX4_both_9 (by decide) ?_
    refine wp_icmp_ge (pc := 12) 61 dX4_both_12 (by decide) (by decide) (by decide) (fun hh => absurd hh (by decide)) (fun _ => ?_)
    refine wp_iload_n (pc := 15) 2 dX4_both_15 rfl rfl ?_
    refine wp_if_eq (pc := 16) 61 dX4_both_16 (by decide) (by decide) (fun _ => ?_) (fun hh => absurd hh (by decide))
    refine wp_iload_n (pc := 61) 2 dX4_both_61 rfl rfl ?_
    refine wp_zret (pc := 62) dX4_both_62 rfl rfl (by decide) ?_
    exact h0 _ (bad_mono hK2 (by decide) (fun z => absurd z (by decide))) _ _ (Fp.refl.trans hF2) (Lp.refl.trans hL2) hE2

theorem lf_either {l : Launch} {G : mG} {dep d : Nat} {I : mI} {L : Nat → Nat → Int} {D : Nat → Nat} {Q : mQ} {b : Nat → Int} {n c : Nat} {T N : mT} {mo : Nat} {out : List Int} {un : Nat} (hdep : dep ≤ 7) (hY : FSp l G m_X4_both 2 (7 * (8 - dep) + 9) 2 2 2 false 1 dep) (hl : out.length ≤ 9 * un) (hd : (7 * (8 - dep) + 10) ≤ d) (h1 : ∀ c' T' out' un', OKx b 1 1 1 false 1 dep c out un (c') (out') (un') → OF T' out' un' → TF T T' → ∀ J M, Fp I J (D 2) → Lp L M (D 2) → PS J M D b n c' T' N mo → Q (some (vI 1)) J (XX M D)) (h0 : ∀ c', BADx b 1 false dep c out un c' → ∀ J M, Fp I J (D 2) → Lp L M (D 2) → PE J M D b n (bad b c' 2) → Q (some (vI 0)) J (XX M D)) : ∀ k : Nat, k ≤ 1600 → ∀ (Jz : mI) (Mz : Nat → Nat → Int) (cz : Nat) (Tz : mT) (oz : List Int) (uz : Nat), k ≤ cz → OKx b 1 1 2 false 1 dep c out un cz oz uz → OF Tz oz uz → TF T Tz → Fp I Jz (D 2) → Lp L Mz (D 2) → PS Jz Mz D b n cz Tz N mo → WP l G m_X4_either d 153 Jz (XX Mz D) 8 [some (vR 44), some (vI (dep : Int)), some (vI 1), some (vI (k : Int))] [] Q := by
  refine loop_dn (fun k => ∀ (Jz : mI) (Mz : Nat → Nat → Int) (cz : Nat) (Tz : mT) (oz : List Int) (uz : Nat), k ≤ cz → OKx b 1 1 2 false 1 dep c out un cz oz uz → OF Tz oz uz → TF T Tz → Fp I Jz (D 2) → Lp L Mz (D 2) → PS Jz Mz D b n cz Tz N mo → WP l G m_X4_either d 153 Jz (XX Mz D) 8 [some (vR 44), some (vI (dep : Int)), some (vI 1), some (vI (k : Int))] [] Q) 1600 ?_ (fun k hk ih => ?_)
  · intro Jz Mz cz Tz oz uz hkz hKz hOz hTFz hFz hLz hPz
    have ht := hPz.1.1
    have g2 : D 2 = 1 ∨ D 2 = 21 := ht
    have hqz := hKz.1
    have hq4z := hqz.2.2.2.1
    have hq2z := hqz.2.1
    have hq3z : uz ≤ 30 := hqz.2.2.1
    have hT_z := hPz.2.2.2.1
    have hw_z := hPz.tw
    have k4_z := hPz.2.2.1.1
    have k5_z := hPz.2.2.1.2.1
    have k6_z := hPz.2.2.1.2.2.1.1
    have m4_z := hPz.2.2.2.2.2.1
    have ki_z := kC_in b cz
    have kw_z := wi_in b cz
    have tr_z := ts_rng b cz
    have l7_z := hPz.2.2.1.2.2.2.2.1
    have u3_z : Jz ((D 2) + 17) 3 = ((uz : Nat) : Int) := by rw [← hOz.2.1, ← hT_z]; rfl
    refine wp_iload_n (pc := 8) 3 dX4_either_8 rfl rfl ?_
    refine wp_sipush (pc := 9) dX4_either_9 (by decide) ?_
    refine wp_icmp_ge (pc := 12) 62 dX4_either_12 (by decide) (by decide) (by decide) (fun _ => ?_) (fun hh => absurd hh (by decide))
    refine wp_iload_n (pc := 62) 2 dX4_either_62 rfl rfl ?_
    refine wp_zret (pc := 63) dX4_either_63 rfl rfl (by decide) ?_
    have hse : sg b cz = 0 := by have z := (ts_end (g := Jz 42) (n := n) (c := cz) (by have := hPz.1.2.1.2.2; omega)).2; rw [← hPz.1.2.1.1] at z; exact z
    exact h1 _ _ _ _ (ok_mono hKz (Nat.le_refl _) (Nat.le_refl _) (Nat.le_refl _) (fun z => Or.inl z) (fun _ _ _ _ _ => Or.inl hse)) hOz hTFz _ _ hFz hLz hPz
  · intro Jz Mz cz Tz oz uz hkz hKz hOz hTFz hFz hLz hPz
    have ht := hPz.1.1
    have g2 : D 2 = 1 ∨ D 2 = 21 := ht
    have hqz := hKz.1
    have hq4z := hqz.2.2.2.1
    have hq2z := hqz.2.1
    have hq3z : uz ≤ 30 := hqz.2.2.1
    have hT_z := hPz.2.2.2.1
    have hw_z := hPz.tw
    have k4_z := hPz.2.2.1.1
    have k5_z := hPz.2.2.1.2.1
    have k6_z := hPz.2.2.1.2.2.1.1
    have m4_z := hPz.2.2.2.2.2.1
    have ki_z := kC_in b cz
    have kw_z := wi_in b cz
    have tr_z := ts_rng b cz
    have l7_z := hPz.2.2.1.2.2.2.2.1
    have u3_z : Jz ((D 2) + 17) 3 = ((uz : Nat) : Int) := by rw [← hOz.2.1, ← hT_z]; rfl
    refine wp_iload_n (pc := 8) 3 dX4_either_8 rfl rfl ?_
    refine wp_sipush (pc := 9) dX4_either_9 (by decide) ?_
    refine wp_icmp_ge (pc := 12) 62 dX4_either_12 (by decide) (by omega) (by decide) (fun h_1 => ?_) (fun h_1 => ?_)
    · refine wp_iload_n (pc := 62) 2 dX4_either_62 rfl rfl ?_
      refine wp_zret (pc := 63) dX4_either_63 rfl rfl (by decide) ?_
      have hse : sg b cz = 0 := by have z := (ts_end (g := Jz 42) (n := n) (c := cz) (by have := hPz.1.2.1.2.2; omega)).2; rw [← hPz.1.2.1.1] at z; exact z
      exact h1 _ _ _ _ (ok_mono hKz (Nat.le_refl _) (Nat.le_refl _) (Nat.le_refl _) (fun z => Or.inl z) (fun _ _ _ _ _ => Or.inl hse)) hOz hTFz _ _ hFz hLz hPz
    · refine wp_iload_n (pc := 15) 2 dX4_either_15 rfl rfl ?_
      refine wp_if_eq (pc := 16) 62 dX4_either_16 (by decide) (by decide) (fun hh => absurd hh (by decide)) (fun _ => ?_)
      refine wp_aload_n (pc := 19) 0 dX4_either_19 rfl rfl ?_
      refine wp_getr (pc := 20) dX4_either_20 rfl f_X4_15 kd_44 la_44 rfl (r_44_0 D) ?_
      refine wp_bipush (pc := 23) dX4_either_23 (by decide) ?_
      refine wp_callV (pc := 25) (st := []) (nf' := 153) [vI 15] [some (vR 41), some (vI 15)] dX4_either_25 rfl c_X4_134 rfl kd_41 (by decide) rfl la_41 rfl (Nat.le_of_ble_eq_true rfl) rfl (Nat.le_of_ble_eq_true rfl) (by omega) (Nat.le_refl _) (Nat.le_refl _) ?_
      refine sp_isWord hPz.2.2.1 (by decide) (by omega) (fun h_2 => ?_) (fun h_2 => ?_)
      · refine wp_eqst (st' := [vI 1]) rfl ?_
        refine wp_if_eq (pc := 28) 62 dX4_either_28 (by decide) (by decide) (fun hh => absurd hh (by decide)) (fun _ => ?_)
        refine wp_aload_n (pc := 31) 0 dX4_either_31 rfl rfl ?_
        refine wp_getr (pc := 32) dX4_either_32 rfl f_X4_15 kd_44 la_44 rfl (r_44_0 D) ?_
        refine wp_callV (pc := 35) (st := []) (nf' := 153) [] [some (vR 41), none] dX4_either_35 rfl c_X4_93 rfl kd_41 (by decide) rfl la_41 rfl (Nat.le_of_ble_eq_true rfl) rfl (Nat.le_of_ble_eq_true rfl) (by omega) (Nat.le_refl _) (Nat.le_refl _) ?_
        have n31 : ts b cz ≠ 3 := (by first | exact n3_k (by omega) | exact n3_4 (by omega) | exact n3_w (by omega) | exact n3_s (by omega) | exact n3_l (by omega))
        refine sp_advance hPz.1.2.1 hPz.nx hPz.1.2.2.1 (hPz.2.2.1.2.2.2.1 n31) (by omega) (fun J1 M1 hFa1 hLa1 hTk1 => ?_)
        have hP1 := hPz.adv hPz.nx hFa1 hLa1 hTk1
        have hT_1 := hP1.2.2.2.1
        have hw_1 := hP1.tw
        have k4_1 := hP1.2.2.1.1
        have k5_1 := hP1.2.2.1.2.1
        have k6_1 := hP1.2.2.1.2.2.1.1
        have m4_1 := hP1.2.2.2.2.2.1
        have ki_1 := kC_in b (te b cz)
        have kw_1 := wi_in b (te b cz)
        have tr_1 := ts_rng b (te b cz)
        have l7_1 := hP1.2.2.1.2.2.2.2.1
        have u3_1 : J1 ((D 2) + 17) 3 = ((uz : Nat) : Int) := by rw [← hOz.2.1, ← hT_1]; rfl
        refine wp_eqst (st' := []) rfl ?_
        refine wp_aload_n (pc := 38) 0 dX4_either_38 rfl rfl ?_
        refine wp_iload_n (pc := 39) 1 dX4_either_39 rfl rfl ?_
        refine wp_callV (pc := 40) (st := []) (nf' := 153) [vI (dep : Int)] [some (vR 44), some (vI (dep : Int)), none, none] dX4_either_40 rfl c_X4_194 rfl kd_44 (by decide) rfl la_44 rfl (Nat.le_of_ble_eq_true rfl) rfl (Nat.le_of_ble_eq_true rfl) (by omega) (Nat.le_refl _) (Nat.le_refl _) ?_
        refine wp_eqls (ls' := [some (vR 44), some (vI (dep : Int)), none, none]) rfl ?_
        refine hY _ _ _ _ _ _ _ _ _ _ _ _ _ hP1 hOz (show oz.length ≤ 9 * uz by omega) hq3z (by omega) (fun c2 T2 o2 u2 hK2 hO2 hTF2 J2 M2 hF2 hL2 hP2 => ?_) (fun c3 hK3 J3 M3 hF3 hL3 hE3 => ?_)
        · have hq2 := hK2.1
          have hq32 : u2 ≤ 30 := hq2.2.2.1
          have hq12 := hq2.1
          have hq22 := hq2.2.1
          have hq42 := hq2.2.2.2.1
          have hT_2 := hP2.2.2.2.1
          have hw_2 := hP2.tw
          have k4_2 := hP2.2.2.1.1
          have k5_2 := hP2.2.2.1.2.1
          have k6_2 := hP2.2.2.1.2.2.1.1
          have m4_2 := hP2.2.2.2.2.2.1
          have ki_2 := kC_in b c2
          have kw_2 := wi_in b c2
          have tr_2 := ts_rng b c2
          have l7_2 := hP2.2.2.1.2.2.2.2.1
          have u3_2 : J2 ((D 2) + 17) 3 = ((u2 : Nat) : Int) := by rw [← hO2.2.1, ← hT_2]; rfl
          refine wp_eqst (st' := [vI 1]) rfl ?_
          refine wq_istore_n (pc := 43) 2 [some (vR 44), some (vI (dep : Int)), some (vI 1), some (vI (k : Int))] dX4_either_43 rfl rfl (by decide) rfl ?_
          refine wp_aload_n (pc := 44) 0 dX4_either_44 rfl rfl ?_
          refine wp_getr (pc := 45) dX4_either_45 rfl f_X4_19 kd_44 la_44 rfl (r_44_1 D) ?_
          refine wp_getr (pc := 48) dX4_either_48 rfl f_X4_197 (tk_0 ht) (tl_0 ht) rfl (tr_0_10 D ht) ?_
          refine wp_bipush (pc := 51) dX4_either_51 (by decide) ?_
          refine wp_callV (pc := 53) (st := []) (nf' := 153) [vI (-8)] [some (vR ((D 2) + 17)), some (vI (-8))] dX4_either_53 rfl c_X4_203 rfl (tk_17 ht) (by decide) rfl (tl_17 ht) rfl (Nat.le_of_ble_eq_true rfl) rfl (Nat.le_of_ble_eq_true rfl) (by omega) (Nat.le_refl _) (Nat.le_refl _) ?_
          refine sp_fadd hP2.1 hT_2 (by omega) (by omega) (fun J4 hA4 => ?_)
          have hP4 := hP2.add hA4
          have hO4 := addT_O (code := (-8)) hO2 (by omega)
          have hT_4 := hP4.2.2.2.1
          have hw_4 := hP4.tw
          have k4_4 := hP4.2.2.1.1
          have k5_4 := hP4.2.2.1.2.1
          have k6_4 := hP4.2.2.1.2.2.1.1
          have m4_4 := hP4.2.2.2.2.2.1
          have ki_4 := kC_in b c2
          have kw_4 := wi_in b c2
          have tr_4 := ts_rng b c2
          have l7_4 := hP4.2.2.1.2.2.2.2.1
          have u3_4 : J4 ((D 2) + 17) 3 = ((u2 : Nat) : Int) := by rw [← hO4.2.1, ← hT_4]; rfl
          refine wp_eqst (st' := []) rfl ?_
          refine wq_iinc (pc := 56) [some (vR 44), some (vI (dep : Int)), some (vI 1), some (vI ((k : Int) + 1))] dX4_either_56 rfl rfl (by decide) rfl ?_
          refine wp_goto (pc := 59) 8 dX4_either_59 (by decide) ?_
          have hltz := (hPz.lt (by first | omega | (have z := @wi_ts b cz (by omega); omega)))
          exact wp_eqls (ls' := [some (vR 44), some (vI (dep : Int)), some (vI 1), some (vI (((k + 1) : Nat) : Int))]) rfl (ih _ _ _ _ _ _ (by omega) (ok_bin (s := 124) (l := 1) hKz (Nat.le_refl _) (by decide) (sg_15 (by omega)) (by decide) (by decide) (fun _ _ _ _ z => absurd z.1 (by decide)) hltz hK2 (by decide) (by decide) (fun z => absurd z (by decide)) (by decide) (fun _ _ _ e => e)) hO4 ((hTFz.trans hTF2).trans addT_F) (((hFz.trans hFa1.p).trans hF2).trans hA4.1) ((hLz.trans hLa1.p).trans hL2) hP4)
        · skip
          refine wp_eqst (st' := [vI 0]) rfl ?_
          refine wq_istore_n (pc := 43) 2 [some (vR 44), some (vI (dep : Int)), some (vI 0), some (vI (k : Int))] dX4_either_43 rfl rfl (by decide) rfl ?_
          refine wp_aload_n (pc := 44) 0 dX4_either_44 rfl rfl ?_
          refine wp_getr (pc := 45) dX4_either_45 rfl f_X4_19 kd_44 la_44 rfl (r_44_1 D) ?_
          refine wp_getr (pc := 48) dX4_either_48 rfl f_X4_197 (tk_0 ht) (tl_0 ht) rfl (tr_0_10 D ht) ?_
          refine wp_bipush (pc := 51) dX4_either_51 (by decide) ?_
          refine wp_callV (pc := 53) (st := []) (nf' := 153) [vI (-8)] [some (vR ((D 2) + 17)), some (vI (-8))] dX4_either_53 rfl c_X4_203 rfl (tk_17 ht) (by decide) rfl (tl_17 ht) rfl (Nat.le_of_ble_eq_true rfl) rfl (Nat.le_of_ble_eq_true rfl) (by omega) (Nat.le_refl _) (Nat.le_refl _) ?_
          refine sp_fadd (T := TT J3 (D 2)) hE3.1 rfl (by omega) (by omega) (fun J5 hA5 => ?_)
          refine wp_eqst (st' := []) rfl ?_
          refine wq_iinc (pc := 56) [some (vR 44), some (vI (dep : Int)), some (vI 0), some (vI ((k : Int) + 1))] dX4_either_56 rfl rfl (by decide) rfl ?_
          refine wp_goto (pc := 59) 8 dX4_either_59 (by decide) ?_
          refine wp_iload_n (pc := 8) 3 dX4_either_8 rfl rfl ?_
          refine wp_sipush (pc := 9) dX4_either_9 (by decide) ?_
          refine wp_icmp_ge (pc := 12) 62 dX4_either_12 (by decide) (by omega) (by decide) (fun h_3 => ?_) (fun h_3 => ?_)
          · refine wp_iload_n (pc := 62) 2 dX4_either_62 rfl rfl ?_
            refine wp_zret (pc := 63) dX4_either_63 rfl rfl (by decide) ?_
            exact h0 _ (bad_bin (s := 124) (l := 1) hKz (Nat.le_refl _) (by decide) (sg_15 (by omega)) (by decide) (by decide) (fun _ _ _ _ z => absurd z.1 (by decide)) hK3 (by decide) (fun z => absurd z (by decide))) _ _ (((hFz.trans hFa1.p).trans hF3).trans hA5.1) ((hLz.trans hLa1.p).trans hL3) (hE3.add hA5)
          · refine wp_iload_n (pc := 15) 2 dX4_either_15 rfl rfl ?_
            refine wp_if_eq (pc := 16) 62 dX4_either_16 (by decide) (by decide) (fun _ => ?_) (fun hh => absurd hh (by decide))
            refine wp_iload_n (pc := 62) 2 dX4_either_62 rfl rfl ?_
            refine wp_zret (pc := 63) dX4_either_63 rfl rfl (by decide) ?_
            exact h0 _ (bad_bin (s := 124) (l := 1) hKz (Nat.le_refl _) (by decide) (sg_15 (by omega)) (by decide) (by decide) (fun _ _ _ _ z => absurd z.1 (by decide)) hK3 (by decide) (fun z => absurd z (by decide))) _ _ (((hFz.trans hFa1.p).trans hF3).trans hA5.1) ((hLz.trans hLa1.p).trans hL3) (hE3.add hA5)
      · refine wp_eqst (st' := [vI 0]) rfl ?_
        refine wp_if_eq (pc := 28) 62 dX4_either_28 (by decide) (by decide) (fun _ => ?_) (fun hh => absurd hh (by decide))
        refine wp_iload_n (pc := 62) 2 dX4_either_62 rfl rfl ?_
        refine wp_zret (pc := 63) dX4_either_63 rfl rfl (by decide) ?_
        exact h1 _ _ _ _ (ok_mono hKz (Nat.le_refl _) (Nat.le_refl _) (Nat.le_refl _) (fun z => Or.inl z) (fun _ _ _ _ e => ex_or e (by omega))) hOz hTFz _ _ hFz hLz hPz

theorem fs_either {l : Launch} {G : mG} {dep : Nat} (hdep : dep ≤ 7) (hY : FSp l G m_X4_both 2 (7 * (8 - dep) + 9) 2 2 2 false 1 dep) : FSp l G m_X4_either 2 (7 * (8 - dep) + 10) 1 1 1 false 1 dep := by
  intro d I L D Q b n c T N mo out un hP hO hl hu hd h1 h0
  have ht := hP.1.1
  have g2 : D 2 = 1 ∨ D 2 = 21 := ht
  have hT := hP.2.2.2.1
  have hw := hP.tw
  have k4 := hP.2.2.1.1
  have k5 := hP.2.2.1.2.1
  have k6 := hP.2.2.1.2.2.1.1
  have m4 := hP.2.2.2.2.2.1
  have ki := kC_in b c
  have kw := wi_in b c
  have tr := ts_rng b c
  have l7 := hP.2.2.1.2.2.2.2.1
  have b_c := tw_c hw
  have b_p := tw_p hw
  have b_q := tw_q hw
  have b_v := tw_vows hw
  have eC : nC T = (T 0 11).toNat := rfl
  have eP : nP T = (T 0 12).toNat := rfl
  have eQ : nQ T = (T 0 13).toNat := rfl
  have u3 : I ((D 2) + 17) 3 = ((un : Nat) : Int) := by rw [← hO.2.1, ← hT]; rfl
  refine wp_aload_n (pc := 0) 0 dX4_either_0 rfl rfl ?_
  refine wp_iload_n (pc := 1) 1 dX4_either_1 rfl rfl ?_
  refine wp_callV (pc := 2) (st := []) (nf' := 153) [vI (dep : Int)] [some (vR 44), some (vI (dep : Int)), none, none] dX4_either_2 rfl c_X4_194 rfl kd_44 (by decide) rfl la_44 rfl (Nat.le_of_ble_eq_true rfl) rfl (Nat.le_of_ble_eq_true rfl) (by omega) (Nat.le_refl _) (Nat.le_refl _) ?_
  refine wp_eqls (ls' := [some (vR 44), some (vI (dep : Int)), none, none]) rfl ?_
  refine hY _ _ _ _ _ _ _ _ _ _ _ _ _ hP hO hl hu (by omega) (fun c1 T1 o1 u1 hK1 hO1 hTF1 J1 M1 hF1 hL1 hP1 => ?_) (fun c2 hK2 J2 M2 hF2 hL2 hE2 => ?_)
  · have hq1 := hK1.1
    have hq31 : u1 ≤ 30 := hq1.2.2.1
    have hq11 := hq1.1
    have hq21 := hq1.2.1
    have hq41 := hq1.2.2.2.1
    have hT_1 := hP1.2.2.2.1
    have hw_1 := hP1.tw
    have k4_1 := hP1.2.2.1.1
    have k5_1 := hP1.2.2.1.2.1
    have k6_1 := hP1.2.2.1.2.2.1.1
    have m4_1 := hP1.2.2.2.2.2.1
    have ki_1 := kC_in b c1
    have kw_1 := wi_in b c1
    have tr_1 := ts_rng b c1
    have l7_1 := hP1.2.2.1.2.2.2.2.1
    have u3_1 : J1 ((D 2) + 17) 3 = ((u1 : Nat) : Int) := by rw [← hO1.2.1, ← hT_1]; rfl
    refine wp_eqst (st' := [vI 1]) rfl ?_
    refine wq_istore_n (pc := 5) 2 [some (vR 44), some (vI (dep : Int)), some (vI 1), none] dX4_either_5 rfl rfl (by decide) rfl ?_
    refine wp_iconst (pc := 6) dX4_either_6 ?_
    refine wq_istore_n (pc := 7) 3 [some (vR 44), some (vI (dep : Int)), some (vI 1), some (vI 0)] dX4_either_7 rfl rfl (by decide) rfl ?_
    exact lf_either hdep hY hl hd h1 h0 0 (Nat.zero_le _) _ _ _ _ _ _ (Nat.zero_le _) (ok_mono hK1 (by decide) (by decide) (by decide) (fun z => absurd z (by decide)) (fun _ _ _ _ e => e)) hO1 (TF.refl.trans hTF1) (Fp.refl.trans hF1) (Lp.refl.trans hL1) hP1
  · skip
    refine wp_eqst (st' := [vI 0]) rfl ?_
    refine wq_istore_n (pc := 5) 2 [some (vR 44), some (vI (dep : Int)), some (vI 0), none] dX4_either_5 rfl rfl (by decide) rfl ?_
    refine wp_iconst (pc := 6) dX4_either_6 ?_
    refine wq_istore_n (pc := 7) 3 [some (vR 44), some (vI (dep : Int)), some (vI 0), some (vI 0)] dX4_either_7 rfl rfl (by decide) rfl ?_
    refine wp_iload_n (pc := 8) 3 dX4_either_8 rfl rfl ?_
    refine wp_sipush (pc := 9) dX4_either_9 (by decide) ?_
    refine wp_icmp_ge (pc := 12) 62 dX4_either_12 (by decide) (by decide) (by decide) (fun hh => absurd hh (by decide)) (fun _ => ?_)
    refine wp_iload_n (pc := 15) 2 dX4_either_15 rfl rfl ?_
    refine wp_if_eq (pc := 16) 62 dX4_either_16 (by decide) (by decide) (fun _ => ?_) (fun hh => absurd hh (by decide))
    refine wp_iload_n (pc := 62) 2 dX4_either_62 rfl rfl ?_
    refine wp_zret (pc := 63) dX4_either_63 rfl rfl (by decide) ?_
    exact h0 _ (bad_mono hK2 (by decide) (fun z => absurd z (by decide))) _ _ (Fp.refl.trans hF2) (Lp.refl.trans hL2) hE2

/-- the whole formula, at every depth -/
theorem fs_all {l : Launch} {G : mG} : ∀ m dep : Nat, 7 - dep = m → dep ≤ 7 → (FSp l G m_X4_either 2 (7 * (8 - dep) + 10) 1 1 1 false 1 dep) ∧ (FSp l G m_X4_one 1 (7 * (8 - dep) + 8) 4 3 4 false (1 + dep) dep) := by
  intro m
  induction m with
  | zero =>
    intro dep h1 h2
    have hu := fs_unit (l := l) (G := G) (dep := dep) h2 (fun z => absurd z (by omega))
    have ho := fs_one h2 (fs_relation h2 (fs_sum h2 (fs_term h2 hu))) (fun z => absurd z (by omega))
    exact ⟨fs_either h2 (fs_both h2 ho), ho⟩
  | succ m ih =>
    intro dep h1 h2
    have hi := fun z : dep < 7 => ih (dep + 1) (by omega) (by omega)
    have hu := fs_unit (l := l) (G := G) (dep := dep) h2 (fun z => (hi z).1)
    have ho := fs_one h2 (fs_relation h2 (fs_sum h2 (fs_term h2 hu))) (fun z => (hi z).2)
    exact ⟨fs_either h2 (fs_both h2 ho), ho⟩
