/-! the class's Parser, line by line -/
theorem n3_k {b : Nat → Int} {c : Nat} (h : kC b c = 2) : ts b c ≠ 3 := by have := k2_w h; omega
theorem n3_4 {b : Nat → Int} {c : Nat} (h : kC b c = 4) : ts b c ≠ 3 := by have := (kC_ts b c).2.2.1.mp h; omega
theorem n3_w {b : Nat → Int} {c : Nat} (h : 0 ≤ wi b c) : ts b c ≠ 3 := by have := @wi_ts b c (by omega); omega
theorem n3_s {b : Nat → Int} {c : Nat} (h : 4 ≤ ts b c) : ts b c ≠ 3 := by omega
theorem bad_1 {b : Nat → Int} {c : Nat} {f : Int} (h : kC b c = 1) : (bad b c f).1 = 1 := if_pos ((kC_ts b c).2.1.mp h)
theorem bad_f {b : Nat → Int} {c : Nat} {f : Int} (h : ¬ kC b c = 1) : (bad b c f).1 = f := if_neg (fun z => h ((kC_ts b c).2.1.mpr z))

theorem sp_refuse {l : Launch} {G : mG} {d : Nat} {I : mI} {L : Nat → Nat → Int} {D : Nat → Nat} {Q : mQ} {b : Nat → Int} {c : Nat} {f : Int}  (hK : TKC I L b c) (hf : inR f) (hd : 0 ≤ d) (hQ : Q (some (vI 0)) (up (up I 44 3 (bad b c f).1) 44 4 (bad b c f).2) (XX L D)) : WP l G m_X4_refuse d 153 I (XX L D) 0 [some (vR 44), some (vI f)] [] Q := by
  have k4 := hK.1
  have k5 := hK.2.1
  have ki := kC_in b c
  refine wp_aload_n (pc := 0) 0 dX4_refuse_0 rfl rfl ?_
  refine wp_aload_n (pc := 1) 0 dX4_refuse_1 rfl rfl ?_
  refine wp_getr (pc := 2) dX4_refuse_2 rfl f_X4_15 kd_44 la_44 rfl (r_44_0 D) ?_
  refine wp_geti (pc := 5) dX4_refuse_5 rfl f_X4_39 kd_41 la_41 (Or.inl rfl) ?_
  refine wp_eqst (st' := [vI (kC b c), vR 44]) (by rw [k4]) ?_
  refine wp_iconst (pc := 8) dX4_refuse_8 ?_
  refine wp_icmp_ne (pc := 9) 16 dX4_refuse_9 (by decide) (by omega) (by decide) (fun h_1 => ?_) (fun h_1 => ?_)
  · refine wp_iload_n (pc := 16) 1 dX4_refuse_16 rfl rfl ?_
    refine wp_puti (pc := 17) dX4_refuse_17 rfl f_X4_31 kd_44 la_44 (fun _ h => by cases h; rfl) rfl ?_
    refine wp_aload_n (pc := 20) 0 dX4_refuse_20 rfl rfl ?_
    refine wp_aload_n (pc := 21) 0 dX4_refuse_21 rfl rfl ?_
    refine wp_getr (pc := 22) dX4_refuse_22 rfl f_X4_15 kd_44 la_44 rfl (r_44_0 D) ?_
    refine wp_geti (pc := 25) dX4_refuse_25 rfl f_X4_87 kd_41 la_41 (Or.inl rfl) ?_
    refine wp_eqst (st' := [vI ((tp b c : Nat) : Int), vR 44]) (by rw [up_c (by omega), k5]) ?_
    refine wp_puti (pc := 28) dX4_refuse_28 rfl f_X4_9 kd_44 la_44 (fun _ h => by cases h; rfl) rfl ?_
    refine wp_iconst (pc := 31) dX4_refuse_31 ?_
    refine wp_zret (pc := 32) dX4_refuse_32 rfl rfl (by decide) ?_
    rw [bad_f (by omega)] at hQ; exact hQ
  · refine wp_iconst (pc := 12) dX4_refuse_12 ?_
    refine wp_goto (pc := 13) 17 dX4_refuse_13 (by decide) ?_
    refine wp_puti (pc := 17) dX4_refuse_17 rfl f_X4_31 kd_44 la_44 (fun _ h => by cases h; rfl) rfl ?_
    refine wp_aload_n (pc := 20) 0 dX4_refuse_20 rfl rfl ?_
    refine wp_aload_n (pc := 21) 0 dX4_refuse_21 rfl rfl ?_
    refine wp_getr (pc := 22) dX4_refuse_22 rfl f_X4_15 kd_44 la_44 rfl (r_44_0 D) ?_
    refine wp_geti (pc := 25) dX4_refuse_25 rfl f_X4_87 kd_41 la_41 (Or.inl rfl) ?_
    refine wp_eqst (st' := [vI ((tp b c : Nat) : Int), vR 44]) (by rw [up_c (by omega), k5]) ?_
    refine wp_puti (pc := 28) dX4_refuse_28 rfl f_X4_9 kd_44 la_44 (fun _ h => by cases h; rfl) rfl ?_
    refine wp_iconst (pc := 31) dX4_refuse_31 ?_
    refine wp_zret (pc := 32) dX4_refuse_32 rfl rfl (by decide) ?_
    rw [bad_1 (by omega)] at hQ; exact hQ

theorem lp_find4 {l : Launch} {G : mG} {d : Nat} {I : mI} {L : Nat → Nat → Int} {D : Nat → Nat} {Q : mQ} {a k : Nat} {z : Int} (ha : kd a = (23, 4)) (hl : a < 153) (hk : k ≤ 4) (hz : inL z) (hn : ∀ j, inL (L a j)) (hds : dst (L a) k) (hd : 0 ≤ d) (hQ : Q (some (vI (fnd (L a) z k))) I (XX L D)) : ∀ i : Nat, i ≤ k → (∀ j, j < i → L a j ≠ z) → WP l G m_X9_find d 153 I (XX L D) 3 [some (vR a), some (vI (k : Int)), some (vJ z), none, some (vI (i : Int))] [] Q := by
  refine loop_dn (fun i => (∀ j, j < i → L a j ≠ z) → WP l G m_X9_find d 153 I (XX L D) 3 [some (vR a), some (vI (k : Int)), some (vJ z), none, some (vI (i : Int))] [] Q) k ?_ (fun i hi ih => ?_)
  · intro hb
    refine wp_iload (pc := 3) dX9_find_3 rfl ?_
    refine wp_iload_n (pc := 5) 1 dX9_find_5 rfl rfl ?_
    refine wp_icmp_ge (pc := 6) 34 dX9_find_6 (by decide) (by omega) (by omega) (fun h_1 => ?_) (fun h_1 => ?_)
    · refine wp_iconst (pc := 34) dX9_find_34 ?_
      refine wp_iret (pc := 35) dX9_find_35 rfl rfl ?_
      rw [fnd_n k hb] at hQ; exact hQ
    · exfalso; omega
  · intro hb
    have hni := hn i
    refine wp_iload (pc := 3) dX9_find_3 rfl ?_
    refine wp_iload_n (pc := 5) 1 dX9_find_5 rfl rfl ?_
    refine wp_icmp_ge (pc := 6) 34 dX9_find_6 (by decide) (by first | exact cmpR _ _ | omega) (by first | exact cmpR _ _ | omega) (fun h_1 => ?_) (fun h_1 => ?_)
    · refine wp_iconst (pc := 34) dX9_find_34 ?_
      refine wp_iret (pc := 35) dX9_find_35 rfl rfl ?_
      exfalso; omega
    · refine wp_iload (pc := 9) dX9_find_9 rfl ?_
      refine wp_aload_n (pc := 11) 0 dX9_find_11 rfl rfl ?_
      refine wp_alen (pc := 12) dX9_find_12 ha (by decide) hl ?_
      refine wp_icmp_ge (pc := 13) 34 dX9_find_13 (by decide) (by first | exact cmpR _ _ | omega) (by decide) (fun h_2 => ?_) (fun h_2 => ?_)
      · refine wp_iconst (pc := 34) dX9_find_34 ?_
        refine wp_iret (pc := 35) dX9_find_35 rfl rfl ?_
        exfalso; omega
      · refine wp_aload_n (pc := 16) 0 dX9_find_16 rfl rfl ?_
        refine wp_iload (pc := 17) dX9_find_17 rfl ?_
        refine wq_lald (pc := 19) i dX9_find_19 ha hl rfl (by first | exact cmpR _ _ | omega) ?_
        refine wp_eqst (st' := [vJ (L a i)]) rfl ?_
        refine wp_lload_n (pc := 20) 2 dX9_find_20 rfl rfl ?_
        refine wq_lcmp (pc := 21) dX9_find_21 (by first | exact cmpR _ _ | omega) (by first | exact cmpR _ _ | omega) ?_
        refine wp_if_ne (pc := 22) 28 dX9_find_22 (by decide) (by first | exact cmpR _ _ | omega) (fun h_3 => ?_) (fun h_3 => ?_)
        · refine wq_iinc (pc := 28) [some (vR a), some (vI (k : Int)), some (vJ z), none, some (vI ((i : Int) + 1))] dX9_find_28 rfl rfl (by decide) rfl ?_
          refine wp_goto (pc := 31) 3 dX9_find_31 (by decide) ?_
          refine wp_eqls (ls' := [some (vR a), some (vI (k : Int)), some (vJ z), none, some (vI (((i + 1) : Nat) : Int))]) rfl (ih (fun j hj => ?_))
          by_cases e : j = i
          · rw [e]; exact fun y => h_3 (cmpL_0.mpr y)
          · exact hb j (by omega)
        · refine wp_iload (pc := 25) dX9_find_25 rfl ?_
          refine wp_iret (pc := 27) dX9_find_27 rfl rfl ?_
          rw [fnd_y k hi (cmpL_0.mp h_3) hds] at hQ; exact hQ

theorem sp_find4 {l : Launch} {G : mG} {d : Nat} {I : mI} {L : Nat → Nat → Int} {D : Nat → Nat} {Q : mQ} {a : Nat} {z : Int} (k : Nat) {k_ : Int} (hk_ : k_ = (k : Int)) (ha : kd a = (23, 4)) (hl : a < 153) (hk : k ≤ 4) (hz : inL z) (hn : ∀ j, inL (L a j)) (hds : dst (L a) k) (hd : 0 ≤ d) (hQ : Q (some (vI (fnd (L a) z k))) I (XX L D)) : WP l G m_X9_find d 153 I (XX L D) 0 [some (vR a), some (vI k_), some (vJ z), none, none] [] Q := by
  subst hk_
  refine wp_iconst (pc := 0) dX9_find_0 ?_
  refine wq_istore (pc := 1) [some (vR a), some (vI (k : Int)), some (vJ z), none, some (vI 0)] dX9_find_1 rfl (by decide) rfl ?_
  exact lp_find4 ha hl hk hz hn hds hd hQ 0 (Nat.zero_le _) (fun j h => absurd h (Nat.not_lt_zero j))

theorem lp_find8 {l : Launch} {G : mG} {d : Nat} {I : mI} {L : Nat → Nat → Int} {D : Nat → Nat} {Q : mQ} {a k : Nat} {z : Int} (ha : kd a = (23, 8)) (hl : a < 153) (hk : k ≤ 8) (hz : inL z) (hn : ∀ j, inL (L a j)) (hds : dst (L a) k) (hd : 0 ≤ d) (hQ : Q (some (vI (fnd (L a) z k))) I (XX L D)) : ∀ i : Nat, i ≤ k → (∀ j, j < i → L a j ≠ z) → WP l G m_X9_find d 153 I (XX L D) 3 [some (vR a), some (vI (k : Int)), some (vJ z), none, some (vI (i : Int))] [] Q := by
  refine loop_dn (fun i => (∀ j, j < i → L a j ≠ z) → WP l G m_X9_find d 153 I (XX L D) 3 [some (vR a), some (vI (k : Int)), some (vJ z), none, some (vI (i : Int))] [] Q) k ?_ (fun i hi ih => ?_)
  · intro hb
    refine wp_iload (pc := 3) dX9_find_3 rfl ?_
    refine wp_iload_n (pc := 5) 1 dX9_find_5 rfl rfl ?_
    refine wp_icmp_ge (pc := 6) 34 dX9_find_6 (by decide) (by omega) (by omega) (fun h_1 => ?_) (fun h_1 => ?_)
    · refine wp_iconst (pc := 34) dX9_find_34 ?_
      refine wp_iret (pc := 35) dX9_find_35 rfl rfl ?_
      rw [fnd_n k hb] at hQ; exact hQ
    · exfalso; omega
  · intro hb
    have hni := hn i
    refine wp_iload (pc := 3) dX9_find_3 rfl ?_
    refine wp_iload_n (pc := 5) 1 dX9_find_5 rfl rfl ?_
    refine wp_icmp_ge (pc := 6) 34 dX9_find_6 (by decide) (by first | exact cmpR _ _ | omega) (by first | exact cmpR _ _ | omega) (fun h_1 => ?_) (fun h_1 => ?_)
    · refine wp_iconst (pc := 34) dX9_find_34 ?_
      refine wp_iret (pc := 35) dX9_find_35 rfl rfl ?_
      exfalso; omega
    · refine wp_iload (pc := 9) dX9_find_9 rfl ?_
      refine wp_aload_n (pc := 11) 0 dX9_find_11 rfl rfl ?_
      refine wp_alen (pc := 12) dX9_find_12 ha (by decide) hl ?_
      refine wp_icmp_ge (pc := 13) 34 dX9_find_13 (by decide) (by first | exact cmpR _ _ | omega) (by decide) (fun h_2 => ?_) (fun h_2 => ?_)
      · refine wp_iconst (pc := 34) dX9_find_34 ?_
        refine wp_iret (pc := 35) dX9_find_35 rfl rfl ?_
        exfalso; omega
      · refine wp_aload_n (pc := 16) 0 dX9_find_16 rfl rfl ?_
        refine wp_iload (pc := 17) dX9_find_17 rfl ?_
        refine wq_lald (pc := 19) i dX9_find_19 ha hl rfl (by first | exact cmpR _ _ | omega) ?_
        refine wp_eqst (st' := [vJ (L a i)]) rfl ?_
        refine wp_lload_n (pc := 20) 2 dX9_find_20 rfl rfl ?_
        refine wq_lcmp (pc := 21) dX9_find_21 (by first | exact cmpR _ _ | omega) (by first | exact cmpR _ _ | omega) ?_
        refine wp_if_ne (pc := 22) 28 dX9_find_22 (by decide) (by first | exact cmpR _ _ | omega) (fun h_3 => ?_) (fun h_3 => ?_)
        · refine wq_iinc (pc := 28) [some (vR a), some (vI (k : Int)), some (vJ z), none, some (vI ((i : Int) + 1))] dX9_find_28 rfl rfl (by decide) rfl ?_
          refine wp_goto (pc := 31) 3 dX9_find_31 (by decide) ?_
          refine wp_eqls (ls' := [some (vR a), some (vI (k : Int)), some (vJ z), none, some (vI (((i + 1) : Nat) : Int))]) rfl (ih (fun j hj => ?_))
          by_cases e : j = i
          · rw [e]; exact fun y => h_3 (cmpL_0.mpr y)
          · exact hb j (by omega)
        · refine wp_iload (pc := 25) dX9_find_25 rfl ?_
          refine wp_iret (pc := 27) dX9_find_27 rfl rfl ?_
          rw [fnd_y k hi (cmpL_0.mp h_3) hds] at hQ; exact hQ

theorem sp_find8 {l : Launch} {G : mG} {d : Nat} {I : mI} {L : Nat → Nat → Int} {D : Nat → Nat} {Q : mQ} {a : Nat} {z : Int} (k : Nat) {k_ : Int} (hk_ : k_ = (k : Int)) (ha : kd a = (23, 8)) (hl : a < 153) (hk : k ≤ 8) (hz : inL z) (hn : ∀ j, inL (L a j)) (hds : dst (L a) k) (hd : 0 ≤ d) (hQ : Q (some (vI (fnd (L a) z k))) I (XX L D)) : WP l G m_X9_find d 153 I (XX L D) 0 [some (vR a), some (vI k_), some (vJ z), none, none] [] Q := by
  subst hk_
  refine wp_iconst (pc := 0) dX9_find_0 ?_
  refine wq_istore (pc := 1) [some (vR a), some (vI (k : Int)), some (vJ z), none, some (vI 0)] dX9_find_1 rfl (by decide) rfl ?_
  exact lp_find8 ha hl hk hz hn hds hd hQ 0 (Nat.zero_le _) (fun j h => absurd h (Nat.not_lt_zero j))

theorem sp_nameHere {l : Launch} {G : mG} {d : Nat} {I : mI} {L : Nat → Nat → Int} {D : Nat → Nat} {Q : mQ} {b : Nat → Int} {n c : Nat} {T N : mT} {mo : Nat} {f : Int} {NA : Nat → Int} {nn rep : Nat}  (hP : PS I L D b n c T N mo) (hf : kC b c = 2 → f = fnd NA (w5 b c) nn) (hfi : inR f) (hd : 1 ≤ d) (h1 : kC b c = 2 → ¬ f = -1 → Q (some (vI f)) I (XX L D)) (h0 : ∀ J, Fp I J (D 2) → PE J L D b n (bad b c (-prF b c NA nn rep)) → prF b c NA nn rep < 0 → Q (some (vI (-1))) J (XX L D)) : WP l G m_X4_nameHere d 153 I (XX L D) 0 [some (vR 44), some (vI f)] [] Q := by
  have ht := hP.1.1
  have g2 : D 2 = 1 ∨ D 2 = 21 := ht
  have hT := hP.2.2.2.1
  have hw := hP.tw
  have k4 := hP.2.2.1.1
  have k5 := hP.2.2.1.2.1
  have k6 := hP.2.2.1.2.2.1.1
  have m4 := hP.2.2.2.2.2.1
  have ki := kC_in b c
  have kw := wi_in b c
  have tr := ts_rng b c
  have l7 := hP.2.2.1.2.2.2.2.1
  have b_c := tw_c hw
  have b_p := tw_p hw
  have b_q := tw_q hw
  have b_v := tw_vows hw
  have eC : nC T = (T 0 11).toNat := rfl
  have eP : nP T = (T 0 12).toNat := rfl
  have eQ : nQ T = (T 0 13).toNat := rfl
  have hf2 : ¬ kC b c = 2 ∨ f = fnd NA (w5 b c) nn := by by_cases z : kC b c = 2; exact Or.inr (hf z); exact Or.inl z
  refine wp_aload_n (pc := 0) 0 dX4_nameHere_0 rfl rfl ?_
  refine wp_getr (pc := 1) dX4_nameHere_1 rfl f_X4_15 kd_44 la_44 rfl (r_44_0 D) ?_
  refine wp_geti (pc := 4) dX4_nameHere_4 rfl f_X4_39 kd_41 la_41 (Or.inl rfl) ?_
  refine wp_eqst (st' := [vI (kC b c)]) (by rw [k4]) ?_
  refine wp_iconst (pc := 7) dX4_nameHere_7 ?_
  refine wp_icmp_eq (pc := 8) 19 dX4_nameHere_8 (by decide) (by omega) (by decide) (fun h_1 => ?_) (fun h_1 => ?_)
  · refine wp_iload_n (pc := 19) 1 dX4_nameHere_19 rfl rfl ?_
    refine wp_iconst (pc := 20) dX4_nameHere_20 ?_
    refine wp_icmp_ne (pc := 21) 30 dX4_nameHere_21 (by decide) (by omega) (by decide) (fun h_2 => ?_) (fun h_2 => ?_)
    · refine wp_iload_n (pc := 30) 1 dX4_nameHere_30 rfl rfl ?_
      refine wp_iret (pc := 31) dX4_nameHere_31 rfl rfl ?_
      exact h1 (by omega) (by omega)
    · refine wp_aload_n (pc := 24) 0 dX4_nameHere_24 rfl rfl ?_
      refine wp_iconst (pc := 25) dX4_nameHere_25 ?_
      refine wp_callV (pc := 26) (st := []) (nf' := 153) [vI 5] [some (vR 44), some (vI 5)] dX4_nameHere_26 rfl c_X4_42 rfl kd_44 (by decide) rfl la_44 rfl (Nat.le_of_ble_eq_true rfl) rfl (Nat.le_of_ble_eq_true rfl) (by omega) (Nat.le_refl _) (Nat.le_refl _) ?_
      refine sp_refuse hP.2.2.1 (by decide) (by omega) ?_
      refine wp_eqst (st' := [vI 0]) rfl ?_
      refine wp_pop (pc := 29) dX4_nameHere_29 rfl ?_
      refine wp_iload_n (pc := 30) 1 dX4_nameHere_30 rfl rfl ?_
      refine wp_iret (pc := 31) dX4_nameHere_31 rfl rfl ?_
      rw [show f = -1 from by omega]; exact h0 _ Fp.refl.up44.up44 (by rw [prF_5 (by omega) (by omega)]; exact (hP.ref 5)) (by rw [prF_5 (by omega) (by omega)]; decide)
  · refine wp_aload_n (pc := 11) 0 dX4_nameHere_11 rfl rfl ?_
    refine wp_iconst (pc := 12) dX4_nameHere_12 ?_
    refine wp_callV (pc := 13) (st := []) (nf' := 153) [vI 2] [some (vR 44), some (vI 2)] dX4_nameHere_13 rfl c_X4_42 rfl kd_44 (by decide) rfl la_44 rfl (Nat.le_of_ble_eq_true rfl) rfl (Nat.le_of_ble_eq_true rfl) (by omega) (Nat.le_refl _) (Nat.le_refl _) ?_
    refine sp_refuse hP.2.2.1 (by decide) (by omega) ?_
    refine wp_eqst (st' := [vI 0]) rfl ?_
    refine wp_pop (pc := 16) dX4_nameHere_16 rfl ?_
    refine wp_iconst (pc := 17) dX4_nameHere_17 ?_
    refine wp_iret (pc := 18) dX4_nameHere_18 rfl rfl ?_
    exact h0 _ Fp.refl.up44.up44 (by rw [prF_2 (by omega)]; exact (hP.ref 2)) (by rw [prF_2 (by omega)]; decide)

theorem sp_takePerson {l : Launch} {G : mG} {d : Nat} {I : mI} {L : Nat → Nat → Int} {D : Nat → Nat} {Q : mQ} {b : Nat → Int} {n c : Nat} {T N : mT} {mo : Nat}  {nn : Nat} (rep : Nat) {rep_ : Int} (hrep_ : rep_ = (rep : Int)) (hP : PS I L D b n c T N mo) (hr : rep < 65536) (hnn : nP T = nn) (hd : 7 ≤ d) (h1 : 0 ≤ prF b c (N 1) nn rep → ∀ J M, Fp I J (D 2) → Lp L M (D 2) → PS J M D b n (te b c) T N mo → Q (some (vI (prF b c (N 1) nn rep))) J (XX M D)) (h0 : prF b c (N 1) nn rep < 0 → ∀ J M, Fp I J (D 2) → Lp L M (D 2) → PE J M D b n (bad b c (-prF b c (N 1) nn rep)) → Q (some (vI (-1))) J (XX M D)) : WP l G m_X4_takePerson d 153 I (XX L D) 0 [some (vR 44), some (vI rep_), none] [] Q := by
  subst hrep_
  have ht := hP.1.1
  have g2 : D 2 = 1 ∨ D 2 = 21 := ht
  have hT := hP.2.2.2.1
  have hw := hP.tw
  have k4 := hP.2.2.1.1
  have k5 := hP.2.2.1.2.1
  have k6 := hP.2.2.1.2.2.1.1
  have m4 := hP.2.2.2.2.2.1
  have ki := kC_in b c
  have kw := wi_in b c
  have tr := ts_rng b c
  have l7 := hP.2.2.1.2.2.2.2.1
  have b_c := tw_c hw
  have b_p := tw_p hw
  have b_q := tw_q hw
  have b_v := tw_vows hw
  have eC : nC T = (T 0 11).toNat := rfl
  have eP : nP T = (T 0 12).toNat := rfl
  have eQ : nQ T = (T 0 13).toNat := rfl
  subst hnn
  refine wp_aload_n (pc := 0) 0 dX4_takePerson_0 rfl rfl ?_
  refine wp_aload_n (pc := 1) 0 dX4_takePerson_1 rfl rfl ?_
  refine wp_getr (pc := 2) dX4_takePerson_2 rfl f_X4_19 kd_44 la_44 rfl (r_44_1 D) ?_
  refine wp_aload_n (pc := 5) 0 dX4_takePerson_5 rfl rfl ?_
  refine wp_getr (pc := 6) dX4_takePerson_6 rfl f_X4_15 kd_44 la_44 rfl (r_44_0 D) ?_
  refine wp_getl (pc := 9) dX4_takePerson_9 rfl f_X4_96 kd_41 la_41 rfl ?_
  refine wp_eqst (st' := [vJ (L 41 7), vR (D 2), vR 44]) rfl ?_
  refine wp_callV (pc := 12) (st := [vR 44]) (nf' := 153) [vJ (L 41 7)] [some (vR (D 2)), some (vJ (L 41 7)), none] dX4_takePerson_12 rfl c_X4_114 rfl (tk_0 ht) (by decide) rfl (tl_0 ht) rfl (Nat.le_of_ble_eq_true rfl) rfl (Nat.le_of_ble_eq_true rfl) (by omega) (Nat.le_refl _) (Nat.le_refl _) ?_
  refine wp_aload_n (pc := 0) 0 dX9_findPerson_0 rfl rfl ?_
  refine wp_getr (pc := 1) dX9_findPerson_1 rfl f_X9_15 (tk_0 ht) (tl_0 ht) rfl (tr_0_1 D ht) ?_
  refine wp_aload_n (pc := 4) 0 dX9_findPerson_4 rfl rfl ?_
  refine wp_geti (pc := 5) dX9_findPerson_5 rfl f_X9_64 (tk_0 ht) (tl_0 ht) (Or.inl rfl) ?_
  refine wp_eqst (st' := [vI (T 0 12), vR ((D 2) + 2)]) (by rw [← hT] <;> rfl) ?_
  refine wp_lload_n (pc := 8) 1 dX9_findPerson_8 rfl rfl ?_
  refine wp_callS (pc := 9) (st := []) (nf' := 153) [vR ((D 2) + 2), vI (T 0 12), vJ (L 41 7)] [some (vR ((D 2) + 2)), some (vI (T 0 12)), some (vJ (L 41 7)), none, none] dX9_findPerson_9 rfl c_X9_86 rfl rfl (Nat.le_of_ble_eq_true rfl) rfl (Nat.le_of_ble_eq_true rfl) (by omega) (Nat.le_refl _) (Nat.le_refl _) ?_
  have hN1 : L (D 2 + 2) = N 1 := by rw [← hP.2.2.2.2.1]; rfl
  have bc1 := tw_p hP.tw
  have ec1 : nP T = (T 0 12).toNat := rfl
  refine sp_find8 (nP T) (by omega) (tk_2 ht) (tl_2 ht) (by omega) (by omega) (fun j => by rw [hN1]; exact hP.nm 1 j) (by rw [hN1]; exact hP.2.2.2.2.2.2.2.2) (by omega) ?_
  rw [hN1]
  have fi1 := fnd_in (N 1) (L 41 7) (nP T)
  refine wp_eqst (st' := [vI (fnd (N 1) (L 41 7) (nP T))]) rfl ?_
  refine wp_iret (pc := 12) dX9_findPerson_12 rfl rfl ?_
  refine wp_eqst (st' := [vI (fnd (N 1) (L 41 7) (nP T)), vR 44]) rfl ?_
  refine wp_callV (pc := 15) (st := []) (nf' := 153) [vI (fnd (N 1) (L 41 7) (nP T))] [some (vR 44), some (vI (fnd (N 1) (L 41 7) (nP T)))] dX4_takePerson_15 rfl c_X4_188 rfl kd_44 (by decide) rfl la_44 rfl (Nat.le_of_ble_eq_true rfl) rfl (Nat.le_of_ble_eq_true rfl) (by omega) (Nat.le_refl _) (Nat.le_refl _) ?_
  refine sp_nameHere (NA := (N 1)) (nn := (nP T)) (rep := rep) hP (fun z => by rw [hP.2.2.1.2.2.2.2.2 (k2_w z)]) (by omega) (by omega) (fun h_1 hne2 => ?_) (fun J2 hF2 hE2 hl2 => ?_)
  · have ew2 := hP.2.2.1.2.2.2.2.2 (k2_w h_1)
    refine wp_eqst (st' := [vI (fnd (N 1) (L 41 7) (nP T))]) rfl ?_
    refine wq_istore_n (pc := 18) 2 [some (vR 44), some (vI (rep : Int)), some (vI (fnd (N 1) (L 41 7) (nP T)))] dX4_takePerson_18 rfl rfl (by decide) rfl ?_
    refine wp_iload_n (pc := 19) 2 dX4_takePerson_19 rfl rfl ?_
    refine wp_iconst (pc := 20) dX4_takePerson_20 ?_
    refine wp_icmp_ne (pc := 21) 26 dX4_takePerson_21 (by decide) (by omega) (by decide) (fun h_2 => ?_) (fun h_2 => ?_)
    · refine wp_iload_n (pc := 26) 1 dX4_takePerson_26 rfl rfl ?_
      refine wp_iload_n (pc := 27) 2 dX4_takePerson_27 rfl rfl ?_
      refine wn_shr (pc := 28) rep (Int.toNat (fnd (N 1) (L 41 7) (nP T))) dX4_takePerson_28 rfl (by omega) (by omega) (by omega) ?_
      refine wp_iconst (pc := 29) dX4_takePerson_29 ?_
      refine wn_mask (pc := 30) (rep / 2 ^ (Int.toNat (fnd (N 1) (L 41 7) (nP T)))) 1 dX4_takePerson_30 rfl rfl (by decide) ?_
      refine wp_iconst (pc := 31) dX4_takePerson_31 ?_
      refine wp_icmp_ne (pc := 32) 43 dX4_takePerson_32 (by decide) (by omega) (by decide) (fun h_3 => ?_) (fun h_3 => ?_)
      · refine wp_aload_n (pc := 43) 0 dX4_takePerson_43 rfl rfl ?_
        refine wp_getr (pc := 44) dX4_takePerson_44 rfl f_X4_15 kd_44 la_44 rfl (r_44_0 D) ?_
        refine wp_callV (pc := 47) (st := []) (nf' := 153) [] [some (vR 41), none] dX4_takePerson_47 rfl c_X4_93 rfl kd_41 (by decide) rfl la_41 rfl (Nat.le_of_ble_eq_true rfl) rfl (Nat.le_of_ble_eq_true rfl) (by omega) (Nat.le_refl _) (Nat.le_refl _) ?_
        have n33 : ts b c ≠ 3 := (by first | exact n3_k (by omega) | exact n3_4 (by omega) | exact n3_w (by omega) | exact n3_s (by omega))
        refine sp_advance hP.1.2.1 hP.nx hP.1.2.2.1 (hP.2.2.1.2.2.2.1 n33) (by omega) (fun J3 M3 hFa3 hLa3 hTk3 => ?_)
        have hP3 := hP.adv hP.nx hFa3 hLa3 hTk3
        have hT_3 := hP3.2.2.2.1
        have hw_3 := hP3.tw
        have k4_3 := hP3.2.2.1.1
        have k5_3 := hP3.2.2.1.2.1
        have k6_3 := hP3.2.2.1.2.2.1.1
        have m4_3 := hP3.2.2.2.2.2.1
        have ki_3 := kC_in b (te b c)
        have kw_3 := wi_in b (te b c)
        have tr_3 := ts_rng b (te b c)
        have l7_3 := hP3.2.2.1.2.2.2.2.1
        refine wp_eqst (st' := []) rfl ?_
        refine wp_iload_n (pc := 50) 2 dX4_takePerson_50 rfl rfl ?_
        refine wp_iret (pc := 51) dX4_takePerson_51 rfl rfl ?_
        have e3 : prF b c (N 1) (nP T) rep = fnd (N 1) (L 41 7) (nP T) := by rw [ew2]; exact prF_y (by omega) (by rw [← ew2]; omega) (by rw [← ew2]; exact fun z => absurd ((bit_iff _ _).mpr z) (by omega))
        rw [← e3]; exact h1 (by omega) _ _ (Fp.refl.trans hFa3.p) (Lp.refl.trans hLa3.p) hP3
      · refine wp_aload_n (pc := 35) 0 dX4_takePerson_35 rfl rfl ?_
        refine wp_iconst (pc := 36) dX4_takePerson_36 ?_
        refine wp_callV (pc := 37) (st := []) (nf' := 153) [vI 3] [some (vR 44), some (vI 3)] dX4_takePerson_37 rfl c_X4_42 rfl kd_44 (by decide) rfl la_44 rfl (Nat.le_of_ble_eq_true rfl) rfl (Nat.le_of_ble_eq_true rfl) (by omega) (Nat.le_refl _) (Nat.le_refl _) ?_
        refine sp_refuse hP.2.2.1 (by decide) (by omega) ?_
        refine wp_eqst (st' := [vI 0]) rfl ?_
        refine wp_pop (pc := 40) dX4_takePerson_40 rfl ?_
        refine wp_iconst (pc := 41) dX4_takePerson_41 ?_
        refine wp_iret (pc := 42) dX4_takePerson_42 rfl rfl ?_
        have e3 : prF b c (N 1) (nP T) rep = -3 := prF_3 (by omega) (by rw [← ew2]; omega) (by rw [← ew2]; exact (bit_iff _ _).mp (by omega))
        exact h0 (by omega) _ _ Fp.refl.up44.up44 Lp.refl (by rw [e3]; exact (hP.ref 3))
    · refine wp_iconst (pc := 24) dX4_takePerson_24 ?_
      refine wp_iret (pc := 25) dX4_takePerson_25 rfl rfl ?_
      exfalso; omega
  · skip
    refine wp_eqst (st' := [vI (-1)]) rfl ?_
    refine wq_istore_n (pc := 18) 2 [some (vR 44), some (vI (rep : Int)), some (vI (-1))] dX4_takePerson_18 rfl rfl (by decide) rfl ?_
    refine wp_iload_n (pc := 19) 2 dX4_takePerson_19 rfl rfl ?_
    refine wp_iconst (pc := 20) dX4_takePerson_20 ?_
    refine wp_icmp_ne (pc := 21) 26 dX4_takePerson_21 (by decide) (by decide) (by decide) (fun hh => absurd hh (by decide)) (fun _ => ?_)
    refine wp_iconst (pc := 24) dX4_takePerson_24 ?_
    refine wp_iret (pc := 25) dX4_takePerson_25 rfl rfl ?_
    exact h0 hl2 _ _ hF2 Lp.refl hE2

theorem sp_takeChurch {l : Launch} {G : mG} {d : Nat} {I : mI} {L : Nat → Nat → Int} {D : Nat → Nat} {Q : mQ} {b : Nat → Int} {n c : Nat} {T N : mT} {mo : Nat}  {nn : Nat}  (hP : PS I L D b n c T N mo)  (hnn : nC T = nn) (hd : 7 ≤ d) (h1 : 0 ≤ prF b c (N 0) nn 0 → ∀ J M, Fp I J (D 2) → Lp L M (D 2) → PS J M D b n (te b c) T N mo → Q (some (vI (prF b c (N 0) nn 0))) J (XX M D)) (h0 : prF b c (N 0) nn 0 < 0 → ∀ J M, Fp I J (D 2) → Lp L M (D 2) → PE J M D b n (bad b c (-prF b c (N 0) nn 0)) → Q (some (vI (-1))) J (XX M D)) : WP l G m_X4_takeChurch d 153 I (XX L D) 0 [some (vR 44), none] [] Q := by
  have ht := hP.1.1
  have g2 : D 2 = 1 ∨ D 2 = 21 := ht
  have hT := hP.2.2.2.1
  have hw := hP.tw
  have k4 := hP.2.2.1.1
  have k5 := hP.2.2.1.2.1
  have k6 := hP.2.2.1.2.2.1.1
  have m4 := hP.2.2.2.2.2.1
  have ki := kC_in b c
  have kw := wi_in b c
  have tr := ts_rng b c
  have l7 := hP.2.2.1.2.2.2.2.1
  have b_c := tw_c hw
  have b_p := tw_p hw
  have b_q := tw_q hw
  have b_v := tw_vows hw
  have eC : nC T = (T 0 11).toNat := rfl
  have eP : nP T = (T 0 12).toNat := rfl
  have eQ : nQ T = (T 0 13).toNat := rfl
  subst hnn
  refine wp_aload_n (pc := 0) 0 dX4_takeChurch_0 rfl rfl ?_
  refine wp_aload_n (pc := 1) 0 dX4_takeChurch_1 rfl rfl ?_
  refine wp_getr (pc := 2) dX4_takeChurch_2 rfl f_X4_19 kd_44 la_44 rfl (r_44_1 D) ?_
  refine wp_aload_n (pc := 5) 0 dX4_takeChurch_5 rfl rfl ?_
  refine wp_getr (pc := 6) dX4_takeChurch_6 rfl f_X4_15 kd_44 la_44 rfl (r_44_0 D) ?_
  refine wp_getl (pc := 9) dX4_takeChurch_9 rfl f_X4_96 kd_41 la_41 rfl ?_
  refine wp_eqst (st' := [vJ (L 41 7), vR (D 2), vR 44]) rfl ?_
  refine wp_callV (pc := 12) (st := [vR 44]) (nf' := 153) [vJ (L 41 7)] [some (vR (D 2)), some (vJ (L 41 7)), none] dX4_takeChurch_12 rfl c_X4_100 rfl (tk_0 ht) (by decide) rfl (tl_0 ht) rfl (Nat.le_of_ble_eq_true rfl) rfl (Nat.le_of_ble_eq_true rfl) (by omega) (Nat.le_refl _) (Nat.le_refl _) ?_
  refine wp_aload_n (pc := 0) 0 dX9_findChurch_0 rfl rfl ?_
  refine wp_getr (pc := 1) dX9_findChurch_1 rfl f_X9_9 (tk_0 ht) (tl_0 ht) rfl (tr_0_0 D ht) ?_
  refine wp_aload_n (pc := 4) 0 dX9_findChurch_4 rfl rfl ?_
  refine wp_geti (pc := 5) dX9_findChurch_5 rfl f_X9_61 (tk_0 ht) (tl_0 ht) (Or.inl rfl) ?_
  refine wp_eqst (st' := [vI (T 0 11), vR ((D 2) + 1)]) (by rw [← hT] <;> rfl) ?_
  refine wp_lload_n (pc := 8) 1 dX9_findChurch_8 rfl rfl ?_
  refine wp_callS (pc := 9) (st := []) (nf' := 153) [vR ((D 2) + 1), vI (T 0 11), vJ (L 41 7)] [some (vR ((D 2) + 1)), some (vI (T 0 11)), some (vJ (L 41 7)), none, none] dX9_findChurch_9 rfl c_X9_86 rfl rfl (Nat.le_of_ble_eq_true rfl) rfl (Nat.le_of_ble_eq_true rfl) (by omega) (Nat.le_refl _) (Nat.le_refl _) ?_
  have hN1 : L (D 2 + 1) = N 0 := by rw [← hP.2.2.2.2.1]; rfl
  have bc1 := tw_c hP.tw
  have ec1 : nC T = (T 0 11).toNat := rfl
  refine sp_find4 (nC T) (by omega) (tk_1 ht) (tl_1 ht) (by omega) (by omega) (fun j => by rw [hN1]; exact hP.nm 0 j) (by rw [hN1]; exact hP.2.2.2.2.2.2.2.1) (by omega) ?_
  rw [hN1]
  have fi1 := fnd_in (N 0) (L 41 7) (nC T)
  refine wp_eqst (st' := [vI (fnd (N 0) (L 41 7) (nC T))]) rfl ?_
  refine wp_iret (pc := 12) dX9_findChurch_12 rfl rfl ?_
  refine wp_eqst (st' := [vI (fnd (N 0) (L 41 7) (nC T)), vR 44]) rfl ?_
  refine wp_callV (pc := 15) (st := []) (nf' := 153) [vI (fnd (N 0) (L 41 7) (nC T))] [some (vR 44), some (vI (fnd (N 0) (L 41 7) (nC T)))] dX4_takeChurch_15 rfl c_X4_188 rfl kd_44 (by decide) rfl la_44 rfl (Nat.le_of_ble_eq_true rfl) rfl (Nat.le_of_ble_eq_true rfl) (by omega) (Nat.le_refl _) (Nat.le_refl _) ?_
  refine sp_nameHere (NA := (N 0)) (nn := (nC T)) (rep := 0) hP (fun z => by rw [hP.2.2.1.2.2.2.2.2 (k2_w z)]) (by omega) (by omega) (fun h_1 hne2 => ?_) (fun J2 hF2 hE2 hl2 => ?_)
  · have ew2 := hP.2.2.1.2.2.2.2.2 (k2_w h_1)
    refine wp_eqst (st' := [vI (fnd (N 0) (L 41 7) (nC T))]) rfl ?_
    refine wq_istore_n (pc := 18) 1 [some (vR 44), some (vI (fnd (N 0) (L 41 7) (nC T)))] dX4_takeChurch_18 rfl rfl (by decide) rfl ?_
    refine wp_iload_n (pc := 19) 1 dX4_takeChurch_19 rfl rfl ?_
    refine wp_iconst (pc := 20) dX4_takeChurch_20 ?_
    refine wp_icmp_eq (pc := 21) 31 dX4_takeChurch_21 (by decide) (by omega) (by decide) (fun h_2 => ?_) (fun h_2 => ?_)
    · refine wp_iload_n (pc := 31) 1 dX4_takeChurch_31 rfl rfl ?_
      refine wp_iret (pc := 32) dX4_takeChurch_32 rfl rfl ?_
      exfalso; omega
    · refine wp_aload_n (pc := 24) 0 dX4_takeChurch_24 rfl rfl ?_
      refine wp_getr (pc := 25) dX4_takeChurch_25 rfl f_X4_15 kd_44 la_44 rfl (r_44_0 D) ?_
      refine wp_callV (pc := 28) (st := []) (nf' := 153) [] [some (vR 41), none] dX4_takeChurch_28 rfl c_X4_93 rfl kd_41 (by decide) rfl la_41 rfl (Nat.le_of_ble_eq_true rfl) rfl (Nat.le_of_ble_eq_true rfl) (by omega) (Nat.le_refl _) (Nat.le_refl _) ?_
      have n33 : ts b c ≠ 3 := (by first | exact n3_k (by omega) | exact n3_4 (by omega) | exact n3_w (by omega) | exact n3_s (by omega))
      refine sp_advance hP.1.2.1 hP.nx hP.1.2.2.1 (hP.2.2.1.2.2.2.1 n33) (by omega) (fun J3 M3 hFa3 hLa3 hTk3 => ?_)
      have hP3 := hP.adv hP.nx hFa3 hLa3 hTk3
      have hT_3 := hP3.2.2.2.1
      have hw_3 := hP3.tw
      have k4_3 := hP3.2.2.1.1
      have k5_3 := hP3.2.2.1.2.1
      have k6_3 := hP3.2.2.1.2.2.1.1
      have m4_3 := hP3.2.2.2.2.2.1
      have ki_3 := kC_in b (te b c)
      have kw_3 := wi_in b (te b c)
      have tr_3 := ts_rng b (te b c)
      have l7_3 := hP3.2.2.1.2.2.2.2.1
      refine wp_eqst (st' := []) rfl ?_
      refine wp_iload_n (pc := 31) 1 dX4_takeChurch_31 rfl rfl ?_
      refine wp_iret (pc := 32) dX4_takeChurch_32 rfl rfl ?_
      have e3 : prF b c (N 0) (nC T) 0 = fnd (N 0) (L 41 7) (nC T) := by rw [ew2]; exact prF_y (by omega) (by rw [← ew2]; omega) (by rw [Nat.zero_testBit]; decide)
      rw [← e3]; exact h1 (by omega) _ _ (Fp.refl.trans hFa3.p) (Lp.refl.trans hLa3.p) hP3
  · skip
    refine wp_eqst (st' := [vI (-1)]) rfl ?_
    refine wq_istore_n (pc := 18) 1 [some (vR 44), some (vI (-1))] dX4_takeChurch_18 rfl rfl (by decide) rfl ?_
    refine wp_iload_n (pc := 19) 1 dX4_takeChurch_19 rfl rfl ?_
    refine wp_iconst (pc := 20) dX4_takeChurch_20 ?_
    refine wp_icmp_eq (pc := 21) 31 dX4_takeChurch_21 (by decide) (by decide) (by decide) (fun _ => ?_) (fun hh => absurd hh (by decide))
    refine wp_iload_n (pc := 31) 1 dX4_takeChurch_31 rfl rfl ?_
    refine wp_iret (pc := 32) dX4_takeChurch_32 rfl rfl ?_
    exact h0 hl2 _ _ hF2 Lp.refl hE2
