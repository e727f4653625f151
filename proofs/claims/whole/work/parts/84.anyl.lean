/-! any line -/
/-- a formula that was read whole -/
def hearsOk (b : Nat → Int) (c : Nat) (T : mT) (c' : Nat) (T' : mT) : Prop := ∃ out un, RS b (0, te b c, [], [], 0, 0) (2, c', [], out, un, 0) ∧ OF T' out un ∧ TF T T' ∧ gdl out ∧ dl out = 1 ∧ out.length ≤ 300 ∧ un ≤ 30 ∧ te b c < c' ∧ 0 < out.length
def hearsBad (b : Nat → Int) (c c' : Nat) : Prop := ∃ st o u dp, RS b (0, te b c, [], [], 0, 0) (3, c', st, o, u, dp)
/-- a line's body: its result, and what is told once behind it -/
def lnR (b : Nat → Int) (c : Nat) (T N : mT) (mo : Nat) (r : mP) (mo' : Nat) : Prop :=
  if wi b c = 0 then r = churchF b c T N ∧ mo' = mo
  else if wi b c = 1 then r = personF b c T N ∧ mo' = mo
  else if wi b c = 7 then r = linkF b c T N 13 12 ∧ mo' = mo
  else if wi b c = 8 then r = linkF b c T N 5 8 ∧ mo' = mo
  else if wi b c = 9 then r = pairF b c T N ∧ mo' = mo
  else if wi b c = 11 then (if mo.testBit 11 = true then r = .inl (bad b c 2) ∧ mo' = mo else mo' = mo ||| 2 ^ 11 ∧ ((∃ c' T', hearsOk b c T c' T' ∧ r = .inr (c', T', N)) ∨ (∃ c', hearsBad b c c' ∧ r = .inl (bad b c' 2))))
  else if wi b c = 12 then r = settF b c T N mo 12 0 8 ∧ mo' = mo ||| 2 ^ 12
  else if wi b c = 13 then r = settF b c T N mo 13 1 5 ∧ mo' = mo ||| 2 ^ 13
  else if wi b c = 14 then r = settF b c T N mo 14 0 999 ∧ mo' = mo ||| 2 ^ 14
  else r = .inl (bad b c 2) ∧ mo' = mo
def lnS (b : Nat → Int) (c : Nat) (T N : mT) (mo c' : Nat) (T' N' : mT) (mo' : Nat) : Prop := ∃ c1, lnR b c T N mo (.inr (c1, T', N')) mo' ∧ ts b c1 = 59 ∧ c' = te b c1
def lnE (b : Nat → Int) (c : Nat) (T N : mT) (mo : Nat) (e : Int × Int) : Prop := (∃ mo', lnR b c T N mo (.inl e) mo') ∨ ∃ c1 T' N' mo', lnR b c T N mo (.inr (c1, T', N')) mo' ∧ ¬ ts b c1 = 59 ∧ e = bad b c1 2
section MON
variable {b : Nat → Int} {n c c' : Nat} {T N T' N' : mT} (hm : ∀ x, x ≤ n → x ≤ te b x ∧ te b x ≤ n) (hc : c ≤ n)
theorem churchF_c (h : churchF b c T N = .inr (c', T', N')) (hm : ∀ x, x ≤ n → x ≤ te b x ∧ te b x ≤ n) (hc : c ≤ n) : c ≤ c' ∧ c' ≤ n := by
  have a1 := hm c hc
  have a2 := hm _ a1.2
  unfold churchF at h
  repeat' split at h
  all_goals cases h
  omega
theorem parF_c (h : parF b c T N = .inr (c', T', N')) (hm : ∀ x, x ≤ n → x ≤ te b x ∧ te b x ≤ n) (hc : c ≤ n) : c ≤ c' ∧ c' ≤ n := by
  have a1 := hm c hc
  have a2 := hm _ a1.2
  have a3 := hm _ a2.2
  have a4 := hm _ a3.2
  unfold parF at h
  repeat' split at h
  all_goals cases h
  all_goals omega
theorem slF_c (h : slF b c T N = .inr (c', T', N')) (hm : ∀ x, x ≤ n → x ≤ te b x ∧ te b x ≤ n) (hc : c ≤ n) : c ≤ c' ∧ c' ≤ n := by
  have a1 := hm c hc
  have a2 := hm _ a1.2
  unfold slF at h
  repeat' split at h
  all_goals cases h
  all_goals omega
theorem vwF_c (hm : ∀ x, x ≤ n → x ≤ te b x ∧ te b x ≤ n) (hc : c ≤ n) : c ≤ (vwF b c T).1 ∧ (vwF b c T).1 ≤ n := by
  have a1 := hm c hc
  unfold vwF
  split
  · exact a1
  · exact ⟨Nat.le_refl c, hc⟩
theorem bnd_inr {r : mP} {k : Nat → mT → mT → mP} {x : Nat × mT × mT} (h : bnd r k = .inr x) : ∃ c1 T1 N1, r = .inr (c1, T1, N1) ∧ k c1 T1 N1 = .inr x := by
  match r, h with
  | .inr (c1, T1, N1), h => exact ⟨c1, T1, N1, rfl, h⟩
theorem personF_c (h : personF b c T N = .inr (c', T', N')) (hm : ∀ x, x ≤ n → x ≤ te b x ∧ te b x ≤ n) (hc : c ≤ n) : c ≤ c' ∧ c' ≤ n := by
  have a1 := hm c hc
  have a2 := hm _ a1.2
  have a3 := hm _ a2.2
  have a4 := hm _ a3.2
  unfold personF at h
  split at h
  · cases h
  · split at h
    · cases h
    · split at h
      · cases h
      · split at h
        · cases h
        · obtain ⟨c1, T1, N1, h1, h2⟩ := bnd_inr h
          obtain ⟨c2, T2, N2, h3, h4⟩ := bnd_inr h2
          have g1 := parF_c h1 hm a4.2
          have g2 := vwF_c (T := T1) hm g1.2
          have g3 := slF_c h3 hm g2.2
          cases h4
          omega
theorem linkF_c {k most : Nat} (h : linkF b c T N k most = .inr (c', T', N')) (hm : ∀ x, x ≤ n → x ≤ te b x ∧ te b x ≤ n) (hc : c ≤ n) : c ≤ c' ∧ c' ≤ n := by
  have a1 := hm c hc
  have a2 := hm _ a1.2
  have a3 := hm _ a2.2
  unfold linkF at h
  repeat' split at h
  all_goals cases h
  all_goals omega
theorem pairF_c (h : pairF b c T N = .inr (c', T', N')) (hm : ∀ x, x ≤ n → x ≤ te b x ∧ te b x ≤ n) (hc : c ≤ n) : c ≤ c' ∧ c' ≤ n := by
  have a1 := hm c hc
  have a2 := hm _ a1.2
  have a3 := hm _ a2.2
  have a4 := hm _ a3.2
  have a5 := hm _ a4.2
  have a6 := hm _ a5.2
  unfold pairF plcF at h
  repeat' split at h
  all_goals cases h
  all_goals omega
theorem settF_c {mo wh : Nat} {lo hi : Int} (h : settF b c T N mo wh lo hi = .inr (c', T', N')) (hm : ∀ x, x ≤ n → x ≤ te b x ∧ te b x ≤ n) (hc : c ≤ n) : c ≤ c' ∧ c' ≤ n := by
  have a1 := hm c hc
  have a2 := hm _ a1.2
  unfold settF at h
  repeat' split at h
  all_goals cases h
  all_goals omega
end MON
theorem lnR_c {b : Nat → Int} {n c c' : Nat} {T N T' N' : mT} {mo mo' : Nat} (h : lnR b c T N mo (.inr (c', T', N')) mo') (hm : ∀ x, x ≤ n → x ≤ te b x ∧ te b x ≤ n) (hc : c ≤ n) : c ≤ c' := by
  have a1 := hm c hc
  unfold lnR at h
  split at h
  · exact (churchF_c h.1.symm hm hc).1
  split at h
  · exact (personF_c h.1.symm hm hc).1
  split at h
  · exact (linkF_c h.1.symm hm hc).1
  split at h
  · exact (linkF_c h.1.symm hm hc).1
  split at h
  · exact (pairF_c h.1.symm hm hc).1
  split at h
  · split at h
    · cases h.1
    · rcases h.2 with ⟨c1, T1, ⟨o, u, hh⟩, h2⟩ | ⟨c1, hh, h2⟩
      · cases h2; have := hh.2.2.2.2.2.2.2.1; omega
      · cases h2
  split at h
  · exact (settF_c h.1.symm hm hc).1
  split at h
  · exact (settF_c h.1.symm hm hc).1
  split at h
  · exact (settF_c h.1.symm hm hc).1
  · cases h.1
theorem PS.mon {I : mI} {M : Nat → Nat → Int} {D : Nat → Nat} {b : Nat → Int} {n c : Nat} {T N : mT} {mo : Nat} (h : PS I M D b n c T N mo) : ∀ x, x ≤ n → x ≤ te b x ∧ te b x ≤ n := fun x hx => by
  have z := te_in (g := I 42) (n := n) (c := x) hx
  rw [← h.1.2.1.1] at z
  omega

theorem sp_hearsLine {l : Launch} {G : mG} {d : Nat} {I : mI} {L : Nat → Nat → Int} {D : Nat → Nat} {Q : mQ} {b : Nat → Int} {n c : Nat} {T N : mT} {mo : Nat}   (hP : PS I L D b n c T N mo) (hwi : 0 ≤ wi b c) (hlen : ¬ mo.testBit 11 = true → T 17 2 = 0 ∧ T 17 3 = 0) (hd : 90 ≤ d) (h1 : ¬ mo.testBit 11 = true → ∀ c' T', hearsOk b c T c' T' → ∀ J M, Fp I J (D 2) → Lp L M (D 2) → PS J M D b n c' T' N (mo ||| 2 ^ 11) → Q (some (vI 1)) J (XX M D)) (h0 : ∀ er, ((mo.testBit 11 = true ∧ er = bad b c 2) ∨ (¬ mo.testBit 11 = true ∧ ∃ c', hearsBad b c c' ∧ er = bad b c' 2)) → ∀ J M, Fp I J (D 2) → Lp L M (D 2) → PE J M D b n er → Q (some (vI 0)) J (XX M D)) : WP l G m_X4_hearsLine d 153 I (XX L D) 0 [some (vR 44)] [] Q := by
  have ht := hP.1.1
  have g2 : D 2 = 1 ∨ D 2 = 21 := ht
  have hT := hP.2.2.2.1
  have hw := hP.tw
  have k4 := hP.2.2.1.1
  have k5 := hP.2.2.1.2.1
  have k6 := hP.2.2.1.2.2.1.1
  have m4 := hP.2.2.2.2.2.1
  have ki := kC_in b c
  have kw := wi_in b c
  have tr := ts_rng b c
  have l7 := hP.2.2.1.2.2.2.2.1
  have b_c := tw_c hw
  have b_p := tw_p hw
  have b_q := tw_q hw
  have b_v := tw_vows hw
  have eC : nC T = (T 0 11).toNat := rfl
  have eP : nP T = (T 0 12).toNat := rfl
  have eQ : nQ T = (T 0 13).toNat := rfl
  refine wp_aload_n (pc := 0) 0 dX4_hearsLine_0 rfl rfl ?_
  refine wp_bipush (pc := 1) dX4_hearsLine_1 (by decide) ?_
  refine wp_callV (pc := 3) (st := []) (nf' := 153) [vI 11] [some (vR 44), some (vI 11)] dX4_hearsLine_3 rfl c_X4_178 rfl kd_44 (by decide) rfl la_44 rfl (Nat.le_of_ble_eq_true rfl) rfl (Nat.le_of_ble_eq_true rfl) (by omega) (Nat.le_refl _) (Nat.le_refl _) ?_
  refine sp_isFirst 11 rfl hP (by omega) (by omega) (fun h_1 J1 hF1 hP1 => ?_) (fun h_1 J2 hF2 hE2 => ?_)
  · skip
    have hT_1 := hP1.2.2.2.1
    have hw_1 := hP1.tw
    have k4_1 := hP1.2.2.1.1
    have k5_1 := hP1.2.2.1.2.1
    have k6_1 := hP1.2.2.1.2.2.1.1
    have m4_1 := hP1.2.2.2.2.2.1
    have ki_1 := kC_in b c
    have kw_1 := wi_in b c
    have tr_1 := ts_rng b c
    have l7_1 := hP1.2.2.1.2.2.2.2.1
    refine wp_eqst (st' := [vI 1]) rfl ?_
    refine wp_if_ne (pc := 6) 11 dX4_hearsLine_6 (by decide) (by decide) (fun _ => ?_) (fun hh => absurd hh (by decide))
    refine wp_aload_n (pc := 11) 0 dX4_hearsLine_11 rfl rfl ?_
    refine wp_getr (pc := 12) dX4_hearsLine_12 rfl f_X4_15 kd_44 la_44 rfl (r_44_0 D) ?_
    refine wp_callV (pc := 15) (st := []) (nf' := 153) [] [some (vR 41), none] dX4_hearsLine_15 rfl c_X4_93 rfl kd_41 (by decide) rfl la_41 rfl (Nat.le_of_ble_eq_true rfl) rfl (Nat.le_of_ble_eq_true rfl) (by omega) (Nat.le_refl _) (Nat.le_refl _) ?_
    have n33 : ts b c ≠ 3 := (by first | exact n3_k (by omega) | exact n3_4 (by omega) | exact n3_w (by omega) | exact n3_s (by omega) | exact n3_l (by omega))
    refine sp_advance hP1.1.2.1 hP1.nx hP1.1.2.2.1 (hP1.2.2.1.2.2.2.1 n33) (by omega) (fun J3 M3 hFa3 hLa3 hTk3 => ?_)
    have hP3 := hP1.adv hP1.nx hFa3 hLa3 hTk3
    have hT_3 := hP3.2.2.2.1
    have hw_3 := hP3.tw
    have k4_3 := hP3.2.2.1.1
    have k5_3 := hP3.2.2.1.2.1
    have k6_3 := hP3.2.2.1.2.2.1.1
    have m4_3 := hP3.2.2.2.2.2.1
    have ki_3 := kC_in b (te b c)
    have kw_3 := wi_in b (te b c)
    have tr_3 := ts_rng b (te b c)
    have l7_3 := hP3.2.2.1.2.2.2.2.1
    refine wp_eqst (st' := []) rfl ?_
    refine wp_aload_n (pc := 18) 0 dX4_hearsLine_18 rfl rfl ?_
    refine wp_iconst (pc := 19) dX4_hearsLine_19 ?_
    refine wp_callV (pc := 20) (st := []) (nf' := 153) [vI 0] [some (vR 44), some (vI 0), none, none] dX4_hearsLine_20 rfl c_X4_185 rfl kd_44 (by decide) rfl la_44 rfl (Nat.le_of_ble_eq_true rfl) rfl (Nat.le_of_ble_eq_true rfl) (by omega) (Nat.le_refl _) (Nat.le_refl _) ?_
    have hOs : OF T [] 0 := ⟨(hlen h_1).1, (hlen h_1).2, fun k hk => absurd hk (Nat.not_lt_zero k)⟩
    refine wp_eqls (ls' := [some (vR 44), some (vI 0), none, none]) rfl ?_
    refine (fs_all (l := l) (G := G) 7 0 rfl (by decide)).1 _ _ _ _ _ _ _ _ _ _ _ _ _ hP3 hOs (show ([] : List Int).length ≤ 9 * 0 from Nat.le_refl 0) (by decide) (by omega) (fun c4 T4 o4 u4 hK4 hO4 hTF4 J4 M4 hF4 hL4 hP4 => ?_) (fun c5 hK5 J5 M5 hF5 hL5 hE5 => ?_)
    · have hq4 := hK4.1
      have hq34 : u4 ≤ 30 := hq4.2.2.1
      have hq14 := hq4.1
      have hq24 := hq4.2.1
      have hq44 := hq4.2.2.2.1
      have hT_4 := hP4.2.2.2.1
      have hw_4 := hP4.tw
      have k4_4 := hP4.2.2.1.1
      have k5_4 := hP4.2.2.1.2.1
      have k6_4 := hP4.2.2.1.2.2.1.1
      have m4_4 := hP4.2.2.2.2.2.1
      have ki_4 := kC_in b c4
      have kw_4 := wi_in b c4
      have tr_4 := ts_rng b c4
      have l7_4 := hP4.2.2.1.2.2.2.2.1
      have u3_4 : J4 ((D 2) + 17) 3 = ((u4 : Nat) : Int) := by rw [← hO4.2.1, ← hT_4]; rfl
      refine wp_eqst (st' := [vI 1]) rfl ?_
      refine wp_zret (pc := 23) dX4_hearsLine_23 rfl rfl (by decide) ?_
      have g0 := hK4.1.2.2.2.2 trivial (Nat.le_refl 0)
      exact h1 h_1 _ _ ⟨o4, u4, ok_done hK4, hO4, hTF4, g0.1, g0.2, by have z1 : ([] : List Int).length = 0 := rfl; omega, hq34, hq14, by rcases o4 with _ | ⟨y, ys⟩; (have z2 : (0 : Nat) = 0 + 1 := g0.2; omega); exact Nat.succ_pos _⟩ _ _ (((Fp.refl.trans hF1).trans hFa3.p).trans hF4) ((Lp.refl.trans hLa3.p).trans hL4) hP4
    · skip
      refine wp_eqst (st' := [vI 0]) rfl ?_
      refine wp_zret (pc := 23) dX4_hearsLine_23 rfl rfl (by decide) ?_
      exact h0 _ (Or.inr ⟨h_1, c5, hK5 [] trivial (fun z => absurd z (by decide)), rfl⟩) _ _ (((Fp.refl.trans hF1).trans hFa3.p).trans hF5) ((Lp.refl.trans hLa3.p).trans hL5) hE5
  · skip
    refine wp_eqst (st' := [vI 0]) rfl ?_
    refine wp_if_ne (pc := 6) 11 dX4_hearsLine_6 (by decide) (by decide) (fun hh => absurd hh (by decide)) (fun _ => ?_)
    refine wp_iconst (pc := 9) dX4_hearsLine_9 ?_
    refine wp_zret (pc := 10) dX4_hearsLine_10 rfl rfl (by decide) ?_
    exact h0 _ (Or.inl ⟨h_1, rfl⟩) _ _ (Fp.refl.trans hF2) Lp.refl hE2

theorem sp_readsLine {l : Launch} {G : mG} {d : Nat} {I : mI} {L : Nat → Nat → Int} {D : Nat → Nat} {Q : mQ} {b : Nat → Int} {n c : Nat} {T N : mT} {mo : Nat}   (hP : PS I L D b n c T N mo) (hlen : ¬ mo.testBit 11 = true → T 17 2 = 0 ∧ T 17 3 = 0) (hd : 92 ≤ d) (h1 : ∀ c' T' N' mo', lnS b c T N mo c' T' N' mo' → c < c' → ∀ J M, Fp I J (D 2) → Lp L M (D 2) → PS J M D b n c' T' N' mo' → Q (some (vI 1)) J (XX M D)) (h0 : ∀ er, lnE b c T N mo er → ∀ J M, Fp I J (D 2) → Lp L M (D 2) → PE J M D b n er → Q (some (vI 0)) J (XX M D)) : WP l G m_X4_readsLine d 153 I (XX L D) 0 [some (vR 44), none] [] Q := by
  have ht := hP.1.1
  have g2 : D 2 = 1 ∨ D 2 = 21 := ht
  have hT := hP.2.2.2.1
  have hw := hP.tw
  have k4 := hP.2.2.1.1
  have k5 := hP.2.2.1.2.1
  have k6 := hP.2.2.1.2.2.1.1
  have m4 := hP.2.2.2.2.2.1
  have ki := kC_in b c
  have kw := wi_in b c
  have tr := ts_rng b c
  have l7 := hP.2.2.1.2.2.2.2.1
  have b_c := tw_c hw
  have b_p := tw_p hw
  have b_q := tw_q hw
  have b_v := tw_vows hw
  have eC : nC T = (T 0 11).toNat := rfl
  have eP : nP T = (T 0 12).toNat := rfl
  have eQ : nQ T = (T 0 13).toNat := rfl
  have k3 := (kC_ts b c).2.2.2.2.1
  have kq : ¬ wi b c = -1 → I 41 6 = wi b c := fun z => by rw [hP.2.2.1.2.2.1.2 (n3_w (by omega)), vC_w (wi_ts z), if_neg z]
  refine wp_aload_n (pc := 0) 0 dX4_readsLine_0 rfl rfl ?_
  refine wp_getr (pc := 1) dX4_readsLine_1 rfl f_X4_15 kd_44 la_44 rfl (r_44_0 D) ?_
  refine wp_geti (pc := 4) dX4_readsLine_4 rfl f_X4_39 kd_41 la_41 (Or.inl rfl) ?_
  refine wp_eqst (st' := [vI (kC b c)]) (by rw [k4]) ?_
  refine wp_iconst (pc := 7) dX4_readsLine_7 ?_
  refine wp_icmp_eq (pc := 8) 17 dX4_readsLine_8 (by decide) (by omega) (by decide) (fun h_1 => ?_) (fun h_1 => ?_)
  · refine wp_aload_n (pc := 17) 0 dX4_readsLine_17 rfl rfl ?_
    refine wp_getr (pc := 18) dX4_readsLine_18 rfl f_X4_15 kd_44 la_44 rfl (r_44_0 D) ?_
    refine wp_geti (pc := 21) dX4_readsLine_21 rfl f_X4_46 kd_41 la_41 (Or.inl rfl) ?_
    refine wp_eqst (st' := [vI (wi b c)]) (by rw [kq (by omega)]) ?_
    by_cases h_2 : wi b c = 0
    · refine wp_tin (pc := 24) 0 100 dX4_readsLine_24 (by omega) (by rw [h_2]; decide) (by decide) rfl (by decide) ?_
      refine wp_aload_n (pc := 100) 0 dX4_readsLine_100 rfl rfl ?_
      refine wp_callV (pc := 101) (st := []) (nf' := 153) [] [some (vR 44)] dX4_readsLine_101 rfl c_X4_49 rfl kd_44 (by decide) rfl la_44 rfl (Nat.le_of_ble_eq_true rfl) rfl (Nat.le_of_ble_eq_true rfl) (by omega) (Nat.le_refl _) (Nat.le_refl _) ?_
      refine sp_churchLine hP (by omega) (by omega) (fun c1 T1 N1 hR1 J1 M1 hF1 hL1 hP1 => ?_) (fun e2 hR2 J2 M2 hF2 hL2 hE2 => ?_)
      · skip
        have hT_1 := hP1.2.2.2.1
        have hw_1 := hP1.tw
        have k4_1 := hP1.2.2.1.1
        have k5_1 := hP1.2.2.1.2.1
        have k6_1 := hP1.2.2.1.2.2.1.1
        have m4_1 := hP1.2.2.2.2.2.1
        have ki_1 := kC_in b c1
        have kw_1 := wi_in b c1
        have tr_1 := ts_rng b c1
        have l7_1 := hP1.2.2.1.2.2.2.2.1
        refine wp_eqst (st' := [vI 1]) rfl ?_
        refine wq_istore_n (pc := 104) 1 [some (vR 44), some (vI 1)] dX4_readsLine_104 rfl rfl (by decide) rfl ?_
        refine wp_goto (pc := 105) 208 dX4_readsLine_105 (by decide) ?_
        refine wp_iload_n (pc := 208) 1 dX4_readsLine_208 rfl rfl ?_
        refine wp_if_eq (pc := 209) 225 dX4_readsLine_209 (by decide) (by decide) (fun hh => absurd hh (by decide)) (fun _ => ?_)
        refine wp_aload_n (pc := 212) 0 dX4_readsLine_212 rfl rfl ?_
        refine wp_bipush (pc := 213) dX4_readsLine_213 (by decide) ?_
        refine wp_callV (pc := 215) (st := []) (nf' := 153) [vI 59] [some (vR 44), some (vI 59)] dX4_readsLine_215 rfl c_X4_83 rfl kd_44 (by decide) rfl la_44 rfl (Nat.le_of_ble_eq_true rfl) rfl (Nat.le_of_ble_eq_true rfl) (by omega) (Nat.le_refl _) (Nat.le_refl _) ?_
        refine sp_sign hP1 (by decide) (by omega) (fun h_3 J3 M3 hF3 hL3 hP3 => ?_) (fun h_3 J4 M4 hF4 hL4 hE4 => ?_)
        · skip
          have hT_3 := hP3.2.2.2.1
          have hw_3 := hP3.tw
          have k4_3 := hP3.2.2.1.1
          have k5_3 := hP3.2.2.1.2.1
          have k6_3 := hP3.2.2.1.2.2.1.1
          have m4_3 := hP3.2.2.2.2.2.1
          have ki_3 := kC_in b (te b c1)
          have kw_3 := wi_in b (te b c1)
          have tr_3 := ts_rng b (te b c1)
          have l7_3 := hP3.2.2.1.2.2.2.2.1
          refine wp_eqst (st' := [vI 1]) rfl ?_
          refine wp_if_eq (pc := 218) 225 dX4_readsLine_218 (by decide) (by decide) (fun hh => absurd hh (by decide)) (fun _ => ?_)
          refine wp_iconst (pc := 221) dX4_readsLine_221 ?_
          refine wp_goto (pc := 222) 226 dX4_readsLine_222 (by decide) ?_
          refine wp_zret (pc := 226) dX4_readsLine_226 rfl rfl (by decide) ?_
          have lr : lnR b c T N mo (.inr (c1, T1, N1)) _ := (show lnR b c T N mo _ _ by unfold lnR; (repeat (first | rw [if_pos (by omega)] | rw [if_neg (by omega)])); exact ⟨hR1.symm, rfl⟩)
          have lc := lnR_c lr hP.mon hP.2.1
          have l2 := hP1.lt (by omega)
          exact h1 _ _ _ _ ⟨_, lr, by omega, rfl⟩ (by omega) _ _ ((Fp.refl.trans hF1).trans hF3) ((Lp.refl.trans hL1).trans hL3) hP3
        · skip
          refine wp_eqst (st' := [vI 0]) rfl ?_
          refine wp_if_eq (pc := 218) 225 dX4_readsLine_218 (by decide) (by decide) (fun _ => ?_) (fun hh => absurd hh (by decide))
          refine wp_iconst (pc := 225) dX4_readsLine_225 ?_
          refine wp_zret (pc := 226) dX4_readsLine_226 rfl rfl (by decide) ?_
          have lr : lnR b c T N mo (.inr (c1, T1, N1)) _ := (show lnR b c T N mo _ _ by unfold lnR; (repeat (first | rw [if_pos (by omega)] | rw [if_neg (by omega)])); exact ⟨hR1.symm, rfl⟩)
          exact h0 _ (Or.inr ⟨_, _, _, _, lr, by omega, rfl⟩) _ _ ((Fp.refl.trans hF1).trans hF4) ((Lp.refl.trans hL1).trans hL4) hE4
      · skip
        refine wp_eqst (st' := [vI 0]) rfl ?_
        refine wq_istore_n (pc := 104) 1 [some (vR 44), some (vI 0)] dX4_readsLine_104 rfl rfl (by decide) rfl ?_
        refine wp_goto (pc := 105) 208 dX4_readsLine_105 (by decide) ?_
        refine wp_iload_n (pc := 208) 1 dX4_readsLine_208 rfl rfl ?_
        refine wp_if_eq (pc := 209) 225 dX4_readsLine_209 (by decide) (by decide) (fun _ => ?_) (fun hh => absurd hh (by decide))
        refine wp_iconst (pc := 225) dX4_readsLine_225 ?_
        refine wp_zret (pc := 226) dX4_readsLine_226 rfl rfl (by decide) ?_
        exact h0 _ (Or.inl ⟨_, (show lnR b c T N mo _ _ by unfold lnR; (repeat (first | rw [if_pos (by omega)] | rw [if_neg (by omega)])); exact ⟨hR2.symm, rfl⟩)⟩) _ _ (Fp.refl.trans hF2) (Lp.refl.trans hL2) hE2
    by_cases h_4 : wi b c = 1
    · refine wp_tin (pc := 24) 1 108 dX4_readsLine_24 (by omega) (by rw [h_4]; decide) (by decide) rfl (by decide) ?_
      refine wp_aload_n (pc := 108) 0 dX4_readsLine_108 rfl rfl ?_
      refine wp_callV (pc := 109) (st := []) (nf' := 153) [] [some (vR 44), none, none, none] dX4_readsLine_109 rfl c_X4_53 rfl kd_44 (by decide) rfl la_44 rfl (Nat.le_of_ble_eq_true rfl) rfl (Nat.le_of_ble_eq_true rfl) (by omega) (Nat.le_refl _) (Nat.le_refl _) ?_
      refine sp_personLine hP (by omega) (by omega) (fun c5 T5 N5 hR5 J5 M5 hF5 hL5 hP5 => ?_) (fun e6 hR6 J6 M6 hF6 hL6 hE6 => ?_)
      · skip
        have hT_5 := hP5.2.2.2.1
        have hw_5 := hP5.tw
        have k4_5 := hP5.2.2.1.1
        have k5_5 := hP5.2.2.1.2.1
        have k6_5 := hP5.2.2.1.2.2.1.1
        have m4_5 := hP5.2.2.2.2.2.1
        have ki_5 := kC_in b c5
        have kw_5 := wi_in b c5
        have tr_5 := ts_rng b c5
        have l7_5 := hP5.2.2.1.2.2.2.2.1
        refine wp_eqst (st' := [vI 1]) rfl ?_
        refine wq_istore_n (pc := 112) 1 [some (vR 44), some (vI 1)] dX4_readsLine_112 rfl rfl (by decide) rfl ?_
        refine wp_goto (pc := 113) 208 dX4_readsLine_113 (by decide) ?_
        refine wp_iload_n (pc := 208) 1 dX4_readsLine_208 rfl rfl ?_
        refine wp_if_eq (pc := 209) 225 dX4_readsLine_209 (by decide) (by decide) (fun hh => absurd hh (by decide)) (fun _ => ?_)
        refine wp_aload_n (pc := 212) 0 dX4_readsLine_212 rfl rfl ?_
        refine wp_bipush (pc := 213) dX4_readsLine_213 (by decide) ?_
        refine wp_callV (pc := 215) (st := []) (nf' := 153) [vI 59] [some (vR 44), some (vI 59)] dX4_readsLine_215 rfl c_X4_83 rfl kd_44 (by decide) rfl la_44 rfl (Nat.le_of_ble_eq_true rfl) rfl (Nat.le_of_ble_eq_true rfl) (by omega) (Nat.le_refl _) (Nat.le_refl _) ?_
        refine sp_sign hP5 (by decide) (by omega) (fun h_5 J7 M7 hF7 hL7 hP7 => ?_) (fun h_5 J8 M8 hF8 hL8 hE8 => ?_)
        · skip
          have hT_7 := hP7.2.2.2.1
          have hw_7 := hP7.tw
          have k4_7 := hP7.2.2.1.1
          have k5_7 := hP7.2.2.1.2.1
          have k6_7 := hP7.2.2.1.2.2.1.1
          have m4_7 := hP7.2.2.2.2.2.1
          have ki_7 := kC_in b (te b c5)
          have kw_7 := wi_in b (te b c5)
          have tr_7 := ts_rng b (te b c5)
          have l7_7 := hP7.2.2.1.2.2.2.2.1
          refine wp_eqst (st' := [vI 1]) rfl ?_
          refine wp_if_eq (pc := 218) 225 dX4_readsLine_218 (by decide) (by decide) (fun hh => absurd hh (by decide)) (fun _ => ?_)
          refine wp_iconst (pc := 221) dX4_readsLine_221 ?_
          refine wp_goto (pc := 222) 226 dX4_readsLine_222 (by decide) ?_
          refine wp_zret (pc := 226) dX4_readsLine_226 rfl rfl (by decide) ?_
          have lr : lnR b c T N mo (.inr (c5, T5, N5)) _ := (show lnR b c T N mo _ _ by unfold lnR; (repeat (first | rw [if_pos (by omega)] | rw [if_neg (by omega)])); exact ⟨hR5.symm, rfl⟩)
          have lc := lnR_c lr hP.mon hP.2.1
          have l2 := hP5.lt (by omega)
          exact h1 _ _ _ _ ⟨_, lr, by omega, rfl⟩ (by omega) _ _ ((Fp.refl.trans hF5).trans hF7) ((Lp.refl.trans hL5).trans hL7) hP7
        · skip
          refine wp_eqst (st' := [vI 0]) rfl ?_
          refine wp_if_eq (pc := 218) 225 dX4_readsLine_218 (by decide) (by decide) (fun _ => ?_) (fun hh => absurd hh (by decide))
          refine wp_iconst (pc := 225) dX4_readsLine_225 ?_
          refine wp_zret (pc := 226) dX4_readsLine_226 rfl rfl (by decide) ?_
          have lr : lnR b c T N mo (.inr (c5, T5, N5)) _ := (show lnR b c T N mo _ _ by unfold lnR; (repeat (first | rw [if_pos (by omega)] | rw [if_neg (by omega)])); exact ⟨hR5.symm, rfl⟩)
          exact h0 _ (Or.inr ⟨_, _, _, _, lr, by omega, rfl⟩) _ _ ((Fp.refl.trans hF5).trans hF8) ((Lp.refl.trans hL5).trans hL8) hE8
      · skip
        refine wp_eqst (st' := [vI 0]) rfl ?_
        refine wq_istore_n (pc := 112) 1 [some (vR 44), some (vI 0)] dX4_readsLine_112 rfl rfl (by decide) rfl ?_
        refine wp_goto (pc := 113) 208 dX4_readsLine_113 (by decide) ?_
        refine wp_iload_n (pc := 208) 1 dX4_readsLine_208 rfl rfl ?_
        refine wp_if_eq (pc := 209) 225 dX4_readsLine_209 (by decide) (by decide) (fun _ => ?_) (fun hh => absurd hh (by decide))
        refine wp_iconst (pc := 225) dX4_readsLine_225 ?_
        refine wp_zret (pc := 226) dX4_readsLine_226 rfl rfl (by decide) ?_
        exact h0 _ (Or.inl ⟨_, (show lnR b c T N mo _ _ by unfold lnR; (repeat (first | rw [if_pos (by omega)] | rw [if_neg (by omega)])); exact ⟨hR6.symm, rfl⟩)⟩) _ _ (Fp.refl.trans hF6) (Lp.refl.trans hL6) hE6
    by_cases h_11 : wi b c = 7
    · refine wp_tin (pc := 24) 7 116 dX4_readsLine_24 (by omega) (by rw [h_11]; decide) (by decide) rfl (by decide) ?_
      refine wp_aload_n (pc := 116) 0 dX4_readsLine_116 rfl rfl ?_
      refine wp_aload_n (pc := 117) 0 dX4_readsLine_117 rfl rfl ?_
      refine wp_getr (pc := 118) dX4_readsLine_118 rfl f_X4_19 kd_44 la_44 rfl (r_44_1 D) ?_
      refine wp_getr (pc := 121) dX4_readsLine_121 rfl f_X4_56 (tk_0 ht) (tl_0 ht) rfl (tr_0_9 D ht) ?_
      refine wp_getr (pc := 124) dX4_readsLine_124 rfl f_X4_60 (tk_10 ht) (tl_10 ht) rfl (tr_10_2 D ht) ?_
      refine wp_bipush (pc := 127) dX4_readsLine_127 (by decide) ?_
      refine wp_callV (pc := 129) (st := []) (nf' := 153) [vR ((D 2) + 13), vI 12] [some (vR 44), some (vR ((D 2) + 13)), some (vI 12), none, none, none, none, none] dX4_readsLine_129 rfl c_X4_66 rfl kd_44 (by decide) rfl la_44 rfl (Nat.le_of_ble_eq_true rfl) rfl (Nat.le_of_ble_eq_true rfl) (by omega) (Nat.le_refl _) (Nat.le_refl _) ?_
      refine sp_linkLine13 hP (by omega) (by omega) (fun c9 T9 N9 hR9 J9 M9 hF9 hL9 hP9 => ?_) (fun e10 hR10 J10 M10 hF10 hL10 hE10 => ?_)
      · skip
        have hT_9 := hP9.2.2.2.1
        have hw_9 := hP9.tw
        have k4_9 := hP9.2.2.1.1
        have k5_9 := hP9.2.2.1.2.1
        have k6_9 := hP9.2.2.1.2.2.1.1
        have m4_9 := hP9.2.2.2.2.2.1
        have ki_9 := kC_in b c9
        have kw_9 := wi_in b c9
        have tr_9 := ts_rng b c9
        have l7_9 := hP9.2.2.1.2.2.2.2.1
        refine wp_eqst (st' := [vI 1]) rfl ?_
        refine wq_istore_n (pc := 132) 1 [some (vR 44), some (vI 1)] dX4_readsLine_132 rfl rfl (by decide) rfl ?_
        refine wp_goto (pc := 133) 208 dX4_readsLine_133 (by decide) ?_
        refine wp_iload_n (pc := 208) 1 dX4_readsLine_208 rfl rfl ?_
        refine wp_if_eq (pc := 209) 225 dX4_readsLine_209 (by decide) (by decide) (fun hh => absurd hh (by decide)) (fun _ => ?_)
        refine wp_aload_n (pc := 212) 0 dX4_readsLine_212 rfl rfl ?_
        refine wp_bipush (pc := 213) dX4_readsLine_213 (by decide) ?_
        refine wp_callV (pc := 215) (st := []) (nf' := 153) [vI 59] [some (vR 44), some (vI 59)] dX4_readsLine_215 rfl c_X4_83 rfl kd_44 (by decide) rfl la_44 rfl (Nat.le_of_ble_eq_true rfl) rfl (Nat.le_of_ble_eq_true rfl) (by omega) (Nat.le_refl _) (Nat.le_refl _) ?_
        refine sp_sign hP9 (by decide) (by omega) (fun h_12 J11 M11 hF11 hL11 hP11 => ?_) (fun h_12 J12 M12 hF12 hL12 hE12 => ?_)
        · skip
          have hT_11 := hP11.2.2.2.1
          have hw_11 := hP11.tw
          have k4_11 := hP11.2.2.1.1
          have k5_11 := hP11.2.2.1.2.1
          have k6_11 := hP11.2.2.1.2.2.1.1
          have m4_11 := hP11.2.2.2.2.2.1
          have ki_11 := kC_in b (te b c9)
          have kw_11 := wi_in b (te b c9)
          have tr_11 := ts_rng b (te b c9)
          have l7_11 := hP11.2.2.1.2.2.2.2.1
          refine wp_eqst (st' := [vI 1]) rfl ?_
          refine wp_if_eq (pc := 218) 225 dX4_readsLine_218 (by decide) (by decide) (fun hh => absurd hh (by decide)) (fun _ => ?_)
          refine wp_iconst (pc := 221) dX4_readsLine_221 ?_
          refine wp_goto (pc := 222) 226 dX4_readsLine_222 (by decide) ?_
          refine wp_zret (pc := 226) dX4_readsLine_226 rfl rfl (by decide) ?_
          have lr : lnR b c T N mo (.inr (c9, T9, N9)) _ := (show lnR b c T N mo _ _ by unfold lnR; (repeat (first | rw [if_pos (by omega)] | rw [if_neg (by omega)])); exact ⟨hR9.symm, rfl⟩)
          have lc := lnR_c lr hP.mon hP.2.1
          have l2 := hP9.lt (by omega)
          exact h1 _ _ _ _ ⟨_, lr, by omega, rfl⟩ (by omega) _ _ ((Fp.refl.trans hF9).trans hF11) ((Lp.refl.trans hL9).trans hL11) hP11
        · skip
          refine wp_eqst (st' := [vI 0]) rfl ?_
          refine wp_if_eq (pc := 218) 225 dX4_readsLine_218 (by decide) (by decide) (fun _ => ?_) (fun hh => absurd hh (by decide))
          refine wp_iconst (pc := 225) dX4_readsLine_225 ?_
          refine wp_zret (pc := 226) dX4_readsLine_226 rfl rfl (by decide) ?_
          have lr : lnR b c T N mo (.inr (c9, T9, N9)) _ := (show lnR b c T N mo _ _ by unfold lnR; (repeat (first | rw [if_pos (by omega)] | rw [if_neg (by omega)])); exact ⟨hR9.symm, rfl⟩)
          exact h0 _ (Or.inr ⟨_, _, _, _, lr, by omega, rfl⟩) _ _ ((Fp.refl.trans hF9).trans hF12) ((Lp.refl.trans hL9).trans hL12) hE12
      · skip
        refine wp_eqst (st' := [vI 0]) rfl ?_
        refine wq_istore_n (pc := 132) 1 [some (vR 44), some (vI 0)] dX4_readsLine_132 rfl rfl (by decide) rfl ?_
        refine wp_goto (pc := 133) 208 dX4_readsLine_133 (by decide) ?_
        refine wp_iload_n (pc := 208) 1 dX4_readsLine_208 rfl rfl ?_
        refine wp_if_eq (pc := 209) 225 dX4_readsLine_209 (by decide) (by decide) (fun _ => ?_) (fun hh => absurd hh (by decide))
        refine wp_iconst (pc := 225) dX4_readsLine_225 ?_
        refine wp_zret (pc := 226) dX4_readsLine_226 rfl rfl (by decide) ?_
        exact h0 _ (Or.inl ⟨_, (show lnR b c T N mo _ _ by unfold lnR; (repeat (first | rw [if_pos (by omega)] | rw [if_neg (by omega)])); exact ⟨hR10.symm, rfl⟩)⟩) _ _ (Fp.refl.trans hF10) (Lp.refl.trans hL10) hE10
    by_cases h_13 : wi b c = 8
    · refine wp_tin (pc := 24) 8 136 dX4_readsLine_24 (by omega) (by rw [h_13]; decide) (by decide) rfl (by decide) ?_
      refine wp_aload_n (pc := 136) 0 dX4_readsLine_136 rfl rfl ?_
      refine wp_aload_n (pc := 137) 0 dX4_readsLine_137 rfl rfl ?_
      refine wp_getr (pc := 138) dX4_readsLine_138 rfl f_X4_19 kd_44 la_44 rfl (r_44_1 D) ?_
      refine wp_getr (pc := 141) dX4_readsLine_141 rfl f_X4_70 (tk_0 ht) (tl_0 ht) rfl (tr_0_4 D ht) ?_
      refine wp_bipush (pc := 144) dX4_readsLine_144 (by decide) ?_
      refine wp_callV (pc := 146) (st := []) (nf' := 153) [vR ((D 2) + 5), vI 8] [some (vR 44), some (vR ((D 2) + 5)), some (vI 8), none, none, none, none, none] dX4_readsLine_146 rfl c_X4_66 rfl kd_44 (by decide) rfl la_44 rfl (Nat.le_of_ble_eq_true rfl) rfl (Nat.le_of_ble_eq_true rfl) (by omega) (Nat.le_refl _) (Nat.le_refl _) ?_
      refine sp_linkLine5 hP (by omega) (by omega) (fun c13 T13 N13 hR13 J13 M13 hF13 hL13 hP13 => ?_) (fun e14 hR14 J14 M14 hF14 hL14 hE14 => ?_)
      · skip
        have hT_13 := hP13.2.2.2.1
        have hw_13 := hP13.tw
        have k4_13 := hP13.2.2.1.1
        have k5_13 := hP13.2.2.1.2.1
        have k6_13 := hP13.2.2.1.2.2.1.1
        have m4_13 := hP13.2.2.2.2.2.1
        have ki_13 := kC_in b c13
        have kw_13 := wi_in b c13
        have tr_13 := ts_rng b c13
        have l7_13 := hP13.2.2.1.2.2.2.2.1
        refine wp_eqst (st' := [vI 1]) rfl ?_
        refine wq_istore_n (pc := 149) 1 [some (vR 44), some (vI 1)] dX4_readsLine_149 rfl rfl (by decide) rfl ?_
        refine wp_goto (pc := 150) 208 dX4_readsLine_150 (by decide) ?_
        refine wp_iload_n (pc := 208) 1 dX4_readsLine_208 rfl rfl ?_
        refine wp_if_eq (pc := 209) 225 dX4_readsLine_209 (by decide) (by decide) (fun hh => absurd hh (by decide)) (fun _ => ?_)
        refine wp_aload_n (pc := 212) 0 dX4_readsLine_212 rfl rfl ?_
        refine wp_bipush (pc := 213) dX4_readsLine_213 (by decide) ?_
        refine wp_callV (pc := 215) (st := []) (nf' := 153) [vI 59] [some (vR 44), some (vI 59)] dX4_readsLine_215 rfl c_X4_83 rfl kd_44 (by decide) rfl la_44 rfl (Nat.le_of_ble_eq_true rfl) rfl (Nat.le_of_ble_eq_true rfl) (by omega) (Nat.le_refl _) (Nat.le_refl _) ?_
        refine sp_sign hP13 (by decide) (by omega) (fun h_14 J15 M15 hF15 hL15 hP15 => ?_) (fun h_14 J16 M16 hF16 hL16 hE16 => ?_)
        · skip
          have hT_15 := hP15.2.2.2.1
          have hw_15 := hP15.tw
          have k4_15 := hP15.2.2.1.1
          have k5_15 := hP15.2.2.1.2.1
          have k6_15 := hP15.2.2.1.2.2.1.1
          have m4_15 := hP15.2.2.2.2.2.1
          have ki_15 := kC_in b (te b c13)
          have kw_15 := wi_in b (te b c13)
          have tr_15 := ts_rng b (te b c13)
          have l7_15 := hP15.2.2.1.2.2.2.2.1
          refine wp_eqst (st' := [vI 1]) rfl ?_
          refine wp_if_eq (pc := 218) 225 dX4_readsLine_218 (by decide) (by decide) (fun hh => absurd hh (by decide)) (fun _ => ?_)
          refine wp_iconst (pc := 221) dX4_readsLine_221 ?_
          refine wp_goto (pc := 222) 226 dX4_readsLine_222 (by decide) ?_
          refine wp_zret (pc := 226) dX4_readsLine_226 rfl rfl (by decide) ?_
          have lr : lnR b c T N mo (.inr (c13, T13, N13)) _ := (show lnR b c T N mo _ _ by unfold lnR; (repeat (first | rw [if_pos (by omega)] | rw [if_neg (by omega)])); exact ⟨hR13.symm, rfl⟩)
          have lc := lnR_c lr hP.mon hP.2.1
          have l2 := hP13.lt (by omega)
          exact h1 _ _ _ _ ⟨_, lr, by omega, rfl⟩ (by omega) _ _ ((Fp.refl.trans hF13).trans hF15) ((Lp.refl.trans hL13).trans hL15) hP15
        · skip
          refine wp_eqst (st' := [vI 0]) rfl ?_
          refine wp_if_eq (pc := 218) 225 dX4_readsLine_218 (by decide) (by decide) (fun _ => ?_) (fun hh => absurd hh (by decide))
          refine wp_iconst (pc := 225) dX4_readsLine_225 ?_
          refine wp_zret (pc := 226) dX4_readsLine_226 rfl rfl (by decide) ?_
          have lr : lnR b c T N mo (.inr (c13, T13, N13)) _ := (show lnR b c T N mo _ _ by unfold lnR; (repeat (first | rw [if_pos (by omega)] | rw [if_neg (by omega)])); exact ⟨hR13.symm, rfl⟩)
          exact h0 _ (Or.inr ⟨_, _, _, _, lr, by omega, rfl⟩) _ _ ((Fp.refl.trans hF13).trans hF16) ((Lp.refl.trans hL13).trans hL16) hE16
      · skip
        refine wp_eqst (st' := [vI 0]) rfl ?_
        refine wq_istore_n (pc := 149) 1 [some (vR 44), some (vI 0)] dX4_readsLine_149 rfl rfl (by decide) rfl ?_
        refine wp_goto (pc := 150) 208 dX4_readsLine_150 (by decide) ?_
        refine wp_iload_n (pc := 208) 1 dX4_readsLine_208 rfl rfl ?_
        refine wp_if_eq (pc := 209) 225 dX4_readsLine_209 (by decide) (by decide) (fun _ => ?_) (fun hh => absurd hh (by decide))
        refine wp_iconst (pc := 225) dX4_readsLine_225 ?_
        refine wp_zret (pc := 226) dX4_readsLine_226 rfl rfl (by decide) ?_
        exact h0 _ (Or.inl ⟨_, (show lnR b c T N mo _ _ by unfold lnR; (repeat (first | rw [if_pos (by omega)] | rw [if_neg (by omega)])); exact ⟨hR14.symm, rfl⟩)⟩) _ _ (Fp.refl.trans hF14) (Lp.refl.trans hL14) hE14
    by_cases h_15 : wi b c = 9
    · refine wp_tin (pc := 24) 9 153 dX4_readsLine_24 (by omega) (by rw [h_15]; decide) (by decide) rfl (by decide) ?_
      refine wp_aload_n (pc := 153) 0 dX4_readsLine_153 rfl rfl ?_
      refine wp_callV (pc := 154) (st := []) (nf' := 153) [] [some (vR 44), none, none] dX4_readsLine_154 rfl c_X4_73 rfl kd_44 (by decide) rfl la_44 rfl (Nat.le_of_ble_eq_true rfl) rfl (Nat.le_of_ble_eq_true rfl) (by omega) (Nat.le_refl _) (Nat.le_refl _) ?_
      refine sp_pairLine hP (by omega) (by omega) (fun c17 T17 N17 hR17 J17 M17 hF17 hL17 hP17 => ?_) (fun e18 hR18 J18 M18 hF18 hL18 hE18 => ?_)
      · skip
        have hT_17 := hP17.2.2.2.1
        have hw_17 := hP17.tw
        have k4_17 := hP17.2.2.1.1
        have k5_17 := hP17.2.2.1.2.1
        have k6_17 := hP17.2.2.1.2.2.1.1
        have m4_17 := hP17.2.2.2.2.2.1
        have ki_17 := kC_in b c17
        have kw_17 := wi_in b c17
        have tr_17 := ts_rng b c17
        have l7_17 := hP17.2.2.1.2.2.2.2.1
        refine wp_eqst (st' := [vI 1]) rfl ?_
        refine wq_istore_n (pc := 157) 1 [some (vR 44), some (vI 1)] dX4_readsLine_157 rfl rfl (by decide) rfl ?_
        refine wp_goto (pc := 158) 208 dX4_readsLine_158 (by decide) ?_
        refine wp_iload_n (pc := 208) 1 dX4_readsLine_208 rfl rfl ?_
        refine wp_if_eq (pc := 209) 225 dX4_readsLine_209 (by decide) (by decide) (fun hh => absurd hh (by decide)) (fun _ => ?_)
        refine wp_aload_n (pc := 212) 0 dX4_readsLine_212 rfl rfl ?_
        refine wp_bipush (pc := 213) dX4_readsLine_213 (by decide) ?_
        refine wp_callV (pc := 215) (st := []) (nf' := 153) [vI 59] [some (vR 44), some (vI 59)] dX4_readsLine_215 rfl c_X4_83 rfl kd_44 (by decide) rfl la_44 rfl (Nat.le_of_ble_eq_true rfl) rfl (Nat.le_of_ble_eq_true rfl) (by omega) (Nat.le_refl _) (Nat.le_refl _) ?_
        refine sp_sign hP17 (by decide) (by omega) (fun h_16 J19 M19 hF19 hL19 hP19 => ?_) (fun h_16 J20 M20 hF20 hL20 hE20 => ?_)
        · skip
          have hT_19 := hP19.2.2.2.1
          have hw_19 := hP19.tw
          have k4_19 := hP19.2.2.1.1
          have k5_19 := hP19.2.2.1.2.1
          have k6_19 := hP19.2.2.1.2.2.1.1
          have m4_19 := hP19.2.2.2.2.2.1
          have ki_19 := kC_in b (te b c17)
          have kw_19 := wi_in b (te b c17)
          have tr_19 := ts_rng b (te b c17)
          have l7_19 := hP19.2.2.1.2.2.2.2.1
          refine wp_eqst (st' := [vI 1]) rfl ?_
          refine wp_if_eq (pc := 218) 225 dX4_readsLine_218 (by decide) (by decide) (fun hh => absurd hh (by decide)) (fun _ => ?_)
          refine wp_iconst (pc := 221) dX4_readsLine_221 ?_
          refine wp_goto (pc := 222) 226 dX4_readsLine_222 (by decide) ?_
          refine wp_zret (pc := 226) dX4_readsLine_226 rfl rfl (by decide) ?_
          have lr : lnR b c T N mo (.inr (c17, T17, N17)) _ := (show lnR b c T N mo _ _ by unfold lnR; (repeat (first | rw [if_pos (by omega)] | rw [if_neg (by omega)])); exact ⟨hR17.symm, rfl⟩)
          have lc := lnR_c lr hP.mon hP.2.1
          have l2 := hP17.lt (by omega)
          exact h1 _ _ _ _ ⟨_, lr, by omega, rfl⟩ (by omega) _ _ ((Fp.refl.trans hF17).trans hF19) ((Lp.refl.trans hL17).trans hL19) hP19
        · skip
          refine wp_eqst (st' := [vI 0]) rfl ?_
          refine wp_if_eq (pc := 218) 225 dX4_readsLine_218 (by decide) (by decide) (fun _ => ?_) (fun hh => absurd hh (by decide))
          refine wp_iconst (pc := 225) dX4_readsLine_225 ?_
          refine wp_zret (pc := 226) dX4_readsLine_226 rfl rfl (by decide) ?_
          have lr : lnR b c T N mo (.inr (c17, T17, N17)) _ := (show lnR b c T N mo _ _ by unfold lnR; (repeat (first | rw [if_pos (by omega)] | rw [if_neg (by omega)])); exact ⟨hR17.symm, rfl⟩)
          exact h0 _ (Or.inr ⟨_, _, _, _, lr, by omega, rfl⟩) _ _ ((Fp.refl.trans hF17).trans hF20) ((Lp.refl.trans hL17).trans hL20) hE20
      · skip
        refine wp_eqst (st' := [vI 0]) rfl ?_
        refine wq_istore_n (pc := 157) 1 [some (vR 44), some (vI 0)] dX4_readsLine_157 rfl rfl (by decide) rfl ?_
        refine wp_goto (pc := 158) 208 dX4_readsLine_158 (by decide) ?_
        refine wp_iload_n (pc := 208) 1 dX4_readsLine_208 rfl rfl ?_
        refine wp_if_eq (pc := 209) 225 dX4_readsLine_209 (by decide) (by decide) (fun _ => ?_) (fun hh => absurd hh (by decide))
        refine wp_iconst (pc := 225) dX4_readsLine_225 ?_
        refine wp_zret (pc := 226) dX4_readsLine_226 rfl rfl (by decide) ?_
        exact h0 _ (Or.inl ⟨_, (show lnR b c T N mo _ _ by unfold lnR; (repeat (first | rw [if_pos (by omega)] | rw [if_neg (by omega)])); exact ⟨hR18.symm, rfl⟩)⟩) _ _ (Fp.refl.trans hF18) (Lp.refl.trans hL18) hE18
    by_cases h_18 : wi b c = 11
    · refine wp_tin (pc := 24) 11 161 dX4_readsLine_24 (by omega) (by rw [h_18]; decide) (by decide) rfl (by decide) ?_
      refine wp_aload_n (pc := 161) 0 dX4_readsLine_161 rfl rfl ?_
      refine wp_callV (pc := 162) (st := []) (nf' := 153) [] [some (vR 44)] dX4_readsLine_162 rfl c_X4_76 rfl kd_44 (by decide) rfl la_44 rfl (Nat.le_of_ble_eq_true rfl) rfl (Nat.le_of_ble_eq_true rfl) (by omega) (Nat.le_refl _) (Nat.le_refl _) ?_
      refine sp_hearsLine hP (by omega) hlen (by omega) (fun hb21 c21 T21 hR21 J21 M21 hF21 hL21 hP21 => ?_) (fun e22 hR22 J22 M22 hF22 hL22 hE22 => ?_)
      · skip
        have hT_21 := hP21.2.2.2.1
        have hw_21 := hP21.tw
        have k4_21 := hP21.2.2.1.1
        have k5_21 := hP21.2.2.1.2.1
        have k6_21 := hP21.2.2.1.2.2.1.1
        have m4_21 := hP21.2.2.2.2.2.1
        have ki_21 := kC_in b c21
        have kw_21 := wi_in b c21
        have tr_21 := ts_rng b c21
        have l7_21 := hP21.2.2.1.2.2.2.2.1
        refine wp_eqst (st' := [vI 1]) rfl ?_
        refine wq_istore_n (pc := 165) 1 [some (vR 44), some (vI 1)] dX4_readsLine_165 rfl rfl (by decide) rfl ?_
        refine wp_goto (pc := 166) 208 dX4_readsLine_166 (by decide) ?_
        refine wp_iload_n (pc := 208) 1 dX4_readsLine_208 rfl rfl ?_
        refine wp_if_eq (pc := 209) 225 dX4_readsLine_209 (by decide) (by decide) (fun hh => absurd hh (by decide)) (fun _ => ?_)
        refine wp_aload_n (pc := 212) 0 dX4_readsLine_212 rfl rfl ?_
        refine wp_bipush (pc := 213) dX4_readsLine_213 (by decide) ?_
        refine wp_callV (pc := 215) (st := []) (nf' := 153) [vI 59] [some (vR 44), some (vI 59)] dX4_readsLine_215 rfl c_X4_83 rfl kd_44 (by decide) rfl la_44 rfl (Nat.le_of_ble_eq_true rfl) rfl (Nat.le_of_ble_eq_true rfl) (by omega) (Nat.le_refl _) (Nat.le_refl _) ?_
        refine sp_sign hP21 (by decide) (by omega) (fun h_19 J23 M23 hF23 hL23 hP23 => ?_) (fun h_19 J24 M24 hF24 hL24 hE24 => ?_)
        · skip
          have hT_23 := hP23.2.2.2.1
          have hw_23 := hP23.tw
          have k4_23 := hP23.2.2.1.1
          have k5_23 := hP23.2.2.1.2.1
          have k6_23 := hP23.2.2.1.2.2.1.1
          have m4_23 := hP23.2.2.2.2.2.1
          have ki_23 := kC_in b (te b c21)
          have kw_23 := wi_in b (te b c21)
          have tr_23 := ts_rng b (te b c21)
          have l7_23 := hP23.2.2.1.2.2.2.2.1
          refine wp_eqst (st' := [vI 1]) rfl ?_
          refine wp_if_eq (pc := 218) 225 dX4_readsLine_218 (by decide) (by decide) (fun hh => absurd hh (by decide)) (fun _ => ?_)
          refine wp_iconst (pc := 221) dX4_readsLine_221 ?_
          refine wp_goto (pc := 222) 226 dX4_readsLine_222 (by decide) ?_
          refine wp_zret (pc := 226) dX4_readsLine_226 rfl rfl (by decide) ?_
          have lr : lnR b c T N mo (.inr (c21, T21, N)) _ := (show lnR b c T N mo _ _ by unfold lnR; (repeat (first | rw [if_pos (by omega)] | rw [if_neg (by omega)])); (try rw [if_neg hb21]); exact ⟨rfl, Or.inl ⟨_, _, hR21, rfl⟩⟩)
          have lc := lnR_c lr hP.mon hP.2.1
          have l2 := hP21.lt (by omega)
          exact h1 _ _ _ _ ⟨_, lr, by omega, rfl⟩ (by omega) _ _ ((Fp.refl.trans hF21).trans hF23) ((Lp.refl.trans hL21).trans hL23) hP23
        · skip
          refine wp_eqst (st' := [vI 0]) rfl ?_
          refine wp_if_eq (pc := 218) 225 dX4_readsLine_218 (by decide) (by decide) (fun _ => ?_) (fun hh => absurd hh (by decide))
          refine wp_iconst (pc := 225) dX4_readsLine_225 ?_
          refine wp_zret (pc := 226) dX4_readsLine_226 rfl rfl (by decide) ?_
          have lr : lnR b c T N mo (.inr (c21, T21, N)) _ := (show lnR b c T N mo _ _ by unfold lnR; (repeat (first | rw [if_pos (by omega)] | rw [if_neg (by omega)])); (try rw [if_neg hb21]); exact ⟨rfl, Or.inl ⟨_, _, hR21, rfl⟩⟩)
          exact h0 _ (Or.inr ⟨_, _, _, _, lr, by omega, rfl⟩) _ _ ((Fp.refl.trans hF21).trans hF24) ((Lp.refl.trans hL21).trans hL24) hE24
      · skip
        refine wp_eqst (st' := [vI 0]) rfl ?_
        refine wq_istore_n (pc := 165) 1 [some (vR 44), some (vI 0)] dX4_readsLine_165 rfl rfl (by decide) rfl ?_
        refine wp_goto (pc := 166) 208 dX4_readsLine_166 (by decide) ?_
        refine wp_iload_n (pc := 208) 1 dX4_readsLine_208 rfl rfl ?_
        refine wp_if_eq (pc := 209) 225 dX4_readsLine_209 (by decide) (by decide) (fun _ => ?_) (fun hh => absurd hh (by decide))
        refine wp_iconst (pc := 225) dX4_readsLine_225 ?_
        refine wp_zret (pc := 226) dX4_readsLine_226 rfl rfl (by decide) ?_
        refine h0 _ (Or.inl ?_) _ _ (Fp.refl.trans hF22) (Lp.refl.trans hL22) hE22
        rcases hR22 with ⟨z1, z2⟩ | ⟨z1, z2, z3, z4⟩
        · exact ⟨_, show lnR b c T N mo _ _ by unfold lnR; (repeat (first | rw [if_pos (by omega)] | rw [if_neg (by omega)])); (try rw [if_pos z1]); exact ⟨by rw [z2], rfl⟩⟩
        · exact ⟨_, show lnR b c T N mo _ _ by unfold lnR; (repeat (first | rw [if_pos (by omega)] | rw [if_neg (by omega)])); (try rw [if_neg z1]); exact ⟨rfl, Or.inr ⟨z2, z3, by rw [z4]⟩⟩⟩
    by_cases h_20 : wi b c = 12
    · refine wp_tin (pc := 24) 12 169 dX4_readsLine_24 (by omega) (by rw [h_20]; decide) (by decide) rfl (by decide) ?_
      refine wp_aload_n (pc := 169) 0 dX4_readsLine_169 rfl rfl ?_
      refine wp_iconst (pc := 170) dX4_readsLine_170 ?_
      refine wp_bipush (pc := 171) dX4_readsLine_171 (by decide) ?_
      refine wp_callV (pc := 173) (st := []) (nf' := 153) [vI 0, vI 8] [some (vR 44), some (vI 0), some (vI 8), none, none] dX4_readsLine_173 rfl c_X4_79 rfl kd_44 (by decide) rfl la_44 rfl (Nat.le_of_ble_eq_true rfl) rfl (Nat.le_of_ble_eq_true rfl) (by omega) (Nat.le_refl _) (Nat.le_refl _) ?_
      refine sp_settingLine12 hP (by omega) (by omega) (fun c25 T25 N25 hR25 J25 M25 hF25 hL25 hP25 => ?_) (fun e26 hR26 J26 M26 hF26 hL26 hE26 => ?_)
      · skip
        have hT_25 := hP25.2.2.2.1
        have hw_25 := hP25.tw
        have k4_25 := hP25.2.2.1.1
        have k5_25 := hP25.2.2.1.2.1
        have k6_25 := hP25.2.2.1.2.2.1.1
        have m4_25 := hP25.2.2.2.2.2.1
        have ki_25 := kC_in b c25
        have kw_25 := wi_in b c25
        have tr_25 := ts_rng b c25
        have l7_25 := hP25.2.2.1.2.2.2.2.1
        refine wp_eqst (st' := [vI 1]) rfl ?_
        refine wq_istore_n (pc := 176) 1 [some (vR 44), some (vI 1)] dX4_readsLine_176 rfl rfl (by decide) rfl ?_
        refine wp_goto (pc := 177) 208 dX4_readsLine_177 (by decide) ?_
        refine wp_iload_n (pc := 208) 1 dX4_readsLine_208 rfl rfl ?_
        refine wp_if_eq (pc := 209) 225 dX4_readsLine_209 (by decide) (by decide) (fun hh => absurd hh (by decide)) (fun _ => ?_)
        refine wp_aload_n (pc := 212) 0 dX4_readsLine_212 rfl rfl ?_
        refine wp_bipush (pc := 213) dX4_readsLine_213 (by decide) ?_
        refine wp_callV (pc := 215) (st := []) (nf' := 153) [vI 59] [some (vR 44), some (vI 59)] dX4_readsLine_215 rfl c_X4_83 rfl kd_44 (by decide) rfl la_44 rfl (Nat.le_of_ble_eq_true rfl) rfl (Nat.le_of_ble_eq_true rfl) (by omega) (Nat.le_refl _) (Nat.le_refl _) ?_
        refine sp_sign hP25 (by decide) (by omega) (fun h_21 J27 M27 hF27 hL27 hP27 => ?_) (fun h_21 J28 M28 hF28 hL28 hE28 => ?_)
        · skip
          have hT_27 := hP27.2.2.2.1
          have hw_27 := hP27.tw
          have k4_27 := hP27.2.2.1.1
          have k5_27 := hP27.2.2.1.2.1
          have k6_27 := hP27.2.2.1.2.2.1.1
          have m4_27 := hP27.2.2.2.2.2.1
          have ki_27 := kC_in b (te b c25)
          have kw_27 := wi_in b (te b c25)
          have tr_27 := ts_rng b (te b c25)
          have l7_27 := hP27.2.2.1.2.2.2.2.1
          refine wp_eqst (st' := [vI 1]) rfl ?_
          refine wp_if_eq (pc := 218) 225 dX4_readsLine_218 (by decide) (by decide) (fun hh => absurd hh (by decide)) (fun _ => ?_)
          refine wp_iconst (pc := 221) dX4_readsLine_221 ?_
          refine wp_goto (pc := 222) 226 dX4_readsLine_222 (by decide) ?_
          refine wp_zret (pc := 226) dX4_readsLine_226 rfl rfl (by decide) ?_
          have lr : lnR b c T N mo (.inr (c25, T25, N25)) _ := (show lnR b c T N mo _ _ by unfold lnR; (repeat (first | rw [if_pos (by omega)] | rw [if_neg (by omega)])); exact ⟨hR25.symm, rfl⟩)
          have lc := lnR_c lr hP.mon hP.2.1
          have l2 := hP25.lt (by omega)
          exact h1 _ _ _ _ ⟨_, lr, by omega, rfl⟩ (by omega) _ _ ((Fp.refl.trans hF25).trans hF27) ((Lp.refl.trans hL25).trans hL27) hP27
        · skip
          refine wp_eqst (st' := [vI 0]) rfl ?_
          refine wp_if_eq (pc := 218) 225 dX4_readsLine_218 (by decide) (by decide) (fun _ => ?_) (fun hh => absurd hh (by decide))
          refine wp_iconst (pc := 225) dX4_readsLine_225 ?_
          refine wp_zret (pc := 226) dX4_readsLine_226 rfl rfl (by decide) ?_
          have lr : lnR b c T N mo (.inr (c25, T25, N25)) _ := (show lnR b c T N mo _ _ by unfold lnR; (repeat (first | rw [if_pos (by omega)] | rw [if_neg (by omega)])); exact ⟨hR25.symm, rfl⟩)
          exact h0 _ (Or.inr ⟨_, _, _, _, lr, by omega, rfl⟩) _ _ ((Fp.refl.trans hF25).trans hF28) ((Lp.refl.trans hL25).trans hL28) hE28
      · skip
        refine wp_eqst (st' := [vI 0]) rfl ?_
        refine wq_istore_n (pc := 176) 1 [some (vR 44), some (vI 0)] dX4_readsLine_176 rfl rfl (by decide) rfl ?_
        refine wp_goto (pc := 177) 208 dX4_readsLine_177 (by decide) ?_
        refine wp_iload_n (pc := 208) 1 dX4_readsLine_208 rfl rfl ?_
        refine wp_if_eq (pc := 209) 225 dX4_readsLine_209 (by decide) (by decide) (fun _ => ?_) (fun hh => absurd hh (by decide))
        refine wp_iconst (pc := 225) dX4_readsLine_225 ?_
        refine wp_zret (pc := 226) dX4_readsLine_226 rfl rfl (by decide) ?_
        exact h0 _ (Or.inl ⟨_, (show lnR b c T N mo _ _ by unfold lnR; (repeat (first | rw [if_pos (by omega)] | rw [if_neg (by omega)])); exact ⟨hR26.symm, rfl⟩)⟩) _ _ (Fp.refl.trans hF26) (Lp.refl.trans hL26) hE26
    by_cases h_22 : wi b c = 13
    · refine wp_tin (pc := 24) 13 180 dX4_readsLine_24 (by omega) (by rw [h_22]; decide) (by decide) rfl (by decide) ?_
      refine wp_aload_n (pc := 180) 0 dX4_readsLine_180 rfl rfl ?_
      refine wp_iconst (pc := 181) dX4_readsLine_181 ?_
      refine wp_iconst (pc := 182) dX4_readsLine_182 ?_
      refine wp_callV (pc := 183) (st := []) (nf' := 153) [vI 1, vI 5] [some (vR 44), some (vI 1), some (vI 5), none, none] dX4_readsLine_183 rfl c_X4_79 rfl kd_44 (by decide) rfl la_44 rfl (Nat.le_of_ble_eq_true rfl) rfl (Nat.le_of_ble_eq_true rfl) (by omega) (Nat.le_refl _) (Nat.le_refl _) ?_
      refine sp_settingLine13 hP (by omega) (by omega) (fun c29 T29 N29 hR29 J29 M29 hF29 hL29 hP29 => ?_) (fun e30 hR30 J30 M30 hF30 hL30 hE30 => ?_)
      · skip
        have hT_29 := hP29.2.2.2.1
        have hw_29 := hP29.tw
        have k4_29 := hP29.2.2.1.1
        have k5_29 := hP29.2.2.1.2.1
        have k6_29 := hP29.2.2.1.2.2.1.1
        have m4_29 := hP29.2.2.2.2.2.1
        have ki_29 := kC_in b c29
        have kw_29 := wi_in b c29
        have tr_29 := ts_rng b c29
        have l7_29 := hP29.2.2.1.2.2.2.2.1
        refine wp_eqst (st' := [vI 1]) rfl ?_
        refine wq_istore_n (pc := 186) 1 [some (vR 44), some (vI 1)] dX4_readsLine_186 rfl rfl (by decide) rfl ?_
        refine wp_goto (pc := 187) 208 dX4_readsLine_187 (by decide) ?_
        refine wp_iload_n (pc := 208) 1 dX4_readsLine_208 rfl rfl ?_
        refine wp_if_eq (pc := 209) 225 dX4_readsLine_209 (by decide) (by decide) (fun hh => absurd hh (by decide)) (fun _ => ?_)
        refine wp_aload_n (pc := 212) 0 dX4_readsLine_212 rfl rfl ?_
        refine wp_bipush (pc := 213) dX4_readsLine_213 (by decide) ?_
        refine wp_callV (pc := 215) (st := []) (nf' := 153) [vI 59] [some (vR 44), some (vI 59)] dX4_readsLine_215 rfl c_X4_83 rfl kd_44 (by decide) rfl la_44 rfl (Nat.le_of_ble_eq_true rfl) rfl (Nat.le_of_ble_eq_true rfl) (by omega) (Nat.le_refl _) (Nat.le_refl _) ?_
        refine sp_sign hP29 (by decide) (by omega) (fun h_23 J31 M31 hF31 hL31 hP31 => ?_) (fun h_23 J32 M32 hF32 hL32 hE32 => ?_)
        · skip
          have hT_31 := hP31.2.2.2.1
          have hw_31 := hP31.tw
          have k4_31 := hP31.2.2.1.1
          have k5_31 := hP31.2.2.1.2.1
          have k6_31 := hP31.2.2.1.2.2.1.1
          have m4_31 := hP31.2.2.2.2.2.1
          have ki_31 := kC_in b (te b c29)
          have kw_31 := wi_in b (te b c29)
          have tr_31 := ts_rng b (te b c29)
          have l7_31 := hP31.2.2.1.2.2.2.2.1
          refine wp_eqst (st' := [vI 1]) rfl ?_
          refine wp_if_eq (pc := 218) 225 dX4_readsLine_218 (by decide) (by decide) (fun hh => absurd hh (by decide)) (fun _ => ?_)
          refine wp_iconst (pc := 221) dX4_readsLine_221 ?_
          refine wp_goto (pc := 222) 226 dX4_readsLine_222 (by decide) ?_
          refine wp_zret (pc := 226) dX4_readsLine_226 rfl rfl (by decide) ?_
          have lr : lnR b c T N mo (.inr (c29, T29, N29)) _ := (show lnR b c T N mo _ _ by unfold lnR; (repeat (first | rw [if_pos (by omega)] | rw [if_neg (by omega)])); exact ⟨hR29.symm, rfl⟩)
          have lc := lnR_c lr hP.mon hP.2.1
          have l2 := hP29.lt (by omega)
          exact h1 _ _ _ _ ⟨_, lr, by omega, rfl⟩ (by omega) _ _ ((Fp.refl.trans hF29).trans hF31) ((Lp.refl.trans hL29).trans hL31) hP31
        · skip
          refine wp_eqst (st' := [vI 0]) rfl ?_
          refine wp_if_eq (pc := 218) 225 dX4_readsLine_218 (by decide) (by decide) (fun _ => ?_) (fun hh => absurd hh (by decide))
          refine wp_iconst (pc := 225) dX4_readsLine_225 ?_
          refine wp_zret (pc := 226) dX4_readsLine_226 rfl rfl (by decide) ?_
          have lr : lnR b c T N mo (.inr (c29, T29, N29)) _ := (show lnR b c T N mo _ _ by unfold lnR; (repeat (first | rw [if_pos (by omega)] | rw [if_neg (by omega)])); exact ⟨hR29.symm, rfl⟩)
          exact h0 _ (Or.inr ⟨_, _, _, _, lr, by omega, rfl⟩) _ _ ((Fp.refl.trans hF29).trans hF32) ((Lp.refl.trans hL29).trans hL32) hE32
      · skip
        refine wp_eqst (st' := [vI 0]) rfl ?_
        refine wq_istore_n (pc := 186) 1 [some (vR 44), some (vI 0)] dX4_readsLine_186 rfl rfl (by decide) rfl ?_
        refine wp_goto (pc := 187) 208 dX4_readsLine_187 (by decide) ?_
        refine wp_iload_n (pc := 208) 1 dX4_readsLine_208 rfl rfl ?_
        refine wp_if_eq (pc := 209) 225 dX4_readsLine_209 (by decide) (by decide) (fun _ => ?_) (fun hh => absurd hh (by decide))
        refine wp_iconst (pc := 225) dX4_readsLine_225 ?_
        refine wp_zret (pc := 226) dX4_readsLine_226 rfl rfl (by decide) ?_
        exact h0 _ (Or.inl ⟨_, (show lnR b c T N mo _ _ by unfold lnR; (repeat (first | rw [if_pos (by omega)] | rw [if_neg (by omega)])); exact ⟨hR30.symm, rfl⟩)⟩) _ _ (Fp.refl.trans hF30) (Lp.refl.trans hL30) hE30
    by_cases h_24 : wi b c = 14
    · refine wp_tin (pc := 24) 14 190 dX4_readsLine_24 (by omega) (by rw [h_24]; decide) (by decide) rfl (by decide) ?_
      refine wp_aload_n (pc := 190) 0 dX4_readsLine_190 rfl rfl ?_
      refine wp_iconst (pc := 191) dX4_readsLine_191 ?_
      refine wp_sipush (pc := 192) dX4_readsLine_192 (by decide) ?_
      refine wp_callV (pc := 195) (st := []) (nf' := 153) [vI 0, vI 999] [some (vR 44), some (vI 0), some (vI 999), none, none] dX4_readsLine_195 rfl c_X4_79 rfl kd_44 (by decide) rfl la_44 rfl (Nat.le_of_ble_eq_true rfl) rfl (Nat.le_of_ble_eq_true rfl) (by omega) (Nat.le_refl _) (Nat.le_refl _) ?_
      refine sp_settingLine14 hP (by omega) (by omega) (fun c33 T33 N33 hR33 J33 M33 hF33 hL33 hP33 => ?_) (fun e34 hR34 J34 M34 hF34 hL34 hE34 => ?_)
      · skip
        have hT_33 := hP33.2.2.2.1
        have hw_33 := hP33.tw
        have k4_33 := hP33.2.2.1.1
        have k5_33 := hP33.2.2.1.2.1
        have k6_33 := hP33.2.2.1.2.2.1.1
        have m4_33 := hP33.2.2.2.2.2.1
        have ki_33 := kC_in b c33
        have kw_33 := wi_in b c33
        have tr_33 := ts_rng b c33
        have l7_33 := hP33.2.2.1.2.2.2.2.1
        refine wp_eqst (st' := [vI 1]) rfl ?_
        refine wq_istore_n (pc := 198) 1 [some (vR 44), some (vI 1)] dX4_readsLine_198 rfl rfl (by decide) rfl ?_
        refine wp_goto (pc := 199) 208 dX4_readsLine_199 (by decide) ?_
        refine wp_iload_n (pc := 208) 1 dX4_readsLine_208 rfl rfl ?_
        refine wp_if_eq (pc := 209) 225 dX4_readsLine_209 (by decide) (by decide) (fun hh => absurd hh (by decide)) (fun _ => ?_)
        refine wp_aload_n (pc := 212) 0 dX4_readsLine_212 rfl rfl ?_
        refine wp_bipush (pc := 213) dX4_readsLine_213 (by decide) ?_
        refine wp_callV (pc := 215) (st := []) (nf' := 153) [vI 59] [some (vR 44), some (vI 59)] dX4_readsLine_215 rfl c_X4_83 rfl kd_44 (by decide) rfl la_44 rfl (Nat.le_of_ble_eq_true rfl) rfl (Nat.le_of_ble_eq_true rfl) (by omega) (Nat.le_refl _) (Nat.le_refl _) ?_
        refine sp_sign hP33 (by decide) (by omega) (fun h_25 J35 M35 hF35 hL35 hP35 => ?_) (fun h_25 J36 M36 hF36 hL36 hE36 => ?_)
        · skip
          have hT_35 := hP35.2.2.2.1
          have hw_35 := hP35.tw
          have k4_35 := hP35.2.2.1.1
          have k5_35 := hP35.2.2.1.2.1
          have k6_35 := hP35.2.2.1.2.2.1.1
          have m4_35 := hP35.2.2.2.2.2.1
          have ki_35 := kC_in b (te b c33)
          have kw_35 := wi_in b (te b c33)
          have tr_35 := ts_rng b (te b c33)
          have l7_35 := hP35.2.2.1.2.2.2.2.1
          refine wp_eqst (st' := [vI 1]) rfl ?_
          refine wp_if_eq (pc := 218) 225 dX4_readsLine_218 (by decide) (by decide) (fun hh => absurd hh (by decide)) (fun _ => ?_)
          refine wp_iconst (pc := 221) dX4_readsLine_221 ?_
          refine wp_goto (pc := 222) 226 dX4_readsLine_222 (by decide) ?_
          refine wp_zret (pc := 226) dX4_readsLine_226 rfl rfl (by decide) ?_
          have lr : lnR b c T N mo (.inr (c33, T33, N33)) _ := (show lnR b c T N mo _ _ by unfold lnR; (repeat (first | rw [if_pos (by omega)] | rw [if_neg (by omega)])); exact ⟨hR33.symm, rfl⟩)
          have lc := lnR_c lr hP.mon hP.2.1
          have l2 := hP33.lt (by omega)
          exact h1 _ _ _ _ ⟨_, lr, by omega, rfl⟩ (by omega) _ _ ((Fp.refl.trans hF33).trans hF35) ((Lp.refl.trans hL33).trans hL35) hP35
        · skip
          refine wp_eqst (st' := [vI 0]) rfl ?_
          refine wp_if_eq (pc := 218) 225 dX4_readsLine_218 (by decide) (by decide) (fun _ => ?_) (fun hh => absurd hh (by decide))
          refine wp_iconst (pc := 225) dX4_readsLine_225 ?_
          refine wp_zret (pc := 226) dX4_readsLine_226 rfl rfl (by decide) ?_
          have lr : lnR b c T N mo (.inr (c33, T33, N33)) _ := (show lnR b c T N mo _ _ by unfold lnR; (repeat (first | rw [if_pos (by omega)] | rw [if_neg (by omega)])); exact ⟨hR33.symm, rfl⟩)
          exact h0 _ (Or.inr ⟨_, _, _, _, lr, by omega, rfl⟩) _ _ ((Fp.refl.trans hF33).trans hF36) ((Lp.refl.trans hL33).trans hL36) hE36
      · skip
        refine wp_eqst (st' := [vI 0]) rfl ?_
        refine wq_istore_n (pc := 198) 1 [some (vR 44), some (vI 0)] dX4_readsLine_198 rfl rfl (by decide) rfl ?_
        refine wp_goto (pc := 199) 208 dX4_readsLine_199 (by decide) ?_
        refine wp_iload_n (pc := 208) 1 dX4_readsLine_208 rfl rfl ?_
        refine wp_if_eq (pc := 209) 225 dX4_readsLine_209 (by decide) (by decide) (fun _ => ?_) (fun hh => absurd hh (by decide))
        refine wp_iconst (pc := 225) dX4_readsLine_225 ?_
        refine wp_zret (pc := 226) dX4_readsLine_226 rfl rfl (by decide) ?_
        exact h0 _ (Or.inl ⟨_, (show lnR b c T N mo _ _ by unfold lnR; (repeat (first | rw [if_pos (by omega)] | rw [if_neg (by omega)])); exact ⟨hR34.symm, rfl⟩)⟩) _ _ (Fp.refl.trans hF34) (Lp.refl.trans hL34) hE34
    by_cases h_6 : wi b c = 2
    · refine wp_tin (pc := 24) 2 202 dX4_readsLine_24 (by omega) (by rw [h_6]; decide) (by decide) rfl (by decide) ?_
      refine wp_aload_n (pc := 202) 0 dX4_readsLine_202 rfl rfl ?_
      refine wp_iconst (pc := 203) dX4_readsLine_203 ?_
      refine wp_callV (pc := 204) (st := []) (nf' := 153) [vI 2] [some (vR 44), some (vI 2)] dX4_readsLine_204 rfl c_X4_42 rfl kd_44 (by decide) rfl la_44 rfl (Nat.le_of_ble_eq_true rfl) rfl (Nat.le_of_ble_eq_true rfl) (by omega) (Nat.le_refl _) (Nat.le_refl _) ?_
      refine sp_refuse hP.2.2.1 (by decide) (by omega) ?_
      refine wp_eqst (st' := [vI 0]) rfl ?_
      refine wq_istore_n (pc := 207) 1 [some (vR 44), some (vI 0)] dX4_readsLine_207 rfl rfl (by decide) rfl ?_
      refine wp_iload_n (pc := 208) 1 dX4_readsLine_208 rfl rfl ?_
      refine wp_if_eq (pc := 209) 225 dX4_readsLine_209 (by decide) (by decide) (fun _ => ?_) (fun hh => absurd hh (by decide))
      refine wp_iconst (pc := 225) dX4_readsLine_225 ?_
      refine wp_zret (pc := 226) dX4_readsLine_226 rfl rfl (by decide) ?_
      exact h0 _ (Or.inl ⟨mo, show lnR b c T N mo _ _ by unfold lnR; (repeat (first | rw [if_pos (by omega)] | rw [if_neg (by omega)])); exact ⟨rfl, rfl⟩⟩) _ _ Fp.refl.up44.up44 Lp.refl (hP.ref 2)
    by_cases h_7 : wi b c = 3
    · refine wp_tin (pc := 24) 3 202 dX4_readsLine_24 (by omega) (by rw [h_7]; decide) (by decide) rfl (by decide) ?_
      refine wp_aload_n (pc := 202) 0 dX4_readsLine_202 rfl rfl ?_
      refine wp_iconst (pc := 203) dX4_readsLine_203 ?_
      refine wp_callV (pc := 204) (st := []) (nf' := 153) [vI 2] [some (vR 44), some (vI 2)] dX4_readsLine_204 rfl c_X4_42 rfl kd_44 (by decide) rfl la_44 rfl (Nat.le_of_ble_eq_true rfl) rfl (Nat.le_of_ble_eq_true rfl) (by omega) (Nat.le_refl _) (Nat.le_refl _) ?_
      refine sp_refuse hP.2.2.1 (by decide) (by omega) ?_
      refine wp_eqst (st' := [vI 0]) rfl ?_
      refine wq_istore_n (pc := 207) 1 [some (vR 44), some (vI 0)] dX4_readsLine_207 rfl rfl (by decide) rfl ?_
      refine wp_iload_n (pc := 208) 1 dX4_readsLine_208 rfl rfl ?_
      refine wp_if_eq (pc := 209) 225 dX4_readsLine_209 (by decide) (by decide) (fun _ => ?_) (fun hh => absurd hh (by decide))
      refine wp_iconst (pc := 225) dX4_readsLine_225 ?_
      refine wp_zret (pc := 226) dX4_readsLine_226 rfl rfl (by decide) ?_
      exact h0 _ (Or.inl ⟨mo, show lnR b c T N mo _ _ by unfold lnR; (repeat (first | rw [if_pos (by omega)] | rw [if_neg (by omega)])); exact ⟨rfl, rfl⟩⟩) _ _ Fp.refl.up44.up44 Lp.refl (hP.ref 2)
    by_cases h_8 : wi b c = 4
    · refine wp_tin (pc := 24) 4 202 dX4_readsLine_24 (by omega) (by rw [h_8]; decide) (by decide) rfl (by decide) ?_
      refine wp_aload_n (pc := 202) 0 dX4_readsLine_202 rfl rfl ?_
      refine wp_iconst (pc := 203) dX4_readsLine_203 ?_
      refine wp_callV (pc := 204) (st := []) (nf' := 153) [vI 2] [some (vR 44), some (vI 2)] dX4_readsLine_204 rfl c_X4_42 rfl kd_44 (by decide) rfl la_44 rfl (Nat.le_of_ble_eq_true rfl) rfl (Nat.le_of_ble_eq_true rfl) (by omega) (Nat.le_refl _) (Nat.le_refl _) ?_
      refine sp_refuse hP.2.2.1 (by decide) (by omega) ?_
      refine wp_eqst (st' := [vI 0]) rfl ?_
      refine wq_istore_n (pc := 207) 1 [some (vR 44), some (vI 0)] dX4_readsLine_207 rfl rfl (by decide) rfl ?_
      refine wp_iload_n (pc := 208) 1 dX4_readsLine_208 rfl rfl ?_
      refine wp_if_eq (pc := 209) 225 dX4_readsLine_209 (by decide) (by decide) (fun _ => ?_) (fun hh => absurd hh (by decide))
      refine wp_iconst (pc := 225) dX4_readsLine_225 ?_
      refine wp_zret (pc := 226) dX4_readsLine_226 rfl rfl (by decide) ?_
      exact h0 _ (Or.inl ⟨mo, show lnR b c T N mo _ _ by unfold lnR; (repeat (first | rw [if_pos (by omega)] | rw [if_neg (by omega)])); exact ⟨rfl, rfl⟩⟩) _ _ Fp.refl.up44.up44 Lp.refl (hP.ref 2)
    by_cases h_9 : wi b c = 5
    · refine wp_tin (pc := 24) 5 202 dX4_readsLine_24 (by omega) (by rw [h_9]; decide) (by decide) rfl (by decide) ?_
      refine wp_aload_n (pc := 202) 0 dX4_readsLine_202 rfl rfl ?_
      refine wp_iconst (pc := 203) dX4_readsLine_203 ?_
      refine wp_callV (pc := 204) (st := []) (nf' := 153) [vI 2] [some (vR 44), some (vI 2)] dX4_readsLine_204 rfl c_X4_42 rfl kd_44 (by decide) rfl la_44 rfl (Nat.le_of_ble_eq_true rfl) rfl (Nat.le_of_ble_eq_true rfl) (by omega) (Nat.le_refl _) (Nat.le_refl _) ?_
      refine sp_refuse hP.2.2.1 (by decide) (by omega) ?_
      refine wp_eqst (st' := [vI 0]) rfl ?_
      refine wq_istore_n (pc := 207) 1 [some (vR 44), some (vI 0)] dX4_readsLine_207 rfl rfl (by decide) rfl ?_
      refine wp_iload_n (pc := 208) 1 dX4_readsLine_208 rfl rfl ?_
      refine wp_if_eq (pc := 209) 225 dX4_readsLine_209 (by decide) (by decide) (fun _ => ?_) (fun hh => absurd hh (by decide))
      refine wp_iconst (pc := 225) dX4_readsLine_225 ?_
      refine wp_zret (pc := 226) dX4_readsLine_226 rfl rfl (by decide) ?_
      exact h0 _ (Or.inl ⟨mo, show lnR b c T N mo _ _ by unfold lnR; (repeat (first | rw [if_pos (by omega)] | rw [if_neg (by omega)])); exact ⟨rfl, rfl⟩⟩) _ _ Fp.refl.up44.up44 Lp.refl (hP.ref 2)
    by_cases h_10 : wi b c = 6
    · refine wp_tin (pc := 24) 6 202 dX4_readsLine_24 (by omega) (by rw [h_10]; decide) (by decide) rfl (by decide) ?_
      refine wp_aload_n (pc := 202) 0 dX4_readsLine_202 rfl rfl ?_
      refine wp_iconst (pc := 203) dX4_readsLine_203 ?_
      refine wp_callV (pc := 204) (st := []) (nf' := 153) [vI 2] [some (vR 44), some (vI 2)] dX4_readsLine_204 rfl c_X4_42 rfl kd_44 (by decide) rfl la_44 rfl (Nat.le_of_ble_eq_true rfl) rfl (Nat.le_of_ble_eq_true rfl) (by omega) (Nat.le_refl _) (Nat.le_refl _) ?_
      refine sp_refuse hP.2.2.1 (by decide) (by omega) ?_
      refine wp_eqst (st' := [vI 0]) rfl ?_
      refine wq_istore_n (pc := 207) 1 [some (vR 44), some (vI 0)] dX4_readsLine_207 rfl rfl (by decide) rfl ?_
      refine wp_iload_n (pc := 208) 1 dX4_readsLine_208 rfl rfl ?_
      refine wp_if_eq (pc := 209) 225 dX4_readsLine_209 (by decide) (by decide) (fun _ => ?_) (fun hh => absurd hh (by decide))
      refine wp_iconst (pc := 225) dX4_readsLine_225 ?_
      refine wp_zret (pc := 226) dX4_readsLine_226 rfl rfl (by decide) ?_
      exact h0 _ (Or.inl ⟨mo, show lnR b c T N mo _ _ by unfold lnR; (repeat (first | rw [if_pos (by omega)] | rw [if_neg (by omega)])); exact ⟨rfl, rfl⟩⟩) _ _ Fp.refl.up44.up44 Lp.refl (hP.ref 2)
    by_cases h_17 : wi b c = 10
    · refine wp_tin (pc := 24) 10 202 dX4_readsLine_24 (by omega) (by rw [h_17]; decide) (by decide) rfl (by decide) ?_
      refine wp_aload_n (pc := 202) 0 dX4_readsLine_202 rfl rfl ?_
      refine wp_iconst (pc := 203) dX4_readsLine_203 ?_
      refine wp_callV (pc := 204) (st := []) (nf' := 153) [vI 2] [some (vR 44), some (vI 2)] dX4_readsLine_204 rfl c_X4_42 rfl kd_44 (by decide) rfl la_44 rfl (Nat.le_of_ble_eq_true rfl) rfl (Nat.le_of_ble_eq_true rfl) (by omega) (Nat.le_refl _) (Nat.le_refl _) ?_
      refine sp_refuse hP.2.2.1 (by decide) (by omega) ?_
      refine wp_eqst (st' := [vI 0]) rfl ?_
      refine wq_istore_n (pc := 207) 1 [some (vR 44), some (vI 0)] dX4_readsLine_207 rfl rfl (by decide) rfl ?_
      refine wp_iload_n (pc := 208) 1 dX4_readsLine_208 rfl rfl ?_
      refine wp_if_eq (pc := 209) 225 dX4_readsLine_209 (by decide) (by decide) (fun _ => ?_) (fun hh => absurd hh (by decide))
      refine wp_iconst (pc := 225) dX4_readsLine_225 ?_
      refine wp_zret (pc := 226) dX4_readsLine_226 rfl rfl (by decide) ?_
      exact h0 _ (Or.inl ⟨mo, show lnR b c T N mo _ _ by unfold lnR; (repeat (first | rw [if_pos (by omega)] | rw [if_neg (by omega)])); exact ⟨rfl, rfl⟩⟩) _ _ Fp.refl.up44.up44 Lp.refl (hP.ref 2)
    refine wp_tout (pc := 24) 202 dX4_readsLine_24 (by omega) (by omega) (by decide) ?_
    refine wp_aload_n (pc := 202) 0 dX4_readsLine_202 rfl rfl ?_
    refine wp_iconst (pc := 203) dX4_readsLine_203 ?_
    refine wp_callV (pc := 204) (st := []) (nf' := 153) [vI 2] [some (vR 44), some (vI 2)] dX4_readsLine_204 rfl c_X4_42 rfl kd_44 (by decide) rfl la_44 rfl (Nat.le_of_ble_eq_true rfl) rfl (Nat.le_of_ble_eq_true rfl) (by omega) (Nat.le_refl _) (Nat.le_refl _) ?_
    refine sp_refuse hP.2.2.1 (by decide) (by omega) ?_
    refine wp_eqst (st' := [vI 0]) rfl ?_
    refine wq_istore_n (pc := 207) 1 [some (vR 44), some (vI 0)] dX4_readsLine_207 rfl rfl (by decide) rfl ?_
    refine wp_iload_n (pc := 208) 1 dX4_readsLine_208 rfl rfl ?_
    refine wp_if_eq (pc := 209) 225 dX4_readsLine_209 (by decide) (by decide) (fun _ => ?_) (fun hh => absurd hh (by decide))
    refine wp_iconst (pc := 225) dX4_readsLine_225 ?_
    refine wp_zret (pc := 226) dX4_readsLine_226 rfl rfl (by decide) ?_
    exact h0 _ (Or.inl ⟨mo, show lnR b c T N mo _ _ by unfold lnR; (repeat (first | rw [if_pos (by omega)] | rw [if_neg (by omega)])); exact ⟨rfl, rfl⟩⟩) _ _ Fp.refl.up44.up44 Lp.refl (hP.ref 2)
  · refine wp_aload_n (pc := 11) 0 dX4_readsLine_11 rfl rfl ?_
    refine wp_iconst (pc := 12) dX4_readsLine_12 ?_
    refine wp_callV (pc := 13) (st := []) (nf' := 153) [vI 2] [some (vR 44), some (vI 2)] dX4_readsLine_13 rfl c_X4_42 rfl kd_44 (by decide) rfl la_44 rfl (Nat.le_of_ble_eq_true rfl) rfl (Nat.le_of_ble_eq_true rfl) (by omega) (Nat.le_refl _) (Nat.le_refl _) ?_
    refine sp_refuse hP.2.2.1 (by decide) (by omega) ?_
    refine wp_eqst (st' := [vI 0]) rfl ?_
    refine wp_zret (pc := 16) dX4_readsLine_16 rfl rfl (by decide) ?_
    exact h0 _ (Or.inl ⟨mo, show lnR b c T N mo _ _ by unfold lnR; (repeat (first | rw [if_pos (by omega)] | rw [if_neg (by omega)])); exact ⟨rfl, rfl⟩⟩) _ _ Fp.refl.up44.up44 Lp.refl (hP.ref 2)
