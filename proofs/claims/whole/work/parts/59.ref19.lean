/-! the reference's tape: the class's bytes, taken without their sign -/
def byteR (a k : Int) : Int := (w32 a / 2 ^ k.toNat) % 256
def fourT (g : Nat → Int) (n : Int) (a : Int) : Nat → Int := fun j => if j = n.toNat then byteR a 24 else if j = n.toNat + 1 then byteR a 16 else if j = n.toNat + 2 then byteR a 8 else if j = n.toNat + 3 then byteR a 0 else g j
def feedR (g : Nat → Int) (n a b c e f : Int) : Nat → Int := fourT (fourT (fourT (fourT (fourT g n a) (n + 4) b) (n + 4 + 4) c) (n + 4 + 4 + 4) e) (n + 4 + 4 + 4 + 4) f
def Fu (I J : mI) : Prop := (∀ b, b ≠ 111 → b ≠ 112 → J b = I b) ∧ ∀ j, j ≠ 1 → J 111 j = I 111 j
theorem Fu.trans {I J K : mI} (h : Fu I J) (h2 : Fu J K) : Fu I K := ⟨fun b g1 g2 => (h2.1 b g1 g2).trans (h.1 b g1 g2), fun j g => (h2.2 j g).trans (h.2 j g)⟩
theorem byte_eq (a k : Int) : byteR a k = byteOf a k % 256 := by
  unfold byteR byteOf
  generalize w32 a / 2 ^ k.toNat = x
  unfold Int.bmod
  simp only []
  split <;> omega
theorem four_eq {g h : Nat → Int} (e : ∀ j, g j = h j % 256) (n a : Int) : ∀ j, fourT g n a j = putT h n a j % 256 := by
  intro j
  unfold fourT putT
  repeat' split
  all_goals first | exact byte_eq _ _ | exact e j
theorem feed_eq {g h : Nat → Int} (e : ∀ j, g j = h j % 256) (n a b c d f : Int) : ∀ j, feedR g n a b c d f j = feedT h n a b c d f j % 256 := four_eq (four_eq (four_eq (four_eq (four_eq e _ _) _ _) _ _) _ _) _ _

theorem rs_four {l : Launch} {G : mG} {d : Nat} {I : mI} {L : Nat → Nat → Int} {D : Nat → Nat} {Q : mQ} {a : Int}  (h0 : 0 ≤ I 111 1) (h4 : I 111 1 + 4 ≤ 1600) (hd : 0 ≤ d) (hQ : ∀ J, Fu I J → J 111 1 = I 111 1 + 4 → J 112 = fourT (I 112) (I 111 1) a → Q none J (XX L D)) : WP l G m_X11_four d 153 I (XX L D) 0 [some (vR 111), some (vI a), none] [] Q := by
  refine wp_bipush (pc := 0) dX11_four_0 (by decide) ?_
  refine wq_istore_n (pc := 2) 2 [some (vR 111), some (vI a), some (vI 24)] dX11_four_2 rfl rfl (by decide) rfl ?_
  refine wp_iload_n (pc := 3) 2 dX11_four_3 rfl rfl ?_
  refine wp_if_lt (pc := 4) 39 dX11_four_4 (by decide) (by decide) (fun hh => absurd hh (by decide)) (fun _ => ?_)
  refine wp_aload_n (pc := 7) 0 dX11_four_7 rfl rfl ?_
  refine wp_getr (pc := 8) dX11_four_8 rfl f_X11_7 kd_111 la_111 rfl (r_111_0 D) ?_
  refine wp_aload_n (pc := 11) 0 dX11_four_11 rfl rfl ?_
  refine wp_geti (pc := 12) dX11_four_12 rfl f_X11_145 kd_111 la_111 (Or.inl rfl) ?_
  refine wp_iload_n (pc := 15) 1 dX11_four_15 rfl rfl ?_
  refine wp_iload_n (pc := 16) 2 dX11_four_16 rfl rfl ?_
  refine wp_ishr (pc := 17) dX11_four_17 (by omega) (by omega) ?_
  refine wp_sipush (pc := 18) dX11_four_18 (by decide) ?_
  refine wp_imask (pc := 21) 8 dX11_four_21 rfl (by decide) ?_
  refine wq_iast (pc := 22) (Int.toNat (I 111 1)) dX11_four_22 kd_112 la_112 (by omega) (by omega) ?_
  refine wp_aload_n (pc := 23) 0 dX11_four_23 rfl rfl ?_
  refine wp_dup (pc := 24) dX11_four_24 rfl ?_
  refine wp_geti (pc := 25) dX11_four_25 rfl f_X11_145 kd_111 la_111 (Or.inl rfl) ?_
  refine wp_eqst (st' := [vI (I 111 1), vR 111]) (by rw [up_c (by omega)]) ?_
  refine wp_iconst (pc := 28) dX11_four_28 ?_
  refine wp_iadd (pc := 29) dX11_four_29 ?_
  refine wp_puti (pc := 30) dX11_four_30 rfl f_X11_145 kd_111 la_111 (fun _ h => by cases h; rfl) rfl ?_
  refine wq_iinc (pc := 33) [some (vR 111), some (vI a), some (vI 16)] dX11_four_33 rfl rfl (by decide) rfl ?_
  refine wp_goto (pc := 36) 3 dX11_four_36 (by decide) ?_
  refine wp_iload_n (pc := 3) 2 dX11_four_3 rfl rfl ?_
  refine wp_if_lt (pc := 4) 39 dX11_four_4 (by decide) (by decide) (fun hh => absurd hh (by decide)) (fun _ => ?_)
  refine wp_aload_n (pc := 7) 0 dX11_four_7 rfl rfl ?_
  refine wp_getr (pc := 8) dX11_four_8 rfl f_X11_7 kd_111 la_111 rfl (r_111_0 D) ?_
  refine wp_aload_n (pc := 11) 0 dX11_four_11 rfl rfl ?_
  refine wp_geti (pc := 12) dX11_four_12 rfl f_X11_145 kd_111 la_111 (Or.inl rfl) ?_
  refine wp_eqst (st' := [vI ((I 111 1) + 1), vR 112]) (by rw [up_s]) ?_
  refine wp_iload_n (pc := 15) 1 dX11_four_15 rfl rfl ?_
  refine wp_iload_n (pc := 16) 2 dX11_four_16 rfl rfl ?_
  refine wp_ishr (pc := 17) dX11_four_17 (by omega) (by omega) ?_
  refine wp_sipush (pc := 18) dX11_four_18 (by decide) ?_
  refine wp_imask (pc := 21) 8 dX11_four_21 rfl (by decide) ?_
  refine wq_iast (pc := 22) (Int.toNat ((I 111 1) + 1)) dX11_four_22 kd_112 la_112 (by omega) (by omega) ?_
  refine wp_aload_n (pc := 23) 0 dX11_four_23 rfl rfl ?_
  refine wp_dup (pc := 24) dX11_four_24 rfl ?_
  refine wp_geti (pc := 25) dX11_four_25 rfl f_X11_145 kd_111 la_111 (Or.inl rfl) ?_
  refine wp_eqst (st' := [vI ((I 111 1) + 1), vR 111]) (by rw [up_c (by omega), up_s]) ?_
  refine wp_iconst (pc := 28) dX11_four_28 ?_
  refine wp_iadd (pc := 29) dX11_four_29 ?_
  refine wp_puti (pc := 30) dX11_four_30 rfl f_X11_145 kd_111 la_111 (fun _ h => by cases h; rfl) rfl ?_
  refine wq_iinc (pc := 33) [some (vR 111), some (vI a), some (vI 8)] dX11_four_33 rfl rfl (by decide) rfl ?_
  refine wp_goto (pc := 36) 3 dX11_four_36 (by decide) ?_
  refine wp_iload_n (pc := 3) 2 dX11_four_3 rfl rfl ?_
  refine wp_if_lt (pc := 4) 39 dX11_four_4 (by decide) (by decide) (fun hh => absurd hh (by decide)) (fun _ => ?_)
  refine wp_aload_n (pc := 7) 0 dX11_four_7 rfl rfl ?_
  refine wp_getr (pc := 8) dX11_four_8 rfl f_X11_7 kd_111 la_111 rfl (r_111_0 D) ?_
  refine wp_aload_n (pc := 11) 0 dX11_four_11 rfl rfl ?_
  refine wp_geti (pc := 12) dX11_four_12 rfl f_X11_145 kd_111 la_111 (Or.inl rfl) ?_
  refine wp_eqst (st' := [vI (((I 111 1) + 1) + 1), vR 112]) (by rw [up_s]) ?_
  refine wp_iload_n (pc := 15) 1 dX11_four_15 rfl rfl ?_
  refine wp_iload_n (pc := 16) 2 dX11_four_16 rfl rfl ?_
  refine wp_ishr (pc := 17) dX11_four_17 (by omega) (by omega) ?_
  refine wp_sipush (pc := 18) dX11_four_18 (by decide) ?_
  refine wp_imask (pc := 21) 8 dX11_four_21 rfl (by decide) ?_
  refine wq_iast (pc := 22) (Int.toNat (((I 111 1) + 1) + 1)) dX11_four_22 kd_112 la_112 (by omega) (by omega) ?_
  refine wp_aload_n (pc := 23) 0 dX11_four_23 rfl rfl ?_
  refine wp_dup (pc := 24) dX11_four_24 rfl ?_
  refine wp_geti (pc := 25) dX11_four_25 rfl f_X11_145 kd_111 la_111 (Or.inl rfl) ?_
  refine wp_eqst (st' := [vI (((I 111 1) + 1) + 1), vR 111]) (by rw [up_c (by omega), up_s]) ?_
  refine wp_iconst (pc := 28) dX11_four_28 ?_
  refine wp_iadd (pc := 29) dX11_four_29 ?_
  refine wp_puti (pc := 30) dX11_four_30 rfl f_X11_145 kd_111 la_111 (fun _ h => by cases h; rfl) rfl ?_
  refine wq_iinc (pc := 33) [some (vR 111), some (vI a), some (vI 0)] dX11_four_33 rfl rfl (by decide) rfl ?_
  refine wp_goto (pc := 36) 3 dX11_four_36 (by decide) ?_
  refine wp_iload_n (pc := 3) 2 dX11_four_3 rfl rfl ?_
  refine wp_if_lt (pc := 4) 39 dX11_four_4 (by decide) (by decide) (fun hh => absurd hh (by decide)) (fun _ => ?_)
  refine wp_aload_n (pc := 7) 0 dX11_four_7 rfl rfl ?_
  refine wp_getr (pc := 8) dX11_four_8 rfl f_X11_7 kd_111 la_111 rfl (r_111_0 D) ?_
  refine wp_aload_n (pc := 11) 0 dX11_four_11 rfl rfl ?_
  refine wp_geti (pc := 12) dX11_four_12 rfl f_X11_145 kd_111 la_111 (Or.inl rfl) ?_
  refine wp_eqst (st' := [vI ((((I 111 1) + 1) + 1) + 1), vR 112]) (by rw [up_s]) ?_
  refine wp_iload_n (pc := 15) 1 dX11_four_15 rfl rfl ?_
  refine wp_iload_n (pc := 16) 2 dX11_four_16 rfl rfl ?_
  refine wp_ishr (pc := 17) dX11_four_17 (by omega) (by omega) ?_
  refine wp_sipush (pc := 18) dX11_four_18 (by decide) ?_
  refine wp_imask (pc := 21) 8 dX11_four_21 rfl (by decide) ?_
  refine wq_iast (pc := 22) (Int.toNat ((((I 111 1) + 1) + 1) + 1)) dX11_four_22 kd_112 la_112 (by omega) (by omega) ?_
  refine wp_aload_n (pc := 23) 0 dX11_four_23 rfl rfl ?_
  refine wp_dup (pc := 24) dX11_four_24 rfl ?_
  refine wp_geti (pc := 25) dX11_four_25 rfl f_X11_145 kd_111 la_111 (Or.inl rfl) ?_
  refine wp_eqst (st' := [vI ((((I 111 1) + 1) + 1) + 1), vR 111]) (by rw [up_c (by omega), up_s]) ?_
  refine wp_iconst (pc := 28) dX11_four_28 ?_
  refine wp_iadd (pc := 29) dX11_four_29 ?_
  refine wp_puti (pc := 30) dX11_four_30 rfl f_X11_145 kd_111 la_111 (fun _ h => by cases h; rfl) rfl ?_
  refine wq_iinc (pc := 33) [some (vR 111), some (vI a), some (vI (-8))] dX11_four_33 rfl rfl (by decide) rfl ?_
  refine wp_goto (pc := 36) 3 dX11_four_36 (by decide) ?_
  refine wp_iload_n (pc := 3) 2 dX11_four_3 rfl rfl ?_
  refine wp_if_lt (pc := 4) 39 dX11_four_4 (by decide) (by decide) (fun _ => ?_) (fun hh => absurd hh (by decide))
  refine wp_vret (pc := 39) dX11_four_39 rfl rfl ?_
  refine hQ _ ⟨fun b g1 g2 => funext fun j => by rw [up_c g1, up_c g2, up_c g1, up_c g2, up_c g1, up_c g2, up_c g1, up_c g2], fun j hj => by rw [up_j hj, up_c (by decide), up_j hj, up_c (by decide), up_j hj, up_c (by decide), up_j hj, up_c (by decide)]⟩ ?_ ?_
  · rw [up_s]; omega
  · funext j; unfold fourT; simp only [up, byteR, true_and, false_and, if_false, show (112 = 111) = False from by decide]; repeat' split
    all_goals first | rfl | omega

theorem rs_feed {l : Launch} {G : mG} {d : Nat} {I : mI} {L : Nat → Nat → Int} {D : Nat → Nat} {Q : mQ} {a b c e f : Int}  (h0 : 0 ≤ I 111 1 ∧ I 111 1 ≤ 1600) (hd : 1 ≤ d) (g1 : I 111 1 + 20 ≤ 1600 → ∀ J, Fu I J → J 111 1 = I 111 1 + 20 → J 112 = feedR (I 112) (I 111 1) a b c e f → Q (some (vI (I 111 1 + 20))) J (XX L D)) (g0 : ¬ (I 111 1 + 20 ≤ 1600) → Q (some (vI (-1))) I (XX L D)) : WP l G m_X11_feed d 153 I (XX L D) 0 [some (vR 111), some (vI a), some (vI b), some (vI c), some (vI e), some (vI f)] [] Q := by
  refine wp_aload_n (pc := 0) 0 dX11_feed_0 rfl rfl ?_
  refine wp_geti (pc := 1) dX11_feed_1 rfl f_X11_145 kd_111 la_111 (Or.inl rfl) ?_
  refine wp_bipush (pc := 4) dX11_feed_4 (by decide) ?_
  refine wp_iadd (pc := 6) dX11_feed_6 ?_
  refine wp_sipush (pc := 7) dX11_feed_7 (by decide) ?_
  refine wp_icmp_le (pc := 10) 15 dX11_feed_10 (by decide) (by omega) (by decide) (fun h_1 => ?_) (fun h_1 => ?_)
  · refine wp_aload_n (pc := 15) 0 dX11_feed_15 rfl rfl ?_
    refine wp_iload_n (pc := 16) 1 dX11_feed_16 rfl rfl ?_
    refine wp_callV (pc := 17) (st := []) (nf' := 153) [vI a] [some (vR 111), some (vI a), none] dX11_feed_17 rfl c_X11_148 rfl kd_111 (by decide) rfl la_111 rfl (Nat.le_of_ble_eq_true rfl) rfl (Nat.le_of_ble_eq_true rfl) (by omega) (Nat.le_refl _) (Nat.le_refl _) ?_
    refine rs_four (a := a) (by omega) (by omega) (by omega) (fun J1 hf1 hl1 hb1 => ?_)
    refine wp_eqst (st' := []) rfl ?_
    refine wp_aload_n (pc := 20) 0 dX11_feed_20 rfl rfl ?_
    refine wp_iload_n (pc := 21) 2 dX11_feed_21 rfl rfl ?_
    refine wp_callV (pc := 22) (st := []) (nf' := 153) [vI b] [some (vR 111), some (vI b), none] dX11_feed_22 rfl c_X11_148 rfl kd_111 (by decide) rfl la_111 rfl (Nat.le_of_ble_eq_true rfl) rfl (Nat.le_of_ble_eq_true rfl) (by omega) (Nat.le_refl _) (Nat.le_refl _) ?_
    refine rs_four (a := b) (by omega) (by omega) (by omega) (fun J2 hf2 hl2 hb2 => ?_)
    refine wp_eqst (st' := []) rfl ?_
    refine wp_aload_n (pc := 25) 0 dX11_feed_25 rfl rfl ?_
    refine wp_iload_n (pc := 26) 3 dX11_feed_26 rfl rfl ?_
    refine wp_callV (pc := 27) (st := []) (nf' := 153) [vI c] [some (vR 111), some (vI c), none] dX11_feed_27 rfl c_X11_148 rfl kd_111 (by decide) rfl la_111 rfl (Nat.le_of_ble_eq_true rfl) rfl (Nat.le_of_ble_eq_true rfl) (by omega) (Nat.le_refl _) (Nat.le_refl _) ?_
    refine rs_four (a := c) (by omega) (by omega) (by omega) (fun J3 hf3 hl3 hb3 => ?_)
    refine wp_eqst (st' := []) rfl ?_
    refine wp_aload_n (pc := 30) 0 dX11_feed_30 rfl rfl ?_
    refine wp_iload (pc := 31) dX11_feed_31 rfl ?_
    refine wp_callV (pc := 33) (st := []) (nf' := 153) [vI e] [some (vR 111), some (vI e), none] dX11_feed_33 rfl c_X11_148 rfl kd_111 (by decide) rfl la_111 rfl (Nat.le_of_ble_eq_true rfl) rfl (Nat.le_of_ble_eq_true rfl) (by omega) (Nat.le_refl _) (Nat.le_refl _) ?_
    refine rs_four (a := e) (by omega) (by omega) (by omega) (fun J4 hf4 hl4 hb4 => ?_)
    refine wp_eqst (st' := []) rfl ?_
    refine wp_aload_n (pc := 36) 0 dX11_feed_36 rfl rfl ?_
    refine wp_iload (pc := 37) dX11_feed_37 rfl ?_
    refine wp_callV (pc := 39) (st := []) (nf' := 153) [vI f] [some (vR 111), some (vI f), none] dX11_feed_39 rfl c_X11_148 rfl kd_111 (by decide) rfl la_111 rfl (Nat.le_of_ble_eq_true rfl) rfl (Nat.le_of_ble_eq_true rfl) (by omega) (Nat.le_refl _) (Nat.le_refl _) ?_
    refine rs_four (a := f) (by omega) (by omega) (by omega) (fun J5 hf5 hl5 hb5 => ?_)
    refine wp_eqst (st' := []) rfl ?_
    refine wp_aload_n (pc := 42) 0 dX11_feed_42 rfl rfl ?_
    refine wp_geti (pc := 43) dX11_feed_43 rfl f_X11_145 kd_111 la_111 (Or.inl rfl) ?_
    refine wp_iret (pc := 46) dX11_feed_46 rfl rfl ?_
    have e1 : J5 111 1 = I 111 1 + 20 := by omega
    rw [e1]
    refine g1 (by omega) J5 ((((hf1.trans hf2).trans hf3).trans hf4).trans hf5) e1 ?_
    rw [hb5, hb4, hb3, hb2, hb1, hl4, hl3, hl2, hl1]; rfl
  · refine wp_iconst (pc := 13) dX11_feed_13 ?_
    refine wp_iret (pc := 14) dX11_feed_14 rfl rfl ?_
    exact g0 (by omega)
