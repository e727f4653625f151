abbrev openQ (T : mT) (S : mS) (a : Int) : Prop := (0 ≤ a ∧ a < T 0 13) ∧ S (8 + a.toNat) = 0
def hushA (T : mT) (S : mS) (a w : Int) : Int := if openQ T S a ∧ 0 ≤ w ∧ w ≤ 1 then (if w = 0 then ((pc8 (hearers T S a.toNat) : Nat) : Int) else ((hearers T S a.toNat : Nat) : Int)) else -1
def cntF (f : Nat → Bool) : Nat → Nat
  | 0 => 0
  | n + 1 => cntF f n + if f n then 1 else 0
theorem cntF_y {f : Nat → Bool} {n : Nat} (h : f n = true) : cntF f (n + 1) = cntF f n + 1 := by rw [cntF, if_pos h]
theorem cntF_n {f : Nat → Bool} {n : Nat} (h : f n = false) : cntF f (n + 1) = cntF f n := by rw [cntF, h]; rfl
theorem cntF_le (f : Nat → Bool) : ∀ n, cntF f n ≤ n
  | 0 => Nat.le_refl 0
  | n + 1 => by
    have h := cntF_le f n
    rw [cntF]
    split <;> omega
def owF (T : mT) (S : mS) (a : Int) (q : Nat) : Bool := decide (S (8 + q) = 0 ∧ kinW T (T 6 q).toNat (T 7 q).toNat a)
def owN (T : mT) (S : mS) (a : Int) : Nat := cntF (owF T S a) (nQ T)
def lawA (T : mT) (S : mS) (a : Int) : Int := if 0 ≤ a ∧ a ≤ 8 then (owN T S a : Int) - (owN T S (T 0 15) : Int) else -100
def fb (T : mT) (S : mS) (a b : Nat) : Bool := decide (a < b) && decide (barF T S a b (-1) = 0)
def freeN (T : mT) (S : mS) : Nat → Nat
  | 0 => 0
  | n + 1 => freeN T S n + cntF (fb T S n) (nP T)
def freeA (T : mT) (S : mS) : Nat := freeN T S (nP T)
theorem fb_0 (T : mT) (S : mS) (a : Nat) : ∀ k, k ≤ a + 1 → cntF (fb T S a) k = 0
  | 0, _ => rfl
  | k + 1, h => by
    rw [cntF_n (by unfold fb; rw [decide_eq_false (by omega)]; rfl)]
    exact fb_0 T S a k (by omega)
theorem freeN_le (T : mT) (S : mS) : ∀ n, freeN T S n ≤ n * nP T
  | 0 => Nat.zero_le _
  | n + 1 => by
    have h := freeN_le T S n
    have h2 := cntF_le (fb T S n) (nP T)
    rw [freeN, Nat.add_mul, Nat.one_mul]
    omega
def mostF (T : mT) (l n : Nat) : Int := if ((pc8 (l &&& knwF T n) : Nat) : Int) < ((pc8 l : Nat) : Int) - ((pc8 (l &&& knwF T n) : Nat) : Int) then ((pc8 l : Nat) : Int) - ((pc8 (l &&& knwF T n) : Nat) : Int) else ((pc8 (l &&& knwF T n) : Nat) : Int)
def askN (T : mT) (l : Nat) : Nat → Int × Int
  | 0 => (-1, 9)
  | n + 1 => if mostF T l n < (askN T l n).2 then ((n : Int), mostF T l n) else askN T l n
theorem mostF_in (T : mT) (l n : Nat) : -8 ≤ mostF T l n ∧ mostF T l n ≤ 8 := by
  have h1 : pc8 l ≤ 8 := cnt_le _ 8
  have h2 : pc8 (l &&& knwF T n) ≤ 8 := cnt_le _ 8
  unfold mostF
  split <;> omega
theorem askN_in (T : mT) (l : Nat) : ∀ n, (-1 ≤ (askN T l n).1 ∧ (askN T l n).1 ≤ n) ∧ (-8 ≤ (askN T l n).2 ∧ (askN T l n).2 ≤ 9)
  | 0 => (by decide : (-1 ≤ (-1 : Int) ∧ (-1 : Int) ≤ (0 : Nat)) ∧ (-8 ≤ (9 : Int) ∧ (9 : Int) ≤ 9))
  | n + 1 => by
    have ih := askN_in T l n
    have h := mostF_in T l n
    rw [askN]
    split
    · exact ⟨⟨by omega, by simp only [] ; omega⟩, by omega, by omega⟩
    · exact ⟨⟨ih.1.1, by omega⟩, ih.2⟩
def askA (T : mT) (l : Nat) (w : Int) : Int := if ¬ l = 0 ∧ 0 ≤ w ∧ w ≤ 1 then (if w = 0 then (askN T l (nP T)).1 else (askN T l (nP T)).2) else -1
def aboutA (T : mT) (S : mS) (Z : mT) (h1 h2 tl w : Int) : Int := if w = 0 then T 0 12 else if w = 1 then T 0 11 else if w = 2 then T 0 13 else if w = 3 then S 28 else if w = 4 then S 29 else if w = 5 then ((thatAre S 1 : Nat) : Int) else if w = 6 then ((thatAre S 2 : Nat) : Int) else if w = 7 then h1 else if w = 8 then h2 - h1 else if w = 9 then Z 0 6 else if w = 10 then Z 0 7 else if w = 11 then tl else if w = 12 then T 17 3 else -1

theorem sp_hush {l : Launch} {G : mG} {d : Nat} {I : mI} {L : Nat → Nat → Int} {D : Nat → Nat} {Q : mQ} {T : mT} {S : mS} {Z : mT} {a w : Int}  (hC : CI I D T S Z) (h_a : inR a) (h_w : inR w) (hd : 5 ≤ d) (hQ : ∀ J, Sc I J (D 3) → Q (some (vI (hushA T S a w))) J (XX L D)) : WP l G m_X10_hush d 153 I (XX L D) 0 [some (vR 0), some (vI a), some (vI w), none] [] Q := by
  obtain ⟨hD0, h30, hT0, hS, hZ, hw, hv, hz, hrd, hcd⟩ := hC
  have h3 : isT (D 3) := by rw [h30]; exact hD0
  have hT : TT I (D 3) = T := by rw [h30]; exact hT0
  have b_p := tw_p hw
  have b_c := tw_c hw
  have b_q := tw_q hw
  have b_s := sw_sun hv
  have b_h := hearers_lt hw S a.toNat
  have b_i : 0 ≤ a → a < T 0 13 → 0 ≤ S (8 + a.toNat) ∧ S (8 + a.toNat) ≤ 2 := fun x y => sw_stat hv (by omega)
  refine wp_aload_n (pc := 0) 0 dX10_hush_0 rfl rfl ?_
  refine wp_iload_n (pc := 1) 1 dX10_hush_1 rfl rfl ?_
  refine wp_callV (pc := 2) (st := []) (nf' := 153) [vI a] [some (vR 0), some (vI a)] dX10_hush_2 rfl c_X10_222 rfl kd_0 (by decide) rfl la_0 rfl (Nat.le_of_ble_eq_true rfl) rfl (Nat.le_of_ble_eq_true rfl) (by omega) (Nat.le_refl _) (Nat.le_refl _) ?_
  refine wp_aload_n (pc := 0) 0 dX10_isOpen_0 rfl rfl ?_
  refine wp_getr (pc := 1) dX10_isOpen_1 rfl f_X10_10 kd_0 la_0 rfl (r_0_0 D) ?_
  refine wp_iload_n (pc := 4) 1 dX10_isOpen_4 rfl rfl ?_
  refine wp_callV (pc := 5) (st := []) (nf' := 153) [vI a] [some (vR (D 0)), some (vI a)] dX10_isOpen_5 rfl c_X10_163 rfl (tk_0 hD0) (by decide) rfl (tl_0 hD0) rfl (Nat.le_of_ble_eq_true rfl) rfl (Nat.le_of_ble_eq_true rfl) (by omega) (Nat.le_refl _) (Nat.le_refl _) ?_
  refine sp_hasPair hD0 hT0 hw (by omega) (by omega) (fun h_1 => ?_) (fun h_1 => ?_)
  · refine wp_eqst (st' := [vI 1]) rfl ?_
    refine wp_if_eq (pc := 8) 26 dX10_isOpen_8 (by decide) (by decide) (fun hh => absurd hh (by decide)) (fun _ => ?_)
    refine wp_aload_n (pc := 11) 0 dX10_isOpen_11 rfl rfl ?_
    refine wp_getr (pc := 12) dX10_isOpen_12 rfl f_X10_47 kd_0 la_0 rfl (r_0_5 D) ?_
    refine wp_iload_n (pc := 15) 1 dX10_isOpen_15 rfl rfl ?_
    refine wp_callV (pc := 16) (st := []) (nf' := 153) [vI a] [some (vR 47), some (vI a)] dX10_isOpen_16 rfl c_X10_181 rfl kd_47 (by decide) rfl la_47 rfl (Nat.le_of_ble_eq_true rfl) rfl (Nat.le_of_ble_eq_true rfl) (by omega) (Nat.le_refl _) (Nat.le_refl _) ?_
    refine wp_aload_n (pc := 0) 0 dX7_status_0 rfl rfl ?_
    refine wp_getr (pc := 1) dX7_status_1 rfl f_X7_11 kd_47 la_47 rfl (r_47_0 D) ?_
    refine wp_bipush (pc := 4) dX7_status_4 (by decide) ?_
    refine wp_iload_n (pc := 6) 1 dX7_status_6 rfl rfl ?_
    refine wp_iadd (pc := 7) dX7_status_7 ?_
    refine wq_iald (pc := 8) (8 + a.toNat) dX7_status_8 kd_48 la_48 (by omega) (by omega) ?_
    refine wp_eqst (st' := [vI (S (8 + a.toNat))]) (by rw [← hS] <;> rfl) ?_
    refine wp_iret (pc := 9) dX7_status_9 rfl rfl ?_
    refine wp_eqst (st' := [vI (S (8 + a.toNat))]) rfl ?_
    refine wp_if_ne (pc := 19) 26 dX10_isOpen_19 (by decide) (by omega) (fun h_2 => ?_) (fun h_2 => ?_)
    · refine wp_iconst (pc := 26) dX10_isOpen_26 ?_
      refine wp_zret (pc := 27) dX10_isOpen_27 rfl rfl (by decide) ?_
      refine wp_eqst (st' := [vI 0]) rfl ?_
      refine wp_if_eq (pc := 5) 17 dX10_hush_5 (by decide) (by decide) (fun _ => ?_) (fun hh => absurd hh (by decide))
      refine wp_iconst (pc := 17) dX10_hush_17 ?_
      refine wp_iret (pc := 18) dX10_hush_18 rfl rfl ?_
      have hq := hQ _ Sc.refl
      have e1 : hushA T S a w = (-1) := by
        unfold hushA
        first | (rw [if_neg (by omega)]; done) | (rw [if_pos (by omega)]; first | done | rfl | (rw [if_pos (by omega)]; done) | (rw [if_pos (by omega)]; rfl) | (rw [if_neg (by omega)]; done) | (rw [if_neg (by omega)]; rfl))
      rw [e1] at hq; exact hq
    · refine wp_iconst (pc := 22) dX10_isOpen_22 ?_
      refine wp_goto (pc := 23) 27 dX10_isOpen_23 (by decide) ?_
      refine wp_zret (pc := 27) dX10_isOpen_27 rfl rfl (by decide) ?_
      refine wp_eqst (st' := [vI 1]) rfl ?_
      refine wp_if_eq (pc := 5) 17 dX10_hush_5 (by decide) (by decide) (fun hh => absurd hh (by decide)) (fun _ => ?_)
      refine wp_iload_n (pc := 8) 2 dX10_hush_8 rfl rfl ?_
      refine wp_if_lt (pc := 9) 17 dX10_hush_9 (by decide) (by omega) (fun h_3 => ?_) (fun h_3 => ?_)
      · refine wp_iconst (pc := 17) dX10_hush_17 ?_
        refine wp_iret (pc := 18) dX10_hush_18 rfl rfl ?_
        have hq := hQ _ Sc.refl
        have e1 : hushA T S a w = (-1) := by
          unfold hushA
          first | (rw [if_neg (by omega)]; done) | (rw [if_pos (by omega)]; first | done | rfl | (rw [if_pos (by omega)]; done) | (rw [if_pos (by omega)]; rfl) | (rw [if_neg (by omega)]; done) | (rw [if_neg (by omega)]; rfl))
        rw [e1] at hq; exact hq
      · refine wp_iload_n (pc := 12) 2 dX10_hush_12 rfl rfl ?_
        refine wp_iconst (pc := 13) dX10_hush_13 ?_
        refine wp_icmp_le (pc := 14) 19 dX10_hush_14 (by decide) (by omega) (by decide) (fun h_4 => ?_) (fun h_4 => ?_)
        · refine wp_aload_n (pc := 19) 0 dX10_hush_19 rfl rfl ?_
          refine wp_getr (pc := 20) dX10_hush_20 rfl f_X10_40 kd_0 la_0 rfl (r_0_4 D) ?_
          refine wp_aload_n (pc := 23) 0 dX10_hush_23 rfl rfl ?_
          refine wp_getr (pc := 24) dX10_hush_24 rfl f_X10_47 kd_0 la_0 rfl (r_0_5 D) ?_
          refine wp_iload_n (pc := 27) 1 dX10_hush_27 rfl rfl ?_
          refine wp_callV (pc := 28) (st := []) (nf' := 153) [vR 47, vI a] [some (vR 45), some (vR 47), some (vI a), none, none, none, none] dX10_hush_28 rfl c_X10_256 rfl kd_45 (by decide) rfl la_45 rfl (Nat.le_of_ble_eq_true rfl) rfl (Nat.le_of_ble_eq_true rfl) (by omega) (Nat.le_refl _) (Nat.le_refl _) ?_
          refine sp_hearersOf a.toNat (by omega) h3 is47 hT hS hw hv (by omega) hcd (by omega) (by omega) (fun J1 hJ1 => ?_)
          have hT1 := hJ1.tt h3 hT
          have hT01 : TT J1 (D 0) = T := by rw [← h30]; exact hT1
          have hS1 := hJ1.ss h3 is47 hS
          refine wp_eqst (st' := [vI ((hearers T S a.toNat : Nat) : Int)]) rfl ?_
          refine wq_istore_n (pc := 31) 3 [some (vR 0), some (vI a), some (vI w), some (vI ((hearers T S a.toNat : Nat) : Int))] dX10_hush_31 rfl rfl (by decide) rfl ?_
          refine wp_iload_n (pc := 32) 2 dX10_hush_32 rfl rfl ?_
          refine wp_if_ne (pc := 33) 43 dX10_hush_33 (by decide) (by omega) (fun h_5 => ?_) (fun h_5 => ?_)
          · refine wp_iload_n (pc := 43) 3 dX10_hush_43 rfl rfl ?_
            refine wp_iret (pc := 44) dX10_hush_44 rfl rfl ?_
            have hq := hQ _ hJ1
            have e1 : hushA T S a w = ((hearers T S a.toNat : Nat) : Int) := by
              unfold hushA
              first | (rw [if_neg (by omega)]; done) | (rw [if_pos (by omega)]; first | done | rfl | (rw [if_pos (by omega)]; done) | (rw [if_pos (by omega)]; rfl) | (rw [if_neg (by omega)]; done) | (rw [if_neg (by omega)]; rfl))
            rw [e1] at hq; exact hq
          · refine wp_iload_n (pc := 36) 3 dX10_hush_36 rfl rfl ?_
            refine wp_callS (pc := 37) (st := []) (nf' := 153) [vI ((hearers T S a.toNat : Nat) : Int)] [some (vI ((hearers T S a.toNat : Nat) : Int))] dX10_hush_37 rfl c_X10_259 rfl rfl (Nat.le_of_ble_eq_true rfl) rfl (Nat.le_of_ble_eq_true rfl) (by omega) (Nat.le_refl _) (Nat.le_refl _) ?_
            refine sp_bitCount (hearers T S a.toNat) rfl (by omega) (by omega) ?_
            refine wp_eqst (st' := [vI ((pc8 (hearers T S a.toNat) : Nat) : Int)]) rfl ?_
            refine wp_goto (pc := 40) 44 dX10_hush_40 (by decide) ?_
            refine wp_iret (pc := 44) dX10_hush_44 rfl rfl ?_
            have hq := hQ _ hJ1
            have e1 : hushA T S a w = ((pc8 (hearers T S a.toNat) : Nat) : Int) := by
              unfold hushA
              first | (rw [if_neg (by omega)]; done) | (rw [if_pos (by omega)]; first | done | rfl | (rw [if_pos (by omega)]; done) | (rw [if_pos (by omega)]; rfl) | (rw [if_neg (by omega)]; done) | (rw [if_neg (by omega)]; rfl))
            rw [e1] at hq; exact hq
        · refine wp_iconst (pc := 17) dX10_hush_17 ?_
          refine wp_iret (pc := 18) dX10_hush_18 rfl rfl ?_
          have hq := hQ _ Sc.refl
          have e1 : hushA T S a w = (-1) := by
            unfold hushA
            first | (rw [if_neg (by omega)]; done) | (rw [if_pos (by omega)]; first | done | rfl | (rw [if_pos (by omega)]; done) | (rw [if_pos (by omega)]; rfl) | (rw [if_neg (by omega)]; done) | (rw [if_neg (by omega)]; rfl))
          rw [e1] at hq; exact hq
  · refine wp_eqst (st' := [vI 0]) rfl ?_
    refine wp_if_eq (pc := 8) 26 dX10_isOpen_8 (by decide) (by decide) (fun _ => ?_) (fun hh => absurd hh (by decide))
    refine wp_iconst (pc := 26) dX10_isOpen_26 ?_
    refine wp_zret (pc := 27) dX10_isOpen_27 rfl rfl (by decide) ?_
    refine wp_eqst (st' := [vI 0]) rfl ?_
    refine wp_if_eq (pc := 5) 17 dX10_hush_5 (by decide) (by decide) (fun _ => ?_) (fun hh => absurd hh (by decide))
    refine wp_iconst (pc := 17) dX10_hush_17 ?_
    refine wp_iret (pc := 18) dX10_hush_18 rfl rfl ?_
    have hq := hQ _ Sc.refl
    have e1 : hushA T S a w = (-1) := by
      unfold hushA
      first | (rw [if_neg (by omega)]; done) | (rw [if_pos (by omega)]; first | done | rfl | (rw [if_pos (by omega)]; done) | (rw [if_pos (by omega)]; rfl) | (rw [if_neg (by omega)]; done) | (rw [if_neg (by omega)]; rfl))
    rw [e1] at hq; exact hq

theorem lp_openWithin {l : Launch} {G : mG} {d : Nat} {I : mI} {L : Nat → Nat → Int} {D : Nat → Nat} {Q : mQ} {T : mT} {S : mS} {Z : mT} {a : Int} (hC : CI I D T S Z) (h_a : inR a) (hd : 2 ≤ d) (hQ : Q (some (vI ((owN T S a : Int)))) I (XX L D)) : ∀ i : Nat, i ≤ nQ T → WP l G m_X10_openWithin d 153 I (XX L D) 4 [some (vR 0), some (vI a), some (vI ((cntF (owF T S a) i : Nat) : Int)), some (vI (i : Int))] [] Q := by
  obtain ⟨hD0, h30, hT0, hS, hZ, hw, hv, hz, hrd, hcd⟩ := hC
  have h3 : isT (D 3) := by rw [h30]; exact hD0
  have hT : TT I (D 3) = T := by rw [h30]; exact hT0
  have b_p := tw_p hw
  have b_c := tw_c hw
  have b_q := tw_q hw
  have b_s := sw_sun hv
  have eN : nQ T = (T 0 13).toNat := rfl
  refine loop_dn (fun i => WP l G m_X10_openWithin d 153 I (XX L D) 4 [some (vR 0), some (vI a), some (vI ((cntF (owF T S a) i : Nat) : Int)), some (vI (i : Int))] [] Q) (nQ T) ?_ (fun i hi ih => ?_)
  · refine wp_iload_n (pc := 4) 3 dX10_openWithin_4 rfl rfl ?_
    refine wp_aload_n (pc := 5) 0 dX10_openWithin_5 rfl rfl ?_
    refine wp_getr (pc := 6) dX10_openWithin_6 rfl f_X10_10 kd_0 la_0 rfl (r_0_0 D) ?_
    refine wp_geti (pc := 9) dX10_openWithin_9 rfl f_X10_308 (tk_0 hD0) (tl_0 hD0) (Or.inl rfl) ?_
    refine wp_eqst (st' := [vI (T 0 13), vI (((nQ T) : Nat) : Int)]) (by rw [← hT0] <;> rfl) ?_
    refine wp_icmp_ge (pc := 12) 64 dX10_openWithin_12 (by decide) (by omega) (by omega) (fun h_1 => ?_) (fun h_1 => ?_)
    · refine wp_iload_n (pc := 64) 2 dX10_openWithin_64 rfl rfl ?_
      refine wp_iret (pc := 65) dX10_openWithin_65 rfl rfl ?_
      exact hQ
    · exfalso; omega
  · have b1 := tw_one hw i
    have b2 := tw_other hw i
    have b3 := sw_stat hv (j := i) (by omega)
    refine wp_iload_n (pc := 4) 3 dX10_openWithin_4 rfl rfl ?_
    refine wp_aload_n (pc := 5) 0 dX10_openWithin_5 rfl rfl ?_
    refine wp_getr (pc := 6) dX10_openWithin_6 rfl f_X10_10 kd_0 la_0 rfl (r_0_0 D) ?_
    refine wp_geti (pc := 9) dX10_openWithin_9 rfl f_X10_308 (tk_0 hD0) (tl_0 hD0) (Or.inl rfl) ?_
    refine wp_eqst (st' := [vI (T 0 13), vI (i : Int)]) (by rw [← hT0] <;> rfl) ?_
    refine wp_icmp_ge (pc := 12) 64 dX10_openWithin_12 (by decide) (by omega) (by omega) (fun h_1 => ?_) (fun h_1 => ?_)
    · exfalso; omega
    · refine wp_aload_n (pc := 15) 0 dX10_openWithin_15 rfl rfl ?_
      refine wp_iload_n (pc := 16) 3 dX10_openWithin_16 rfl rfl ?_
      refine wp_callV (pc := 17) (st := []) (nf' := 153) [vI (i : Int)] [some (vR 0), some (vI (i : Int))] dX10_openWithin_17 rfl c_X10_222 rfl kd_0 (by decide) rfl la_0 rfl (Nat.le_of_ble_eq_true rfl) rfl (Nat.le_of_ble_eq_true rfl) (by omega) (Nat.le_refl _) (Nat.le_refl _) ?_
      refine wp_aload_n (pc := 0) 0 dX10_isOpen_0 rfl rfl ?_
      refine wp_getr (pc := 1) dX10_isOpen_1 rfl f_X10_10 kd_0 la_0 rfl (r_0_0 D) ?_
      refine wp_iload_n (pc := 4) 1 dX10_isOpen_4 rfl rfl ?_
      refine wp_callV (pc := 5) (st := []) (nf' := 153) [vI (i : Int)] [some (vR (D 0)), some (vI (i : Int))] dX10_isOpen_5 rfl c_X10_163 rfl (tk_0 hD0) (by decide) rfl (tl_0 hD0) rfl (Nat.le_of_ble_eq_true rfl) rfl (Nat.le_of_ble_eq_true rfl) (by omega) (Nat.le_refl _) (Nat.le_refl _) ?_
      refine sp_hasPair hD0 hT0 hw (by omega) (by omega) (fun h_2 => ?_) (fun h_2 => ?_)
      · refine wp_eqst (st' := [vI 1]) rfl ?_
        refine wp_if_eq (pc := 8) 26 dX10_isOpen_8 (by decide) (by decide) (fun hh => absurd hh (by decide)) (fun _ => ?_)
        refine wp_aload_n (pc := 11) 0 dX10_isOpen_11 rfl rfl ?_
        refine wp_getr (pc := 12) dX10_isOpen_12 rfl f_X10_47 kd_0 la_0 rfl (r_0_5 D) ?_
        refine wp_iload_n (pc := 15) 1 dX10_isOpen_15 rfl rfl ?_
        refine wp_callV (pc := 16) (st := []) (nf' := 153) [vI (i : Int)] [some (vR 47), some (vI (i : Int))] dX10_isOpen_16 rfl c_X10_181 rfl kd_47 (by decide) rfl la_47 rfl (Nat.le_of_ble_eq_true rfl) rfl (Nat.le_of_ble_eq_true rfl) (by omega) (Nat.le_refl _) (Nat.le_refl _) ?_
        refine wp_aload_n (pc := 0) 0 dX7_status_0 rfl rfl ?_
        refine wp_getr (pc := 1) dX7_status_1 rfl f_X7_11 kd_47 la_47 rfl (r_47_0 D) ?_
        refine wp_bipush (pc := 4) dX7_status_4 (by decide) ?_
        refine wp_iload_n (pc := 6) 1 dX7_status_6 rfl rfl ?_
        refine wp_iadd (pc := 7) dX7_status_7 ?_
        refine wq_iald (pc := 8) (8 + i) dX7_status_8 kd_48 la_48 (by omega) (by omega) ?_
        refine wp_eqst (st' := [vI (S (8 + i))]) (by rw [← hS] <;> rfl) ?_
        refine wp_iret (pc := 9) dX7_status_9 rfl rfl ?_
        refine wp_eqst (st' := [vI (S (8 + i))]) rfl ?_
        refine wp_if_ne (pc := 19) 26 dX10_isOpen_19 (by decide) (by omega) (fun h_3 => ?_) (fun h_3 => ?_)
        · refine wp_iconst (pc := 26) dX10_isOpen_26 ?_
          refine wp_zret (pc := 27) dX10_isOpen_27 rfl rfl (by decide) ?_
          refine wp_eqst (st' := [vI 0]) rfl ?_
          refine wp_if_eq (pc := 20) 58 dX10_openWithin_20 (by decide) (by decide) (fun _ => ?_) (fun hh => absurd hh (by decide))
          refine wq_iinc (pc := 58) [some (vR 0), some (vI a), some (vI ((cntF (owF T S a) i : Nat) : Int)), some (vI ((i : Int) + 1))] dX10_openWithin_58 rfl rfl (by decide) rfl ?_
          refine wp_goto (pc := 61) 4 dX10_openWithin_61 (by decide) ?_
          refine wp_eqls (ls' := [some (vR 0), some (vI a), some (vI ((cntF (owF T S a) (i + 1) : Nat) : Int)), some (vI (((i + 1) : Nat) : Int))]) (by rw [cntF_n (f := owF T S a) (n := i) (decide_eq_false (fun z => by have z1 := z.1; omega))]; rfl) ih
        · refine wp_iconst (pc := 22) dX10_isOpen_22 ?_
          refine wp_goto (pc := 23) 27 dX10_isOpen_23 (by decide) ?_
          refine wp_zret (pc := 27) dX10_isOpen_27 rfl rfl (by decide) ?_
          refine wp_eqst (st' := [vI 1]) rfl ?_
          refine wp_if_eq (pc := 20) 58 dX10_openWithin_20 (by decide) (by decide) (fun hh => absurd hh (by decide)) (fun _ => ?_)
          refine wp_aload_n (pc := 23) 0 dX10_openWithin_23 rfl rfl ?_
          refine wp_getr (pc := 24) dX10_openWithin_24 rfl f_X10_10 kd_0 la_0 rfl (r_0_0 D) ?_
          refine wp_getr (pc := 27) dX10_openWithin_27 rfl f_X10_104 (tk_0 hD0) (tl_0 hD0) rfl (tr_0_9 D hD0) ?_
          refine wp_aload_n (pc := 30) 0 dX10_openWithin_30 rfl rfl ?_
          refine wp_getr (pc := 31) dX10_openWithin_31 rfl f_X10_10 kd_0 la_0 rfl (r_0_0 D) ?_
          refine wp_getr (pc := 34) dX10_openWithin_34 rfl f_X10_166 (tk_0 hD0) (tl_0 hD0) rfl (tr_0_5 D hD0) ?_
          refine wp_iload_n (pc := 37) 3 dX10_openWithin_37 rfl rfl ?_
          refine wq_iald (pc := 38) i dX10_openWithin_38 (tk_6 hD0) (tl_6 hD0) rfl (by omega) ?_
          refine wp_eqst (st' := [vI (T 6 i), vR ((D 0) + 10)]) (by rw [← hT0] <;> rfl) ?_
          refine wp_aload_n (pc := 39) 0 dX10_openWithin_39 rfl rfl ?_
          refine wp_getr (pc := 40) dX10_openWithin_40 rfl f_X10_10 kd_0 la_0 rfl (r_0_0 D) ?_
          refine wp_getr (pc := 43) dX10_openWithin_43 rfl f_X10_169 (tk_0 hD0) (tl_0 hD0) rfl (tr_0_6 D hD0) ?_
          refine wp_iload_n (pc := 46) 3 dX10_openWithin_46 rfl rfl ?_
          refine wq_iald (pc := 47) i dX10_openWithin_47 (tk_7 hD0) (tl_7 hD0) rfl (by omega) ?_
          refine wp_eqst (st' := [vI (T 7 i), vI (T 6 i), vR ((D 0) + 10)]) (by rw [← hT0] <;> rfl) ?_
          refine wp_iload_n (pc := 48) 1 dX10_openWithin_48 rfl rfl ?_
          refine wp_callV (pc := 49) (st := []) (nf' := 153) [vI (T 6 i), vI (T 7 i), vI a] [some (vR ((D 0) + 10)), some (vI (T 6 i)), some (vI (T 7 i)), some (vI a), none] dX10_openWithin_49 rfl c_X10_342 rfl (tk_10 hD0) (by decide) rfl (tl_10 hD0) rfl (Nat.le_of_ble_eq_true rfl) rfl (Nat.le_of_ble_eq_true rfl) (by omega) (Nat.le_refl _) (Nat.le_refl _) ?_
          refine sp_isWithin (Int.toNat (T 6 i)) (by omega) (Int.toNat (T 7 i)) (by omega) hD0 hT0 hw (by omega) (by omega) (by omega) (by omega) (fun h_4 => ?_) (fun h_4 => ?_)
          · refine wp_eqst (st' := [vI 1]) rfl ?_
            refine wp_if_eq (pc := 52) 58 dX10_openWithin_52 (by decide) (by decide) (fun hh => absurd hh (by decide)) (fun _ => ?_)
            refine wq_iinc (pc := 55) [some (vR 0), some (vI a), some (vI (((cntF (owF T S a) i : Nat) : Int) + 1)), some (vI (i : Int))] dX10_openWithin_55 rfl rfl (by decide) rfl ?_
            refine wq_iinc (pc := 58) [some (vR 0), some (vI a), some (vI (((cntF (owF T S a) i : Nat) : Int) + 1)), some (vI ((i : Int) + 1))] dX10_openWithin_58 rfl rfl (by decide) rfl ?_
            refine wp_goto (pc := 61) 4 dX10_openWithin_61 (by decide) ?_
            refine wp_eqls (ls' := [some (vR 0), some (vI a), some (vI ((cntF (owF T S a) (i + 1) : Nat) : Int)), some (vI (((i + 1) : Nat) : Int))]) (by rw [cntF_y (f := owF T S a) (n := i) (decide_eq_true ⟨by omega, h_4⟩)]; rfl) ih
          · refine wp_eqst (st' := [vI 0]) rfl ?_
            refine wp_if_eq (pc := 52) 58 dX10_openWithin_52 (by decide) (by decide) (fun _ => ?_) (fun hh => absurd hh (by decide))
            refine wq_iinc (pc := 58) [some (vR 0), some (vI a), some (vI ((cntF (owF T S a) i : Nat) : Int)), some (vI ((i : Int) + 1))] dX10_openWithin_58 rfl rfl (by decide) rfl ?_
            refine wp_goto (pc := 61) 4 dX10_openWithin_61 (by decide) ?_
            refine wp_eqls (ls' := [some (vR 0), some (vI a), some (vI ((cntF (owF T S a) (i + 1) : Nat) : Int)), some (vI (((i + 1) : Nat) : Int))]) (by rw [cntF_n (f := owF T S a) (n := i) (decide_eq_false (fun z => h_4 z.2))]; rfl) ih
      · refine wp_eqst (st' := [vI 0]) rfl ?_
        refine wp_if_eq (pc := 8) 26 dX10_isOpen_8 (by decide) (by decide) (fun _ => ?_) (fun hh => absurd hh (by decide))
        refine wp_iconst (pc := 26) dX10_isOpen_26 ?_
        refine wp_zret (pc := 27) dX10_isOpen_27 rfl rfl (by decide) ?_
        refine wp_eqst (st' := [vI 0]) rfl ?_
        refine wp_if_eq (pc := 20) 58 dX10_openWithin_20 (by decide) (by decide) (fun _ => ?_) (fun hh => absurd hh (by decide))
        refine wq_iinc (pc := 58) [some (vR 0), some (vI a), some (vI ((cntF (owF T S a) i : Nat) : Int)), some (vI ((i : Int) + 1))] dX10_openWithin_58 rfl rfl (by decide) rfl ?_
        refine wp_goto (pc := 61) 4 dX10_openWithin_61 (by decide) ?_
        refine wp_eqls (ls' := [some (vR 0), some (vI a), some (vI ((cntF (owF T S a) (i + 1) : Nat) : Int)), some (vI (((i + 1) : Nat) : Int))]) (by rw [cntF_n (f := owF T S a) (n := i) (decide_eq_false (fun z => by have z1 := z.1; omega))]; rfl) ih

theorem sp_openWithin {l : Launch} {G : mG} {d : Nat} {I : mI} {L : Nat → Nat → Int} {D : Nat → Nat} {Q : mQ} {T : mT} {S : mS} {Z : mT} {a : Int}  (hC : CI I D T S Z) (h_a : inR a) (hd : 2 ≤ d) (hQ : Q (some (vI ((owN T S a : Int)))) I (XX L D)) : WP l G m_X10_openWithin d 153 I (XX L D) 0 [some (vR 0), some (vI a), none, none] [] Q := by
  refine wp_iconst (pc := 0) dX10_openWithin_0 ?_
  refine wq_istore_n (pc := 1) 2 [some (vR 0), some (vI a), some (vI 0), none] dX10_openWithin_1 rfl rfl (by decide) rfl ?_
  refine wp_iconst (pc := 2) dX10_openWithin_2 ?_
  refine wq_istore_n (pc := 3) 3 [some (vR 0), some (vI a), some (vI 0), some (vI 0)] dX10_openWithin_3 rfl rfl (by decide) rfl ?_
  exact lp_openWithin hC h_a hd hQ 0 (Nat.zero_le _)

theorem sp_law {l : Launch} {G : mG} {d : Nat} {I : mI} {L : Nat → Nat → Int} {D : Nat → Nat} {Q : mQ} {T : mT} {S : mS} {Z : mT} {a : Int}  (hC : CI I D T S Z) (h_a : inR a) (hd : 3 ≤ d) (hQ : ∀ J, Sc I J (D 3) → Q (some (vI (lawA T S a))) J (XX L D)) : WP l G m_X10_law d 153 I (XX L D) 0 [some (vR 0), some (vI a)] [] Q := by
  have hC := hC
  obtain ⟨hD0, h30, hT0, hS, hZ, hw, hv, hz, hrd, hcd⟩ := id hC
  have h3 : isT (D 3) := by rw [h30]; exact hD0
  have hT : TT I (D 3) = T := by rw [h30]; exact hT0
  have b_p := tw_p hw
  have b_c := tw_c hw
  have b_q := tw_q hw
  have b_s := sw_sun hv
  have b_d := tw_deg hw
  have b_1 := cntF_le (owF T S a) (nQ T)
  have b_2 := cntF_le (owF T S (T 0 15)) (nQ T)
  refine wp_iload_n (pc := 0) 1 dX10_law_0 rfl rfl ?_
  refine wp_if_lt (pc := 1) 10 dX10_law_1 (by decide) (by omega) (fun h_1 => ?_) (fun h_1 => ?_)
  · refine wp_bipush (pc := 10) dX10_law_10 (by decide) ?_
    refine wp_iret (pc := 12) dX10_law_12 rfl rfl ?_
    have hq := hQ _ Sc.refl
    have e1 : lawA T S a = (-100) := by
      unfold lawA
      first | (rw [if_neg (by omega)]; done) | (rw [if_pos (by omega)]; first | done | rfl | (rw [if_pos (by omega)]; done) | (rw [if_pos (by omega)]; rfl) | (rw [if_neg (by omega)]; done) | (rw [if_neg (by omega)]; rfl))
    rw [e1] at hq; exact hq
  · refine wp_iload_n (pc := 4) 1 dX10_law_4 rfl rfl ?_
    refine wp_bipush (pc := 5) dX10_law_5 (by decide) ?_
    refine wp_icmp_le (pc := 7) 13 dX10_law_7 (by decide) (by omega) (by decide) (fun h_2 => ?_) (fun h_2 => ?_)
    · refine wp_aload_n (pc := 13) 0 dX10_law_13 rfl rfl ?_
      refine wp_iload_n (pc := 14) 1 dX10_law_14 rfl rfl ?_
      refine wp_callV (pc := 15) (st := []) (nf' := 153) [vI a] [some (vR 0), some (vI a), none, none] dX10_law_15 rfl c_X10_271 rfl kd_0 (by decide) rfl la_0 rfl (Nat.le_of_ble_eq_true rfl) rfl (Nat.le_of_ble_eq_true rfl) (by omega) (Nat.le_refl _) (Nat.le_refl _) ?_
      refine sp_openWithin hC (by omega) (by omega) ?_
      refine wp_eqst (st' := [vI ((owN T S a : Nat) : Int)]) rfl ?_
      refine wp_aload_n (pc := 18) 0 dX10_law_18 rfl rfl ?_
      refine wp_aload_n (pc := 19) 0 dX10_law_19 rfl rfl ?_
      refine wp_getr (pc := 20) dX10_law_20 rfl f_X10_10 kd_0 la_0 rfl (r_0_0 D) ?_
      refine wp_geti (pc := 23) dX10_law_23 rfl f_X10_274 (tk_0 hD0) (tl_0 hD0) (Or.inl rfl) ?_
      refine wp_eqst (st' := [vI (T 0 15), vR 0, vI ((owN T S a : Nat) : Int)]) (by rw [← hT0] <;> rfl) ?_
      refine wp_callV (pc := 26) (st := [vI ((owN T S a : Nat) : Int)]) (nf' := 153) [vI (T 0 15)] [some (vR 0), some (vI (T 0 15)), none, none] dX10_law_26 rfl c_X10_271 rfl kd_0 (by decide) rfl la_0 rfl (Nat.le_of_ble_eq_true rfl) rfl (Nat.le_of_ble_eq_true rfl) (by omega) (Nat.le_refl _) (Nat.le_refl _) ?_
      refine sp_openWithin hC (by omega) (by omega) ?_
      refine wp_eqst (st' := [vI ((owN T S (T 0 15) : Nat) : Int), vI ((owN T S a : Nat) : Int)]) rfl ?_
      refine wp_isub (pc := 29) dX10_law_29 ?_
      refine wp_iret (pc := 30) dX10_law_30 rfl rfl ?_
      have hq := hQ _ Sc.refl
      have e1 : lawA T S a = ((owN T S a : Nat) : Int) - ((owN T S (T 0 15) : Nat) : Int) := by
        unfold lawA
        first | (rw [if_neg (by omega)]; done) | (rw [if_pos (by omega)]; first | done | rfl | (rw [if_pos (by omega)]; done) | (rw [if_pos (by omega)]; rfl) | (rw [if_neg (by omega)]; done) | (rw [if_neg (by omega)]; rfl))
      rw [e1] at hq; exact hq
    · refine wp_bipush (pc := 10) dX10_law_10 (by decide) ?_
      refine wp_iret (pc := 12) dX10_law_12 rfl rfl ?_
      have hq := hQ _ Sc.refl
      have e1 : lawA T S a = (-100) := by
        unfold lawA
        first | (rw [if_neg (by omega)]; done) | (rw [if_pos (by omega)]; first | done | rfl | (rw [if_pos (by omega)]; done) | (rw [if_pos (by omega)]; rfl) | (rw [if_neg (by omega)]; done) | (rw [if_neg (by omega)]; rfl))
      rw [e1] at hq; exact hq

theorem lp_free_in {l : Launch} {G : mG} {d : Nat} {I : mI} {L : Nat → Nat → Int} {D : Nat → Nat} {Q : mQ} {T : mT} {S : mS} {Z : mT} {a : Nat} (hC : CI I D T S Z) (hd : 3 ≤ d) (ha : a < nP T) (hN : WP l G m_X10_free d 153 I (XX L D) 4 [some (vR 0), some (vI ((freeN T S (a + 1) : Nat) : Int)), some (vI (((a + 1) : Nat) : Int)), none] [] Q) : ∀ i : Nat, i ≤ nP T → a < i → WP l G m_X10_free d 153 I (XX L D) 19 [some (vR 0), some (vI ((freeN T S a + cntF (fb T S a) i : Nat) : Int)), some (vI (a : Int)), some (vI (i : Int))] [] Q := by
  obtain ⟨hD0, h30, hT0, hS, hZ, hw, hv, hz, hrd, hcd⟩ := hC
  have h3 : isT (D 3) := by rw [h30]; exact hD0
  have hT : TT I (D 3) = T := by rw [h30]; exact hT0
  have b_p := tw_p hw
  have b_c := tw_c hw
  have b_q := tw_q hw
  have b_s := sw_sun hv
  have eN : nP T = (T 0 12).toNat := rfl
  refine loop_dn (fun i => a < i → WP l G m_X10_free d 153 I (XX L D) 19 [some (vR 0), some (vI ((freeN T S a + cntF (fb T S a) i : Nat) : Int)), some (vI (a : Int)), some (vI (i : Int))] [] Q) (nP T) ?_ (fun i hi ih => ?_)
  · intro _
    refine wp_iload_n (pc := 19) 3 dX10_free_19 rfl rfl ?_
    refine wp_aload_n (pc := 20) 0 dX10_free_20 rfl rfl ?_
    refine wp_getr (pc := 21) dX10_free_21 rfl f_X10_10 kd_0 la_0 rfl (r_0_0 D) ?_
    refine wp_geti (pc := 24) dX10_free_24 rfl f_X10_108 (tk_0 hD0) (tl_0 hD0) (Or.inl rfl) ?_
    refine wp_eqst (st' := [vI (T 0 12), vI (((nP T) : Nat) : Int)]) (by rw [← hT0] <;> rfl) ?_
    refine wp_icmp_ge (pc := 27) 56 dX10_free_27 (by decide) (by omega) (by omega) (fun h_1 => ?_) (fun h_1 => ?_)
    · refine wq_iinc (pc := 56) [some (vR 0), some (vI ((freeN T S a + cntF (fb T S a) (nP T) : Nat) : Int)), some (vI ((a : Int) + 1)), some (vI (((nP T) : Nat) : Int))] dX10_free_56 rfl rfl (by decide) rfl ?_
      refine wp_goto (pc := 59) 4 dX10_free_59 (by decide) ?_
      refine wp_none 3 [some (vR 0), some (vI ((freeN T S a + cntF (fb T S a) (nP T) : Nat) : Int)), some (vI ((a : Int) + 1)), none] rfl ?_
      refine wp_eqls (ls' := [some (vR 0), some (vI ((freeN T S (a + 1) : Nat) : Int)), some (vI (((a + 1) : Nat) : Int)), none]) (by rw [freeN]; rfl) hN
    · exfalso; omega
  · intro ha_
    have b_b := barF_in T S a i (-1)
    refine wp_iload_n (pc := 19) 3 dX10_free_19 rfl rfl ?_
    refine wp_aload_n (pc := 20) 0 dX10_free_20 rfl rfl ?_
    refine wp_getr (pc := 21) dX10_free_21 rfl f_X10_10 kd_0 la_0 rfl (r_0_0 D) ?_
    refine wp_geti (pc := 24) dX10_free_24 rfl f_X10_108 (tk_0 hD0) (tl_0 hD0) (Or.inl rfl) ?_
    refine wp_eqst (st' := [vI (T 0 12), vI (i : Int)]) (by rw [← hT0] <;> rfl) ?_
    refine wp_icmp_ge (pc := 27) 56 dX10_free_27 (by decide) (by omega) (by omega) (fun h_1 => ?_) (fun h_1 => ?_)
    · exfalso; omega
    · refine wp_aload_n (pc := 30) 0 dX10_free_30 rfl rfl ?_
      refine wp_getr (pc := 31) dX10_free_31 rfl f_X10_40 kd_0 la_0 rfl (r_0_4 D) ?_
      refine wp_aload_n (pc := 34) 0 dX10_free_34 rfl rfl ?_
      refine wp_getr (pc := 35) dX10_free_35 rfl f_X10_47 kd_0 la_0 rfl (r_0_5 D) ?_
      refine wp_iload_n (pc := 38) 2 dX10_free_38 rfl rfl ?_
      refine wp_iload_n (pc := 39) 3 dX10_free_39 rfl rfl ?_
      refine wp_iconst (pc := 40) dX10_free_40 ?_
      refine wp_callV (pc := 41) (st := []) (nf' := 153) [vR 47, vI (a : Int), vI (i : Int), vI (-1)] [some (vR 45), some (vR 47), some (vI (a : Int)), some (vI (i : Int)), some (vI (-1)), none] dX10_free_41 rfl c_X10_277 rfl kd_45 (by decide) rfl la_45 rfl (Nat.le_of_ble_eq_true rfl) rfl (Nat.le_of_ble_eq_true rfl) (by omega) (Nat.le_refl _) (Nat.le_refl _) ?_
      refine sp_barBetween a rfl i rfl h3 is47 hT hS hw hv (by omega) (by omega) (by omega) (by omega) ?_
      refine wp_eqst (st' := [vI (barF T S a i (-1))]) rfl ?_
      refine wp_if_ne (pc := 44) 50 dX10_free_44 (by decide) (by omega) (fun h_2 => ?_) (fun h_2 => ?_)
      · refine wq_iinc (pc := 50) [some (vR 0), some (vI ((freeN T S a + cntF (fb T S a) i : Nat) : Int)), some (vI (a : Int)), some (vI ((i : Int) + 1))] dX10_free_50 rfl rfl (by decide) rfl ?_
        refine wp_goto (pc := 53) 19 dX10_free_53 (by decide) ?_
        refine wp_eqls (ls' := [some (vR 0), some (vI ((freeN T S a + cntF (fb T S a) (i + 1) : Nat) : Int)), some (vI (a : Int)), some (vI (((i + 1) : Nat) : Int))]) (by rw [cntF_n (f := fb T S a) (n := i) (by unfold fb; rw [decide_eq_false (p := barF T S a i (-1) = 0) (by omega), Bool.and_false])]; rfl) (ih (by omega))
      · refine wq_iinc (pc := 47) [some (vR 0), some (vI (((freeN T S a + cntF (fb T S a) i : Nat) : Int) + 1)), some (vI (a : Int)), some (vI (i : Int))] dX10_free_47 rfl rfl (by decide) rfl ?_
        refine wq_iinc (pc := 50) [some (vR 0), some (vI (((freeN T S a + cntF (fb T S a) i : Nat) : Int) + 1)), some (vI (a : Int)), some (vI ((i : Int) + 1))] dX10_free_50 rfl rfl (by decide) rfl ?_
        refine wp_goto (pc := 53) 19 dX10_free_53 (by decide) ?_
        refine wp_eqls (ls' := [some (vR 0), some (vI ((freeN T S a + cntF (fb T S a) (i + 1) : Nat) : Int)), some (vI (a : Int)), some (vI (((i + 1) : Nat) : Int))]) (by rw [cntF_y (f := fb T S a) (n := i) (by unfold fb; rw [decide_eq_true ha_, decide_eq_true (by omega)]; rfl)]; rfl) (ih (by omega))

theorem lp_free {l : Launch} {G : mG} {d : Nat} {I : mI} {L : Nat → Nat → Int} {D : Nat → Nat} {Q : mQ} {T : mT} {S : mS} {Z : mT} (hC : CI I D T S Z) (hd : 3 ≤ d) (hQ : Q (some (vI ((freeA T S : Int)))) I (XX L D)) : ∀ i : Nat, i ≤ nP T → WP l G m_X10_free d 153 I (XX L D) 4 [some (vR 0), some (vI ((freeN T S i : Nat) : Int)), some (vI (i : Int)), none] [] Q := by
  have hC := hC
  obtain ⟨hD0, h30, hT0, hS, hZ, hw, hv, hz, hrd, hcd⟩ := id hC
  have h3 : isT (D 3) := by rw [h30]; exact hD0
  have hT : TT I (D 3) = T := by rw [h30]; exact hT0
  have b_p := tw_p hw
  have b_c := tw_c hw
  have b_q := tw_q hw
  have b_s := sw_sun hv
  have eN : nP T = (T 0 12).toNat := rfl
  refine loop_dn (fun i => WP l G m_X10_free d 153 I (XX L D) 4 [some (vR 0), some (vI ((freeN T S i : Nat) : Int)), some (vI (i : Int)), none] [] Q) (nP T) ?_ (fun i hi ih => ?_)
  · refine wp_iload_n (pc := 4) 2 dX10_free_4 rfl rfl ?_
    refine wp_aload_n (pc := 5) 0 dX10_free_5 rfl rfl ?_
    refine wp_getr (pc := 6) dX10_free_6 rfl f_X10_10 kd_0 la_0 rfl (r_0_0 D) ?_
    refine wp_geti (pc := 9) dX10_free_9 rfl f_X10_108 (tk_0 hD0) (tl_0 hD0) (Or.inl rfl) ?_
    refine wp_eqst (st' := [vI (T 0 12), vI (((nP T) : Nat) : Int)]) (by rw [← hT0] <;> rfl) ?_
    refine wp_icmp_ge (pc := 12) 62 dX10_free_12 (by decide) (by omega) (by omega) (fun h_1 => ?_) (fun h_1 => ?_)
    · refine wp_iload_n (pc := 62) 1 dX10_free_62 rfl rfl ?_
      refine wp_iret (pc := 63) dX10_free_63 rfl rfl ?_
      exact hQ
    · exfalso; omega
  · refine wp_iload_n (pc := 4) 2 dX10_free_4 rfl rfl ?_
    refine wp_aload_n (pc := 5) 0 dX10_free_5 rfl rfl ?_
    refine wp_getr (pc := 6) dX10_free_6 rfl f_X10_10 kd_0 la_0 rfl (r_0_0 D) ?_
    refine wp_geti (pc := 9) dX10_free_9 rfl f_X10_108 (tk_0 hD0) (tl_0 hD0) (Or.inl rfl) ?_
    refine wp_eqst (st' := [vI (T 0 12), vI (i : Int)]) (by rw [← hT0] <;> rfl) ?_
    refine wp_icmp_ge (pc := 12) 62 dX10_free_12 (by decide) (by omega) (by omega) (fun h_1 => ?_) (fun h_1 => ?_)
    · exfalso; omega
    · refine wp_iload_n (pc := 15) 2 dX10_free_15 rfl rfl ?_
      refine wp_iconst (pc := 16) dX10_free_16 ?_
      refine wp_iadd (pc := 17) dX10_free_17 ?_
      refine wq_istore_n (pc := 18) 3 [some (vR 0), some (vI ((freeN T S i : Nat) : Int)), some (vI (i : Int)), some (vI ((i : Int) + 1))] dX10_free_18 rfl rfl (by decide) rfl ?_
      refine wp_eqls (ls' := [some (vR 0), some (vI ((freeN T S i + cntF (fb T S i) (i + 1) : Nat) : Int)), some (vI (i : Int)), some (vI (((i + 1) : Nat) : Int))]) (by rw [fb_0 T S i (i + 1) (Nat.le_refl _)]; rfl) (lp_free_in hC hd hi ih (i + 1) hi (Nat.lt_succ_self i))

theorem sp_free {l : Launch} {G : mG} {d : Nat} {I : mI} {L : Nat → Nat → Int} {D : Nat → Nat} {Q : mQ} {T : mT} {S : mS} {Z : mT}  (hC : CI I D T S Z) (hd : 3 ≤ d) (hQ : Q (some (vI ((freeA T S : Int)))) I (XX L D)) : WP l G m_X10_free d 153 I (XX L D) 0 [some (vR 0), none, none, none] [] Q := by
  refine wp_iconst (pc := 0) dX10_free_0 ?_
  refine wq_istore_n (pc := 1) 1 [some (vR 0), some (vI 0), none, none] dX10_free_1 rfl rfl (by decide) rfl ?_
  refine wp_iconst (pc := 2) dX10_free_2 ?_
  refine wq_istore_n (pc := 3) 2 [some (vR 0), some (vI 0), some (vI 0), none] dX10_free_3 rfl rfl (by decide) rfl ?_
  exact lp_free hC hd hQ 0 (Nat.zero_le _)

theorem lp_ask {l : Launch} {G : mG} {d : Nat} {I : mI} {L : Nat → Nat → Int} {D : Nat → Nat} {Q : mQ} {T : mT} {S : mS} {Z : mT} {w k : Int} {m : Nat} (hC : CI I D T S Z) (h_w : inR w) (h_k : inR k) (hm : m < 256) (h0 : ¬ m = 0 ∧ 0 ≤ w ∧ w ≤ 1) (hd : 4 ≤ d) (hQ : Q (some (vI (askA T m w))) I (XX L D)) : ∀ i : Nat, i ≤ nP T → WP l G m_X10_ask d 153 I (XX L D) 42 [some (vR 0), some (vI w), some (vI k), some (vI (m : Int)), some (vI ((askN T m i).1)), some (vI ((askN T m i).2)), some (vI (i : Int)), none, none] [] Q := by
  obtain ⟨hD0, h30, hT0, hS, hZ, hw, hv, hz, hrd, hcd⟩ := hC
  have h3 : isT (D 3) := by rw [h30]; exact hD0
  have hT : TT I (D 3) = T := by rw [h30]; exact hT0
  have b_p := tw_p hw
  have b_c := tw_c hw
  have b_q := tw_q hw
  have b_s := sw_sun hv
  have eN : nP T = (T 0 12).toNat := rfl
  refine loop_dn (fun i => WP l G m_X10_ask d 153 I (XX L D) 42 [some (vR 0), some (vI w), some (vI k), some (vI (m : Int)), some (vI ((askN T m i).1)), some (vI ((askN T m i).2)), some (vI (i : Int)), none, none] [] Q) (nP T) ?_ (fun i hi ih => ?_)
  · refine wp_iload (pc := 42) dX10_ask_42 rfl ?_
    refine wp_aload_n (pc := 44) 0 dX10_ask_44 rfl rfl ?_
    refine wp_getr (pc := 45) dX10_ask_45 rfl f_X10_10 kd_0 la_0 rfl (r_0_0 D) ?_
    refine wp_geti (pc := 48) dX10_ask_48 rfl f_X10_108 (tk_0 hD0) (tl_0 hD0) (Or.inl rfl) ?_
    refine wp_eqst (st' := [vI (T 0 12), vI (((nP T) : Nat) : Int)]) (by rw [← hT0] <;> rfl) ?_
    refine wp_icmp_ge (pc := 51) 108 dX10_ask_51 (by decide) (by omega) (by omega) (fun h_1 => ?_) (fun h_1 => ?_)
    · refine wp_iload_n (pc := 108) 1 dX10_ask_108 rfl rfl ?_
      refine wp_if_ne (pc := 109) 117 dX10_ask_109 (by decide) (by omega) (fun h_2 => ?_) (fun h_2 => ?_)
      · refine wp_iload (pc := 117) dX10_ask_117 rfl ?_
        refine wp_iret (pc := 119) dX10_ask_119 rfl rfl ?_
        have e1 : askA T m w = (askN T m (nP T)).2 := by
          unfold askA; rw [if_pos (by omega), if_neg (by omega)]
        rw [e1] at hQ; exact hQ
      · refine wp_iload (pc := 112) dX10_ask_112 rfl ?_
        refine wp_goto (pc := 114) 119 dX10_ask_114 (by decide) ?_
        refine wp_iret (pc := 119) dX10_ask_119 rfl rfl ?_
        have e1 : askA T m w = (askN T m (nP T)).1 := by
          unfold askA; rw [if_pos (by omega), if_pos (by omega)]
        rw [e1] at hQ; exact hQ
    · exfalso; omega
  · have b1 : m &&& knwF T i < 256 := Nat.lt_of_le_of_lt Nat.and_le_left hm
    have b2 : pc8 m ≤ 8 := cnt_le _ 8
    have b3 : pc8 (m &&& knwF T i) ≤ 8 := cnt_le _ 8
    have b4 := askN_in T m i
    have b5 := knwF_lt T i
    refine wp_iload (pc := 42) dX10_ask_42 rfl ?_
    refine wp_aload_n (pc := 44) 0 dX10_ask_44 rfl rfl ?_
    refine wp_getr (pc := 45) dX10_ask_45 rfl f_X10_10 kd_0 la_0 rfl (r_0_0 D) ?_
    refine wp_geti (pc := 48) dX10_ask_48 rfl f_X10_108 (tk_0 hD0) (tl_0 hD0) (Or.inl rfl) ?_
    refine wp_eqst (st' := [vI (T 0 12), vI (i : Int)]) (by rw [← hT0] <;> rfl) ?_
    refine wp_icmp_ge (pc := 51) 108 dX10_ask_51 (by decide) (by omega) (by omega) (fun h_1 => ?_) (fun h_1 => ?_)
    · exfalso; omega
    · refine wp_iload_n (pc := 54) 3 dX10_ask_54 rfl rfl ?_
      refine wp_aload_n (pc := 55) 0 dX10_ask_55 rfl rfl ?_
      refine wp_getr (pc := 56) dX10_ask_56 rfl f_X10_10 kd_0 la_0 rfl (r_0_0 D) ?_
      refine wp_getr (pc := 59) dX10_ask_59 rfl f_X10_104 (tk_0 hD0) (tl_0 hD0) rfl (tr_0_9 D hD0) ?_
      refine wp_iload (pc := 62) dX10_ask_62 rfl ?_
      refine wp_callV (pc := 64) (st := [vI (m : Int)]) (nf' := 153) [vI (i : Int)] [some (vR ((D 0) + 10)), some (vI (i : Int)), none, none] dX10_ask_64 rfl c_X10_294 rfl (tk_10 hD0) (by decide) rfl (tl_10 hD0) rfl (Nat.le_of_ble_eq_true rfl) rfl (Nat.le_of_ble_eq_true rfl) (by omega) (Nat.le_refl _) (Nat.le_refl _) ?_
      refine sp_knownBy i rfl hD0 hT0 hw (by omega) (by omega) ?_
      refine wp_eqst (st' := [vI ((knwF T i : Nat) : Int), vI (m : Int)]) rfl ?_
      refine wn_and (pc := 67) m (knwF T i) dX10_ask_67 rfl rfl ?_
      refine wp_callS (pc := 68) (st := []) (nf' := 153) [vI ((m &&& (knwF T i) : Nat) : Int)] [some (vI ((m &&& (knwF T i) : Nat) : Int))] dX10_ask_68 rfl c_X10_259 rfl rfl (Nat.le_of_ble_eq_true rfl) rfl (Nat.le_of_ble_eq_true rfl) (by omega) (Nat.le_refl _) (Nat.le_refl _) ?_
      refine sp_bitCount (m &&& (knwF T i)) rfl (by omega) (by omega) ?_
      refine wp_eqst (st' := [vI ((pc8 (m &&& (knwF T i)) : Nat) : Int)]) rfl ?_
      refine wq_istore (pc := 71) [some (vR 0), some (vI w), some (vI k), some (vI (m : Int)), some (vI ((askN T m i).1)), some (vI ((askN T m i).2)), some (vI (i : Int)), some (vI ((pc8 (m &&& (knwF T i)) : Nat) : Int)), none] dX10_ask_71 rfl (by decide) rfl ?_
      refine wp_iload (pc := 73) dX10_ask_73 rfl ?_
      refine wp_iload_n (pc := 75) 3 dX10_ask_75 rfl rfl ?_
      refine wp_callS (pc := 76) (st := [vI ((pc8 (m &&& (knwF T i)) : Nat) : Int)]) (nf' := 153) [vI (m : Int)] [some (vI (m : Int))] dX10_ask_76 rfl c_X10_259 rfl rfl (Nat.le_of_ble_eq_true rfl) rfl (Nat.le_of_ble_eq_true rfl) (by omega) (Nat.le_refl _) (Nat.le_refl _) ?_
      refine sp_bitCount m rfl (by omega) (by omega) ?_
      refine wp_eqst (st' := [vI ((pc8 m : Nat) : Int), vI ((pc8 (m &&& (knwF T i)) : Nat) : Int)]) rfl ?_
      refine wp_iload (pc := 79) dX10_ask_79 rfl ?_
      refine wp_isub (pc := 81) dX10_ask_81 ?_
      refine wp_max (pc := 82) dX10_ask_82 rfl c_X10_297 (by omega) (by omega) (Nat.le_of_ble_eq_true rfl) (by omega) ?_
      refine wq_istore (pc := 85) [some (vR 0), some (vI w), some (vI k), some (vI (m : Int)), some (vI ((askN T m i).1)), some (vI ((askN T m i).2)), some (vI (i : Int)), some (vI ((pc8 (m &&& (knwF T i)) : Nat) : Int)), some (vI (if ((pc8 (m &&& (knwF T i)) : Nat) : Int) < ((pc8 m : Nat) : Int) - ((pc8 (m &&& (knwF T i)) : Nat) : Int) then ((pc8 m : Nat) : Int) - ((pc8 (m &&& (knwF T i)) : Nat) : Int) else ((pc8 (m &&& (knwF T i)) : Nat) : Int)))] dX10_ask_85 rfl (by decide) rfl ?_
      refine wp_iload (pc := 87) dX10_ask_87 rfl ?_
      refine wp_iload (pc := 89) dX10_ask_89 rfl ?_
      refine wp_icmp_ge (pc := 91) 102 dX10_ask_91 (by decide) (by omega) (by omega) (fun h_2 => ?_) (fun h_2 => ?_)
      · refine wq_iinc (pc := 102) [some (vR 0), some (vI w), some (vI k), some (vI (m : Int)), some (vI ((askN T m i).1)), some (vI ((askN T m i).2)), some (vI ((i : Int) + 1)), some (vI ((pc8 (m &&& (knwF T i)) : Nat) : Int)), some (vI (if ((pc8 (m &&& (knwF T i)) : Nat) : Int) < ((pc8 m : Nat) : Int) - ((pc8 (m &&& (knwF T i)) : Nat) : Int) then ((pc8 m : Nat) : Int) - ((pc8 (m &&& (knwF T i)) : Nat) : Int) else ((pc8 (m &&& (knwF T i)) : Nat) : Int)))] dX10_ask_102 rfl rfl (by decide) rfl ?_
        refine wp_goto (pc := 105) 42 dX10_ask_105 (by decide) ?_
        refine wp_none 7 [some (vR 0), some (vI w), some (vI k), some (vI (m : Int)), some (vI ((askN T m i).1)), some (vI ((askN T m i).2)), some (vI ((i : Int) + 1)), none, some (vI (if ((pc8 (m &&& (knwF T i)) : Nat) : Int) < ((pc8 m : Nat) : Int) - ((pc8 (m &&& (knwF T i)) : Nat) : Int) then ((pc8 m : Nat) : Int) - ((pc8 (m &&& (knwF T i)) : Nat) : Int) else ((pc8 (m &&& (knwF T i)) : Nat) : Int)))] rfl ?_
        refine wp_none 8 [some (vR 0), some (vI w), some (vI k), some (vI (m : Int)), some (vI ((askN T m i).1)), some (vI ((askN T m i).2)), some (vI ((i : Int) + 1)), none, none] rfl ?_
        refine wp_eqls (ls' := [some (vR 0), some (vI w), some (vI k), some (vI (m : Int)), some (vI ((askN T m (i + 1)).1)), some (vI ((askN T m (i + 1)).2)), some (vI (((i + 1) : Nat) : Int)), none, none]) (by rw [show askN T m (i + 1) = askN T m i from if_neg (Int.not_lt.mpr h_2)]; rfl) ih
      · refine wp_iload (pc := 94) dX10_ask_94 rfl ?_
        refine wq_istore (pc := 96) [some (vR 0), some (vI w), some (vI k), some (vI (m : Int)), some (vI ((askN T m i).1)), some (vI (if ((pc8 (m &&& (knwF T i)) : Nat) : Int) < ((pc8 m : Nat) : Int) - ((pc8 (m &&& (knwF T i)) : Nat) : Int) then ((pc8 m : Nat) : Int) - ((pc8 (m &&& (knwF T i)) : Nat) : Int) else ((pc8 (m &&& (knwF T i)) : Nat) : Int))), some (vI (i : Int)), some (vI ((pc8 (m &&& (knwF T i)) : Nat) : Int)), some (vI (if ((pc8 (m &&& (knwF T i)) : Nat) : Int) < ((pc8 m : Nat) : Int) - ((pc8 (m &&& (knwF T i)) : Nat) : Int) then ((pc8 m : Nat) : Int) - ((pc8 (m &&& (knwF T i)) : Nat) : Int) else ((pc8 (m &&& (knwF T i)) : Nat) : Int)))] dX10_ask_96 rfl (by decide) rfl ?_
        refine wp_iload (pc := 98) dX10_ask_98 rfl ?_
        refine wq_istore (pc := 100) [some (vR 0), some (vI w), some (vI k), some (vI (m : Int)), some (vI (i : Int)), some (vI (if ((pc8 (m &&& (knwF T i)) : Nat) : Int) < ((pc8 m : Nat) : Int) - ((pc8 (m &&& (knwF T i)) : Nat) : Int) then ((pc8 m : Nat) : Int) - ((pc8 (m &&& (knwF T i)) : Nat) : Int) else ((pc8 (m &&& (knwF T i)) : Nat) : Int))), some (vI (i : Int)), some (vI ((pc8 (m &&& (knwF T i)) : Nat) : Int)), some (vI (if ((pc8 (m &&& (knwF T i)) : Nat) : Int) < ((pc8 m : Nat) : Int) - ((pc8 (m &&& (knwF T i)) : Nat) : Int) then ((pc8 m : Nat) : Int) - ((pc8 (m &&& (knwF T i)) : Nat) : Int) else ((pc8 (m &&& (knwF T i)) : Nat) : Int)))] dX10_ask_100 rfl (by decide) rfl ?_
        refine wq_iinc (pc := 102) [some (vR 0), some (vI w), some (vI k), some (vI (m : Int)), some (vI (i : Int)), some (vI (if ((pc8 (m &&& (knwF T i)) : Nat) : Int) < ((pc8 m : Nat) : Int) - ((pc8 (m &&& (knwF T i)) : Nat) : Int) then ((pc8 m : Nat) : Int) - ((pc8 (m &&& (knwF T i)) : Nat) : Int) else ((pc8 (m &&& (knwF T i)) : Nat) : Int))), some (vI ((i : Int) + 1)), some (vI ((pc8 (m &&& (knwF T i)) : Nat) : Int)), some (vI (if ((pc8 (m &&& (knwF T i)) : Nat) : Int) < ((pc8 m : Nat) : Int) - ((pc8 (m &&& (knwF T i)) : Nat) : Int) then ((pc8 m : Nat) : Int) - ((pc8 (m &&& (knwF T i)) : Nat) : Int) else ((pc8 (m &&& (knwF T i)) : Nat) : Int)))] dX10_ask_102 rfl rfl (by decide) rfl ?_
        refine wp_goto (pc := 105) 42 dX10_ask_105 (by decide) ?_
        refine wp_none 7 [some (vR 0), some (vI w), some (vI k), some (vI (m : Int)), some (vI (i : Int)), some (vI (if ((pc8 (m &&& (knwF T i)) : Nat) : Int) < ((pc8 m : Nat) : Int) - ((pc8 (m &&& (knwF T i)) : Nat) : Int) then ((pc8 m : Nat) : Int) - ((pc8 (m &&& (knwF T i)) : Nat) : Int) else ((pc8 (m &&& (knwF T i)) : Nat) : Int))), some (vI ((i : Int) + 1)), none, some (vI (if ((pc8 (m &&& (knwF T i)) : Nat) : Int) < ((pc8 m : Nat) : Int) - ((pc8 (m &&& (knwF T i)) : Nat) : Int) then ((pc8 m : Nat) : Int) - ((pc8 (m &&& (knwF T i)) : Nat) : Int) else ((pc8 (m &&& (knwF T i)) : Nat) : Int)))] rfl ?_
        refine wp_none 8 [some (vR 0), some (vI w), some (vI k), some (vI (m : Int)), some (vI (i : Int)), some (vI (if ((pc8 (m &&& (knwF T i)) : Nat) : Int) < ((pc8 m : Nat) : Int) - ((pc8 (m &&& (knwF T i)) : Nat) : Int) then ((pc8 m : Nat) : Int) - ((pc8 (m &&& (knwF T i)) : Nat) : Int) else ((pc8 (m &&& (knwF T i)) : Nat) : Int))), some (vI ((i : Int) + 1)), none, none] rfl ?_
        refine wp_eqls (ls' := [some (vR 0), some (vI w), some (vI k), some (vI (m : Int)), some (vI ((askN T m (i + 1)).1)), some (vI ((askN T m (i + 1)).2)), some (vI (((i + 1) : Nat) : Int)), none, none]) (by rw [show askN T m (i + 1) = ((i : Int), mostF T m i) from if_pos h_2]; rfl) ih

theorem sp_ask {l : Launch} {G : mG} {d : Nat} {I : mI} {L : Nat → Nat → Int} {D : Nat → Nat} {Q : mQ} {T : mT} {S : mS} {Z : mT} {w k : Int}  (hC : CI I D T S Z) (h_w : inR w) (h_k : inR k) (hd : 4 ≤ d) (hQ : Q (some (vI (askA T (meantF T S Z k) w))) I (XX L D)) : WP l G m_X10_ask d 153 I (XX L D) 0 [some (vR 0), some (vI w), some (vI k), none, none, none, none, none, none] [] Q := by
  have hC := hC
  obtain ⟨hD0, h30, hT0, hS, hZ, hw, hv, hz, hrd, hcd⟩ := id hC
  have h3 : isT (D 3) := by rw [h30]; exact hD0
  have hT : TT I (D 3) = T := by rw [h30]; exact hT0
  have b_p := tw_p hw
  have b_c := tw_c hw
  have b_q := tw_q hw
  have b_s := sw_sun hv
  have b_m := meantF_lt hw S Z k
  refine wp_aload_n (pc := 0) 0 dX10_ask_0 rfl rfl ?_
  refine wp_getr (pc := 1) dX10_ask_1 rfl f_X10_75 kd_0 la_0 rfl (r_0_10 D) ?_
  refine wp_aload_n (pc := 4) 0 dX10_ask_4 rfl rfl ?_
  refine wp_getr (pc := 5) dX10_ask_5 rfl f_X10_10 kd_0 la_0 rfl (r_0_0 D) ?_
  refine wp_aload_n (pc := 8) 0 dX10_ask_8 rfl rfl ?_
  refine wp_getr (pc := 9) dX10_ask_9 rfl f_X10_47 kd_0 la_0 rfl (r_0_5 D) ?_
  refine wp_iload_n (pc := 12) 2 dX10_ask_12 rfl rfl ?_
  refine wp_callV (pc := 13) (st := []) (nf' := 153) [vR (D 0), vR 47, vI k] [some (vR 104), some (vR (D 0)), some (vR 47), some (vI k), none, none] dX10_ask_13 rfl c_X10_290 rfl kd_104 (by decide) rfl la_104 rfl (Nat.le_of_ble_eq_true rfl) rfl (Nat.le_of_ble_eq_true rfl) (by omega) (Nat.le_refl _) (Nat.le_refl _) ?_
  refine sp_fitting hD0 is47 hT0 hS hw hv hZ hz (by omega) (by omega) ?_
  refine wp_eqst (st' := [vI ((meantF T S Z k : Nat) : Int)]) rfl ?_
  refine wq_istore_n (pc := 16) 3 [some (vR 0), some (vI w), some (vI k), some (vI ((meantF T S Z k : Nat) : Int)), none, none, none, none, none] dX10_ask_16 rfl rfl (by decide) rfl ?_
  refine wp_iload_n (pc := 17) 3 dX10_ask_17 rfl rfl ?_
  refine wp_if_eq (pc := 18) 30 dX10_ask_18 (by decide) (by omega) (fun h_1 => ?_) (fun h_1 => ?_)
  · refine wp_iconst (pc := 30) dX10_ask_30 ?_
    refine wp_iret (pc := 31) dX10_ask_31 rfl rfl ?_
    have e1 : askA T (meantF T S Z k) w = -1 := if_neg (by omega)
    rw [e1] at hQ; exact hQ
  · refine wp_iload_n (pc := 21) 1 dX10_ask_21 rfl rfl ?_
    refine wp_if_lt (pc := 22) 30 dX10_ask_22 (by decide) (by omega) (fun h_2 => ?_) (fun h_2 => ?_)
    · refine wp_iconst (pc := 30) dX10_ask_30 ?_
      refine wp_iret (pc := 31) dX10_ask_31 rfl rfl ?_
      have e1 : askA T (meantF T S Z k) w = -1 := if_neg (by omega)
      rw [e1] at hQ; exact hQ
    · refine wp_iload_n (pc := 25) 1 dX10_ask_25 rfl rfl ?_
      refine wp_iconst (pc := 26) dX10_ask_26 ?_
      refine wp_icmp_le (pc := 27) 32 dX10_ask_27 (by decide) (by omega) (by decide) (fun h_3 => ?_) (fun h_3 => ?_)
      · refine wp_iconst (pc := 32) dX10_ask_32 ?_
        refine wq_istore (pc := 33) [some (vR 0), some (vI w), some (vI k), some (vI ((meantF T S Z k : Nat) : Int)), some (vI (-1)), none, none, none, none] dX10_ask_33 rfl (by decide) rfl ?_
        refine wp_bipush (pc := 35) dX10_ask_35 (by decide) ?_
        refine wq_istore (pc := 37) [some (vR 0), some (vI w), some (vI k), some (vI ((meantF T S Z k : Nat) : Int)), some (vI (-1)), some (vI 9), none, none, none] dX10_ask_37 rfl (by decide) rfl ?_
        refine wp_iconst (pc := 39) dX10_ask_39 ?_
        refine wq_istore (pc := 40) [some (vR 0), some (vI w), some (vI k), some (vI ((meantF T S Z k : Nat) : Int)), some (vI (-1)), some (vI 9), some (vI 0), none, none] dX10_ask_40 rfl (by decide) rfl ?_
        exact lp_ask hC h_w h_k (meantF_lt hw S Z k) (by omega) hd hQ 0 (Nat.zero_le _)
      · refine wp_iconst (pc := 30) dX10_ask_30 ?_
        refine wp_iret (pc := 31) dX10_ask_31 rfl rfl ?_
        have e1 : askA T (meantF T S Z k) w = -1 := if_neg (by omega)
        rw [e1] at hQ; exact hQ

theorem sp_about {l : Launch} {G : mG} {d : Nat} {I : mI} {L : Nat → Nat → Int} {D : Nat → Nat} {Q : mQ} {T : mT} {S : mS} {Z : mT} {w : Int}  (hC : CI I D T S Z) (h_w : inR w) (hd : 2 ≤ d) (hQ : Q (some (vI (aboutA T S Z (I 51 2) (I 51 3) (I 41 3) w))) I (XX L D)) : WP l G m_X10_about d 153 I (XX L D) 0 [some (vR 0), some (vI w)] [] Q := by
  obtain ⟨hD0, h30, hT0, hS, hZ, hw, hv, hz, hrd, hcd⟩ := hC
  have h3 : isT (D 3) := by rw [h30]; exact hD0
  have hT : TT I (D 3) = T := by rw [h30]; exact hT0
  have b_p := tw_p hw
  have b_c := tw_c hw
  have b_q := tw_q hw
  have b_s := sw_sun hv
  refine wp_iload_n (pc := 0) 1 dX10_about_0 rfl rfl ?_
  by_cases h_1 : w = 0
  · refine wp_tin (pc := 1) 0 68 dX10_about_1 (by omega) (by rw [h_1]; decide) (by decide) rfl (by decide) ?_
    refine wp_aload_n (pc := 68) 0 dX10_about_68 rfl rfl ?_
    refine wp_getr (pc := 69) dX10_about_69 rfl f_X10_10 kd_0 la_0 rfl (r_0_0 D) ?_
    refine wp_geti (pc := 72) dX10_about_72 rfl f_X10_108 (tk_0 hD0) (tl_0 hD0) (Or.inl rfl) ?_
    refine wp_eqst (st' := [vI (T 0 12)]) (by rw [← hT0] <;> rfl) ?_
    refine wp_iret (pc := 75) dX10_about_75 rfl rfl ?_
    have e1 : aboutA T S Z (I 51 2) (I 51 3) (I 41 3) w = T 0 12 := by
      unfold aboutA; rw [h_1]; rfl
    rw [e1] at hQ; exact hQ
  by_cases h_2 : w = 1
  · refine wp_tin (pc := 1) 1 76 dX10_about_1 (by omega) (by rw [h_2]; decide) (by decide) rfl (by decide) ?_
    refine wp_aload_n (pc := 76) 0 dX10_about_76 rfl rfl ?_
    refine wp_getr (pc := 77) dX10_about_77 rfl f_X10_10 kd_0 la_0 rfl (r_0_0 D) ?_
    refine wp_geti (pc := 80) dX10_about_80 rfl f_X10_253 (tk_0 hD0) (tl_0 hD0) (Or.inl rfl) ?_
    refine wp_eqst (st' := [vI (T 0 11)]) (by rw [← hT0] <;> rfl) ?_
    refine wp_iret (pc := 83) dX10_about_83 rfl rfl ?_
    have e1 : aboutA T S Z (I 51 2) (I 51 3) (I 41 3) w = T 0 11 := by
      unfold aboutA; rw [h_2]; rfl
    rw [e1] at hQ; exact hQ
  by_cases h_3 : w = 2
  · refine wp_tin (pc := 1) 2 84 dX10_about_1 (by omega) (by rw [h_3]; decide) (by decide) rfl (by decide) ?_
    refine wp_aload_n (pc := 84) 0 dX10_about_84 rfl rfl ?_
    refine wp_getr (pc := 85) dX10_about_85 rfl f_X10_10 kd_0 la_0 rfl (r_0_0 D) ?_
    refine wp_geti (pc := 88) dX10_about_88 rfl f_X10_308 (tk_0 hD0) (tl_0 hD0) (Or.inl rfl) ?_
    refine wp_eqst (st' := [vI (T 0 13)]) (by rw [← hT0] <;> rfl) ?_
    refine wp_iret (pc := 91) dX10_about_91 rfl rfl ?_
    have e1 : aboutA T S Z (I 51 2) (I 51 3) (I 41 3) w = T 0 13 := by
      unfold aboutA; rw [h_3]; rfl
    rw [e1] at hQ; exact hQ
  by_cases h_4 : w = 3
  · refine wp_tin (pc := 1) 3 92 dX10_about_1 (by omega) (by rw [h_4]; decide) (by decide) rfl (by decide) ?_
    refine wp_aload_n (pc := 92) 0 dX10_about_92 rfl rfl ?_
    refine wp_getr (pc := 93) dX10_about_93 rfl f_X10_47 kd_0 la_0 rfl (r_0_5 D) ?_
    refine wp_callV (pc := 96) (st := []) (nf' := 153) [] [some (vR 47)] dX10_about_96 rfl c_X10_232 rfl kd_47 (by decide) rfl la_47 rfl (Nat.le_of_ble_eq_true rfl) rfl (Nat.le_of_ble_eq_true rfl) (by omega) (Nat.le_refl _) (Nat.le_refl _) ?_
    refine wp_aload_n (pc := 0) 0 dX7_sundays_0 rfl rfl ?_
    refine wp_getr (pc := 1) dX7_sundays_1 rfl f_X7_11 kd_47 la_47 rfl (r_47_0 D) ?_
    refine wp_bipush (pc := 4) dX7_sundays_4 (by decide) ?_
    refine wq_iald (pc := 6) 28 dX7_sundays_6 kd_48 la_48 rfl (by decide) ?_
    refine wp_eqst (st' := [vI (S 28)]) (by rw [← hS] <;> rfl) ?_
    refine wp_iret (pc := 7) dX7_sundays_7 rfl rfl ?_
    refine wp_eqst (st' := [vI (S 28)]) rfl ?_
    refine wp_iret (pc := 99) dX10_about_99 rfl rfl ?_
    have e1 : aboutA T S Z (I 51 2) (I 51 3) (I 41 3) w = S 28 := by
      unfold aboutA; rw [h_4]; rfl
    rw [e1] at hQ; exact hQ
  by_cases h_5 : w = 4
  · refine wp_tin (pc := 1) 4 100 dX10_about_1 (by omega) (by rw [h_5]; decide) (by decide) rfl (by decide) ?_
    refine wp_aload_n (pc := 100) 0 dX10_about_100 rfl rfl ?_
    refine wp_getr (pc := 101) dX10_about_101 rfl f_X10_47 kd_0 la_0 rfl (r_0_5 D) ?_
    refine wp_callV (pc := 104) (st := []) (nf' := 153) [] [some (vR 47)] dX10_about_104 rfl c_X10_311 rfl kd_47 (by decide) rfl la_47 rfl (Nat.le_of_ble_eq_true rfl) rfl (Nat.le_of_ble_eq_true rfl) (by omega) (Nat.le_refl _) (Nat.le_refl _) ?_
    refine wp_aload_n (pc := 0) 0 dX7_seed_0 rfl rfl ?_
    refine wp_getr (pc := 1) dX7_seed_1 rfl f_X7_11 kd_47 la_47 rfl (r_47_0 D) ?_
    refine wp_bipush (pc := 4) dX7_seed_4 (by decide) ?_
    refine wq_iald (pc := 6) 29 dX7_seed_6 kd_48 la_48 rfl (by decide) ?_
    refine wp_eqst (st' := [vI (S 29)]) (by rw [← hS] <;> rfl) ?_
    refine wp_iret (pc := 7) dX7_seed_7 rfl rfl ?_
    refine wp_eqst (st' := [vI (S 29)]) rfl ?_
    refine wp_iret (pc := 107) dX10_about_107 rfl rfl ?_
    have e1 : aboutA T S Z (I 51 2) (I 51 3) (I 41 3) w = S 29 := by
      unfold aboutA; rw [h_5]; rfl
    rw [e1] at hQ; exact hQ
  by_cases h_6 : w = 5
  · refine wp_tin (pc := 1) 5 108 dX10_about_1 (by omega) (by rw [h_6]; decide) (by decide) rfl (by decide) ?_
    refine wp_aload_n (pc := 108) 0 dX10_about_108 rfl rfl ?_
    refine wp_getr (pc := 109) dX10_about_109 rfl f_X10_47 kd_0 la_0 rfl (r_0_5 D) ?_
    refine wp_iconst (pc := 112) dX10_about_112 ?_
    refine wp_callV (pc := 113) (st := []) (nf' := 153) [vI 1] [some (vR 47), some (vI 1), none, none] dX10_about_113 rfl c_X10_314 rfl kd_47 (by decide) rfl la_47 rfl (Nat.le_of_ble_eq_true rfl) rfl (Nat.le_of_ble_eq_true rfl) (by omega) (Nat.le_refl _) (Nat.le_refl _) ?_
    refine sp_thatAre is47 hS hv (by omega) (by omega) ?_
    refine wp_eqst (st' := [vI ((thatAre S 1 : Nat) : Int)]) rfl ?_
    refine wp_iret (pc := 116) dX10_about_116 rfl rfl ?_
    have e1 : aboutA T S Z (I 51 2) (I 51 3) (I 41 3) w = ((thatAre S 1 : Nat) : Int) := by
      unfold aboutA; rw [h_6]; rfl
    rw [e1] at hQ; exact hQ
  by_cases h_7 : w = 6
  · refine wp_tin (pc := 1) 6 117 dX10_about_1 (by omega) (by rw [h_7]; decide) (by decide) rfl (by decide) ?_
    refine wp_aload_n (pc := 117) 0 dX10_about_117 rfl rfl ?_
    refine wp_getr (pc := 118) dX10_about_118 rfl f_X10_47 kd_0 la_0 rfl (r_0_5 D) ?_
    refine wp_iconst (pc := 121) dX10_about_121 ?_
    refine wp_callV (pc := 122) (st := []) (nf' := 153) [vI 2] [some (vR 47), some (vI 2), none, none] dX10_about_122 rfl c_X10_314 rfl kd_47 (by decide) rfl la_47 rfl (Nat.le_of_ble_eq_true rfl) rfl (Nat.le_of_ble_eq_true rfl) (by omega) (Nat.le_refl _) (Nat.le_refl _) ?_
    refine sp_thatAre is47 hS hv (by omega) (by omega) ?_
    refine wp_eqst (st' := [vI ((thatAre S 2 : Nat) : Int)]) rfl ?_
    refine wp_iret (pc := 125) dX10_about_125 rfl rfl ?_
    have e1 : aboutA T S Z (I 51 2) (I 51 3) (I 41 3) w = ((thatAre S 2 : Nat) : Int) := by
      unfold aboutA; rw [h_7]; rfl
    rw [e1] at hQ; exact hQ
  by_cases h_8 : w = 7
  · refine wp_tin (pc := 1) 7 126 dX10_about_1 (by omega) (by rw [h_8]; decide) (by decide) rfl (by decide) ?_
    refine wp_aload_n (pc := 126) 0 dX10_about_126 rfl rfl ?_
    refine wp_getr (pc := 127) dX10_about_127 rfl f_X10_57 kd_0 la_0 rfl (r_0_7 D) ?_
    refine wp_geti (pc := 130) dX10_about_130 rfl f_X10_317 kd_51 la_51 (Or.inl rfl) ?_
    refine wp_iret (pc := 133) dX10_about_133 rfl rfl ?_
    have e1 : aboutA T S Z (I 51 2) (I 51 3) (I 41 3) w = I 51 2 := by
      unfold aboutA; rw [h_8]; rfl
    rw [e1] at hQ; exact hQ
  by_cases h_9 : w = 8
  · refine wp_tin (pc := 1) 8 134 dX10_about_1 (by omega) (by rw [h_9]; decide) (by decide) rfl (by decide) ?_
    refine wp_aload_n (pc := 134) 0 dX10_about_134 rfl rfl ?_
    refine wp_getr (pc := 135) dX10_about_135 rfl f_X10_57 kd_0 la_0 rfl (r_0_7 D) ?_
    refine wp_geti (pc := 138) dX10_about_138 rfl f_X10_320 kd_51 la_51 (Or.inl rfl) ?_
    refine wp_aload_n (pc := 141) 0 dX10_about_141 rfl rfl ?_
    refine wp_getr (pc := 142) dX10_about_142 rfl f_X10_57 kd_0 la_0 rfl (r_0_7 D) ?_
    refine wp_geti (pc := 145) dX10_about_145 rfl f_X10_317 kd_51 la_51 (Or.inl rfl) ?_
    refine wp_isub (pc := 148) dX10_about_148 ?_
    refine wp_iret (pc := 149) dX10_about_149 rfl rfl ?_
    have e1 : aboutA T S Z (I 51 2) (I 51 3) (I 41 3) w = (I 51 3) - (I 51 2) := by
      unfold aboutA; rw [h_9]; rfl
    rw [e1] at hQ; exact hQ
  by_cases h_10 : w = 9
  · refine wp_tin (pc := 1) 9 150 dX10_about_1 (by omega) (by rw [h_10]; decide) (by decide) rfl (by decide) ?_
    refine wp_aload_n (pc := 150) 0 dX10_about_150 rfl rfl ?_
    refine wp_getr (pc := 151) dX10_about_151 rfl f_X10_75 kd_0 la_0 rfl (r_0_10 D) ?_
    refine wp_geti (pc := 154) dX10_about_154 rfl f_X10_323 kd_104 la_104 (Or.inl rfl) ?_
    refine wp_eqst (st' := [vI ((Z 0) 6)]) (by rw [← hZ] <;> rfl) ?_
    refine wp_iret (pc := 157) dX10_about_157 rfl rfl ?_
    have e1 : aboutA T S Z (I 51 2) (I 51 3) (I 41 3) w = (Z 0) 6 := by
      unfold aboutA; rw [h_10]; rfl
    rw [e1] at hQ; exact hQ
  by_cases h_11 : w = 10
  · refine wp_tin (pc := 1) 10 158 dX10_about_1 (by omega) (by rw [h_11]; decide) (by decide) rfl (by decide) ?_
    refine wp_aload_n (pc := 158) 0 dX10_about_158 rfl rfl ?_
    refine wp_getr (pc := 159) dX10_about_159 rfl f_X10_75 kd_0 la_0 rfl (r_0_10 D) ?_
    refine wp_geti (pc := 162) dX10_about_162 rfl f_X10_326 kd_104 la_104 (Or.inl rfl) ?_
    refine wp_eqst (st' := [vI ((Z 0) 7)]) (by rw [← hZ] <;> rfl) ?_
    refine wp_iret (pc := 165) dX10_about_165 rfl rfl ?_
    have e1 : aboutA T S Z (I 51 2) (I 51 3) (I 41 3) w = (Z 0) 7 := by
      unfold aboutA; rw [h_11]; rfl
    rw [e1] at hQ; exact hQ
  by_cases h_12 : w = 11
  · refine wp_tin (pc := 1) 11 166 dX10_about_1 (by omega) (by rw [h_12]; decide) (by decide) rfl (by decide) ?_
    refine wp_aload_n (pc := 166) 0 dX10_about_166 rfl rfl ?_
    refine wp_getr (pc := 167) dX10_about_167 rfl f_X10_22 kd_0 la_0 rfl (r_0_2 D) ?_
    refine wp_geti (pc := 170) dX10_about_170 rfl f_X10_90 kd_41 la_41 (Or.inl rfl) ?_
    refine wp_iret (pc := 173) dX10_about_173 rfl rfl ?_
    have e1 : aboutA T S Z (I 51 2) (I 51 3) (I 41 3) w = I 41 3 := by
      unfold aboutA; rw [h_12]; rfl
    rw [e1] at hQ; exact hQ
  by_cases h_13 : w = 12
  · refine wp_tin (pc := 1) 12 174 dX10_about_1 (by omega) (by rw [h_13]; decide) (by decide) rfl (by decide) ?_
    refine wp_aload_n (pc := 174) 0 dX10_about_174 rfl rfl ?_
    refine wp_getr (pc := 175) dX10_about_175 rfl f_X10_10 kd_0 la_0 rfl (r_0_0 D) ?_
    refine wp_getr (pc := 178) dX10_about_178 rfl f_X10_329 (tk_0 hD0) (tl_0 hD0) rfl (tr_0_10 D hD0) ?_
    refine wp_geti (pc := 181) dX10_about_181 rfl f_X10_333 (tk_17 hD0) (tl_17 hD0) (Or.inl rfl) ?_
    refine wp_eqst (st' := [vI (T 17 3)]) (by rw [← hT0] <;> rfl) ?_
    refine wp_iret (pc := 184) dX10_about_184 rfl rfl ?_
    have e1 : aboutA T S Z (I 51 2) (I 51 3) (I 41 3) w = T 17 3 := by
      unfold aboutA; rw [h_13]; rfl
    rw [e1] at hQ; exact hQ
  refine wp_tout (pc := 1) 185 dX10_about_1 (by omega) (by omega) (by decide) ?_
  refine wp_iconst (pc := 185) dX10_about_185 ?_
  refine wp_iret (pc := 186) dX10_about_186 rfl rfl ?_
  have e1 : aboutA T S Z (I 51 2) (I 51 3) (I 41 3) w = (-1) := by
    unfold aboutA; repeat rw [if_neg (by omega)]
  rw [e1] at hQ; exact hQ

def faultA (x y w : Int) : Int := if w = 0 then x else if w = 1 then y else -1
theorem sp_fault {l : Launch} {G : mG} {d : Nat} {I : mI} {L : Nat → Nat → Int} {D : Nat → Nat} {Q : mQ} {T : mT} {S : mS} {Z : mT} {w : Int}  (hC : CI I D T S Z) (h_w : inR w) (hd : 0 ≤ d) (hQ : Q (some (vI (faultA (I 44 3) (I 44 4) w))) I (XX L D)) : WP l G m_X10_fault d 153 I (XX L D) 0 [some (vR 0), some (vI w)] [] Q := by
  obtain ⟨hD0, h30, hT0, hS, hZ, hw, hv, hz, hrd, hcd⟩ := hC
  have h3 : isT (D 3) := by rw [h30]; exact hD0
  have hT : TT I (D 3) = T := by rw [h30]; exact hT0
  have b_p := tw_p hw
  have b_c := tw_c hw
  have b_q := tw_q hw
  have b_s := sw_sun hv
  refine wp_iload_n (pc := 0) 1 dX10_fault_0 rfl rfl ?_
  by_cases h_1 : w = 0
  · refine wp_lsw (pc := 1) 28 dX10_fault_1 (by omega) (by decide) (by rw [h_1] <;> decide) (by decide) ?_
    refine wp_aload_n (pc := 28) 0 dX10_fault_28 rfl rfl ?_
    refine wp_getr (pc := 29) dX10_fault_29 rfl f_X10_31 kd_0 la_0 rfl (r_0_3 D) ?_
    refine wp_geti (pc := 32) dX10_fault_32 rfl f_X10_116 kd_44 la_44 (Or.inl rfl) ?_
    refine wp_iret (pc := 35) dX10_fault_35 rfl rfl ?_
    have e1 : faultA (I 44 3) (I 44 4) w = I 44 3 := by
      unfold faultA; rw [h_1]; rfl
    rw [e1] at hQ; exact hQ
  by_cases h_2 : w = 1
  · refine wp_lsw (pc := 1) 36 dX10_fault_1 (by omega) (by decide) (by rw [h_2] <;> decide) (by decide) ?_
    refine wp_aload_n (pc := 36) 0 dX10_fault_36 rfl rfl ?_
    refine wp_getr (pc := 37) dX10_fault_37 rfl f_X10_31 kd_0 la_0 rfl (r_0_3 D) ?_
    refine wp_geti (pc := 40) dX10_fault_40 rfl f_X10_119 kd_44 la_44 (Or.inl rfl) ?_
    refine wp_iret (pc := 43) dX10_fault_43 rfl rfl ?_
    have e1 : faultA (I 44 3) (I 44 4) w = I 44 4 := by
      unfold faultA; rw [h_2]; rfl
    rw [e1] at hQ; exact hQ
  refine wp_lsw (pc := 1) (off := 43) 44 dX10_fault_1 (by omega) (by decide) (by simp only [Op.lookupswitch.offset_cons, Op.lookupswitch.offset]; repeat rw [if_neg (by omega)]) (by decide) ?_
  refine wp_iconst (pc := 44) dX10_fault_44 ?_
  refine wp_iret (pc := 45) dX10_fault_45 rfl rfl ?_
  have e1 : faultA (I 44 3) (I 44 4) w = (-1) := by
    unfold faultA; repeat rw [if_neg (by omega)]
  rw [e1] at hQ; exact hQ
