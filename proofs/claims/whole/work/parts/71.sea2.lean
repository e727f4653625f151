/-! the class's Season: Sundays pass -/
abbrev isP (a : Nat) : Prop := a = 102 ∨ a = 103
theorem pk {a : Nat} (h : isP a) : kd a = (20, 32) := by rcases h with rfl | rfl <;> rfl
theorem pl {a : Nat} (h : isP a) : a < 153 := by rcases h with rfl | rfl <;> decide
/-- the two rows of marks -/
def h45 (D : Nat → Nat) : Prop := (D 4 = 102 ∧ D 5 = 103) ∨ (D 4 = 103 ∧ D 5 = 102)
theorem h45.a {D : Nat → Nat} (h : h45 D) : isP (D 4) := by rcases h with h | h <;> omega
theorem h45.b {D : Nat → Nat} (h : h45 D) : isP (D 5) := by rcases h with h | h <;> omega
theorem h45.ne {D : Nat → Nat} (h : h45 D) : D 4 ≠ D 5 := by rcases h with h | h <;> omega
def swp (D : Nat → Nat) : Nat → Nat := dset (dset D 4 (D 5)) 5 (D 4)
theorem swp_45 {D : Nat → Nat} (h : h45 D) : h45 (swp D) := by
  show (D 5 = 102 ∧ D 4 = 103) ∨ (D 5 = 103 ∧ D 4 = 102)
  rcases h with h | h <;> omega
/-- all but Season's own cells is as it was -/
def Fs (I J : mI) : Prop := ∀ b, b ≠ 101 → b ≠ 102 → b ≠ 103 → J b = I b
theorem Fs.trans {I J K : mI} (h : Fs I J) (h2 : Fs J K) : Fs I K := fun b a1 a2 a3 => (h2 b a1 a2 a3).trans (h b a1 a2 a3)
theorem Fs.tt {I J : mI} {t : Nat} {T : mT} (h : Fs I J) (ht : isT t) (hT : TT I t = T) : TT J t = T := by
  rw [← hT]
  funext k j
  unfold TT
  split
  · rw [h (t + k) (by rcases ht with rfl | rfl <;> omega) (by rcases ht with rfl | rfl <;> omega) (by rcases ht with rfl | rfl <;> omega)]
  · rfl
theorem Fs.ss {I J : mI} {s : Nat} {S : mS} (h : Fs I J) (hs : isS s) (hS : SS I s = S) : SS J s = S := by
  rw [← hS]
  funext j
  show J (s + 1) j = I (s + 1) j
  rw [h (s + 1) (by rcases hs with rfl | rfl | rfl | rfl | rfl <;> decide) (by rcases hs with rfl | rfl | rfl | rfl | rfl <;> decide) (by rcases hs with rfl | rfl | rfl | rfl | rfl <;> decide)]
theorem Fs.uc {I : mI} {a : Nat} {g : Nat → Int} (h : isP a) : Fs I (upc I a g) := fun b _ a2 a3 => funext fun j => upc_c (by rcases h with rfl | rfl <;> assumption)
theorem wp_gen {l : Launch} {G : mG} {μ : mM} {d nf : Nat} {I : mI} {X : mX} {pc : Nat} {ls : List (Option mV)} {st : List mV} {Q : mQ} (P : mI → Prop) (h : P I) (k : ∀ K, P K → WP l G μ d nf K X pc ls st Q) : WP l G μ d nf I X pc ls st Q := k I h
theorem frA_y {fz rd d n e : Nat} (h : okS fz rd n) : fromA fz rd d (n + 1) e ↔ fromA fz rd d n e ∨ e = d - onN n 5 := by
  constructor
  · rintro ⟨s, h1, h2, h3⟩
    by_cases z : s = n
    · subst z; exact Or.inr h3
    · exact Or.inl ⟨s, by omega, h2, h3⟩
  · rintro (⟨s, h1, h2, h3⟩ | h3)
    · exact ⟨s, by omega, h2, h3⟩
    · exact ⟨n, by omega, h, h3⟩
theorem frA_n {fz rd d n e : Nat} (h : ¬ okS fz rd n) : fromA fz rd d (n + 1) e ↔ fromA fz rd d n e := by
  constructor
  · rintro ⟨s, h1, h2, h3⟩
    by_cases z : s = n
    · subst z; exact absurd h2 h
    · exact ⟨s, by omega, h2, h3⟩
  · rintro ⟨s, h1, h2, h3⟩
    exact ⟨s, by omega, h2, h3⟩
theorem stA_y {fz rp n e : Nat} {A : Nat → Prop} (h : A n) : stepA fz rp A (n + 1) e ↔ stepA fz rp A n e ∨ fromA fz (rp &&& unf n) n 32 e := by
  constructor
  · rintro ⟨d, h1, h2, h3⟩
    by_cases z : d = n
    · subst z; exact Or.inr h3
    · exact Or.inl ⟨d, by omega, h2, h3⟩
  · rintro (⟨d, h1, h2, h3⟩ | h3)
    · exact ⟨d, by omega, h2, h3⟩
    · exact ⟨n, by omega, h, h3⟩
theorem stA_n {fz rp n e : Nat} {A : Nat → Prop} (m : Nat) (hm : n ≤ m) (h : ∀ d, n ≤ d → d < m → ¬ A d) : stepA fz rp A m e ↔ stepA fz rp A n e := by
  constructor
  · rintro ⟨d, h1, h2, h3⟩
    exact ⟨d, Classical.byContradiction (fun z => h d (by omega) h1 h2), h2, h3⟩
  · rintro ⟨d, h1, h2, h3⟩
    exact ⟨d, by omega, h2, h3⟩
theorem stA_0 {fz rp e : Nat} {A : Nat → Prop} : ¬ stepA fz rp A 0 e := fun ⟨d, h, _⟩ => Nat.not_lt_zero d h

theorem lp_readFrom {l : Launch} {G : mG} {d : Nat} {I : mI} {L : Nat → Nat → Int} {D : Nat → Nat} {Q : mQ} {fz n r : Nat} {A : Nat → Prop} (h5 : isP (D 5)) (hf : I 101 2 = (fz : Int)) (hz : fz < 4294967296) (hn : n < 1024) (hr : r < 32) (hru : ∀ q, r.testBit q = true → (unf n).testBit q = true) (hd : 2 ≤ d) (hQ : ∀ g, RM g (fun e => A e ∨ fromA fz r n 32 e) → Q none (upc I (D 5) g) (XX L D)) : ∀ i : Nat, i ≤ 32 → ∀ g, RM g (fun e => A e ∨ fromA fz r n i e) → WP l G m_X6_readFrom d 153 (upc I (D 5) g) (XX L D) 2 [some (vR 101), some (vI (n : Int)), some (vI (r : Int)), some (vI (i : Int))] [] Q := by
  have g5 : D 5 = 102 ∨ D 5 = 103 := h5
  refine loop_dn (fun i => ∀ g, RM g (fun e => A e ∨ fromA fz r n i e) → WP l G m_X6_readFrom d 153 (upc I (D 5) g) (XX L D) 2 [some (vR 101), some (vI (n : Int)), some (vI (r : Int)), some (vI (i : Int))] [] Q) 32 ?_ (fun i hi ih => ?_)
  · intro g hg
    refine wp_iload_n (pc := 2) 3 dX6_readFrom_2 rfl rfl ?_
    refine wp_bipush (pc := 3) dX6_readFrom_3 (by decide) ?_
    refine wp_icmp_ge (pc := 5) 52 dX6_readFrom_5 (by decide) (by decide) (by decide) (fun _ => ?_) (fun hh => absurd hh (by decide))
    refine wp_vret (pc := 52) dX6_readFrom_52 rfl rfl ?_
    exact hQ g hg
  · intro g hg
    have b1 := onN_lt i hi 5 (by decide)
    have b2 : dif i r < 32 := dif_lt (n := 5) hi
    refine wp_iload_n (pc := 2) 3 dX6_readFrom_2 rfl rfl ?_
    refine wp_bipush (pc := 3) dX6_readFrom_3 (by decide) ?_
    refine wp_icmp_ge (pc := 5) 52 dX6_readFrom_5 (by decide) (by omega) (by decide) (fun h_1 => ?_) (fun h_1 => ?_)
    · exfalso; omega
    · refine wp_iload_n (pc := 8) 3 dX6_readFrom_8 rfl rfl ?_
      refine wp_iload_n (pc := 9) 2 dX6_readFrom_9 rfl rfl ?_
      refine wp_iconst (pc := 10) dX6_readFrom_10 ?_
      refine wp_inot (pc := 11) dX6_readFrom_11 ?_
      refine wn_andn (pc := 12) i r dX6_readFrom_12 rfl (by omega) ?_
      refine wp_if_ne (pc := 13) 46 dX6_readFrom_13 (by decide) (by omega) (fun h_2 => ?_) (fun h_2 => ?_)
      · refine wq_iinc (pc := 46) [some (vR 101), some (vI (n : Int)), some (vI (r : Int)), some (vI ((i : Int) + 1))] dX6_readFrom_46 rfl rfl (by decide) rfl ?_
        refine wp_goto (pc := 49) 2 dX6_readFrom_49 (by decide) ?_
        exact wp_eqls (ls' := [some (vR 101), some (vI (n : Int)), some (vI (r : Int)), some (vI (((i + 1) : Nat) : Int))]) rfl (ih g (hg.congr (fun e _ => by rw [frA_n (h := fun x => h_2 (by rw [x.1]; rfl))])))
      · refine wp_aload_n (pc := 16) 0 dX6_readFrom_16 rfl rfl ?_
        refine wp_iload_n (pc := 17) 3 dX6_readFrom_17 rfl rfl ?_
        refine wp_callV (pc := 18) (st := []) (nf' := 153) [vI (i : Int)] [some (vR 101), some (vI (i : Int))] dX6_readFrom_18 rfl c_X6_111 rfl kd_101 (by decide) rfl la_101 rfl (Nat.le_of_ble_eq_true rfl) rfl (Nat.le_of_ble_eq_true rfl) (by omega) (Nat.le_refl _) (Nat.le_refl _) ?_
        refine sp_fits i rfl (fz := fz) (by rw [upc_c (by omega)]; exact hf) hz (by omega) (by omega) (fun h_3 => ?_) (fun h_3 => ?_)
        · refine wp_eqst (st' := [vI 1]) rfl ?_
          refine wp_if_eq (pc := 21) 46 dX6_readFrom_21 (by decide) (by decide) (fun hh => absurd hh (by decide)) (fun _ => ?_)
          refine wp_aload_n (pc := 24) 0 dX6_readFrom_24 rfl rfl ?_
          refine wp_iload_n (pc := 25) 3 dX6_readFrom_25 rfl rfl ?_
          refine wp_iload_n (pc := 26) 2 dX6_readFrom_26 rfl rfl ?_
          refine wp_callV (pc := 27) (st := []) (nf' := 153) [vI (i : Int), vI (r : Int)] [some (vR 101), some (vI (i : Int)), some (vI (r : Int)), none, none] dX6_readFrom_27 rfl c_X6_115 rfl kd_101 (by decide) rfl la_101 rfl (Nat.le_of_ble_eq_true rfl) rfl (Nat.le_of_ble_eq_true rfl) (by omega) (Nat.le_refl _) (Nat.le_refl _) ?_
          refine sp_isFull i rfl r rfl (fz := fz) (by rw [upc_c (by omega)]; exact hf) hz (by omega) (by omega) (by omega) (fun h_4 => ?_) (fun h_4 => ?_)
          · refine wp_eqst (st' := [vI 1]) rfl ?_
            refine wp_if_eq (pc := 30) 46 dX6_readFrom_30 (by decide) (by decide) (fun hh => absurd hh (by decide)) (fun _ => ?_)
            refine wp_aload_n (pc := 33) 0 dX6_readFrom_33 rfl rfl ?_
            refine wp_getr (pc := 34) dX6_readFrom_34 rfl f_X6_15 kd_101 la_101 rfl (r_101_1 D) ?_
            refine wp_iload_n (pc := 37) 1 dX6_readFrom_37 rfl rfl ?_
            refine wp_iload_n (pc := 38) 3 dX6_readFrom_38 rfl rfl ?_
            refine wp_callS (pc := 39) (st := [vI (n : Int), vR (D 5)]) (nf' := 153) [vI (i : Int)] [some (vI (i : Int)), none, none] dX6_readFrom_39 rfl c_X6_118 rfl rfl (Nat.le_of_ble_eq_true rfl) rfl (Nat.le_of_ble_eq_true rfl) (by omega) (Nat.le_refl _) (Nat.le_refl _) ?_
            refine sp_ones i rfl (by omega) (by omega) ?_
            refine wp_eqst (st' := [vI ((onN i 5 : Nat) : Int), vI (n : Int), vR (D 5)]) rfl ?_
            have z0 : dif i r = 0 := Int.ofNat.inj h_2
            have e9 := (dig_sub hn hi (fun q hq hs => by have y := hru q (dif_0.mp z0 q hs); rw [unf_tb hq] at y; exact of_decide_eq_true y)).1
            refine wp_isub (pc := 42) dX6_readFrom_42 ?_
            refine wp_callS (pc := 43) (st := []) (nf' := 153) [vR (D 5), vI ((n : Int) - ((onN i 5 : Nat) : Int))] [some (vR (D 5)), some (vI ((n : Int) - ((onN i 5 : Nat) : Int))), none] dX6_readFrom_43 rfl c_X6_36 rfl rfl (Nat.le_of_ble_eq_true rfl) rfl (Nat.le_of_ble_eq_true rfl) (by omega) (Nat.le_refl _) (Nat.le_refl _) ?_
            refine sp_mark (n - (onN i 5)) (by omega) (A := fun e => A e ∨ fromA fz r n i e) (pk h5) (pl h5) (by rw [upc_r]; exact hg) (by omega) (by omega) (fun g1 hg1 => ?_)
            refine wp_eqI (I' := upc I (D 5) g1) upc_upc ?_
            refine wp_eqst (st' := []) rfl ?_
            refine wq_iinc (pc := 46) [some (vR 101), some (vI (n : Int)), some (vI (r : Int)), some (vI ((i : Int) + 1))] dX6_readFrom_46 rfl rfl (by decide) rfl ?_
            refine wp_goto (pc := 49) 2 dX6_readFrom_49 (by decide) ?_
            exact wp_eqls (ls' := [some (vR 101), some (vI (n : Int)), some (vI (r : Int)), some (vI (((i + 1) : Nat) : Int))]) rfl (ih g1 (hg1.congr (fun e _ => by rw [frA_y (h := ⟨z0, h_3, h_4⟩)]; exact or_assoc)))
          · refine wp_eqst (st' := [vI 0]) rfl ?_
            refine wp_if_eq (pc := 30) 46 dX6_readFrom_30 (by decide) (by decide) (fun _ => ?_) (fun hh => absurd hh (by decide))
            refine wq_iinc (pc := 46) [some (vR 101), some (vI (n : Int)), some (vI (r : Int)), some (vI ((i : Int) + 1))] dX6_readFrom_46 rfl rfl (by decide) rfl ?_
            refine wp_goto (pc := 49) 2 dX6_readFrom_49 (by decide) ?_
            exact wp_eqls (ls' := [some (vR 101), some (vI (n : Int)), some (vI (r : Int)), some (vI (((i + 1) : Nat) : Int))]) rfl (ih g (hg.congr (fun e _ => by rw [frA_n (h := fun x => h_4 x.2.2)])))
        · refine wp_eqst (st' := [vI 0]) rfl ?_
          refine wp_if_eq (pc := 21) 46 dX6_readFrom_21 (by decide) (by decide) (fun _ => ?_) (fun hh => absurd hh (by decide))
          refine wq_iinc (pc := 46) [some (vR 101), some (vI (n : Int)), some (vI (r : Int)), some (vI ((i : Int) + 1))] dX6_readFrom_46 rfl rfl (by decide) rfl ?_
          refine wp_goto (pc := 49) 2 dX6_readFrom_49 (by decide) ?_
          exact wp_eqls (ls' := [some (vR 101), some (vI (n : Int)), some (vI (r : Int)), some (vI (((i + 1) : Nat) : Int))]) rfl (ih g (hg.congr (fun e _ => by rw [frA_n (h := fun x => h_3 x.2.1)])))

theorem sp_readFrom {l : Launch} {G : mG} {d : Nat} {I : mI} {L : Nat → Nat → Int} {D : Nat → Nat} {Q : mQ} {fz : Nat} {A : Nat → Prop} {g : Nat → Int} (n : Nat) {n_ : Int} (hn_ : n_ = (n : Int)) (r : Nat) {r_ : Int} (hr_ : r_ = (r : Int)) (h5 : isP (D 5)) (hf : I 101 2 = (fz : Int)) (hz : fz < 4294967296) (hn : n < 1024) (hr : r < 32) (hru : ∀ q, r.testBit q = true → (unf n).testBit q = true) (hg : RM g A) (hd : 2 ≤ d) (hQ : ∀ g, RM g (fun e => A e ∨ fromA fz r n 32 e) → Q none (upc I (D 5) g) (XX L D)) : WP l G m_X6_readFrom d 153 (upc I (D 5) g) (XX L D) 0 [some (vR 101), some (vI n_), some (vI r_), none] [] Q := by
  subst hn_
  subst hr_
  refine wp_iconst (pc := 0) dX6_readFrom_0 ?_
  refine wq_istore_n (pc := 1) 3 [some (vR 101), some (vI (n : Int)), some (vI (r : Int)), some (vI 0)] dX6_readFrom_1 rfl rfl (by decide) rfl ?_
  exact lp_readFrom h5 hf hz hn hr hru hd hQ 0 (Nat.zero_le _) g (hg.congr (fun e _ => ⟨Or.inl, fun x => x.elim id (fun ⟨s, h, _⟩ => absurd h (Nat.not_lt_zero s))⟩))

theorem lp_pass_in {l : Launch} {G : mG} {d : Nat} {I : mI} {L : Nat → Nat → Int} {D : Nat → Nat} {Q : mQ} {fz p i : Nat} {A : Nat → Prop} (h4 : isP (D 4)) (h5 : isP (D 5)) (hne : D 4 ≠ D 5) (hf : I 101 2 = (fz : Int)) (hz : fz < 4294967296) (hp : p < 32) (hA : RM (I (D 4)) A) (hi : i < 32) (hd : 3 ≤ d) (hN : ∀ g, RM g (stepA fz p A ((i + 1) * 32)) → WP l G m_X6_passSunday d 153 (upc I (D 5) g) (XX L D) 78 [some (vR 101), some (vI (p : Int)), some (vI (i : Int)), none, none, none] [] Q) : ∀ b : Nat, b ≤ 32 → ∀ g, RM g (stepA fz p A (i * 32 + b)) → WP l G m_X6_passSunday d 153 (upc I (D 5) g) (XX L D) 29 [some (vR 101), some (vI (p : Int)), some (vI (i : Int)), some (vI (I (D 4) i)), some (vI (b : Int)), none] [] Q := by
  have g4 : D 4 = 102 ∨ D 4 = 103 := h4
  have g5 : D 5 = 102 ∨ D 5 = 103 := h5
  have bi := hA.1 i hi
  have bw := w32_in (I (D 4) i)
  refine loop_dn (fun b => ∀ g, RM g (stepA fz p A (i * 32 + b)) → WP l G m_X6_passSunday d 153 (upc I (D 5) g) (XX L D) 29 [some (vR 101), some (vI (p : Int)), some (vI (i : Int)), some (vI (I (D 4) i)), some (vI (b : Int)), none] [] Q) 32 ?_ (fun b hb ih => ?_)
  · intro g hg
    refine wp_iload (pc := 29) dX6_passSunday_29 rfl ?_
    refine wp_bipush (pc := 31) dX6_passSunday_31 (by decide) ?_
    refine wp_icmp_ge (pc := 33) 78 dX6_passSunday_33 (by decide) (by decide) (by decide) (fun _ => ?_) (fun hh => absurd hh (by decide))
    refine wp_none 3 [some (vR 101), some (vI (p : Int)), some (vI (i : Int)), none, some (vI 32), none] rfl ?_
    refine wp_none 4 [some (vR 101), some (vI (p : Int)), some (vI (i : Int)), none, none, none] rfl ?_
    exact hN g (by rw [show (i + 1) * 32 = i * 32 + 32 by omega]; exact hg)
  · intro g hg
    have hbi := bB_in (mk (I (D 4)) (i * 32 + b))
    have em := mk_bit hA.1 (d := i * 32 + b) (by omega)
    rw [show (i * 32 + b) / 32 = i by omega, show (i * 32 + b) % 32 = b by omega] at em
    have eu := unf_lt (i * 32 + b)
    refine wp_iload (pc := 29) dX6_passSunday_29 rfl ?_
    refine wp_bipush (pc := 31) dX6_passSunday_31 (by decide) ?_
    refine wp_icmp_ge (pc := 33) 78 dX6_passSunday_33 (by decide) (by omega) (by decide) (fun h_1 => ?_) (fun h_1 => ?_)
    · exfalso; omega
    · refine wp_iload_n (pc := 36) 3 dX6_passSunday_36 rfl rfl ?_
      refine wp_w32 ?_
      refine wp_if_eq (pc := 37) 78 dX6_passSunday_37 (by decide) (by omega) (fun h_2 => ?_) (fun h_2 => ?_)
      · refine wp_none 3 [some (vR 101), some (vI (p : Int)), some (vI (i : Int)), none, some (vI (b : Int)), none] rfl ?_
        refine wp_none 4 [some (vR 101), some (vI (p : Int)), some (vI (i : Int)), none, none, none] rfl ?_
        have z0 : I (D 4) i = 0 := (w32_z bi.1 bi.2).mp h_2
        exact hN g (hg.congr (fun e _ => (stA_n ((i + 1) * 32) (by omega) (fun x y1 y2 y3 => by have y4 := (hA.2 x (by omega)).mpr y3; unfold mk at y4; rw [show x / 32 = i by omega, z0] at y4; simp at y4)).symm))
      · refine wp_iload_n (pc := 40) 3 dX6_passSunday_40 rfl rfl ?_
        refine wp_iload (pc := 41) dX6_passSunday_41 rfl ?_
        refine wp_ishr (pc := 43) dX6_passSunday_43 (by omega) (by omega) ?_
        refine wp_iconst (pc := 44) dX6_passSunday_44 ?_
        refine wp_imask (pc := 45) 1 dX6_passSunday_45 rfl (by decide) ?_
        refine wp_eqst (st' := [vI (bB (mk (I (D 4)) (i * 32 + b)))]) (by rw [show ((b : Int)).toNat = b from Int.toNat_natCast b, em]; rfl) ?_
        refine wp_iconst (pc := 46) dX6_passSunday_46 ?_
        refine wp_icmp_ne (pc := 47) 72 dX6_passSunday_47 (by decide) (by omega) (by decide) (fun h_3 => ?_) (fun h_3 => ?_)
        · refine wq_iinc (pc := 72) [some (vR 101), some (vI (p : Int)), some (vI (i : Int)), some (vI (I (D 4) i)), some (vI ((b : Int) + 1)), none] dX6_passSunday_72 rfl rfl (by decide) rfl ?_
          refine wp_goto (pc := 75) 29 dX6_passSunday_75 (by decide) ?_
          exact wp_eqls (ls' := [some (vR 101), some (vI (p : Int)), some (vI (i : Int)), some (vI (I (D 4) i)), some (vI (((b + 1) : Nat) : Int)), none]) rfl (ih g (hg.congr (fun e _ => (stA_n (i * 32 + (b + 1)) (by omega) (fun x y1 y2 y3 => by have y4 := (hA.2 x (by omega)).mpr y3; rw [show x = i * 32 + b by omega, bB_0.mp h_3] at y4; exact absurd y4 (by decide))).symm)))
        · refine wp_iload_n (pc := 50) 2 dX6_passSunday_50 rfl rfl ?_
          refine wp_bipush (pc := 51) dX6_passSunday_51 (by decide) ?_
          refine wp_imul (pc := 53) dX6_passSunday_53 ?_
          refine wp_iload (pc := 54) dX6_passSunday_54 rfl ?_
          refine wp_iadd (pc := 56) dX6_passSunday_56 ?_
          refine wq_istore (pc := 57) [some (vR 101), some (vI (p : Int)), some (vI (i : Int)), some (vI (I (D 4) i)), some (vI (b : Int)), some (vI (((i : Int) * 32) + (b : Int)))] dX6_passSunday_57 rfl (by decide) rfl ?_
          refine wp_aload_n (pc := 59) 0 dX6_passSunday_59 rfl rfl ?_
          refine wp_iload (pc := 60) dX6_passSunday_60 rfl ?_
          refine wp_iload_n (pc := 62) 1 dX6_passSunday_62 rfl rfl ?_
          refine wp_iload (pc := 63) dX6_passSunday_63 rfl ?_
          refine wp_callS (pc := 65) (st := [vI (p : Int), vI (((i : Int) * 32) + (b : Int)), vR 101]) (nf' := 153) [vI (((i : Int) * 32) + (b : Int))] [some (vI (((i : Int) * 32) + (b : Int))), none, none] dX6_passSunday_65 rfl c_X6_57 rfl rfl (Nat.le_of_ble_eq_true rfl) rfl (Nat.le_of_ble_eq_true rfl) (by omega) (Nat.le_refl _) (Nat.le_refl _) ?_
          refine sp_unf ((i * 32) + b) (by omega) (by omega) (by omega) ?_
          refine wp_eqst (st' := [vI ((unf ((i * 32) + b) : Nat) : Int), vI (p : Int), vI (((i : Int) * 32) + (b : Int)), vR 101]) rfl ?_
          refine wn_and (pc := 68) p (unf ((i * 32) + b)) dX6_passSunday_68 rfl rfl ?_
          refine wp_callV (pc := 69) (st := []) (nf' := 153) [vI (((i : Int) * 32) + (b : Int)), vI ((p &&& (unf ((i * 32) + b)) : Nat) : Int)] [some (vR 101), some (vI (((i : Int) * 32) + (b : Int))), some (vI ((p &&& (unf ((i * 32) + b)) : Nat) : Int)), none] dX6_passSunday_69 rfl c_X6_107 rfl kd_101 (by decide) rfl la_101 rfl (Nat.le_of_ble_eq_true rfl) rfl (Nat.le_of_ble_eq_true rfl) (by omega) (Nat.le_refl _) (Nat.le_refl _) ?_
          refine sp_readFrom ((i * 32) + b) (by omega) (p &&& (unf ((i * 32) + b))) rfl (fz := fz) (A := stepA fz p A (i * 32 + b)) h5 hf hz (by omega) (Nat.lt_of_le_of_lt Nat.and_le_left hp) (fun q hq => by rw [Nat.testBit_and, Bool.and_eq_true] at hq; exact hq.2) hg (by omega) (fun g1 hg1 => ?_)
          refine wp_eqst (st' := []) rfl ?_
          refine wq_iinc (pc := 72) [some (vR 101), some (vI (p : Int)), some (vI (i : Int)), some (vI (I (D 4) i)), some (vI ((b : Int) + 1)), some (vI (((i : Int) * 32) + (b : Int)))] dX6_passSunday_72 rfl rfl (by decide) rfl ?_
          refine wp_goto (pc := 75) 29 dX6_passSunday_75 (by decide) ?_
          refine wp_none 5 [some (vR 101), some (vI (p : Int)), some (vI (i : Int)), some (vI (I (D 4) i)), some (vI ((b : Int) + 1)), none] rfl ?_
          exact wp_eqls (ls' := [some (vR 101), some (vI (p : Int)), some (vI (i : Int)), some (vI (I (D 4) i)), some (vI (((b + 1) : Nat) : Int)), none]) rfl (ih g1 (hg1.congr (fun e _ => by rw [show i * 32 + (b + 1) = i * 32 + b + 1 by omega, stA_y ((hA.2 _ (by omega)).mp (bB_1.mp h_3))])))

theorem lp_pass {l : Launch} {G : mG} {d : Nat} {I : mI} {L : Nat → Nat → Int} {D : Nat → Nat} {Q : mQ} {fz p : Nat} {A : Nat → Prop} (h4 : isP (D 4)) (h5 : isP (D 5)) (hne : D 4 ≠ D 5) (hf : I 101 2 = (fz : Int)) (hz : fz < 4294967296) (hp : p < 32) (hA : RM (I (D 4)) A) (hd : 3 ≤ d) (hQ : ∀ g, RM g (stepA fz p A 1024) → Q none (upc I (D 5) g) (XX L (swp D))) : ∀ i : Nat, i ≤ 32 → ∀ g, RM g (stepA fz p A (i * 32)) → WP l G m_X6_passSunday d 153 (upc I (D 5) g) (XX L D) 10 [some (vR 101), some (vI (p : Int)), some (vI (i : Int)), none, none, none] [] Q := by
  have g4 : D 4 = 102 ∨ D 4 = 103 := h4
  have g5 : D 5 = 102 ∨ D 5 = 103 := h5
  refine loop_dn (fun i => ∀ g, RM g (stepA fz p A (i * 32)) → WP l G m_X6_passSunday d 153 (upc I (D 5) g) (XX L D) 10 [some (vR 101), some (vI (p : Int)), some (vI (i : Int)), none, none, none] [] Q) 32 ?_ (fun i hi ih => ?_)
  · intro g hg
    refine wp_iload_n (pc := 10) 2 dX6_passSunday_10 rfl rfl ?_
    refine wp_aload_n (pc := 11) 0 dX6_passSunday_11 rfl rfl ?_
    refine wp_getr (pc := 12) dX6_passSunday_12 rfl f_X6_11 kd_101 la_101 rfl (r_101_0 D) ?_
    refine wp_alen (pc := 15) dX6_passSunday_15 (pk h4) (by decide) (pl h4) ?_
    refine wp_icmp_ge (pc := 16) 84 dX6_passSunday_16 (by decide) (by decide) (by decide) (fun _ => ?_) (fun hh => absurd hh (by decide))
    refine wp_aload_n (pc := 84) 0 dX6_passSunday_84 rfl rfl ?_
    refine wp_getr (pc := 85) dX6_passSunday_85 rfl f_X6_11 kd_101 la_101 rfl (r_101_0 D) ?_
    refine wq_astore_n (pc := 88) 2 [some (vR 101), some (vI (p : Int)), some (vR (D 4)), none, none, none] dX6_passSunday_88 rfl rfl (by decide) rfl ?_
    refine wp_aload_n (pc := 89) 0 dX6_passSunday_89 rfl rfl ?_
    refine wp_aload_n (pc := 90) 0 dX6_passSunday_90 rfl rfl ?_
    refine wp_getr (pc := 91) dX6_passSunday_91 rfl f_X6_15 kd_101 la_101 rfl (r_101_1 D) ?_
    refine wp_putr (pc := 94) dX6_passSunday_94 rfl f_X6_11 kd_101 la_101 (fun _ h => by cases h; rfl) rfl ?_
    refine wp_aload_n (pc := 97) 0 dX6_passSunday_97 rfl rfl ?_
    refine wp_aload_n (pc := 98) 2 dX6_passSunday_98 rfl rfl ?_
    refine wp_putr (pc := 99) dX6_passSunday_99 rfl f_X6_15 kd_101 la_101 (fun _ h => by cases h; rfl) rfl ?_
    refine wp_eqX (X' := XX L (swp D)) (by show (L, upR (upR (Rf D) 101 0 (some (D 5))) 101 1 (some (D 4)), 153) = _; rw [rf_4, rf_5]; rfl) ?_
    refine wp_vret (pc := 102) dX6_passSunday_102 rfl rfl ?_
    exact hQ g hg
  · intro g hg
    refine wp_iload_n (pc := 10) 2 dX6_passSunday_10 rfl rfl ?_
    refine wp_aload_n (pc := 11) 0 dX6_passSunday_11 rfl rfl ?_
    refine wp_getr (pc := 12) dX6_passSunday_12 rfl f_X6_11 kd_101 la_101 rfl (r_101_0 D) ?_
    refine wp_alen (pc := 15) dX6_passSunday_15 (pk h4) (by decide) (pl h4) ?_
    refine wp_icmp_ge (pc := 16) 84 dX6_passSunday_16 (by decide) (by omega) (by decide) (fun h_1 => ?_) (fun h_1 => ?_)
    · exfalso; omega
    · refine wp_aload_n (pc := 19) 0 dX6_passSunday_19 rfl rfl ?_
      refine wp_getr (pc := 20) dX6_passSunday_20 rfl f_X6_11 kd_101 la_101 rfl (r_101_0 D) ?_
      refine wp_iload_n (pc := 23) 2 dX6_passSunday_23 rfl rfl ?_
      refine wq_iald (pc := 24) i dX6_passSunday_24 (pk h4) (pl h4) rfl (by omega) ?_
      refine wq_istore_n (pc := 25) 3 [some (vR 101), some (vI (p : Int)), some (vI (i : Int)), some (vI ((upc I (D 5) g) (D 4) i)), none, none] dX6_passSunday_25 rfl rfl (by decide) rfl ?_
      refine wp_iconst (pc := 26) dX6_passSunday_26 ?_
      refine wq_istore (pc := 27) [some (vR 101), some (vI (p : Int)), some (vI (i : Int)), some (vI ((upc I (D 5) g) (D 4) i)), some (vI 0), none] dX6_passSunday_27 rfl (by decide) rfl ?_
      refine wp_eqls (ls' := [some (vR 101), some (vI (p : Int)), some (vI (i : Int)), some (vI (I (D 4) i)), some (vI 0), none]) (by rw [upc_c hne]) ?_
      refine lp_pass_in h4 h5 hne hf hz hp hA hi hd (fun g hg => ?_) 0 (Nat.zero_le _) g (by rw [Nat.add_zero]; exact hg)
      refine wq_iinc (pc := 78) [some (vR 101), some (vI (p : Int)), some (vI ((i : Int) + 1)), none, none, none] dX6_passSunday_78 rfl rfl (by decide) rfl ?_
      refine wp_goto (pc := 81) 10 dX6_passSunday_81 (by decide) ?_
      exact wp_eqls (ls' := [some (vR 101), some (vI (p : Int)), some (vI (((i + 1) : Nat) : Int)), none, none, none]) rfl (ih g hg)

theorem sp_pass {l : Launch} {G : mG} {d : Nat} {I : mI} {L : Nat → Nat → Int} {D : Nat → Nat} {Q : mQ} {fz : Nat} {A : Nat → Prop} (p : Nat) {p_ : Int} (hp_ : p_ = (p : Int)) (h4 : isP (D 4)) (h5 : isP (D 5)) (hne : D 4 ≠ D 5) (hf : I 101 2 = (fz : Int)) (hz : fz < 4294967296) (hp : p < 32) (hA : RM (I (D 4)) A) (hd : 3 ≤ d) (hQ : ∀ g, RM g (stepA fz p A 1024) → Q none (upc I (D 5) g) (XX L (swp D))) : WP l G m_X6_passSunday d 153 I (XX L D) 0 [some (vR 101), some (vI p_), none, none, none, none] [] Q := by
  subst hp_
  refine wp_aload_n (pc := 0) 0 dX6_passSunday_0 rfl rfl ?_
  refine wp_getr (pc := 1) dX6_passSunday_1 rfl f_X6_15 kd_101 la_101 rfl (r_101_1 D) ?_
  refine wp_iconst (pc := 4) dX6_passSunday_4 ?_
  refine wp_callS (pc := 5) (st := []) (nf' := 153) [vR (D 5), vI 0] [some (vR (D 5)), some (vI 0), none, none] dX6_passSunday_5 rfl c_X6_26 rfl rfl (Nat.le_of_ble_eq_true rfl) rfl (Nat.le_of_ble_eq_true rfl) (by omega) (Nat.le_refl _) (Nat.le_refl _) ?_
  refine sp_fill (pk h5) (pl h5) (by decide) (by omega) ?_
  refine wp_eqst (st' := []) rfl ?_
  refine wp_iconst (pc := 8) dX6_passSunday_8 ?_
  refine wq_istore_n (pc := 9) 2 [some (vR 101), some (vI (p : Int)), some (vI 0), none, none, none] dX6_passSunday_9 rfl rfl (by decide) rfl ?_
  exact lp_pass h4 h5 hne hf hz hp hA hd hQ 0 (Nat.zero_le _) _ ((rm_0 (fun k hk => if_pos hk)).congr (fun e _ => ⟨False.elim, fun x => stA_0 (by rw [Nat.zero_mul] at x; exact x)⟩))

theorem best_lt {P : Nat → Bool} {f : Nat → Nat} (h : ∀ d, f d < 256) : ∀ n, bestN P f n < 256 := by
  intro n
  rcases best_in P f n with e | ⟨m, -, -, e⟩
  · rw [e]; decide
  · rw [e]; exact h m

theorem lp_scan {l : Launch} {G : mG} {d : Nat} {I : mI} {L : Nat → Nat → Int} {D : Nat → Nat} {Q : mQ} {t s : Nat} {T : mT} {S : mS} (h4 : isP (D 4)) (hM : PB (I (D 4))) (hw : tw T) (hd : 4 ≤ d) (hQ : Q (some (vI ((bestC T S (mk (I (D 4))) : Nat) : Int))) I (XX L D)) : ∀ i : Nat, i ≤ 1024 → WP l G m_X6_bestSet d 153 I (XX L D) 81 [some (vR 101), some (vR t), some (vR s), some (vI ((opn T S : Nat) : Int)), some (vI ((bestN (mk (I (D 4))) (fun d => dif (opn T S) (unf d)) i : Nat) : Int)), some (vI (i : Int))] [] Q := by
  refine loop_dn (fun i => WP l G m_X6_bestSet d 153 I (XX L D) 81 [some (vR 101), some (vR t), some (vR s), some (vI ((opn T S : Nat) : Int)), some (vI ((bestN (mk (I (D 4))) (fun d => dif (opn T S) (unf d)) i : Nat) : Int)), some (vI (i : Int))] [] Q) 1024 ?_ (fun i hi ih => ?_)
  · refine wp_iload (pc := 81) dX6_bestSet_81 rfl ?_
    refine wp_sipush (pc := 83) dX6_bestSet_83 (by decide) ?_
    refine wp_icmp_ge (pc := 86) 123 dX6_bestSet_86 (by decide) (by decide) (by decide) (fun _ => ?_) (fun hh => absurd hh (by decide))
    refine wp_iload (pc := 123) dX6_bestSet_123 rfl ?_
    refine wp_iret (pc := 125) dX6_bestSet_125 rfl rfl ?_
    exact hQ
  · have b1 := best_lt (P := mk (I (D 4))) (fun d => fC_lt (S := S) hw d) i
    have b2 := opn_lt hw S
    have b3 := unf_lt i
    have b4 := fC_lt (S := S) hw i
    refine wp_iload (pc := 81) dX6_bestSet_81 rfl ?_
    refine wp_sipush (pc := 83) dX6_bestSet_83 (by decide) ?_
    refine wp_icmp_ge (pc := 86) 123 dX6_bestSet_86 (by decide) (by omega) (by decide) (fun h_1 => ?_) (fun h_1 => ?_)
    · exfalso; omega
    · refine wp_aload_n (pc := 89) 0 dX6_bestSet_89 rfl rfl ?_
      refine wp_getr (pc := 90) dX6_bestSet_90 rfl f_X6_11 kd_101 la_101 rfl (r_101_0 D) ?_
      refine wp_iload (pc := 93) dX6_bestSet_93 rfl ?_
      refine wp_callS (pc := 95) (st := []) (nf' := 153) [vR (D 4), vI (i : Int)] [some (vR (D 4)), some (vI (i : Int)), none] dX6_bestSet_95 rfl c_X6_39 rfl rfl (Nat.le_of_ble_eq_true rfl) rfl (Nat.le_of_ble_eq_true rfl) (by omega) (Nat.le_refl _) (Nat.le_refl _) ?_
      refine sp_isMarked i rfl (pk h4) (pl h4) hM (by omega) (by omega) (fun h_2 => ?_) (fun h_2 => ?_)
      · refine wp_eqst (st' := [vI 1]) rfl ?_
        refine wp_if_eq (pc := 98) 117 dX6_bestSet_98 (by decide) (by decide) (fun hh => absurd hh (by decide)) (fun _ => ?_)
        refine wp_iload (pc := 101) dX6_bestSet_101 rfl ?_
        refine wp_iload_n (pc := 103) 3 dX6_bestSet_103 rfl rfl ?_
        refine wp_iload (pc := 104) dX6_bestSet_104 rfl ?_
        refine wp_callS (pc := 106) (st := [vI ((opn T S : Nat) : Int), vI ((bestN (mk (I (D 4))) (fun d => dif (opn T S) (unf d)) i : Nat) : Int)]) (nf' := 153) [vI (i : Int)] [some (vI (i : Int)), none, none] dX6_bestSet_106 rfl c_X6_57 rfl rfl (Nat.le_of_ble_eq_true rfl) rfl (Nat.le_of_ble_eq_true rfl) (by omega) (Nat.le_refl _) (Nat.le_refl _) ?_
        refine sp_unf i rfl (by omega) (by omega) ?_
        refine wp_eqst (st' := [vI ((unf i : Nat) : Int), vI ((opn T S : Nat) : Int), vI ((bestN (mk (I (D 4))) (fun d => dif (opn T S) (unf d)) i : Nat) : Int)]) rfl ?_
        refine wp_iconst (pc := 109) dX6_bestSet_109 ?_
        refine wp_inot (pc := 110) dX6_bestSet_110 ?_
        refine wn_andn (pc := 111) (opn T S) (unf i) dX6_bestSet_111 rfl (by omega) ?_
        refine wp_callS (pc := 112) (st := []) (nf' := 153) [vI ((bestN (mk (I (D 4))) (fun d => dif (opn T S) (unf d)) i : Nat) : Int), vI ((dif (opn T S) (unf i) : Nat) : Int)] [some (vI ((bestN (mk (I (D 4))) (fun d => dif (opn T S) (unf d)) i : Nat) : Int)), some (vI ((dif (opn T S) (unf i) : Nat) : Int)), none] dX6_bestSet_112 rfl c_X6_61 rfl rfl (Nat.le_of_ble_eq_true rfl) rfl (Nat.le_of_ble_eq_true rfl) (by omega) (Nat.le_refl _) (Nat.le_refl _) ?_
        refine sp_better (bestN (mk (I (D 4))) (fun d => dif (opn T S) (unf d)) i) rfl (dif (opn T S) (unf i)) rfl (by omega) (by omega) (by omega) ?_
        refine wp_eqst (st' := [vI ((bet (bestN (mk (I (D 4))) (fun d => dif (opn T S) (unf d)) i) (dif (opn T S) (unf i)) : Nat) : Int)]) rfl ?_
        refine wq_istore (pc := 115) [some (vR 101), some (vR t), some (vR s), some (vI ((opn T S : Nat) : Int)), some (vI ((bet (bestN (mk (I (D 4))) (fun d => dif (opn T S) (unf d)) i) (dif (opn T S) (unf i)) : Nat) : Int)), some (vI (i : Int))] dX6_bestSet_115 rfl (by decide) rfl ?_
        refine wq_iinc (pc := 117) [some (vR 101), some (vR t), some (vR s), some (vI ((opn T S : Nat) : Int)), some (vI ((bet (bestN (mk (I (D 4))) (fun d => dif (opn T S) (unf d)) i) (dif (opn T S) (unf i)) : Nat) : Int)), some (vI ((i : Int) + 1))] dX6_bestSet_117 rfl rfl (by decide) rfl ?_
        refine wp_goto (pc := 120) 81 dX6_bestSet_120 (by decide) ?_
        refine wp_eqls (ls' := [some (vR 101), some (vR t), some (vR s), some (vI ((opn T S : Nat) : Int)), some (vI ((bestN (mk (I (D 4))) (fun d => dif (opn T S) (unf d)) (i + 1) : Nat) : Int)), some (vI (((i + 1) : Nat) : Int))]) (by rw [show bestN (mk (I (D 4))) (fun d => dif (opn T S) (unf d)) (i + 1) = _ from if_pos h_2]; rfl) ih
      · refine wp_eqst (st' := [vI 0]) rfl ?_
        refine wp_if_eq (pc := 98) 117 dX6_bestSet_98 (by decide) (by decide) (fun _ => ?_) (fun hh => absurd hh (by decide))
        refine wq_iinc (pc := 117) [some (vR 101), some (vR t), some (vR s), some (vI ((opn T S : Nat) : Int)), some (vI ((bestN (mk (I (D 4))) (fun d => dif (opn T S) (unf d)) i : Nat) : Int)), some (vI ((i : Int) + 1))] dX6_bestSet_117 rfl rfl (by decide) rfl ?_
        refine wp_goto (pc := 120) 81 dX6_bestSet_120 (by decide) ?_
        refine wp_eqls (ls' := [some (vR 101), some (vR t), some (vR s), some (vI ((opn T S : Nat) : Int)), some (vI ((bestN (mk (I (D 4))) (fun d => dif (opn T S) (unf d)) (i + 1) : Nat) : Int)), some (vI (((i + 1) : Nat) : Int))]) (by rw [show bestN (mk (I (D 4))) (fun d => dif (opn T S) (unf d)) (i + 1) = _ from if_neg h_2]; rfl) ih

theorem sp_scan {l : Launch} {G : mG} {d : Nat} {I : mI} {L : Nat → Nat → Int} {D : Nat → Nat} {Q : mQ} {t s : Nat} {T : mT} {S : mS}  (h4 : isP (D 4)) (hM : PB (I (D 4))) (hw : tw T) (hd : 4 ≤ d) (hQ : Q (some (vI ((bestC T S (mk (I (D 4))) : Nat) : Int))) I (XX L D)) : WP l G m_X6_bestSet d 153 I (XX L D) 75 [some (vR 101), some (vR t), some (vR s), some (vI ((opn T S : Nat) : Int)), none, none] [] Q := by
  refine wp_iconst (pc := 75) dX6_bestSet_75 ?_
  refine wq_istore (pc := 76) [some (vR 101), some (vR t), some (vR s), some (vI ((opn T S : Nat) : Int)), some (vI 0), none] dX6_bestSet_76 rfl (by decide) rfl ?_
  refine wp_iconst (pc := 78) dX6_bestSet_78 ?_
  refine wq_istore (pc := 79) [some (vR 101), some (vR t), some (vR s), some (vI ((opn T S : Nat) : Int)), some (vI 0), some (vI 0)] dX6_bestSet_79 rfl (by decide) rfl ?_
  exact lp_scan h4 hM hw hd hQ 0 (Nat.zero_le _)

theorem lp_best {l : Launch} {G : mG} {d : Nat} {L : Nat → Nat → Int} {Q : mQ} {t s : Nat} {T : mT} {S : mS} {B : Int} {P : mI → (Nat → Nat) → Prop} (ht : isT t) (hs : isS s) (hw : tw T) (hv : sw S B) (hB : B ≤ 99999) (hP1 : ∀ I D g, h45 D → P I D → P (upc I (D 5) g) (swp D)) (hd : 4 ≤ d) (hQ : ∀ (I : mI) (D : Nat → Nat) (k : Nat), P I D → k ≤ 12 → h45 D → RM (I (D 4)) (cset (fzT T S) (pres T S) (dueN S (opn T S) 5) k) → (k = 12 ∨ mk (I (D 4)) 0 = true) → Q (some (vI ((bestC T S (mk (I (D 4))) : Nat) : Int))) I (XX L D)) : ∀ k : Nat, k ≤ 12 → ∀ (I : mI) (D : Nat → Nat), P I D → h45 D → TT I t = T → SS I s = S → I 101 2 = ((fzT T S : Nat) : Int) → RM (I (D 4)) (cset (fzT T S) (pres T S) (dueN S (opn T S) 5) k) → WP l G m_X6_bestSet d 153 I (XX L D) 35 [some (vR 101), some (vR t), some (vR s), some (vI ((opn T S : Nat) : Int)), some (vI (k : Int)), none] [] Q := by
  have hzf := fzN_lt T S (Nat.le_refl 32)
  have bo := opn_lt hw S
  have bs := sw_sun hv
  refine loop_dn (fun k => ∀ (I : mI) (D : Nat → Nat), P I D → h45 D → TT I t = T → SS I s = S → I 101 2 = ((fzT T S : Nat) : Int) → RM (I (D 4)) (cset (fzT T S) (pres T S) (dueN S (opn T S) 5) k) → WP l G m_X6_bestSet d 153 I (XX L D) 35 [some (vR 101), some (vR t), some (vR s), some (vI ((opn T S : Nat) : Int)), some (vI (k : Int)), none] [] Q) 12 ?_ (fun k hk ih => ?_)
  · intro I D hP h9 hT hS hf hM
    have h4 := h9.a
    have h5 := h9.b
    refine wp_iload (pc := 35) dX6_bestSet_35 rfl ?_
    refine wp_bipush (pc := 37) dX6_bestSet_37 (by decide) ?_
    refine wp_icmp_ge (pc := 39) 75 dX6_bestSet_39 (by decide) (by decide) (by decide) (fun _ => ?_) (fun hh => absurd hh (by decide))
    refine wp_none 4 [some (vR 101), some (vR t), some (vR s), some (vI ((opn T S : Nat) : Int)), none, none] rfl ?_
    exact sp_scan h4 hM.1 hw (by omega) (hQ I D 12 hP (Nat.le_refl 12) h9 hM (Or.inl rfl))
  · intro I D hP h9 hT hS hf hM
    have h4 := h9.a
    have h5 := h9.b
    refine wp_iload (pc := 35) dX6_bestSet_35 rfl ?_
    refine wp_bipush (pc := 37) dX6_bestSet_37 (by decide) ?_
    refine wp_icmp_ge (pc := 39) 75 dX6_bestSet_39 (by decide) (by omega) (by decide) (fun h_1 => ?_) (fun h_1 => ?_)
    · exfalso; omega
    · refine wp_aload_n (pc := 42) 0 dX6_bestSet_42 rfl rfl ?_
      refine wp_getr (pc := 43) dX6_bestSet_43 rfl f_X6_11 kd_101 la_101 rfl (r_101_0 D) ?_
      refine wp_iconst (pc := 46) dX6_bestSet_46 ?_
      refine wp_callS (pc := 47) (st := []) (nf' := 153) [vR (D 4), vI 0] [some (vR (D 4)), some (vI 0), none] dX6_bestSet_47 rfl c_X6_39 rfl rfl (Nat.le_of_ble_eq_true rfl) rfl (Nat.le_of_ble_eq_true rfl) (by omega) (Nat.le_refl _) (Nat.le_refl _) ?_
      refine sp_isMarked 0 rfl (pk h4) (pl h4) hM.1 (by omega) (by omega) (fun h_2 => ?_) (fun h_2 => ?_)
      · refine wp_eqst (st' := [vI 1]) rfl ?_
        refine wp_if_ne (pc := 50) 75 dX6_bestSet_50 (by decide) (by decide) (fun _ => ?_) (fun hh => absurd hh (by decide))
        refine wp_none 4 [some (vR 101), some (vR t), some (vR s), some (vI ((opn T S : Nat) : Int)), none, none] rfl ?_
        exact sp_scan h4 hM.1 hw (by omega) (hQ I D k hP (by omega) h9 hM (Or.inr h_2))
      · refine wp_eqst (st' := [vI 0]) rfl ?_
        refine wp_if_ne (pc := 50) 75 dX6_bestSet_50 (by decide) (by decide) (fun hh => absurd hh (by decide)) (fun _ => ?_)
        refine wp_aload_n (pc := 53) 0 dX6_bestSet_53 rfl rfl ?_
        refine wp_aload_n (pc := 54) 1 dX6_bestSet_54 rfl rfl ?_
        refine wp_iload_n (pc := 55) 3 dX6_bestSet_55 rfl rfl ?_
        refine wp_aload_n (pc := 56) 2 dX6_bestSet_56 rfl rfl ?_
        refine wp_callV (pc := 57) (st := [vI ((opn T S : Nat) : Int), vR t, vR 101]) (nf' := 153) [] [some (vR s)] dX6_bestSet_57 rfl c_X6_43 rfl (sk_0 hs) (by decide) rfl (sl_0 hs) rfl (Nat.le_of_ble_eq_true rfl) rfl (Nat.le_of_ble_eq_true rfl) (by omega) (Nat.le_refl _) (Nat.le_refl _) ?_
        refine wp_aload_n (pc := 0) 0 dX7_nextSunday_0 rfl rfl ?_
        refine wp_getr (pc := 1) dX7_nextSunday_1 rfl f_X7_11 (sk_0 hs) (sl_0 hs) rfl (sr_0_0 D hs) ?_
        refine wp_bipush (pc := 4) dX7_nextSunday_4 (by decide) ?_
        refine wq_iald (pc := 6) 28 dX7_nextSunday_6 (sk_1 hs) (sl_1 hs) rfl (by decide) ?_
        refine wp_eqst (st' := [vI (S 28)]) (by rw [← hS] <;> rfl) ?_
        refine wp_iconst (pc := 7) dX7_nextSunday_7 ?_
        refine wp_iadd (pc := 8) dX7_nextSunday_8 ?_
        refine wp_iret (pc := 9) dX7_nextSunday_9 rfl rfl ?_
        refine wp_eqst (st' := [vI ((S 28) + 1), vI ((opn T S : Nat) : Int), vR t, vR 101]) rfl ?_
        refine wp_iload (pc := 60) dX6_bestSet_60 rfl ?_
        refine wp_iadd (pc := 62) dX6_bestSet_62 ?_
        refine wp_callS (pc := 63) (st := [vR 101]) (nf' := 153) [vR t, vI ((opn T S : Nat) : Int), vI (((S 28) + 1) + (k : Int))] [some (vR t), some (vI ((opn T S : Nat) : Int)), some (vI (((S 28) + 1) + (k : Int))), none, none] dX6_bestSet_63 rfl c_X6_49 rfl rfl (Nat.le_of_ble_eq_true rfl) rfl (Nat.le_of_ble_eq_true rfl) (by omega) (Nat.le_refl _) (Nat.le_refl _) ?_
        refine sp_presentPairs (opn T S) rfl ht hT hw (by omega) (by omega) (by omega) ?_
        have bp := prsN_lt (T := T) (sun := ((S 28) + 1) + (k : Int)) bo (nQ T)
        refine wp_eqst (st' := [vI ((prsN T (opn T S) (((S 28) + 1) + (k : Int)) (nQ T) : Nat) : Int), vR 101]) rfl ?_
        refine wp_callV (pc := 66) (st := []) (nf' := 153) [vI ((prsN T (opn T S) (((S 28) + 1) + (k : Int)) (nQ T) : Nat) : Int)] [some (vR 101), some (vI ((prsN T (opn T S) (((S 28) + 1) + (k : Int)) (nQ T) : Nat) : Int)), none, none, none, none] dX6_bestSet_66 rfl c_X6_53 rfl kd_101 (by decide) rfl la_101 rfl (Nat.le_of_ble_eq_true rfl) rfl (Nat.le_of_ble_eq_true rfl) (by omega) (Nat.le_refl _) (Nat.le_refl _) ?_
        refine sp_pass (prsN T (opn T S) (((S 28) + 1) + (k : Int)) (nQ T)) rfl (fz := fzT T S) (A := cset (fzT T S) (pres T S) (dueN S (opn T S) 5) k) h4 h5 h9.ne hf hzf (by omega) hM (by omega) (fun g hg => ?_)
        refine wp_eqst (st' := []) rfl ?_
        refine wq_iinc (pc := 69) [some (vR 101), some (vR t), some (vR s), some (vI ((opn T S : Nat) : Int)), some (vI ((k : Int) + 1)), none] dX6_bestSet_69 rfl rfl (by decide) rfl ?_
        refine wp_goto (pc := 72) 35 dX6_bestSet_72 (by decide) ?_
        refine wp_eqls (ls' := [some (vR 101), some (vR t), some (vR s), some (vI ((opn T S : Nat) : Int)), some (vI (((k + 1) : Nat) : Int)), none]) rfl (ih (upc I (D 5) g) (swp D) (hP1 I D g h9 hP) (swp_45 h9) ((Fs.uc h5).tt ht hT) ((Fs.uc h5).ss hs hS) (by rw [upc_c (by have := h5; omega)]; exact hf) ?_)
        show RM (upc I (D 5) g (D 5)) _; rw [upc_r]; exact hg

theorem sp_best0 {l : Launch} {G : mG} {d : Nat} {I : mI} {L : Nat → Nat → Int} {D : Nat → Nat} {Q : mQ} {t s : Nat} {T : mT} {S : mS} {B : Int} {P : mI → (Nat → Nat) → Prop}  (h9 : h45 D) (ht : isT t) (hs : isS s) (hw : tw T) (hv : sw S B) (hB : B ≤ 99999) (hT : TT I t = T) (hS : SS I s = S) (hP0 : P (up I 101 2 ((fzT T S : Nat) : Int)) D) (hP4 : ∀ I D g, h45 D → P I D → P (upc I (D 4) g) D) (hP1 : ∀ I D g, h45 D → P I D → P (upc I (D 5) g) (swp D)) (hd : 4 ≤ d) (hQ : ∀ (I : mI) (D : Nat → Nat) (k : Nat), P I D → k ≤ 12 → h45 D → RM (I (D 4)) (cset (fzT T S) (pres T S) (dueN S (opn T S) 5) k) → (k = 12 ∨ mk (I (D 4)) 0 = true) → Q (some (vI ((bestC T S (mk (I (D 4))) : Nat) : Int))) I (XX L D)) : WP l G m_X6_bestSet d 153 I (XX L D) 0 [some (vR 101), some (vR t), some (vR s), none, none, none] [] Q := by
  have h4 := h9.a
  have h5 := h9.b
  have bo := opn_lt hw S
  have bs := sw_sun hv
  refine wp_aload_n (pc := 0) 0 dX6_bestSet_0 rfl rfl ?_
  refine wp_aload_n (pc := 1) 1 dX6_bestSet_1 rfl rfl ?_
  refine wp_aload_n (pc := 2) 2 dX6_bestSet_2 rfl rfl ?_
  refine wp_callV (pc := 3) (st := []) (nf' := 153) [vR t, vR s] [some (vR 101), some (vR t), some (vR s), none, none, none] dX6_bestSet_3 rfl c_X6_18 rfl kd_101 (by decide) rfl la_101 rfl (Nat.le_of_ble_eq_true rfl) rfl (Nat.le_of_ble_eq_true rfl) (by omega) (Nat.le_refl _) (Nat.le_refl _) ?_
  refine sp_weigh ht hs hT hS hw hv (by omega) ?_
  refine wp_gen (fun K => P K D ∧ TT K t = T ∧ SS K s = S ∧ K 101 2 = ((fzT T S : Nat) : Int)) ⟨hP0, by rw [up_is, TT_upc ht (by decide)]; exact hT, by rw [up_is, SS_upc (by rcases hs with rfl | rfl | rfl | rfl | rfl <;> decide)]; exact hS, up_s _ _ _ _⟩ (fun K hK => ?_)
  obtain ⟨hP, hTK, hSK, hf⟩ := hK
  refine wp_eqst (st' := []) rfl ?_
  refine wp_aload_n (pc := 6) 1 dX6_bestSet_6 rfl rfl ?_
  refine wp_aload_n (pc := 7) 2 dX6_bestSet_7 rfl rfl ?_
  refine wp_callS (pc := 8) (st := []) (nf' := 153) [vR t, vR s] [some (vR t), some (vR s), none, none] dX6_bestSet_8 rfl c_X6_22 rfl rfl (Nat.le_of_ble_eq_true rfl) rfl (Nat.le_of_ble_eq_true rfl) (by omega) (Nat.le_refl _) (Nat.le_refl _) ?_
  refine sp_openPairs ht hs hTK hSK hw hv (by omega) ?_
  refine wp_eqst (st' := [vI ((opn T S : Nat) : Int)]) rfl ?_
  refine wq_istore_n (pc := 11) 3 [some (vR 101), some (vR t), some (vR s), some (vI ((opn T S : Nat) : Int)), none, none] dX6_bestSet_11 rfl rfl (by decide) rfl ?_
  refine wp_aload_n (pc := 12) 0 dX6_bestSet_12 rfl rfl ?_
  refine wp_getr (pc := 13) dX6_bestSet_13 rfl f_X6_11 kd_101 la_101 rfl (r_101_0 D) ?_
  refine wp_iconst (pc := 16) dX6_bestSet_16 ?_
  refine wp_callS (pc := 17) (st := []) (nf' := 153) [vR (D 4), vI 0] [some (vR (D 4)), some (vI 0), none, none] dX6_bestSet_17 rfl c_X6_26 rfl rfl (Nat.le_of_ble_eq_true rfl) rfl (Nat.le_of_ble_eq_true rfl) (by omega) (Nat.le_refl _) (Nat.le_refl _) ?_
  refine sp_fill (pk h4) (pl h4) (by decide) (by omega) ?_
  refine wp_gen (fun K => P K D ∧ TT K t = T ∧ SS K s = S ∧ K 101 2 = ((fzT T S : Nat) : Int) ∧ RM (K (D 4)) (fun _ => False)) ⟨hP4 _ _ _ h9 hP, (Fs.uc h4).tt ht hTK, (Fs.uc h4).ss hs hSK, by rw [upc_c (by have := h4; omega)]; exact hf, by rw [upc_r]; exact rm_0 (fun k hk => if_pos hk)⟩ (fun N hN => ?_)
  obtain ⟨hP, hTN, hSN, hf, hM0⟩ := hN
  refine wp_eqst (st' := []) rfl ?_
  refine wp_aload_n (pc := 20) 0 dX6_bestSet_20 rfl rfl ?_
  refine wp_getr (pc := 21) dX6_bestSet_21 rfl f_X6_11 kd_101 la_101 rfl (r_101_0 D) ?_
  refine wp_aload_n (pc := 24) 2 dX6_bestSet_24 rfl rfl ?_
  refine wp_iload_n (pc := 25) 3 dX6_bestSet_25 rfl rfl ?_
  refine wp_callS (pc := 26) (st := [vR (D 4)]) (nf' := 153) [vR s, vI ((opn T S : Nat) : Int)] [some (vR s), some (vI ((opn T S : Nat) : Int)), none, none] dX6_bestSet_26 rfl c_X6_32 rfl rfl (Nat.le_of_ble_eq_true rfl) rfl (Nat.le_of_ble_eq_true rfl) (by omega) (Nat.le_refl _) (Nat.le_refl _) ?_
  refine sp_readingsDue (opn T S) rfl hs hSN hv (by omega) (by omega) (by omega) ?_
  have bd := dueN_lt hv (opn T S) (Nat.le_refl 5)
  refine wp_eqst (st' := [vI ((dueN S (opn T S) 5 : Nat) : Int), vR (D 4)]) rfl ?_
  refine wp_callS (pc := 29) (st := []) (nf' := 153) [vR (D 4), vI ((dueN S (opn T S) 5 : Nat) : Int)] [some (vR (D 4)), some (vI ((dueN S (opn T S) 5 : Nat) : Int)), none] dX6_bestSet_29 rfl c_X6_36 rfl rfl (Nat.le_of_ble_eq_true rfl) rfl (Nat.le_of_ble_eq_true rfl) (by omega) (Nat.le_refl _) (Nat.le_refl _) ?_
  refine sp_mark (dueN S (opn T S) 5) rfl (A := fun _ => False) (pk h4) (pl h4) hM0 (by omega) (by omega) (fun g hg => ?_)
  refine wp_eqst (st' := []) rfl ?_
  refine wp_iconst (pc := 32) dX6_bestSet_32 ?_
  refine wq_istore (pc := 33) [some (vR 101), some (vR t), some (vR s), some (vI ((opn T S : Nat) : Int)), some (vI 0), none] dX6_bestSet_33 rfl (by decide) rfl ?_
  refine lp_best ht hs hw hv hB hP1 hd hQ 0 (by decide) _ D (hP4 _ _ _ h9 hP) h9 ((Fs.uc h4).tt ht hTN) ((Fs.uc h4).ss hs hSN) (by rw [upc_c (by have := h4; omega)]; exact hf) ?_
  rw [upc_r]; exact hg.congr (fun e _ => ⟨fun x => x.elim False.elim id, Or.inr⟩)

noncomputable def seasonA (T : mT) (S : mS) (w : Int) : Int := if 0 ≤ w ∧ w ≤ 1 then (if w = 0 then ((pc8 (bestS T S) : Nat) : Int) else ((bestS T S : Nat) : Int)) else -1
def sameD (D D' : Nat → Nat) : Prop := (∀ k, k ≠ 4 → k ≠ 5 → D' k = D k) ∧ h45 D'
theorem swp_n {D : Nat → Nat} {k : Nat} (h4 : k ≠ 4) (h5 : k ≠ 5) : swp D k = D k := by
  show (if k = 5 then D 4 else if k = 4 then D 5 else D k) = D k
  rw [if_neg h5, if_neg h4]
theorem bestS_lt {T : mT} (hw : tw T) (S : mS) : bestS T S < 256 := best_lt (fun d => rdBy_lt hw d) 1024

theorem sp_season {l : Launch} {G : mG} {d : Nat} {I : mI} {L : Nat → Nat → Int} {D : Nat → Nat} {Q : mQ} {T : mT} {S : mS} {Z : mT} {w : Int}  (hC : CI I D T S Z) (h9 : h45 D) (hch : chOk T S) (h_w : inR w) (hd : 5 ≤ d) (hQ : ∀ J D', Fs I J → sameD D D' → Q (some (vI (seasonA T S w))) J (XX L D')) : WP l G m_X10_season d 153 I (XX L D) 0 [some (vR 0), some (vI w), none] [] Q := by
  obtain ⟨hD0, h30, hT0, hS, hZ, hw, hv, hz, hrd, hcd⟩ := hC
  have h3 : isT (D 3) := by rw [h30]; exact hD0
  have hT : TT I (D 3) = T := by rw [h30]; exact hT0
  have b_p := tw_p hw
  have b_c := tw_c hw
  have b_q := tw_q hw
  have b_s := sw_sun hv
  have bb := bestS_lt hw S
  refine wp_iload_n (pc := 0) 1 dX10_season_0 rfl rfl ?_
  refine wp_if_lt (pc := 1) 9 dX10_season_1 (by decide) (by omega) (fun h_1 => ?_) (fun h_1 => ?_)
  · refine wp_iconst (pc := 9) dX10_season_9 ?_
    refine wp_iret (pc := 10) dX10_season_10 rfl rfl ?_
    have hq := hQ I D (fun _ _ _ _ => rfl) ⟨fun _ _ _ => rfl, h9⟩
    rw [show seasonA T S w = -1 from if_neg (by omega)] at hq; exact hq
  · refine wp_iload_n (pc := 4) 1 dX10_season_4 rfl rfl ?_
    refine wp_iconst (pc := 5) dX10_season_5 ?_
    refine wp_icmp_le (pc := 6) 11 dX10_season_6 (by decide) (by omega) (by decide) (fun h_2 => ?_) (fun h_2 => ?_)
    · refine wp_aload_n (pc := 11) 0 dX10_season_11 rfl rfl ?_
      refine wp_getr (pc := 12) dX10_season_12 rfl f_X10_68 kd_0 la_0 rfl (r_0_9 D) ?_
      refine wp_aload_n (pc := 15) 0 dX10_season_15 rfl rfl ?_
      refine wp_getr (pc := 16) dX10_season_16 rfl f_X10_10 kd_0 la_0 rfl (r_0_0 D) ?_
      refine wp_aload_n (pc := 19) 0 dX10_season_19 rfl rfl ?_
      refine wp_getr (pc := 20) dX10_season_20 rfl f_X10_47 kd_0 la_0 rfl (r_0_5 D) ?_
      refine wp_callV (pc := 23) (st := []) (nf' := 153) [vR (D 0), vR 47] [some (vR 101), some (vR (D 0)), some (vR 47), none, none, none] dX10_season_23 rfl c_X10_267 rfl kd_101 (by decide) rfl la_101 rfl (Nat.le_of_ble_eq_true rfl) rfl (Nat.le_of_ble_eq_true rfl) (by omega) (Nat.le_refl _) (Nat.le_refl _) ?_
      refine sp_best0 (t := D 0) (s := 47) (B := 999) (P := fun K E => Fs I K ∧ ∀ k, k ≠ 4 → k ≠ 5 → E k = D k) h9 hD0 is47 hw hv (by decide) hT0 hS ⟨fun b a1 _ _ => funext fun j => up_c a1, fun _ _ _ => rfl⟩ (fun K E g e1 e2 => ⟨e2.1.trans (Fs.uc e1.a), e2.2⟩) (fun K E g e1 e2 => ⟨e2.1.trans (Fs.uc e1.b), fun k a4 a5 => (swp_n a4 a5).trans (e2.2 k a4 a5)⟩) (by omega) (fun K E k eP ek e9 eM es => ?_)
      have e1 := seas_eq hw hv hch (fzT_ok T S) ek eM.2 es
      rw [e1]
      refine wp_eqst (st' := [vI ((bestS T S : Nat) : Int)]) rfl ?_
      refine wq_istore_n (pc := 26) 2 [some (vR 0), some (vI w), some (vI ((bestS T S : Nat) : Int))] dX10_season_26 rfl rfl (by decide) rfl ?_
      refine wp_iload_n (pc := 27) 1 dX10_season_27 rfl rfl ?_
      refine wp_if_ne (pc := 28) 38 dX10_season_28 (by decide) (by omega) (fun h_3 => ?_) (fun h_3 => ?_)
      · refine wp_iload_n (pc := 38) 2 dX10_season_38 rfl rfl ?_
        refine wp_iret (pc := 39) dX10_season_39 rfl rfl ?_
        have hq := hQ K E eP.1 ⟨eP.2, e9⟩
        rw [show seasonA T S w = ((bestS T S : Nat) : Int) from (if_pos (by omega)).trans (if_neg (by omega))] at hq; exact hq
      · refine wp_iload_n (pc := 31) 2 dX10_season_31 rfl rfl ?_
        refine wp_callS (pc := 32) (st := []) (nf' := 153) [vI ((bestS T S : Nat) : Int)] [some (vI ((bestS T S : Nat) : Int))] dX10_season_32 rfl c_X10_259 rfl rfl (Nat.le_of_ble_eq_true rfl) rfl (Nat.le_of_ble_eq_true rfl) (by omega) (Nat.le_refl _) (Nat.le_refl _) ?_
        refine sp_bitCount (bestS T S) rfl (by omega) (by omega) ?_
        refine wp_eqst (st' := [vI ((pc8 (bestS T S) : Nat) : Int)]) rfl ?_
        refine wp_goto (pc := 35) 39 dX10_season_35 (by decide) ?_
        refine wp_iret (pc := 39) dX10_season_39 rfl rfl ?_
        have hq := hQ K E eP.1 ⟨eP.2, e9⟩
        rw [show seasonA T S w = ((pc8 (bestS T S) : Nat) : Int) from (if_pos (by omega)).trans (if_pos (by omega))] at hq; exact hq
    · refine wp_iconst (pc := 9) dX10_season_9 ?_
      refine wp_iret (pc := 10) dX10_season_10 rfl rfl ?_
      have hq := hQ I D (fun _ _ _ _ => rfl) ⟨fun _ _ _ => rfl, h9⟩
      rw [show seasonA T S w = -1 from if_neg (by omega)] at hq; exact hq
