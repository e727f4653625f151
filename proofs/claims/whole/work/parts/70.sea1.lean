/-! the class's Season -/
def bB (b : Bool) : Int := if b = true then 1 else 0
theorem bB_in (b : Bool) : 0 ≤ bB b ∧ bB b ≤ 1 := by cases b <;> decide
theorem bB_1 {b : Bool} : bB b = 1 ↔ b = true := by cases b <;> decide
theorem bB_0 {b : Bool} : ¬ bB b = 1 ↔ b = false := by cases b <;> decide
theorem upc_r {I : mI} {a : Nat} {g : Nat → Int} : upc I a g a = g := funext fun _ => upc_s
theorem up_up {I : mI} {a k : Nat} {x y : Int} : up (up I a k x) a k y = up I a k y := by
  funext b j
  unfold up
  by_cases h : b = a ∧ j = k <;> simp [h]
def rmN (T : mT) (S : mS) (s : Nat) : Nat → Nat
  | 0 => 1
  | n + 1 => if ((cntF (inC S s n) (nQ T) : Nat) : Int) ≤ T 0 16 then rmN T S s n else 0
theorem rmN_le (T : mT) (S : mS) (s : Nat) : ∀ n, rmN T S s n ≤ 1
  | 0 => Nat.le_refl 1
  | n + 1 => by
    have := rmN_le T S s n
    rw [rmN]
    split <;> omega
theorem rmN_1 (T : mT) (S : mS) (s : Nat) : ∀ n, rmN T S s n = 1 ↔ ∀ c : Nat, c < n → ((cntF (inC S s c) (nQ T) : Nat) : Int) ≤ T 0 16
  | 0 => ⟨fun _ c h => absurd h (Nat.not_lt_zero c), fun _ => rfl⟩
  | n + 1 => by
    rw [rmN]
    split
    · next h =>
      rw [rmN_1 T S s n]
      exact ⟨fun x c hc => by by_cases e : c = n; rw [e]; exact h; exact x c (by omega), fun x c hc => x c (by omega)⟩
    · next h => exact ⟨fun x => absurd x (by decide), fun x => absurd (x n (by omega)) h⟩
def fitF (T : mT) (S : mS) : Nat → Bool := fun s => decide (rmN T S s (nC T) = 1)
abbrev fzT (T : mT) (S : mS) : Nat := setOf (fitF T S) 32
theorem fzT_ok (T : mT) (S : mS) : ∀ s, s < 32 → ((fzT T S).testBit s = true ↔ fitS T S s) := fun s hs => by
  rw [setOf_tb, decide_eq_true hs, Bool.true_and]
  unfold fitF
  rw [decide_eq_true_iff]
  exact rmN_1 T S s (nC T)
theorem fzN_lt (T : mT) (S : mS) {n : Nat} (h : n ≤ 32) : setOf (fitF T S) n < 4294967296 := Nat.lt_of_lt_of_le (setOf_lt _ n) (Nat.pow_le_pow_right (n := 2) (j := 32) (by decide) h)

theorem sp_mark {l : Launch} {G : mG} {d : Nat} {I : mI} {L : Nat → Nat → Int} {D : Nat → Nat} {Q : mQ} {a : Nat} {A : Nat → Prop} (e : Nat) {e_ : Int} (he_ : e_ = (e : Int)) (ha : kd a = (20, 32)) (hl : a < 153) (hM : RM (I a) A) (he : e < 1024) (hd : 0 ≤ d) (hQ : ∀ g, RM g (fun d => A d ∨ d = e) → Q none (upc I a g) (XX L D)) : WP l G m_X6_mark d 153 I (XX L D) 0 [some (vR a), some (vI e_), none] [] Q := by
  subst he_
  have t1 : Int.tdiv (e : Int) 32 = ((e / 32 : Nat) : Int) := rfl
  have t2 : Int.tmod (e : Int) 32 = ((e % 32 : Nat) : Int) := rfl
  have hb := hM.1 (e / 32) (by omega)
  refine wp_iload_n (pc := 0) 1 dX6_mark_0 rfl rfl ?_
  refine wp_bipush (pc := 1) dX6_mark_1 (by decide) ?_
  refine wp_idiv (pc := 3) dX6_mark_3 (by omega) (by omega) (by omega) ?_
  refine wp_eqst (st' := [vI ((e / 32 : Nat) : Int)]) (by rw [t1]) ?_
  refine wq_istore_n (pc := 4) 2 [some (vR a), some (vI (e : Int)), some (vI ((e / 32 : Nat) : Int))] dX6_mark_4 rfl rfl (by decide) rfl ?_
  refine wp_iload_n (pc := 5) 2 dX6_mark_5 rfl rfl ?_
  refine wp_if_lt (pc := 6) 27 dX6_mark_6 (by decide) (by omega) (fun h_1 => ?_) (fun h_1 => ?_)
  · refine wp_vret (pc := 27) dX6_mark_27 rfl rfl ?_
    exfalso; omega
  · refine wp_iload_n (pc := 9) 2 dX6_mark_9 rfl rfl ?_
    refine wp_aload_n (pc := 10) 0 dX6_mark_10 rfl rfl ?_
    refine wp_alen (pc := 11) dX6_mark_11 ha (by decide) hl ?_
    refine wp_icmp_ge (pc := 12) 27 dX6_mark_12 (by decide) (by omega) (by decide) (fun h_2 => ?_) (fun h_2 => ?_)
    · refine wp_vret (pc := 27) dX6_mark_27 rfl rfl ?_
      exfalso; omega
    · refine wp_aload_n (pc := 15) 0 dX6_mark_15 rfl rfl ?_
      refine wp_iload_n (pc := 16) 2 dX6_mark_16 rfl rfl ?_
      refine wp_dup2 (pc := 17) dX6_mark_17 rfl rfl ?_
      refine wq_iald (pc := 18) (e / 32) dX6_mark_18 ha hl rfl (by omega) ?_
      refine wp_iconst (pc := 19) dX6_mark_19 ?_
      refine wp_iload_n (pc := 20) 1 dX6_mark_20 rfl rfl ?_
      refine wp_bipush (pc := 21) dX6_mark_21 (by decide) ?_
      refine wp_irem (pc := 23) dX6_mark_23 (by omega) (by omega) (by omega) ?_
      refine wp_eqst (st' := [vI ((e % 32 : Nat) : Int), vI 1, vI (I a (e / 32)), vI ((e / 32 : Nat) : Int), vR a]) (by rw [t2]) ?_
      refine wn_shl1 (pc := 24) (e % 32) dX6_mark_24 rfl (by omega) ?_
      refine wn_or (pc := 25) (Int.toNat (I a (e / 32))) (2 ^ (e % 32)) dX6_mark_25 (by omega) rfl ?_
      refine wq_iast (pc := 26) (e / 32) dX6_mark_26 ha hl rfl (by omega) ?_
      refine wp_vret (pc := 27) dX6_mark_27 rfl rfl ?_
      rw [up_is]
      exact hQ _ (rm_mark hM he)

theorem sp_isMarked {l : Launch} {G : mG} {d : Nat} {I : mI} {L : Nat → Nat → Int} {D : Nat → Nat} {Q : mQ} {a : Nat} (e : Nat) {e_ : Int} (he_ : e_ = (e : Int)) (ha : kd a = (20, 32)) (hl : a < 153) (hM : PB (I a)) (he : e < 1024) (hd : 0 ≤ d) (h1 : mk (I a) e = true → Q (some (vI 1)) I (XX L D)) (h0 : ¬ (mk (I a) e = true) → Q (some (vI 0)) I (XX L D)) : WP l G m_X6_isMarked d 153 I (XX L D) 0 [some (vR a), some (vI e_), none] [] Q := by
  subst he_
  have t1 : Int.tdiv (e : Int) 32 = ((e / 32 : Nat) : Int) := rfl
  have t2 : Int.tmod (e : Int) 32 = ((e % 32 : Nat) : Int) := rfl
  have hb := hM (e / 32) (by omega)
  have hi := bB_in (mk (I a) e)
  refine wp_iload_n (pc := 0) 1 dX6_isMarked_0 rfl rfl ?_
  refine wp_bipush (pc := 1) dX6_isMarked_1 (by decide) ?_
  refine wp_idiv (pc := 3) dX6_isMarked_3 (by omega) (by omega) (by omega) ?_
  refine wp_eqst (st' := [vI ((e / 32 : Nat) : Int)]) (by rw [t1]) ?_
  refine wq_istore_n (pc := 4) 2 [some (vR a), some (vI (e : Int)), some (vI ((e / 32 : Nat) : Int))] dX6_isMarked_4 rfl rfl (by decide) rfl ?_
  refine wp_iload_n (pc := 5) 2 dX6_isMarked_5 rfl rfl ?_
  refine wp_if_lt (pc := 6) 33 dX6_isMarked_6 (by decide) (by omega) (fun h_1 => ?_) (fun h_1 => ?_)
  · refine wp_iconst (pc := 33) dX6_isMarked_33 ?_
    refine wp_zret (pc := 34) dX6_isMarked_34 rfl rfl (by decide) ?_
    exfalso; omega
  · refine wp_iload_n (pc := 9) 2 dX6_isMarked_9 rfl rfl ?_
    refine wp_aload_n (pc := 10) 0 dX6_isMarked_10 rfl rfl ?_
    refine wp_alen (pc := 11) dX6_isMarked_11 ha (by decide) hl ?_
    refine wp_icmp_ge (pc := 12) 33 dX6_isMarked_12 (by decide) (by omega) (by decide) (fun h_2 => ?_) (fun h_2 => ?_)
    · refine wp_iconst (pc := 33) dX6_isMarked_33 ?_
      refine wp_zret (pc := 34) dX6_isMarked_34 rfl rfl (by decide) ?_
      exfalso; omega
    · refine wp_aload_n (pc := 15) 0 dX6_isMarked_15 rfl rfl ?_
      refine wp_iload_n (pc := 16) 2 dX6_isMarked_16 rfl rfl ?_
      refine wq_iald (pc := 17) (e / 32) dX6_isMarked_17 ha hl rfl (by omega) ?_
      refine wp_iload_n (pc := 18) 1 dX6_isMarked_18 rfl rfl ?_
      refine wp_bipush (pc := 19) dX6_isMarked_19 (by decide) ?_
      refine wp_irem (pc := 21) dX6_isMarked_21 (by omega) (by omega) (by omega) ?_
      refine wp_eqst (st' := [vI ((e % 32 : Nat) : Int), vI (I a (e / 32))]) (by rw [t2]) ?_
      refine wp_ishr (pc := 22) dX6_isMarked_22 (by omega) (by omega) ?_
      refine wp_iconst (pc := 23) dX6_isMarked_23 ?_
      refine wp_imask (pc := 24) 1 dX6_isMarked_24 rfl (by decide) ?_
      refine wp_eqst (st' := [vI (bB (mk (I a) e))]) (by rw [show (((e % 32 : Nat) : Int)).toNat = e % 32 from Int.toNat_natCast _, mk_bit hM he]; rfl) ?_
      refine wp_iconst (pc := 25) dX6_isMarked_25 ?_
      refine wp_icmp_ne (pc := 26) 33 dX6_isMarked_26 (by decide) (by omega) (by decide) (fun h_3 => ?_) (fun h_3 => ?_)
      · refine wp_iconst (pc := 33) dX6_isMarked_33 ?_
        refine wp_zret (pc := 34) dX6_isMarked_34 rfl rfl (by decide) ?_
        exact h0 (by rw [bB_0.mp h_3]; decide)
      · refine wp_iconst (pc := 29) dX6_isMarked_29 ?_
        refine wp_goto (pc := 30) 34 dX6_isMarked_30 (by decide) ?_
        refine wp_zret (pc := 34) dX6_isMarked_34 rfl rfl (by decide) ?_
        exact h1 (bB_1.mp h_3)

theorem sp_better {l : Launch} {G : mG} {d : Nat} {I : mI} {L : Nat → Nat → Int} {D : Nat → Nat} {Q : mQ}  (b : Nat) {b_ : Int} (hb_ : b_ = (b : Int)) (s : Nat) {s_ : Int} (hs_ : s_ = (s : Int)) (hb : b < 256) (hs : s < 256) (hd : 1 ≤ d) (hQ : Q (some (vI (((bet b s : Nat) : Int)))) I (XX L D)) : WP l G m_X6_better d 153 I (XX L D) 0 [some (vI b_), some (vI s_), none] [] Q := by
  subst hb_
  subst hs_
  have p1 : pc8 b ≤ 8 := cnt_le _ 8
  have p2 : pc8 s ≤ 8 := cnt_le _ 8
  refine wp_iload_n (pc := 0) 1 dX6_better_0 rfl rfl ?_
  refine wp_callS (pc := 1) (st := []) (nf' := 153) [vI (s : Int)] [some (vI (s : Int))] dX6_better_1 rfl c_X6_65 rfl rfl (Nat.le_of_ble_eq_true rfl) rfl (Nat.le_of_ble_eq_true rfl) (by omega) (Nat.le_refl _) (Nat.le_refl _) ?_
  refine sp_bitCount s rfl (by omega) (by omega) ?_
  refine wp_eqst (st' := [vI ((pc8 s : Nat) : Int)]) rfl ?_
  refine wp_iload_n (pc := 4) 0 dX6_better_4 rfl rfl ?_
  refine wp_callS (pc := 5) (st := [vI ((pc8 s : Nat) : Int)]) (nf' := 153) [vI (b : Int)] [some (vI (b : Int))] dX6_better_5 rfl c_X6_65 rfl rfl (Nat.le_of_ble_eq_true rfl) rfl (Nat.le_of_ble_eq_true rfl) (by omega) (Nat.le_refl _) (Nat.le_refl _) ?_
  refine sp_bitCount b rfl (by omega) (by omega) ?_
  refine wp_eqst (st' := [vI ((pc8 b : Nat) : Int), vI ((pc8 s : Nat) : Int)]) rfl ?_
  refine wp_isub (pc := 8) dX6_better_8 ?_
  refine wq_istore_n (pc := 9) 2 [some (vI (b : Int)), some (vI (s : Int)), some (vI (((pc8 s : Nat) : Int) - ((pc8 b : Nat) : Int)))] dX6_better_9 rfl rfl (by decide) rfl ?_
  refine wp_iload_n (pc := 10) 2 dX6_better_10 rfl rfl ?_
  refine wp_if_gt (pc := 11) 23 dX6_better_11 (by decide) (by omega) (fun h_1 => ?_) (fun h_1 => ?_)
  · refine wp_iload_n (pc := 23) 1 dX6_better_23 rfl rfl ?_
    refine wp_goto (pc := 24) 28 dX6_better_24 (by decide) ?_
    refine wp_iret (pc := 28) dX6_better_28 rfl rfl ?_
    have e1 : bet b s = s := if_pos (by first | exact Or.inl (by omega) | exact Or.inr ⟨by omega, by omega⟩)
    rw [e1] at hQ; exact hQ
  · refine wp_iload_n (pc := 14) 2 dX6_better_14 rfl rfl ?_
    refine wp_if_ne (pc := 15) 27 dX6_better_15 (by decide) (by omega) (fun h_2 => ?_) (fun h_2 => ?_)
    · refine wp_iload_n (pc := 27) 0 dX6_better_27 rfl rfl ?_
      refine wp_iret (pc := 28) dX6_better_28 rfl rfl ?_
      have e1 : bet b s = b := if_neg (fun x => by rcases x with x | ⟨x, y⟩ <;> omega)
      rw [e1] at hQ; exact hQ
    · refine wp_iload_n (pc := 18) 1 dX6_better_18 rfl rfl ?_
      refine wp_iload_n (pc := 19) 0 dX6_better_19 rfl rfl ?_
      refine wp_icmp_ge (pc := 20) 27 dX6_better_20 (by decide) (by omega) (by omega) (fun h_3 => ?_) (fun h_3 => ?_)
      · refine wp_iload_n (pc := 27) 0 dX6_better_27 rfl rfl ?_
        refine wp_iret (pc := 28) dX6_better_28 rfl rfl ?_
        have e1 : bet b s = b := if_neg (fun x => by rcases x with x | ⟨x, y⟩ <;> omega)
        rw [e1] at hQ; exact hQ
      · refine wp_iload_n (pc := 23) 1 dX6_better_23 rfl rfl ?_
        refine wp_goto (pc := 24) 28 dX6_better_24 (by decide) ?_
        refine wp_iret (pc := 28) dX6_better_28 rfl rfl ?_
        have e1 : bet b s = s := if_pos (by first | exact Or.inl (by omega) | exact Or.inr ⟨by omega, by omega⟩)
        rw [e1] at hQ; exact hQ

theorem lp_openPairs {l : Launch} {G : mG} {d : Nat} {I : mI} {L : Nat → Nat → Int} {D : Nat → Nat} {Q : mQ} {t s : Nat} {T : mT} {S : mS} {B : Int} (ht : isT t) (hs : isS s) (hT : TT I t = T) (hS : SS I s = S) (hw : tw T) (hv : sw S B) (hd : 1 ≤ d) (hQ : Q (some (vI (((opn T S : Nat) : Int)))) I (XX L D)) : ∀ i : Nat, i ≤ nQ T → WP l G m_X6_openPairs d 153 I (XX L D) 4 [some (vR t), some (vR s), some (vI ((setOf (opnF S) i : Nat) : Int)), some (vI (i : Int))] [] Q := by
  have b0 := tw_q hw
  have eN : nQ T = (T 0 13).toNat := rfl
  refine loop_dn (fun i => WP l G m_X6_openPairs d 153 I (XX L D) 4 [some (vR t), some (vR s), some (vI ((setOf (opnF S) i : Nat) : Int)), some (vI (i : Int))] [] Q) (nQ T) ?_ (fun i hi ih => ?_)
  · refine wp_iload_n (pc := 4) 3 dX6_openPairs_4 rfl rfl ?_
    refine wp_aload_n (pc := 5) 0 dX6_openPairs_5 rfl rfl ?_
    refine wp_geti (pc := 6) dX6_openPairs_6 rfl f_X6_70 (tk_0 ht) (tl_0 ht) (Or.inl rfl) ?_
    refine wp_eqst (st' := [vI (T 0 13), vI (((nQ T) : Nat) : Int)]) (by rw [← hT] <;> rfl) ?_
    refine wp_icmp_ge (pc := 9) 32 dX6_openPairs_9 (by decide) (by omega) (by omega) (fun h_1 => ?_) (fun h_1 => ?_)
    · refine wp_iload_n (pc := 32) 2 dX6_openPairs_32 rfl rfl ?_
      refine wp_iret (pc := 33) dX6_openPairs_33 rfl rfl ?_
      exact hQ
    · exfalso; omega
  · have b2 := sw_stat hv (j := i) (by omega)
    refine wp_iload_n (pc := 4) 3 dX6_openPairs_4 rfl rfl ?_
    refine wp_aload_n (pc := 5) 0 dX6_openPairs_5 rfl rfl ?_
    refine wp_geti (pc := 6) dX6_openPairs_6 rfl f_X6_70 (tk_0 ht) (tl_0 ht) (Or.inl rfl) ?_
    refine wp_eqst (st' := [vI (T 0 13), vI (i : Int)]) (by rw [← hT] <;> rfl) ?_
    refine wp_icmp_ge (pc := 9) 32 dX6_openPairs_9 (by decide) (by omega) (by omega) (fun h_1 => ?_) (fun h_1 => ?_)
    · exfalso; omega
    · refine wp_aload_n (pc := 12) 1 dX6_openPairs_12 rfl rfl ?_
      refine wp_iload_n (pc := 13) 3 dX6_openPairs_13 rfl rfl ?_
      refine wp_callV (pc := 14) (st := []) (nf' := 153) [vI (i : Int)] [some (vR s), some (vI (i : Int))] dX6_openPairs_14 rfl c_X6_76 rfl (sk_0 hs) (by decide) rfl (sl_0 hs) rfl (Nat.le_of_ble_eq_true rfl) rfl (Nat.le_of_ble_eq_true rfl) (by omega) (Nat.le_refl _) (Nat.le_refl _) ?_
      refine wp_aload_n (pc := 0) 0 dX7_status_0 rfl rfl ?_
      refine wp_getr (pc := 1) dX7_status_1 rfl f_X7_11 (sk_0 hs) (sl_0 hs) rfl (sr_0_0 D hs) ?_
      refine wp_bipush (pc := 4) dX7_status_4 (by decide) ?_
      refine wp_iload_n (pc := 6) 1 dX7_status_6 rfl rfl ?_
      refine wp_iadd (pc := 7) dX7_status_7 ?_
      refine wq_iald (pc := 8) (8 + i) dX7_status_8 (sk_1 hs) (sl_1 hs) (by omega) (by omega) ?_
      refine wp_eqst (st' := [vI (S (8 + i))]) (by rw [← hS] <;> rfl) ?_
      refine wp_iret (pc := 9) dX7_status_9 rfl rfl ?_
      refine wp_eqst (st' := [vI (S (8 + i))]) rfl ?_
      refine wp_if_ne (pc := 17) 26 dX6_openPairs_17 (by decide) (by omega) (fun h_2 => ?_) (fun h_2 => ?_)
      · refine wq_iinc (pc := 26) [some (vR t), some (vR s), some (vI ((setOf (opnF S) i : Nat) : Int)), some (vI ((i : Int) + 1))] dX6_openPairs_26 rfl rfl (by decide) rfl ?_
        refine wp_goto (pc := 29) 4 dX6_openPairs_29 (by decide) ?_
        refine wp_eqls (ls' := [some (vR t), some (vR s), some (vI ((setOf (opnF S) (i + 1) : Nat) : Int)), some (vI (((i + 1) : Nat) : Int))]) (by rw [setOf_n (f := opnF S) (n := i) (by exact decide_eq_false (by omega))]; rfl) ih
      · refine wp_iload_n (pc := 20) 2 dX6_openPairs_20 rfl rfl ?_
        refine wp_iconst (pc := 21) dX6_openPairs_21 ?_
        refine wp_iload_n (pc := 22) 3 dX6_openPairs_22 rfl rfl ?_
        refine wn_shl1 (pc := 23) i dX6_openPairs_23 rfl (by omega) ?_
        refine wn_or (pc := 24) (setOf (opnF S) i) (2 ^ i) dX6_openPairs_24 rfl rfl ?_
        refine wq_istore_n (pc := 25) 2 [some (vR t), some (vR s), some (vI (((setOf (opnF S) i) ||| (2 ^ i) : Nat) : Int)), some (vI (i : Int))] dX6_openPairs_25 rfl rfl (by decide) rfl ?_
        refine wq_iinc (pc := 26) [some (vR t), some (vR s), some (vI (((setOf (opnF S) i) ||| (2 ^ i) : Nat) : Int)), some (vI ((i : Int) + 1))] dX6_openPairs_26 rfl rfl (by decide) rfl ?_
        refine wp_goto (pc := 29) 4 dX6_openPairs_29 (by decide) ?_
        refine wp_eqls (ls' := [some (vR t), some (vR s), some (vI ((setOf (opnF S) (i + 1) : Nat) : Int)), some (vI (((i + 1) : Nat) : Int))]) (by rw [setOf_y (f := opnF S) (n := i) (by exact decide_eq_true (by omega))]; rfl) ih

theorem sp_openPairs {l : Launch} {G : mG} {d : Nat} {I : mI} {L : Nat → Nat → Int} {D : Nat → Nat} {Q : mQ} {t s : Nat} {T : mT} {S : mS} {B : Int}  (ht : isT t) (hs : isS s) (hT : TT I t = T) (hS : SS I s = S) (hw : tw T) (hv : sw S B) (hd : 1 ≤ d) (hQ : Q (some (vI (((opn T S : Nat) : Int)))) I (XX L D)) : WP l G m_X6_openPairs d 153 I (XX L D) 0 [some (vR t), some (vR s), none, none] [] Q := by
  refine wp_iconst (pc := 0) dX6_openPairs_0 ?_
  refine wq_istore_n (pc := 1) 2 [some (vR t), some (vR s), some (vI 0), none] dX6_openPairs_1 rfl rfl (by decide) rfl ?_
  refine wp_iconst (pc := 2) dX6_openPairs_2 ?_
  refine wq_istore_n (pc := 3) 3 [some (vR t), some (vR s), some (vI 0), some (vI 0)] dX6_openPairs_3 rfl rfl (by decide) rfl ?_
  exact lp_openPairs ht hs hT hS hw hv hd hQ 0 (Nat.zero_le _)

theorem lp_dueN {l : Launch} {G : mG} {d : Nat} {I : mI} {L : Nat → Nat → Int} {D : Nat → Nat} {Q : mQ} {s : Nat} {S : mS} {B : Int} {o : Nat} (hs : isS s) (hS : SS I s = S) (hv : sw S B) (ho : o < 32) (hB : B ≤ 100000) (hd : 1 ≤ d) (hQ : Q (some (vI (((dueN S o 5 : Nat) : Int)))) I (XX L D)) : ∀ i : Nat, i ≤ 5 → WP l G m_X6_readingsDue d 153 I (XX L D) 4 [some (vR s), some (vI (o : Int)), some (vI ((dueN S o i : Nat) : Int)), some (vI (i : Int))] [] Q := by
  have b0 := sw_sun hv
  refine loop_dn (fun i => WP l G m_X6_readingsDue d 153 I (XX L D) 4 [some (vR s), some (vI (o : Int)), some (vI ((dueN S o i : Nat) : Int)), some (vI (i : Int))] [] Q) 5 ?_ (fun i hi ih => ?_)
  · refine wp_iload_n (pc := 4) 3 dX6_readingsDue_4 rfl rfl ?_
    refine wp_iconst (pc := 5) dX6_readingsDue_5 ?_
    refine wp_icmp_ge (pc := 6) 42 dX6_readingsDue_6 (by decide) (by decide) (by decide) (fun _ => ?_) (fun hh => absurd hh (by decide))
    refine wp_iload_n (pc := 42) 2 dX6_readingsDue_42 rfl rfl ?_
    refine wp_sipush (pc := 43) dX6_readingsDue_43 (by decide) ?_
    refine wn_mask (pc := 46) (dueN S o 5) 10 dX6_readingsDue_46 rfl rfl (by decide) ?_
    refine wp_iret (pc := 47) dX6_readingsDue_47 rfl rfl ?_
    rw [Nat.mod_eq_of_lt (show dueN S o 5 < 2 ^ 10 from dueN_lt hv o (Nat.le_refl 5))]
    exact hQ
  · have b2 := sw_read hv (j := i) (by omega)
    have b3 := bit_lt o i
    refine wp_iload_n (pc := 4) 3 dX6_readingsDue_4 rfl rfl ?_
    refine wp_iconst (pc := 5) dX6_readingsDue_5 ?_
    refine wp_icmp_ge (pc := 6) 42 dX6_readingsDue_6 (by decide) (by omega) (by decide) (fun h_1 => ?_) (fun h_1 => ?_)
    · exfalso; omega
    · refine wp_iload_n (pc := 9) 1 dX6_readingsDue_9 rfl rfl ?_
      refine wp_iload_n (pc := 10) 3 dX6_readingsDue_10 rfl rfl ?_
      refine wn_shr (pc := 11) o i dX6_readingsDue_11 rfl rfl (by omega) (by omega) ?_
      refine wp_iconst (pc := 12) dX6_readingsDue_12 ?_
      refine wn_mask (pc := 13) (o / 2 ^ i) 1 dX6_readingsDue_13 rfl rfl (by decide) ?_
      refine wp_iconst (pc := 14) dX6_readingsDue_14 ?_
      refine wp_icmp_ne (pc := 15) 36 dX6_readingsDue_15 (by decide) (by omega) (by decide) (fun h_2 => ?_) (fun h_2 => ?_)
      · refine wq_iinc (pc := 36) [some (vR s), some (vI (o : Int)), some (vI ((dueN S o i : Nat) : Int)), some (vI ((i : Int) + 1))] dX6_readingsDue_36 rfl rfl (by decide) rfl ?_
        refine wp_goto (pc := 39) 4 dX6_readingsDue_39 (by decide) ?_
        refine wp_eqls (ls' := [some (vR s), some (vI (o : Int)), some (vI ((dueN S o (i + 1) : Nat) : Int)), some (vI (((i + 1) : Nat) : Int))]) (by rw [show dueN S o (i + 1) = dueN S o i from if_neg (fun x => h_2 ((bit_iff o i).mpr x))]; rfl) ih
      · refine wp_iload_n (pc := 18) 2 dX6_readingsDue_18 rfl rfl ?_
        refine wp_iconst (pc := 19) dX6_readingsDue_19 ?_
        refine wp_iconst (pc := 20) dX6_readingsDue_20 ?_
        refine wp_aload_n (pc := 21) 0 dX6_readingsDue_21 rfl rfl ?_
        refine wp_iload_n (pc := 22) 3 dX6_readingsDue_22 rfl rfl ?_
        refine wp_callV (pc := 23) (st := [vI 3, vI 0, vI ((dueN S o i : Nat) : Int)]) (nf' := 153) [vI (i : Int)] [some (vR s), some (vI (i : Int))] dX6_readingsDue_23 rfl c_X6_79 rfl (sk_0 hs) (by decide) rfl (sl_0 hs) rfl (Nat.le_of_ble_eq_true rfl) rfl (Nat.le_of_ble_eq_true rfl) (by omega) (Nat.le_refl _) (Nat.le_refl _) ?_
        refine wp_aload_n (pc := 0) 0 dX7_readings_0 rfl rfl ?_
        refine wp_getr (pc := 1) dX7_readings_1 rfl f_X7_11 (sk_0 hs) (sl_0 hs) rfl (sr_0_0 D hs) ?_
        refine wp_bipush (pc := 4) dX7_readings_4 (by decide) ?_
        refine wp_iload_n (pc := 6) 1 dX7_readings_6 rfl rfl ?_
        refine wp_iadd (pc := 7) dX7_readings_7 ?_
        refine wq_iald (pc := 8) (23 + i) dX7_readings_8 (sk_1 hs) (sl_1 hs) (by omega) (by omega) ?_
        refine wp_eqst (st' := [vI (S (23 + i))]) (by rw [← hS] <;> rfl) ?_
        refine wp_iret (pc := 9) dX7_readings_9 rfl rfl ?_
        refine wp_eqst (st' := [vI (S (23 + i)), vI 3, vI 0, vI ((dueN S o i : Nat) : Int)]) rfl ?_
        refine wp_isub (pc := 26) dX6_readingsDue_26 ?_
        refine wp_max (pc := 27) dX6_readingsDue_27 rfl c_X6_82 (by omega) (by omega) (Nat.le_of_ble_eq_true rfl) (by omega) ?_
        refine wp_eqst (st' := [vI ((dueQ S i : Nat) : Int), vI ((dueN S o i : Nat) : Int)]) (by show _ = [vI ((((3 - S (23 + i)).toNat : Nat)) : Int), _]; congr 2; split <;> omega) ?_
        refine wp_iconst (pc := 30) dX6_readingsDue_30 ?_
        refine wp_iload_n (pc := 31) 3 dX6_readingsDue_31 rfl rfl ?_
        refine wp_imul (pc := 32) dX6_readingsDue_32 ?_
        refine wn_shl (pc := 33) (dueQ S i) (2 * i) dX6_readingsDue_33 rfl (by omega) (by omega) ?_
        refine wn_or (pc := 34) (dueN S o i) ((dueQ S i) * 2 ^ (2 * i)) dX6_readingsDue_34 rfl rfl ?_
        refine wq_istore_n (pc := 35) 2 [some (vR s), some (vI (o : Int)), some (vI (((dueN S o i) ||| ((dueQ S i) * 2 ^ (2 * i)) : Nat) : Int)), some (vI (i : Int))] dX6_readingsDue_35 rfl rfl (by decide) rfl ?_
        refine wq_iinc (pc := 36) [some (vR s), some (vI (o : Int)), some (vI (((dueN S o i) ||| ((dueQ S i) * 2 ^ (2 * i)) : Nat) : Int)), some (vI ((i : Int) + 1))] dX6_readingsDue_36 rfl rfl (by decide) rfl ?_
        refine wp_goto (pc := 39) 4 dX6_readingsDue_39 (by decide) ?_
        refine wp_eqls (ls' := [some (vR s), some (vI (o : Int)), some (vI ((dueN S o (i + 1) : Nat) : Int)), some (vI (((i + 1) : Nat) : Int))]) (by rw [show dueN S o (i + 1) = (dueN S o i) ||| ((dueQ S i) * 2 ^ (2 * i)) from if_pos ((bit_iff o i).mp h_2)]; rfl) ih

theorem sp_readingsDue {l : Launch} {G : mG} {d : Nat} {I : mI} {L : Nat → Nat → Int} {D : Nat → Nat} {Q : mQ} {s : Nat} {S : mS} {B : Int} (o : Nat) {o_ : Int} (ho_ : o_ = (o : Int)) (hs : isS s) (hS : SS I s = S) (hv : sw S B) (ho : o < 32) (hB : B ≤ 100000) (hd : 1 ≤ d) (hQ : Q (some (vI (((dueN S o 5 : Nat) : Int)))) I (XX L D)) : WP l G m_X6_readingsDue d 153 I (XX L D) 0 [some (vR s), some (vI o_), none, none] [] Q := by
  subst ho_
  refine wp_iconst (pc := 0) dX6_readingsDue_0 ?_
  refine wq_istore_n (pc := 1) 2 [some (vR s), some (vI (o : Int)), some (vI 0), none] dX6_readingsDue_1 rfl rfl (by decide) rfl ?_
  refine wp_iconst (pc := 2) dX6_readingsDue_2 ?_
  refine wq_istore_n (pc := 3) 3 [some (vR s), some (vI (o : Int)), some (vI 0), some (vI 0)] dX6_readingsDue_3 rfl rfl (by decide) rfl ?_
  exact lp_dueN hs hS hv ho hB hd hQ 0 (Nat.zero_le _)

theorem lp_presentPairs {l : Launch} {G : mG} {d : Nat} {I : mI} {L : Nat → Nat → Int} {D : Nat → Nat} {Q : mQ} {t : Nat} {T : mT} {o : Nat} {c : Int} (ht : isT t) (hT : TT I t = T) (hw : tw T) (ho : o < 32) (hc : inR c) (hd : 2 ≤ d) (hQ : Q (some (vI (((prsN T o c (nQ T) : Nat) : Int)))) I (XX L D)) : ∀ i : Nat, i ≤ nQ T → WP l G m_X6_presentPairs d 153 I (XX L D) 5 [some (vR t), some (vI (o : Int)), some (vI c), some (vI ((prsN T o c i : Nat) : Int)), some (vI (i : Int))] [] Q := by
  have b0 := tw_q hw
  have eN : nQ T = (T 0 13).toNat := rfl
  refine loop_dn (fun i => WP l G m_X6_presentPairs d 153 I (XX L D) 5 [some (vR t), some (vI (o : Int)), some (vI c), some (vI ((prsN T o c i : Nat) : Int)), some (vI (i : Int))] [] Q) (nQ T) ?_ (fun i hi ih => ?_)
  · refine wp_iload (pc := 5) dX6_presentPairs_5 rfl ?_
    refine wp_aload_n (pc := 7) 0 dX6_presentPairs_7 rfl rfl ?_
    refine wp_geti (pc := 8) dX6_presentPairs_8 rfl f_X6_70 (tk_0 ht) (tl_0 ht) (Or.inl rfl) ?_
    refine wp_eqst (st' := [vI (T 0 13), vI (((nQ T) : Nat) : Int)]) (by rw [← hT] <;> rfl) ?_
    refine wp_icmp_ge (pc := 11) 39 dX6_presentPairs_11 (by decide) (by omega) (by omega) (fun h_1 => ?_) (fun h_1 => ?_)
    · refine wp_iload_n (pc := 39) 3 dX6_presentPairs_39 rfl rfl ?_
      refine wp_iret (pc := 40) dX6_presentPairs_40 rfl rfl ?_
      exact hQ
    · exfalso; omega
  · have b3 := prsN_lt (T := T) (sun := c) ho i
    refine wp_iload (pc := 5) dX6_presentPairs_5 rfl ?_
    refine wp_aload_n (pc := 7) 0 dX6_presentPairs_7 rfl rfl ?_
    refine wp_geti (pc := 8) dX6_presentPairs_8 rfl f_X6_70 (tk_0 ht) (tl_0 ht) (Or.inl rfl) ?_
    refine wp_eqst (st' := [vI (T 0 13), vI (i : Int)]) (by rw [← hT] <;> rfl) ?_
    refine wp_icmp_ge (pc := 11) 39 dX6_presentPairs_11 (by decide) (by omega) (by omega) (fun h_1 => ?_) (fun h_1 => ?_)
    · exfalso; omega
    · refine wp_aload_n (pc := 14) 0 dX6_presentPairs_14 rfl rfl ?_
      refine wp_iload (pc := 15) dX6_presentPairs_15 rfl ?_
      refine wp_iload_n (pc := 17) 2 dX6_presentPairs_17 rfl rfl ?_
      refine wp_callV (pc := 18) (st := []) (nf' := 153) [vI (i : Int), vI c] [some (vR t), some (vI (i : Int)), some (vI c)] dX6_presentPairs_18 rfl c_X6_87 rfl (tk_0 ht) (by decide) rfl (tl_0 ht) rfl (Nat.le_of_ble_eq_true rfl) rfl (Nat.le_of_ble_eq_true rfl) (by omega) (Nat.le_refl _) (Nat.le_refl _) ?_
      refine sp_isPairAway i rfl ht hT hw (by omega) (by omega) (by omega) (fun h_2 => ?_) (fun h_2 => ?_)
      · refine wp_eqst (st' := [vI 1]) rfl ?_
        refine wp_if_eq (pc := 21) 33 dX6_presentPairs_21 (by decide) (by decide) (fun hh => absurd hh (by decide)) (fun _ => ?_)
        refine wp_iload_n (pc := 24) 3 dX6_presentPairs_24 rfl rfl ?_
        refine wp_iconst (pc := 25) dX6_presentPairs_25 ?_
        refine wp_iload (pc := 26) dX6_presentPairs_26 rfl ?_
        refine wn_shl1 (pc := 28) i dX6_presentPairs_28 rfl (by omega) ?_
        refine wp_iconst (pc := 29) dX6_presentPairs_29 ?_
        refine wp_inot (pc := 30) dX6_presentPairs_30 ?_
        refine wn_andn (pc := 31) (prsN T o c i) (2 ^ i) dX6_presentPairs_31 rfl (by omega) ?_
        refine wq_istore_n (pc := 32) 3 [some (vR t), some (vI (o : Int)), some (vI c), some (vI ((dif (prsN T o c i) (2 ^ i) : Nat) : Int)), some (vI (i : Int))] dX6_presentPairs_32 rfl rfl (by decide) rfl ?_
        refine wq_iinc (pc := 33) [some (vR t), some (vI (o : Int)), some (vI c), some (vI ((dif (prsN T o c i) (2 ^ i) : Nat) : Int)), some (vI ((i : Int) + 1))] dX6_presentPairs_33 rfl rfl (by decide) rfl ?_
        refine wp_goto (pc := 36) 5 dX6_presentPairs_36 (by decide) ?_
        refine wp_eqls (ls' := [some (vR t), some (vI (o : Int)), some (vI c), some (vI ((prsN T o c (i + 1) : Nat) : Int)), some (vI (((i + 1) : Nat) : Int))]) (by rw [show prsN T o c (i + 1) = dif (prsN T o c i) (2 ^ i) from if_pos h_2]; rfl) ih
      · refine wp_eqst (st' := [vI 0]) rfl ?_
        refine wp_if_eq (pc := 21) 33 dX6_presentPairs_21 (by decide) (by decide) (fun _ => ?_) (fun hh => absurd hh (by decide))
        refine wq_iinc (pc := 33) [some (vR t), some (vI (o : Int)), some (vI c), some (vI ((prsN T o c i : Nat) : Int)), some (vI ((i : Int) + 1))] dX6_presentPairs_33 rfl rfl (by decide) rfl ?_
        refine wp_goto (pc := 36) 5 dX6_presentPairs_36 (by decide) ?_
        refine wp_eqls (ls' := [some (vR t), some (vI (o : Int)), some (vI c), some (vI ((prsN T o c (i + 1) : Nat) : Int)), some (vI (((i + 1) : Nat) : Int))]) (by rw [show prsN T o c (i + 1) = prsN T o c i from if_neg h_2]; rfl) ih

theorem sp_presentPairs {l : Launch} {G : mG} {d : Nat} {I : mI} {L : Nat → Nat → Int} {D : Nat → Nat} {Q : mQ} {t : Nat} {T : mT} {c : Int} (o : Nat) {o_ : Int} (ho_ : o_ = (o : Int)) (ht : isT t) (hT : TT I t = T) (hw : tw T) (ho : o < 32) (hc : inR c) (hd : 2 ≤ d) (hQ : Q (some (vI (((prsN T o c (nQ T) : Nat) : Int)))) I (XX L D)) : WP l G m_X6_presentPairs d 153 I (XX L D) 0 [some (vR t), some (vI o_), some (vI c), none, none] [] Q := by
  subst ho_
  refine wp_iload_n (pc := 0) 1 dX6_presentPairs_0 rfl rfl ?_
  refine wq_istore_n (pc := 1) 3 [some (vR t), some (vI (o : Int)), some (vI c), some (vI (o : Int)), none] dX6_presentPairs_1 rfl rfl (by decide) rfl ?_
  refine wp_iconst (pc := 2) dX6_presentPairs_2 ?_
  refine wq_istore (pc := 3) [some (vR t), some (vI (o : Int)), some (vI c), some (vI (o : Int)), some (vI 0)] dX6_presentPairs_3 rfl (by decide) rfl ?_
  exact lp_presentPairs ht hT hw ho hc hd hQ 0 (Nat.zero_le _)

theorem lp_callsIn {l : Launch} {G : mG} {d : Nat} {I : mI} {L : Nat → Nat → Int} {D : Nat → Nat} {Q : mQ} {t s : Nat} {T : mT} {S : mS} {B : Int} {z : Nat} {c : Int} (ht : isT t) (hs : isS s) (hT : TT I t = T) (hS : SS I s = S) (hw : tw T) (hv : sw S B) (hz : z < 32) (hc : inR c) (hd : 2 ≤ d) (hQ : Q (some (vI (((cntF (inC S z c) (nQ T) : Nat) : Int)))) I (XX L D)) : ∀ i : Nat, i ≤ nQ T → WP l G m_X6_callsIn d 153 I (XX L D) 6 [some (vR t), some (vR s), some (vI (z : Int)), some (vI c), some (vI ((cntF (inC S z c) i : Nat) : Int)), some (vI (i : Int))] [] Q := by
  have b0 := tw_q hw
  have eN : nQ T = (T 0 13).toNat := rfl
  refine loop_dn (fun i => WP l G m_X6_callsIn d 153 I (XX L D) 6 [some (vR t), some (vR s), some (vI (z : Int)), some (vI c), some (vI ((cntF (inC S z c) i : Nat) : Int)), some (vI (i : Int))] [] Q) (nQ T) ?_ (fun i hi ih => ?_)
  · refine wp_iload (pc := 6) dX6_callsIn_6 rfl ?_
    refine wp_aload_n (pc := 8) 0 dX6_callsIn_8 rfl rfl ?_
    refine wp_geti (pc := 9) dX6_callsIn_9 rfl f_X6_70 (tk_0 ht) (tl_0 ht) (Or.inl rfl) ?_
    refine wp_eqst (st' := [vI (T 0 13), vI (((nQ T) : Nat) : Int)]) (by rw [← hT] <;> rfl) ?_
    refine wp_icmp_ge (pc := 12) 44 dX6_callsIn_12 (by decide) (by omega) (by omega) (fun h_1 => ?_) (fun h_1 => ?_)
    · refine wp_iload (pc := 44) dX6_callsIn_44 rfl ?_
      refine wp_iret (pc := 46) dX6_callsIn_46 rfl rfl ?_
      exact hQ
    · exfalso; omega
  · have b3 := bit_lt z i
    refine wp_iload (pc := 6) dX6_callsIn_6 rfl ?_
    refine wp_aload_n (pc := 8) 0 dX6_callsIn_8 rfl rfl ?_
    refine wp_geti (pc := 9) dX6_callsIn_9 rfl f_X6_70 (tk_0 ht) (tl_0 ht) (Or.inl rfl) ?_
    refine wp_eqst (st' := [vI (T 0 13), vI (i : Int)]) (by rw [← hT] <;> rfl) ?_
    refine wp_icmp_ge (pc := 12) 44 dX6_callsIn_12 (by decide) (by omega) (by omega) (fun h_1 => ?_) (fun h_1 => ?_)
    · exfalso; omega
    · refine wp_iload_n (pc := 15) 2 dX6_callsIn_15 rfl rfl ?_
      refine wp_iload (pc := 16) dX6_callsIn_16 rfl ?_
      refine wn_shr (pc := 18) z i dX6_callsIn_18 rfl rfl (by omega) (by omega) ?_
      refine wp_iconst (pc := 19) dX6_callsIn_19 ?_
      refine wn_mask (pc := 20) (z / 2 ^ i) 1 dX6_callsIn_20 rfl rfl (by decide) ?_
      refine wp_iconst (pc := 21) dX6_callsIn_21 ?_
      refine wp_icmp_ne (pc := 22) 38 dX6_callsIn_22 (by decide) (by omega) (by decide) (fun h_2 => ?_) (fun h_2 => ?_)
      · refine wq_iinc (pc := 38) [some (vR t), some (vR s), some (vI (z : Int)), some (vI c), some (vI ((cntF (inC S z c) i : Nat) : Int)), some (vI ((i : Int) + 1))] dX6_callsIn_38 rfl rfl (by decide) rfl ?_
        refine wp_goto (pc := 41) 6 dX6_callsIn_41 (by decide) ?_
        refine wp_eqls (ls' := [some (vR t), some (vR s), some (vI (z : Int)), some (vI c), some (vI ((cntF (inC S z c) (i + 1) : Nat) : Int)), some (vI (((i + 1) : Nat) : Int))]) (by rw [cntF_n (f := inC S z c) (n := i) (by unfold inC; first | (rw [decide_eq_false (by assumption), Bool.and_false]) | (rw [show z.testBit i = false from by rw [← Bool.not_eq_true, ← bit_iff]; assumption]; rfl))]; rfl) ih
      · refine wp_aload_n (pc := 25) 1 dX6_callsIn_25 rfl rfl ?_
        refine wp_iload (pc := 26) dX6_callsIn_26 rfl ?_
        refine wp_iload_n (pc := 28) 3 dX6_callsIn_28 rfl rfl ?_
        refine wp_callV (pc := 29) (st := []) (nf' := 153) [vI (i : Int), vI c] [some (vR s), some (vI (i : Int)), some (vI c)] dX6_callsIn_29 rfl c_X6_104 rfl (sk_0 hs) (by decide) rfl (sl_0 hs) rfl (Nat.le_of_ble_eq_true rfl) rfl (Nat.le_of_ble_eq_true rfl) (by omega) (Nat.le_refl _) (Nat.le_refl _) ?_
        refine sp_isReadIn i rfl hs hS hv (by omega) (by omega) (by omega) (fun h_3 => ?_) (fun h_3 => ?_)
        · refine wp_eqst (st' := [vI 1]) rfl ?_
          refine wp_if_eq (pc := 32) 38 dX6_callsIn_32 (by decide) (by decide) (fun hh => absurd hh (by decide)) (fun _ => ?_)
          refine wq_iinc (pc := 35) [some (vR t), some (vR s), some (vI (z : Int)), some (vI c), some (vI (((cntF (inC S z c) i : Nat) : Int) + 1)), some (vI (i : Int))] dX6_callsIn_35 rfl rfl (by decide) rfl ?_
          refine wq_iinc (pc := 38) [some (vR t), some (vR s), some (vI (z : Int)), some (vI c), some (vI (((cntF (inC S z c) i : Nat) : Int) + 1)), some (vI ((i : Int) + 1))] dX6_callsIn_38 rfl rfl (by decide) rfl ?_
          refine wp_goto (pc := 41) 6 dX6_callsIn_41 (by decide) ?_
          refine wp_eqls (ls' := [some (vR t), some (vR s), some (vI (z : Int)), some (vI c), some (vI ((cntF (inC S z c) (i + 1) : Nat) : Int)), some (vI (((i + 1) : Nat) : Int))]) (by rw [cntF_y (f := inC S z c) (n := i) (by unfold inC; rw [(bit_iff z i).mp (by assumption), decide_eq_true (by assumption)]; rfl)]; rfl) ih
        · refine wp_eqst (st' := [vI 0]) rfl ?_
          refine wp_if_eq (pc := 32) 38 dX6_callsIn_32 (by decide) (by decide) (fun _ => ?_) (fun hh => absurd hh (by decide))
          refine wq_iinc (pc := 38) [some (vR t), some (vR s), some (vI (z : Int)), some (vI c), some (vI ((cntF (inC S z c) i : Nat) : Int)), some (vI ((i : Int) + 1))] dX6_callsIn_38 rfl rfl (by decide) rfl ?_
          refine wp_goto (pc := 41) 6 dX6_callsIn_41 (by decide) ?_
          refine wp_eqls (ls' := [some (vR t), some (vR s), some (vI (z : Int)), some (vI c), some (vI ((cntF (inC S z c) (i + 1) : Nat) : Int)), some (vI (((i + 1) : Nat) : Int))]) (by rw [cntF_n (f := inC S z c) (n := i) (by unfold inC; first | (rw [decide_eq_false (by assumption), Bool.and_false]) | (rw [show z.testBit i = false from by rw [← Bool.not_eq_true, ← bit_iff]; assumption]; rfl))]; rfl) ih

theorem sp_callsIn {l : Launch} {G : mG} {d : Nat} {I : mI} {L : Nat → Nat → Int} {D : Nat → Nat} {Q : mQ} {t s : Nat} {T : mT} {S : mS} {B : Int} {c : Int} (z : Nat) {z_ : Int} (hz_ : z_ = (z : Int)) (ht : isT t) (hs : isS s) (hT : TT I t = T) (hS : SS I s = S) (hw : tw T) (hv : sw S B) (hz : z < 32) (hc : inR c) (hd : 2 ≤ d) (hQ : Q (some (vI (((cntF (inC S z c) (nQ T) : Nat) : Int)))) I (XX L D)) : WP l G m_X6_callsIn d 153 I (XX L D) 0 [some (vR t), some (vR s), some (vI z_), some (vI c), none, none] [] Q := by
  subst hz_
  refine wp_iconst (pc := 0) dX6_callsIn_0 ?_
  refine wq_istore (pc := 1) [some (vR t), some (vR s), some (vI (z : Int)), some (vI c), some (vI 0), none] dX6_callsIn_1 rfl (by decide) rfl ?_
  refine wp_iconst (pc := 3) dX6_callsIn_3 ?_
  refine wq_istore (pc := 4) [some (vR t), some (vR s), some (vI (z : Int)), some (vI c), some (vI 0), some (vI 0)] dX6_callsIn_4 rfl (by decide) rfl ?_
  exact lp_callsIn ht hs hT hS hw hv hz hc hd hQ 0 (Nat.zero_le _)

theorem lp_weigh_in {l : Launch} {G : mG} {d : Nat} {I : mI} {L : Nat → Nat → Int} {D : Nat → Nat} {Q : mQ} {t s : Nat} {T : mT} {S : mS} {B : Int} {z : Nat} (ht : isT t) (hs : isS s) (hT : TT I t = T) (hS : SS I s = S) (hw : tw T) (hv : sw S B) (hz : z < 32) (hd : 3 ≤ d) (hN : WP l G m_X6_weighSets d 153 (up I 101 2 (((setOf (fitF T S) z : Nat)) : Int)) (XX L D) 59 [some (vR 101), some (vR t), some (vR s), some (vI (z : Int)), some (vI ((rmN T S z (nC T) : Nat) : Int)), some (vI (((nC T) : Nat) : Int))] [] Q) : ∀ i : Nat, i ≤ nC T → WP l G m_X6_weighSets d 153 (up I 101 2 (((setOf (fitF T S) z : Nat)) : Int)) (XX L D) 19 [some (vR 101), some (vR t), some (vR s), some (vI (z : Int)), some (vI ((rmN T S z i : Nat) : Int)), some (vI (i : Int))] [] Q := by
  have b0 := tw_q hw
  have b1 := tw_c hw
  have b2 := tw_calls hw
  have eN : nQ T = (T 0 13).toNat := rfl
  have eC : nC T = (T 0 11).toNat := rfl
  refine loop_dn (fun i => WP l G m_X6_weighSets d 153 (up I 101 2 (((setOf (fitF T S) z : Nat)) : Int)) (XX L D) 19 [some (vR 101), some (vR t), some (vR s), some (vI (z : Int)), some (vI ((rmN T S z i : Nat) : Int)), some (vI (i : Int))] [] Q) (nC T) ?_ (fun i hi ih => ?_)
  · refine wp_iload (pc := 19) dX6_weighSets_19 rfl ?_
    refine wp_aload_n (pc := 21) 1 dX6_weighSets_21 rfl rfl ?_
    refine wp_geti (pc := 22) dX6_weighSets_22 rfl f_X6_94 (tk_0 ht) (tl_0 ht) (Or.inl rfl) ?_
    refine wp_eqst (st' := [vI (T 0 11), vI (((nC T) : Nat) : Int)]) (by rw [up_c (by omega), ← hT] <;> rfl) ?_
    refine wp_icmp_ge (pc := 25) 59 dX6_weighSets_25 (by decide) (by omega) (by omega) (fun h_1 => ?_) (fun h_1 => ?_)
    · exact hN
    · exfalso; omega
  · have b3 := rmN_le T S z i
    refine wp_iload (pc := 19) dX6_weighSets_19 rfl ?_
    refine wp_aload_n (pc := 21) 1 dX6_weighSets_21 rfl rfl ?_
    refine wp_geti (pc := 22) dX6_weighSets_22 rfl f_X6_94 (tk_0 ht) (tl_0 ht) (Or.inl rfl) ?_
    refine wp_eqst (st' := [vI (T 0 11), vI (i : Int)]) (by rw [up_c (by omega), ← hT] <;> rfl) ?_
    refine wp_icmp_ge (pc := 25) 59 dX6_weighSets_25 (by decide) (by omega) (by omega) (fun h_1 => ?_) (fun h_1 => ?_)
    · exfalso; omega
    · refine wp_iload (pc := 28) dX6_weighSets_28 rfl ?_
      refine wp_aload_n (pc := 30) 1 dX6_weighSets_30 rfl rfl ?_
      refine wp_aload_n (pc := 31) 2 dX6_weighSets_31 rfl rfl ?_
      refine wp_iload_n (pc := 32) 3 dX6_weighSets_32 rfl rfl ?_
      refine wp_iload (pc := 33) dX6_weighSets_33 rfl ?_
      refine wp_callS (pc := 35) (st := [vI ((rmN T S z i : Nat) : Int)]) (nf' := 153) [vR t, vR s, vI (z : Int), vI (i : Int)] [some (vR t), some (vR s), some (vI (z : Int)), some (vI (i : Int)), none, none] dX6_weighSets_35 rfl c_X6_97 rfl rfl (Nat.le_of_ble_eq_true rfl) rfl (Nat.le_of_ble_eq_true rfl) (by omega) (Nat.le_refl _) (Nat.le_refl _) ?_
      refine sp_callsIn z rfl (T := T) (S := S) ht hs (by rw [up_is, TT_upc ht (by decide)]; exact hT) (by rw [up_is, SS_upc (by rcases hs with rfl | rfl | rfl | rfl | rfl <;> decide)]; exact hS) hw hv (by omega) (by omega) (by omega) ?_
      have bc := cntF_le (inC S z (i : Int)) (nQ T)
      refine wp_eqst (st' := [vI ((cntF (inC S z (i : Int)) (nQ T) : Nat) : Int), vI ((rmN T S z i : Nat) : Int)]) rfl ?_
      refine wp_aload_n (pc := 38) 1 dX6_weighSets_38 rfl rfl ?_
      refine wp_geti (pc := 39) dX6_weighSets_39 rfl f_X6_101 (tk_0 ht) (tl_0 ht) (Or.inl rfl) ?_
      refine wp_eqst (st' := [vI (T 0 16), vI ((cntF (inC S z (i : Int)) (nQ T) : Nat) : Int), vI ((rmN T S z i : Nat) : Int)]) (by rw [up_c (by omega), ← hT] <;> rfl) ?_
      refine wp_icmp_gt (pc := 42) 49 dX6_weighSets_42 (by decide) (by omega) (by omega) (fun h_2 => ?_) (fun h_2 => ?_)
      · refine wp_iconst (pc := 49) dX6_weighSets_49 ?_
        refine wn_and (pc := 50) (rmN T S z i) 0 dX6_weighSets_50 rfl rfl ?_
        refine wq_istore (pc := 51) [some (vR 101), some (vR t), some (vR s), some (vI (z : Int)), some (vI (((rmN T S z i) &&& 0 : Nat) : Int)), some (vI (i : Int))] dX6_weighSets_51 rfl (by decide) rfl ?_
        refine wq_iinc (pc := 53) [some (vR 101), some (vR t), some (vR s), some (vI (z : Int)), some (vI (((rmN T S z i) &&& 0 : Nat) : Int)), some (vI ((i : Int) + 1))] dX6_weighSets_53 rfl rfl (by decide) rfl ?_
        refine wp_goto (pc := 56) 19 dX6_weighSets_56 (by decide) ?_
        refine wp_eqls (ls' := [some (vR 101), some (vR t), some (vR s), some (vI (z : Int)), some (vI ((rmN T S z (i + 1) : Nat) : Int)), some (vI (((i + 1) : Nat) : Int))]) (by rw [show rmN T S z (i + 1) = (rmN T S z i) &&& 0 from (if_neg (by omega)).trans (Nat.and_zero _).symm]; rfl) ih
      · refine wp_iconst (pc := 45) dX6_weighSets_45 ?_
        refine wp_goto (pc := 46) 50 dX6_weighSets_46 (by decide) ?_
        refine wn_mask (pc := 50) (rmN T S z i) 1 dX6_weighSets_50 rfl rfl (by decide) ?_
        refine wq_istore (pc := 51) [some (vR 101), some (vR t), some (vR s), some (vI (z : Int)), some (vI (((rmN T S z i) % 2 ^ 1 : Nat) : Int)), some (vI (i : Int))] dX6_weighSets_51 rfl (by decide) rfl ?_
        refine wq_iinc (pc := 53) [some (vR 101), some (vR t), some (vR s), some (vI (z : Int)), some (vI (((rmN T S z i) % 2 ^ 1 : Nat) : Int)), some (vI ((i : Int) + 1))] dX6_weighSets_53 rfl rfl (by decide) rfl ?_
        refine wp_goto (pc := 56) 19 dX6_weighSets_56 (by decide) ?_
        refine wp_eqls (ls' := [some (vR 101), some (vR t), some (vR s), some (vI (z : Int)), some (vI ((rmN T S z (i + 1) : Nat) : Int)), some (vI (((i + 1) : Nat) : Int))]) (by rw [show rmN T S z (i + 1) = (rmN T S z i) % 2 ^ 1 from (if_pos (by omega)).trans (Nat.mod_eq_of_lt (by omega)).symm]; rfl) ih

theorem lp_weigh {l : Launch} {G : mG} {d : Nat} {I : mI} {L : Nat → Nat → Int} {D : Nat → Nat} {Q : mQ} {t s : Nat} {T : mT} {S : mS} {B : Int} (ht : isT t) (hs : isS s) (hT : TT I t = T) (hS : SS I s = S) (hw : tw T) (hv : sw S B) (hd : 3 ≤ d) (hQ : Q none (up I 101 2 (((setOf (fitF T S) 32 : Nat)) : Int)) (XX L D)) : ∀ i : Nat, i ≤ 32 → WP l G m_X6_weighSets d 153 (up I 101 2 (((setOf (fitF T S) i : Nat)) : Int)) (XX L D) 7 [some (vR 101), some (vR t), some (vR s), some (vI (i : Int)), none, none] [] Q := by
  have b0 := tw_q hw
  have b1 := tw_c hw
  have b2 := tw_calls hw
  have eN : nQ T = (T 0 13).toNat := rfl
  have eC : nC T = (T 0 11).toNat := rfl
  refine loop_dn (fun i => WP l G m_X6_weighSets d 153 (up I 101 2 (((setOf (fitF T S) i : Nat)) : Int)) (XX L D) 7 [some (vR 101), some (vR t), some (vR s), some (vI (i : Int)), none, none] [] Q) 32 ?_ (fun i hi ih => ?_)
  · refine wp_iload_n (pc := 7) 3 dX6_weighSets_7 rfl rfl ?_
    refine wp_bipush (pc := 8) dX6_weighSets_8 (by decide) ?_
    refine wp_icmp_ge (pc := 10) 86 dX6_weighSets_10 (by decide) (by decide) (by decide) (fun _ => ?_) (fun hh => absurd hh (by decide))
    refine wp_vret (pc := 86) dX6_weighSets_86 rfl rfl ?_
    exact hQ
  · refine wp_iload_n (pc := 7) 3 dX6_weighSets_7 rfl rfl ?_
    refine wp_bipush (pc := 8) dX6_weighSets_8 (by decide) ?_
    refine wp_icmp_ge (pc := 10) 86 dX6_weighSets_10 (by decide) (by omega) (by decide) (fun h_1 => ?_) (fun h_1 => ?_)
    · exfalso; omega
    · refine wp_iconst (pc := 13) dX6_weighSets_13 ?_
      refine wq_istore (pc := 14) [some (vR 101), some (vR t), some (vR s), some (vI (i : Int)), some (vI 1), none] dX6_weighSets_14 rfl (by decide) rfl ?_
      refine wp_iconst (pc := 16) dX6_weighSets_16 ?_
      refine wq_istore (pc := 17) [some (vR 101), some (vR t), some (vR s), some (vI (i : Int)), some (vI 1), some (vI 0)] dX6_weighSets_17 rfl (by decide) rfl ?_
      refine lp_weigh_in ht hs hT hS hw hv hi hd ?_ 0 (Nat.zero_le _)
      have b3 := rmN_le T S i (nC T)
      refine wp_aload_n (pc := 59) 0 dX6_weighSets_59 rfl rfl ?_
      refine wp_dup (pc := 60) dX6_weighSets_60 rfl ?_
      refine wp_geti (pc := 61) dX6_weighSets_61 rfl f_X6_91 kd_101 la_101 (Or.inl rfl) ?_
      refine wp_eqst (st' := [vI (((setOf (fitF T S) i : Nat)) : Int), vR 101]) (by rw [up_s]) ?_
      refine wp_iload (pc := 64) dX6_weighSets_64 rfl ?_
      refine wp_if_eq (pc := 66) 75 dX6_weighSets_66 (by decide) (by omega) (fun h_2 => ?_) (fun h_2 => ?_)
      · refine wp_iconst (pc := 75) dX6_weighSets_75 ?_
        refine wn_or (pc := 76) (Int.toNat (((setOf (fitF T S) i : Nat)) : Int)) 0 dX6_weighSets_76 (by omega) rfl ?_
        refine wp_puti (pc := 77) dX6_weighSets_77 rfl f_X6_91 kd_101 la_101 (fun _ h => by cases h; rfl) rfl ?_
        refine wq_iinc (pc := 80) [some (vR 101), some (vR t), some (vR s), some (vI ((i : Int) + 1)), some (vI ((rmN T S i (nC T) : Nat) : Int)), some (vI ((nC T : Nat) : Int))] dX6_weighSets_80 rfl rfl (by decide) rfl ?_
        refine wp_goto (pc := 83) 7 dX6_weighSets_83 (by decide) ?_
        refine wp_none 4 [some (vR 101), some (vR t), some (vR s), some (vI ((i : Int) + 1)), none, some (vI ((nC T : Nat) : Int))] rfl ?_
        refine wp_none 5 [some (vR 101), some (vR t), some (vR s), some (vI ((i : Int) + 1)), none, none] rfl ?_
        refine wp_eqI (I' := up I 101 2 (((setOf (fitF T S) (i + 1) : Nat)) : Int)) (by rw [up_up, setOf_n (f := fitF T S) (n := i) (decide_eq_false (by omega)), Nat.or_zero]; rfl) (wp_eqls (ls' := [some (vR 101), some (vR t), some (vR s), some (vI (((i + 1) : Nat) : Int)), none, none]) rfl ih)
      · refine wp_iconst (pc := 69) dX6_weighSets_69 ?_
        refine wp_iload_n (pc := 70) 3 dX6_weighSets_70 rfl rfl ?_
        refine wn_shl1 (pc := 71) i dX6_weighSets_71 rfl (by omega) ?_
        refine wp_goto (pc := 72) 76 dX6_weighSets_72 (by decide) ?_
        refine wn_or (pc := 76) (Int.toNat (((setOf (fitF T S) i : Nat)) : Int)) (2 ^ i) dX6_weighSets_76 (by omega) rfl ?_
        refine wp_puti (pc := 77) dX6_weighSets_77 rfl f_X6_91 kd_101 la_101 (fun _ h => by cases h; rfl) rfl ?_
        refine wq_iinc (pc := 80) [some (vR 101), some (vR t), some (vR s), some (vI ((i : Int) + 1)), some (vI ((rmN T S i (nC T) : Nat) : Int)), some (vI ((nC T : Nat) : Int))] dX6_weighSets_80 rfl rfl (by decide) rfl ?_
        refine wp_goto (pc := 83) 7 dX6_weighSets_83 (by decide) ?_
        refine wp_none 4 [some (vR 101), some (vR t), some (vR s), some (vI ((i : Int) + 1)), none, some (vI ((nC T : Nat) : Int))] rfl ?_
        refine wp_none 5 [some (vR 101), some (vR t), some (vR s), some (vI ((i : Int) + 1)), none, none] rfl ?_
        refine wp_eqI (I' := up I 101 2 (((setOf (fitF T S) (i + 1) : Nat)) : Int)) (by rw [up_up, setOf_y (f := fitF T S) (n := i) (decide_eq_true (by omega))]; rfl) (wp_eqls (ls' := [some (vR 101), some (vR t), some (vR s), some (vI (((i + 1) : Nat) : Int)), none, none]) rfl ih)

theorem sp_weigh {l : Launch} {G : mG} {d : Nat} {I : mI} {L : Nat → Nat → Int} {D : Nat → Nat} {Q : mQ} {t s : Nat} {T : mT} {S : mS} {B : Int}  (ht : isT t) (hs : isS s) (hT : TT I t = T) (hS : SS I s = S) (hw : tw T) (hv : sw S B) (hd : 3 ≤ d) (hQ : Q none (up I 101 2 ((fzT T S : Nat) : Int)) (XX L D)) : WP l G m_X6_weighSets d 153 I (XX L D) 0 [some (vR 101), some (vR t), some (vR s), none, none, none] [] Q := by
  refine wp_aload_n (pc := 0) 0 dX6_weighSets_0 rfl rfl ?_
  refine wp_iconst (pc := 1) dX6_weighSets_1 ?_
  refine wp_puti (pc := 2) dX6_weighSets_2 rfl f_X6_91 kd_101 la_101 (fun _ h => by cases h; rfl) rfl ?_
  refine wp_iconst (pc := 5) dX6_weighSets_5 ?_
  refine wq_istore_n (pc := 6) 3 [some (vR 101), some (vR t), some (vR s), some (vI 0), none, none] dX6_weighSets_6 rfl rfl (by decide) rfl ?_
  exact lp_weigh ht hs hT hS hw hv hd hQ 0 (Nat.zero_le _)

theorem sp_fits {l : Launch} {G : mG} {d : Nat} {I : mI} {L : Nat → Nat → Int} {D : Nat → Nat} {Q : mQ} {fz : Nat} (e : Nat) {e_ : Int} (he_ : e_ = (e : Int)) (hf : I 101 2 = (fz : Int)) (hz : fz < 4294967296) (he : e < 32) (hd : 0 ≤ d) (h1 : fz.testBit e = true → Q (some (vI 1)) I (XX L D)) (h0 : ¬ (fz.testBit e = true) → Q (some (vI 0)) I (XX L D)) : WP l G m_X6_fits d 153 I (XX L D) 0 [some (vR 101), some (vI e_)] [] Q := by
  subst he_
  have hi := bB_in (fz.testBit e)
  refine wp_aload_n (pc := 0) 0 dX6_fits_0 rfl rfl ?_
  refine wp_geti (pc := 1) dX6_fits_1 rfl f_X6_91 kd_101 la_101 (Or.inl rfl) ?_
  refine wp_iload_n (pc := 4) 1 dX6_fits_4 rfl rfl ?_
  refine wp_ishr (pc := 5) dX6_fits_5 (by omega) (by omega) ?_
  refine wp_iconst (pc := 6) dX6_fits_6 ?_
  refine wp_imask (pc := 7) 1 dX6_fits_7 rfl (by decide) ?_
  refine wp_eqst (st' := [vI (bB (fz.testBit e))]) (by rw [hf, show (((e : Nat) : Int)).toNat = e from Int.toNat_natCast _, w32_bit hz he]; rfl) ?_
  refine wp_iconst (pc := 8) dX6_fits_8 ?_
  refine wp_icmp_ne (pc := 9) 16 dX6_fits_9 (by decide) (by omega) (by decide) (fun h_1 => ?_) (fun h_1 => ?_)
  · refine wp_iconst (pc := 16) dX6_fits_16 ?_
    refine wp_zret (pc := 17) dX6_fits_17 rfl rfl (by decide) ?_
    exact h0 (by rw [bB_0.mp h_1]; decide)
  · refine wp_iconst (pc := 12) dX6_fits_12 ?_
    refine wp_goto (pc := 13) 17 dX6_fits_13 (by decide) ?_
    refine wp_zret (pc := 17) dX6_fits_17 rfl rfl (by decide) ?_
    exact h1 (bB_1.mp h_1)

theorem lp_isFull {l : Launch} {G : mG} {d : Nat} {I : mI} {L : Nat → Nat → Int} {D : Nat → Nat} {Q : mQ} {fz s r : Nat} (hf : I 101 2 = (fz : Int)) (hz : fz < 4294967296) (hs : s < 32) (hr : r < 32) (hd : 1 ≤ d) (h1 : (∀ q, q < 5 → ¬ ((dif r s &&& 2 ^ q) ≠ 0 ∧ fz.testBit (s ||| 2 ^ q) = true)) → Q (some (vI 1)) I (XX L D)) (h0 : ¬ (∀ q, q < 5 → ¬ ((dif r s &&& 2 ^ q) ≠ 0 ∧ fz.testBit (s ||| 2 ^ q) = true)) → Q (some (vI 0)) I (XX L D)) : ∀ i : Nat, i ≤ 5 → (∀ q, q < i → ¬ ((dif r s &&& 2 ^ q) ≠ 0 ∧ fz.testBit (s ||| 2 ^ q) = true)) → WP l G m_X6_isFull d 153 I (XX L D) 2 [some (vR 101), some (vI (s : Int)), some (vI (r : Int)), some (vI (i : Int)), none] [] Q := by
  refine loop_dn (fun i => (∀ q, q < i → ¬ ((dif r s &&& 2 ^ q) ≠ 0 ∧ fz.testBit (s ||| 2 ^ q) = true)) → WP l G m_X6_isFull d 153 I (XX L D) 2 [some (vR 101), some (vI (s : Int)), some (vI (r : Int)), some (vI (i : Int)), none] [] Q) 5 ?_ (fun i hi ih => ?_)
  · intro ha
    refine wp_iload_n (pc := 2) 3 dX6_isFull_2 rfl rfl ?_
    refine wp_iconst (pc := 3) dX6_isFull_3 ?_
    refine wp_icmp_ge (pc := 4) 42 dX6_isFull_4 (by decide) (by decide) (by decide) (fun _ => ?_) (fun hh => absurd hh (by decide))
    refine wp_iconst (pc := 42) dX6_isFull_42 ?_
    refine wp_zret (pc := 43) dX6_isFull_43 rfl rfl (by decide) ?_
    exact h1 ha
  · intro ha
    have b1 : 2 ^ i < 32 := (show 2 ^ i < 2 ^ 5 from Nat.pow_lt_pow_right (by decide) hi)
    have b2 : dif r s &&& 2 ^ i < 32 := Nat.lt_of_le_of_lt Nat.and_le_right b1
    have b3 : s ||| 2 ^ i < 32 := or_lt (n := 5) hs b1
    refine wp_iload_n (pc := 2) 3 dX6_isFull_2 rfl rfl ?_
    refine wp_iconst (pc := 3) dX6_isFull_3 ?_
    refine wp_icmp_ge (pc := 4) 42 dX6_isFull_4 (by decide) (by omega) (by decide) (fun h_1 => ?_) (fun h_1 => ?_)
    · exfalso; omega
    · refine wp_iconst (pc := 7) dX6_isFull_7 ?_
      refine wp_iload_n (pc := 8) 3 dX6_isFull_8 rfl rfl ?_
      refine wn_shl1 (pc := 9) i dX6_isFull_9 rfl (by omega) ?_
      refine wq_istore (pc := 10) [some (vR 101), some (vI (s : Int)), some (vI (r : Int)), some (vI (i : Int)), some (vI ((2 ^ i : Nat) : Int))] dX6_isFull_10 rfl (by decide) rfl ?_
      refine wp_iload_n (pc := 12) 2 dX6_isFull_12 rfl rfl ?_
      refine wp_iload_n (pc := 13) 1 dX6_isFull_13 rfl rfl ?_
      refine wp_iconst (pc := 14) dX6_isFull_14 ?_
      refine wp_inot (pc := 15) dX6_isFull_15 ?_
      refine wn_andn (pc := 16) r s dX6_isFull_16 rfl (by omega) ?_
      refine wp_iload (pc := 17) dX6_isFull_17 rfl ?_
      refine wn_and (pc := 19) (dif r s) (2 ^ i) dX6_isFull_19 rfl rfl ?_
      refine wp_if_eq (pc := 20) 36 dX6_isFull_20 (by decide) (by omega) (fun h_2 => ?_) (fun h_2 => ?_)
      · refine wq_iinc (pc := 36) [some (vR 101), some (vI (s : Int)), some (vI (r : Int)), some (vI ((i : Int) + 1)), some (vI ((2 ^ i : Nat) : Int))] dX6_isFull_36 rfl rfl (by decide) rfl ?_
        refine wp_goto (pc := 39) 2 dX6_isFull_39 (by decide) ?_
        refine wp_none 4 [some (vR 101), some (vI (s : Int)), some (vI (r : Int)), some (vI ((i : Int) + 1)), none] rfl ?_
        refine wp_eqls (ls' := [some (vR 101), some (vI (s : Int)), some (vI (r : Int)), some (vI (((i + 1) : Nat) : Int)), none]) rfl (ih (fun q hq => ?_))
        by_cases e : q = i
        · subst e
          exact fun x => x.1 (Int.ofNat.inj h_2)
        · exact ha q (by omega)
      · refine wp_aload_n (pc := 23) 0 dX6_isFull_23 rfl rfl ?_
        refine wp_iload_n (pc := 24) 1 dX6_isFull_24 rfl rfl ?_
        refine wp_iload (pc := 25) dX6_isFull_25 rfl ?_
        refine wn_or (pc := 27) s (2 ^ i) dX6_isFull_27 rfl rfl ?_
        refine wp_callV (pc := 28) (st := []) (nf' := 153) [vI ((s ||| (2 ^ i) : Nat) : Int)] [some (vR 101), some (vI ((s ||| (2 ^ i) : Nat) : Int))] dX6_isFull_28 rfl c_X6_111 rfl kd_101 (by decide) rfl la_101 rfl (Nat.le_of_ble_eq_true rfl) rfl (Nat.le_of_ble_eq_true rfl) (by omega) (Nat.le_refl _) (Nat.le_refl _) ?_
        refine sp_fits (s ||| (2 ^ i)) rfl (fz := fz) hf hz (by omega) (by omega) (fun h_3 => ?_) (fun h_3 => ?_)
        · refine wp_eqst (st' := [vI 1]) rfl ?_
          refine wp_if_eq (pc := 31) 36 dX6_isFull_31 (by decide) (by decide) (fun hh => absurd hh (by decide)) (fun _ => ?_)
          refine wp_iconst (pc := 34) dX6_isFull_34 ?_
          refine wp_zret (pc := 35) dX6_isFull_35 rfl rfl (by decide) ?_
          exact h0 (fun x => x i hi ⟨fun y => h_2 (by rw [y]; rfl), h_3⟩)
        · refine wp_eqst (st' := [vI 0]) rfl ?_
          refine wp_if_eq (pc := 31) 36 dX6_isFull_31 (by decide) (by decide) (fun _ => ?_) (fun hh => absurd hh (by decide))
          refine wq_iinc (pc := 36) [some (vR 101), some (vI (s : Int)), some (vI (r : Int)), some (vI ((i : Int) + 1)), some (vI ((2 ^ i : Nat) : Int))] dX6_isFull_36 rfl rfl (by decide) rfl ?_
          refine wp_goto (pc := 39) 2 dX6_isFull_39 (by decide) ?_
          refine wp_none 4 [some (vR 101), some (vI (s : Int)), some (vI (r : Int)), some (vI ((i : Int) + 1)), none] rfl ?_
          refine wp_eqls (ls' := [some (vR 101), some (vI (s : Int)), some (vI (r : Int)), some (vI (((i + 1) : Nat) : Int)), none]) rfl (ih (fun q hq => ?_))
          by_cases e : q = i
          · subst e
            exact fun x => h_3 x.2
          · exact ha q (by omega)

theorem sp_isFull {l : Launch} {G : mG} {d : Nat} {I : mI} {L : Nat → Nat → Int} {D : Nat → Nat} {Q : mQ} {fz : Nat} (s : Nat) {s_ : Int} (hs_ : s_ = (s : Int)) (r : Nat) {r_ : Int} (hr_ : r_ = (r : Int)) (hf : I 101 2 = (fz : Int)) (hz : fz < 4294967296) (hs : s < 32) (hr : r < 32) (hd : 1 ≤ d) (h1 : (∀ q, q < 5 → ¬ ((dif r s &&& 2 ^ q) ≠ 0 ∧ fz.testBit (s ||| 2 ^ q) = true)) → Q (some (vI 1)) I (XX L D)) (h0 : ¬ (∀ q, q < 5 → ¬ ((dif r s &&& 2 ^ q) ≠ 0 ∧ fz.testBit (s ||| 2 ^ q) = true)) → Q (some (vI 0)) I (XX L D)) : WP l G m_X6_isFull d 153 I (XX L D) 0 [some (vR 101), some (vI s_), some (vI r_), none, none] [] Q := by
  subst hs_
  subst hr_
  refine wp_iconst (pc := 0) dX6_isFull_0 ?_
  refine wq_istore_n (pc := 1) 3 [some (vR 101), some (vI (s : Int)), some (vI (r : Int)), some (vI 0), none] dX6_isFull_1 rfl rfl (by decide) rfl ?_
  exact lp_isFull hf hz hs hr hd h1 h0 0 (Nat.zero_le _) (fun q h => absurd h (Nat.not_lt_zero q))

theorem lp_ones {l : Launch} {G : mG} {d : Nat} {I : mI} {L : Nat → Nat → Int} {D : Nat → Nat} {Q : mQ} {z : Nat} (hz : z < 32) (hd : 0 ≤ d) (hQ : Q (some (vI (((onN z 5 : Nat) : Int)))) I (XX L D)) : ∀ i : Nat, i ≤ 5 → WP l G m_X6_ones d 153 I (XX L D) 4 [some (vI (z : Int)), some (vI ((onN z i : Nat) : Int)), some (vI (i : Int))] [] Q := by
  refine loop_dn (fun i => WP l G m_X6_ones d 153 I (XX L D) 4 [some (vI (z : Int)), some (vI ((onN z i : Nat) : Int)), some (vI (i : Int))] [] Q) 5 ?_ (fun i hi ih => ?_)
  · refine wp_iload_n (pc := 4) 2 dX6_ones_4 rfl rfl ?_
    refine wp_iconst (pc := 5) dX6_ones_5 ?_
    refine wp_icmp_ge (pc := 6) 27 dX6_ones_6 (by decide) (by decide) (by decide) (fun _ => ?_) (fun hh => absurd hh (by decide))
    refine wp_iload_n (pc := 27) 1 dX6_ones_27 rfl rfl ?_
    refine wp_iret (pc := 28) dX6_ones_28 rfl rfl ?_
    exact hQ
  · have b1 := onN_lt z hz i (by omega)
    refine wp_iload_n (pc := 4) 2 dX6_ones_4 rfl rfl ?_
    refine wp_iconst (pc := 5) dX6_ones_5 ?_
    refine wp_icmp_ge (pc := 6) 27 dX6_ones_6 (by decide) (by omega) (by decide) (fun h_1 => ?_) (fun h_1 => ?_)
    · exfalso; omega
    · refine wp_iload_n (pc := 9) 1 dX6_ones_9 rfl rfl ?_
      refine wp_iload_n (pc := 10) 0 dX6_ones_10 rfl rfl ?_
      refine wp_iload_n (pc := 11) 2 dX6_ones_11 rfl rfl ?_
      refine wn_shr (pc := 12) z i dX6_ones_12 rfl rfl (by omega) (by omega) ?_
      refine wp_iconst (pc := 13) dX6_ones_13 ?_
      refine wn_mask (pc := 14) (z / 2 ^ i) 1 dX6_ones_14 rfl rfl (by decide) ?_
      refine wp_iconst (pc := 15) dX6_ones_15 ?_
      refine wp_iload_n (pc := 16) 2 dX6_ones_16 rfl rfl ?_
      refine wp_imul (pc := 17) dX6_ones_17 ?_
      refine wn_shl (pc := 18) ((z / 2 ^ i) % 2 ^ 1) (2 * i) dX6_ones_18 rfl (by omega) (by omega) ?_
      refine wn_or (pc := 19) (onN z i) (((z / 2 ^ i) % 2 ^ 1) * 2 ^ (2 * i)) dX6_ones_19 rfl rfl ?_
      refine wq_istore_n (pc := 20) 1 [some (vI (z : Int)), some (vI (((onN z i) ||| (((z / 2 ^ i) % 2 ^ 1) * 2 ^ (2 * i)) : Nat) : Int)), some (vI (i : Int))] dX6_ones_20 rfl rfl (by decide) rfl ?_
      refine wq_iinc (pc := 21) [some (vI (z : Int)), some (vI (((onN z i) ||| (((z / 2 ^ i) % 2 ^ 1) * 2 ^ (2 * i)) : Nat) : Int)), some (vI ((i : Int) + 1))] dX6_ones_21 rfl rfl (by decide) rfl ?_
      refine wp_goto (pc := 24) 4 dX6_ones_24 (by decide) ?_
      refine wp_eqls (ls' := [some (vI (z : Int)), some (vI ((onN z (i + 1) : Nat) : Int)), some (vI (((i + 1) : Nat) : Int))]) (by rfl) ih

theorem sp_ones {l : Launch} {G : mG} {d : Nat} {I : mI} {L : Nat → Nat → Int} {D : Nat → Nat} {Q : mQ}  (z : Nat) {z_ : Int} (hz_ : z_ = (z : Int)) (hz : z < 32) (hd : 0 ≤ d) (hQ : Q (some (vI (((onN z 5 : Nat) : Int)))) I (XX L D)) : WP l G m_X6_ones d 153 I (XX L D) 0 [some (vI z_), none, none] [] Q := by
  subst hz_
  refine wp_iconst (pc := 0) dX6_ones_0 ?_
  refine wq_istore_n (pc := 1) 1 [some (vI (z : Int)), some (vI 0), none] dX6_ones_1 rfl rfl (by decide) rfl ?_
  refine wp_iconst (pc := 2) dX6_ones_2 ?_
  refine wq_istore_n (pc := 3) 2 [some (vI (z : Int)), some (vI 0), some (vI 0)] dX6_ones_3 rfl rfl (by decide) rfl ?_
  exact lp_ones hz hd hQ 0 (Nat.zero_le _)

theorem lp_unf {l : Launch} {G : mG} {d : Nat} {I : mI} {L : Nat → Nat → Int} {D : Nat → Nat} {Q : mQ} {z : Nat} (hz : z < 1024) (hd : 0 ≤ d) (hQ : Q (some (vI (((unf z : Nat) : Int)))) I (XX L D)) : ∀ i : Nat, i ≤ 5 → WP l G m_X6_unfinished d 153 I (XX L D) 4 [some (vI (z : Int)), some (vI ((setOf (unfF z) i : Nat) : Int)), some (vI (i : Int))] [] Q := by
  refine loop_dn (fun i => WP l G m_X6_unfinished d 153 I (XX L D) 4 [some (vI (z : Int)), some (vI ((setOf (unfF z) i : Nat) : Int)), some (vI (i : Int))] [] Q) 5 ?_ (fun i hi ih => ?_)
  · refine wp_iload_n (pc := 4) 2 dX6_unfinished_4 rfl rfl ?_
    refine wp_iconst (pc := 5) dX6_unfinished_5 ?_
    refine wp_icmp_ge (pc := 6) 31 dX6_unfinished_6 (by decide) (by decide) (by decide) (fun _ => ?_) (fun hh => absurd hh (by decide))
    refine wp_iload_n (pc := 31) 1 dX6_unfinished_31 rfl rfl ?_
    refine wp_iret (pc := 32) dX6_unfinished_32 rfl rfl ?_
    exact hQ
  · have b1 : z / 2 ^ (2 * i) % 2 ^ 2 < 4 := Nat.mod_lt _ (by decide)
    refine wp_iload_n (pc := 4) 2 dX6_unfinished_4 rfl rfl ?_
    refine wp_iconst (pc := 5) dX6_unfinished_5 ?_
    refine wp_icmp_ge (pc := 6) 31 dX6_unfinished_6 (by decide) (by omega) (by decide) (fun h_1 => ?_) (fun h_1 => ?_)
    · exfalso; omega
    · refine wp_iload_n (pc := 9) 0 dX6_unfinished_9 rfl rfl ?_
      refine wp_iconst (pc := 10) dX6_unfinished_10 ?_
      refine wp_iload_n (pc := 11) 2 dX6_unfinished_11 rfl rfl ?_
      refine wp_imul (pc := 12) dX6_unfinished_12 ?_
      refine wn_shr (pc := 13) z (2 * i) dX6_unfinished_13 rfl (by omega) (by omega) (by omega) ?_
      refine wp_iconst (pc := 14) dX6_unfinished_14 ?_
      refine wn_mask (pc := 15) (z / 2 ^ (2 * i)) 2 dX6_unfinished_15 rfl rfl (by decide) ?_
      refine wp_if_eq (pc := 16) 25 dX6_unfinished_16 (by decide) (by omega) (fun h_2 => ?_) (fun h_2 => ?_)
      · refine wq_iinc (pc := 25) [some (vI (z : Int)), some (vI ((setOf (unfF z) i : Nat) : Int)), some (vI ((i : Int) + 1))] dX6_unfinished_25 rfl rfl (by decide) rfl ?_
        refine wp_goto (pc := 28) 4 dX6_unfinished_28 (by decide) ?_
        refine wp_eqls (ls' := [some (vI (z : Int)), some (vI ((setOf (unfF z) (i + 1) : Nat) : Int)), some (vI (((i + 1) : Nat) : Int))]) (by rw [setOf_n (f := unfF z) (n := i) (by exact decide_eq_false (by show ¬ (z / 2 ^ (2 * i) % 2 ^ 2 ≠ 0); omega))]; rfl) ih
      · refine wp_iload_n (pc := 19) 1 dX6_unfinished_19 rfl rfl ?_
        refine wp_iconst (pc := 20) dX6_unfinished_20 ?_
        refine wp_iload_n (pc := 21) 2 dX6_unfinished_21 rfl rfl ?_
        refine wn_shl1 (pc := 22) i dX6_unfinished_22 rfl (by omega) ?_
        refine wn_or (pc := 23) (setOf (unfF z) i) (2 ^ i) dX6_unfinished_23 rfl rfl ?_
        refine wq_istore_n (pc := 24) 1 [some (vI (z : Int)), some (vI (((setOf (unfF z) i) ||| (2 ^ i) : Nat) : Int)), some (vI (i : Int))] dX6_unfinished_24 rfl rfl (by decide) rfl ?_
        refine wq_iinc (pc := 25) [some (vI (z : Int)), some (vI (((setOf (unfF z) i) ||| (2 ^ i) : Nat) : Int)), some (vI ((i : Int) + 1))] dX6_unfinished_25 rfl rfl (by decide) rfl ?_
        refine wp_goto (pc := 28) 4 dX6_unfinished_28 (by decide) ?_
        refine wp_eqls (ls' := [some (vI (z : Int)), some (vI ((setOf (unfF z) (i + 1) : Nat) : Int)), some (vI (((i + 1) : Nat) : Int))]) (by rw [setOf_y (f := unfF z) (n := i) (by exact decide_eq_true (by show z / 2 ^ (2 * i) % 2 ^ 2 ≠ 0; omega))]; rfl) ih

theorem sp_unf {l : Launch} {G : mG} {d : Nat} {I : mI} {L : Nat → Nat → Int} {D : Nat → Nat} {Q : mQ}  (z : Nat) {z_ : Int} (hz_ : z_ = (z : Int)) (hz : z < 1024) (hd : 0 ≤ d) (hQ : Q (some (vI (((unf z : Nat) : Int)))) I (XX L D)) : WP l G m_X6_unfinished d 153 I (XX L D) 0 [some (vI z_), none, none] [] Q := by
  subst hz_
  refine wp_iconst (pc := 0) dX6_unfinished_0 ?_
  refine wq_istore_n (pc := 1) 1 [some (vI (z : Int)), some (vI 0), none] dX6_unfinished_1 rfl rfl (by decide) rfl ?_
  refine wp_iconst (pc := 2) dX6_unfinished_2 ?_
  refine wq_istore_n (pc := 3) 2 [some (vI (z : Int)), some (vI 0), some (vI 0)] dX6_unfinished_3 rfl rfl (by decide) rfl ?_
  exact lp_unf hz hd hQ 0 (Nat.zero_le _)
