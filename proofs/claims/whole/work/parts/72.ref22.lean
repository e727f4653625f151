/-! THE REFERENCE: season -/
theorem onN_or (s : Nat) : ∀ n, onN s n = orN (fun q => s / 2 ^ q % 2 ^ 1) n
  | 0 => rfl
  | n + 1 => by rw [onN, orN, onN_or s n]
theorem onN_add (s n : Nat) : onN s (n + 1) = onN s n + s / 2 ^ n % 2 ^ 1 * 2 ^ (2 * n) := by
  rw [onN_or, onN_or]
  exact orN_add (fun q => Nat.le_of_lt (Nat.lt_of_lt_of_le (Nat.mod_lt (s / 2 ^ q) (show 2 ^ 1 > 0 by decide)) (by decide))) n
theorem onN_more {s n : Nat} (h : s < 2 ^ n) : ∀ m, onN s (n + m) = onN s n
  | 0 => rfl
  | m + 1 => by
    rw [← Nat.add_assoc, onN_add, Nat.div_eq_of_lt (Nat.lt_of_lt_of_le h (Nat.pow_le_pow_right (by decide) (by omega))), onN_more h m]
    simp
def lfN (r s : Nat) : Nat → Int
  | 0 => (r : Int)
  | n + 1 => if s.testBit n = true then lfN r s n - ((2 ^ (2 * n) : Nat) : Int) else lfN r s n
theorem lfN_eq (r s : Nat) : ∀ n, lfN r s n = (r : Int) - ((onN s n : Nat) : Int)
  | 0 => by show (r : Int) = (r : Int) - ((0 : Nat) : Int); omega
  | n + 1 => by
    rw [lfN, onN_add, lfN_eq r s n, Nat.testBit_eq_decide_div_mod_eq]
    have := Nat.mod_lt (s / 2 ^ n) (show 2 > 0 by decide)
    by_cases h : s / 2 ^ n % 2 = 1
    · rw [decide_eq_true h, if_pos rfl, show s / 2 ^ n % 2 ^ 1 = 1 from h, Nat.one_mul]; push_cast; omega
    · rw [decide_eq_false h, if_neg (by decide), show s / 2 ^ n % 2 ^ 1 = 0 by show s / 2 ^ n % 2 = 0; omega, Nat.zero_mul, Nat.add_zero]
theorem lfN_in {r s n : Nat} (hr : r < 1024) (hs : s < 32) (hn : n ≤ 5) : -1024 < lfN r s n ∧ lfN r s n < 1024 := by
  have h := onN_lt s hs n hn
  rw [lfN_eq]
  omega
theorem lfN_ok {T : mT} {S : mS} {sun : Int} {r s : Nat} (hw : tw T) (hr : r < 1024) (hs : s < 2 ^ nQ T) (h : okR T S sun r s) : onN s 5 ≤ r ∧ lfN r s (nQ T) = ((r - onN s 5 : Nat) : Int) := by
  have h5 := nQ_le hw
  have hs5 : s < 32 := Nat.lt_of_lt_of_le hs (Nat.pow_le_pow_right (n := 2) (j := 5) (by decide) h5)
  have e := onN_more hs (5 - nQ T)
  rw [show nQ T + (5 - nQ T) = 5 by omega] at e
  have hd := (dig_sub hr hs5 (fun q hq hb => by
    by_cases z : q < nQ T
    · exact (h.1 q z hb).2.1
    · rw [Nat.testBit_lt_two_pow (Nat.lt_of_lt_of_le hs (Nat.pow_le_pow_right (by decide) (Nat.not_lt.mp z)))] at hb
      exact absurd hb (by decide))).1
  refine ⟨hd, ?_⟩
  rw [lfN_eq, ← e]
  omega
def RZb (f : Nat → Int) (A : Nat → Prop) : Prop := ∀ d, d < 1024 → (f d = 0 ∨ f d = 1) ∧ (f d = 1 ↔ A d)
theorem RZb.congr {f : Nat → Int} {A B : Nat → Prop} (h : RZb f A) (e : ∀ d, d < 1024 → (A d ↔ B d)) : RZb f B := fun d hd => ⟨(h d hd).1, (h d hd).2.trans (e d hd)⟩
theorem rz_set {f g : Nat → Int} {A : Nat → Prop} {k : Nat} (h : RZb f A) (hg : ∀ j, g j = if j = k then 1 else f j) : RZb g (fun d => A d ∨ d = k) := fun d hd => by
  rw [hg d]
  by_cases e : d = k
  · rw [if_pos e]; exact ⟨Or.inr rfl, fun _ => Or.inr e, fun _ => rfl⟩
  · rw [if_neg e]; exact ⟨(h d hd).1, fun x => Or.inl ((h d hd).2.mp x), fun x => (h d hd).2.mpr (x.resolve_right e)⟩
theorem rz_0 {f : Nat → Int} (h : ∀ j, j < 1024 → f j = 0) : RZb f (fun _ => False) := fun d hd => by
  rw [h d hd]; exact ⟨Or.inl rfl, fun x => absurd x (by decide), False.elim⟩
theorem frR_y {T : mT} {S : mS} {sun : Int} {r n e : Nat} (h : okR T S sun r n) : fromR T S sun r (n + 1) e ↔ fromR T S sun r n e ∨ e = r - onN n 5 := by
  constructor
  · rintro ⟨s, h1, h2, h3⟩
    by_cases z : s = n
    · subst z; exact Or.inr h3
    · exact Or.inl ⟨s, by omega, h2, h3⟩
  · rintro (⟨s, h1, h2, h3⟩ | h3)
    · exact ⟨s, by omega, h2, h3⟩
    · exact ⟨n, by omega, h, h3⟩
theorem frR_n {T : mT} {S : mS} {sun : Int} {r n e : Nat} (h : ¬ okR T S sun r n) : fromR T S sun r (n + 1) e ↔ fromR T S sun r n e := by
  constructor
  · rintro ⟨s, h1, h2, h3⟩
    by_cases z : s = n
    · subst z; exact absurd h2 h
    · exact ⟨s, by omega, h2, h3⟩
  · rintro ⟨s, h1, h2, h3⟩
    exact ⟨s, by omega, h2, h3⟩
theorem stR_y {T : mT} {S : mS} {sun : Int} {A : Nat → Prop} {n e : Nat} (h : A n) : stepR T S sun A (n + 1) e ↔ stepR T S sun A n e ∨ fromR T S sun n (2 ^ nQ T) e := by
  constructor
  · rintro ⟨d, h1, h2, h3⟩
    by_cases z : d = n
    · subst z; exact Or.inr h3
    · exact Or.inl ⟨d, by omega, h2, h3⟩
  · rintro (⟨d, h1, h2, h3⟩ | h3)
    · exact ⟨d, by omega, h2, h3⟩
    · exact ⟨n, by omega, h, h3⟩
theorem stR_n {T : mT} {S : mS} {sun : Int} {A : Nat → Prop} {n e : Nat} (h : ¬ A n) : stepR T S sun A (n + 1) e ↔ stepR T S sun A n e := by
  constructor
  · rintro ⟨d, h1, h2, h3⟩
    exact ⟨d, Classical.byContradiction (fun z => h (by rw [show n = d by omega]; exact h2)), h2, h3⟩
  · rintro ⟨d, h1, h2, h3⟩
    exact ⟨d, by omega, h2, h3⟩
/-- all but the calls and the two rows of marks is as it was -/
def Gq (I J : mI) : Prop := ∀ b, b ≠ 141 → b ≠ 143 → b ≠ 144 → J b = I b
theorem Gq.refl {I : mI} : Gq I I := fun _ _ _ _ => rfl
theorem Gq.trans {I J K : mI} (h : Gq I J) (h2 : Gq J K) : Gq I K := fun b a1 a2 a3 => (h2 b a1 a2 a3).trans (h b a1 a2 a3)
theorem Gq.up {I J : mI} {a k : Nat} {v : Int} (h : Gq I J) (ha : a = 141 ∨ a = 143 ∨ a = 144) : Gq I (up J a k v) := fun b a1 a2 a3 => (funext fun j => up_c (by omega)).trans (h b a1 a2 a3)
theorem Gq.rt {I J : mI} {T : mT} (h : Gq I J) (hR : RT I T) : RT J T := hR.fr (fun b g1 g2 => h b (by omega) (by omega) (by omega)) (fun j g1 g2 => by rw [h 111 (by decide) (by decide) (by decide)])
theorem Gq.row {I J : mI} {S : mS} (h : Gq I J) (hN : I 139 = pS S) : J 139 = pS S := (h 139 (by decide) (by decide) (by decide)).trans hN
theorem Gq.q {I J : mI} (h : Gq I J) : Rq I J := ⟨fun b _ _ g3 _ _ g6 g7 => h b g3 g6 g7, fun j _ _ _ => by rw [h 111 (by decide) (by decide) (by decide)]⟩

theorem rl_firstRow {l : Launch} {G : mG} {d : Nat} {I : mI} {L : Nat → Nat → Int} {D : Nat → Nat} {Q : mQ} {T : mT} {S : mS} (hR : RT I T) (hN : I 139 = pS S) (hw : tw T) (hv : sw S 999) (hC : TC T) (hd : 0 ≤ d) (hQ : Q (some (vI (((frN S (nQ T) : Nat) : Int)))) I (XX L D)) : ∀ i : Nat, i ≤ nQ T → WP l G m_X11_firstRow d 153 I (XX L D) 4 [some (vR 111), some (vI ((frN S i : Nat) : Int)), some (vI (i : Int)), none] [] Q := by
  have b_p := tw_p hw
  have b_q := tw_q hw
  have b_c := tw_c hw
  have eP : nP T = (T 0 12).toNat := rfl
  have eQ : nQ T = (T 0 13).toNat := rfl
  have eC : nC T = (T 0 11).toNat := rfl
  refine loop_dn (fun i => WP l G m_X11_firstRow d 153 I (XX L D) 4 [some (vR 111), some (vI ((frN S i : Nat) : Int)), some (vI (i : Int)), none] [] Q) (nQ T) ?_ (fun i hi ih => ?_)
  · refine wp_iload_n (pc := 4) 2 dX11_firstRow_4 rfl rfl ?_
    refine wp_aload_n (pc := 5) 0 dX11_firstRow_5 rfl rfl ?_
    refine wp_geti (pc := 6) dX11_firstRow_6 rfl f_X11_415 kd_111 la_111 (Or.inl rfl) ?_
    refine wp_eqst (st' := [vI (T 0 13), vI (((nQ T) : Nat) : Int)]) (by rw [rt_q hR]) ?_
    refine wp_icmp_ge (pc := 9) 55 dX11_firstRow_9 (by decide) (by omega) (by omega) (fun h_1 => ?_) (fun h_1 => ?_)
    · refine wp_iload_n (pc := 55) 1 dX11_firstRow_55 rfl rfl ?_
      refine wp_iret (pc := 56) dX11_firstRow_56 rfl rfl ?_
      exact hQ
    · exfalso; omega
  · have b1 := sw_read hv (j := i) (by omega)
    have b2 := sw_sun hv
    refine wp_iload_n (pc := 4) 2 dX11_firstRow_4 rfl rfl ?_
    refine wp_aload_n (pc := 5) 0 dX11_firstRow_5 rfl rfl ?_
    refine wp_geti (pc := 6) dX11_firstRow_6 rfl f_X11_415 kd_111 la_111 (Or.inl rfl) ?_
    refine wp_eqst (st' := [vI (T 0 13), vI (i : Int)]) (by rw [rt_q hR]) ?_
    refine wp_icmp_ge (pc := 9) 55 dX11_firstRow_9 (by decide) (by omega) (by omega) (fun h_1 => ?_) (fun h_1 => ?_)
    · exfalso; omega
    · refine wp_aload_n (pc := 12) 0 dX11_firstRow_12 rfl rfl ?_
      refine wp_getr (pc := 13) dX11_firstRow_13 rfl f_X11_103 kd_111 la_111 rfl (r_111_60 D) ?_
      refine wp_bipush (pc := 16) dX11_firstRow_16 (by decide) ?_
      refine wp_iload_n (pc := 18) 2 dX11_firstRow_18 rfl rfl ?_
      refine wp_iadd (pc := 19) dX11_firstRow_19 ?_
      refine wq_iald (pc := 20) (13 + i) dX11_firstRow_20 kd_139 la_139 (by omega) (by omega) ?_
      refine wp_eqst (st' := [vI (S (23 + i))]) (by rw [hN, pS_13 (by omega)]) ?_
      refine wp_iconst (pc := 21) dX11_firstRow_21 ?_
      refine wp_icmp_ge (pc := 22) 39 dX11_firstRow_22 (by decide) (by omega) (by decide) (fun h_2 => ?_) (fun h_2 => ?_)
      · refine wp_iconst (pc := 39) dX11_firstRow_39 ?_
        refine wq_istore_n (pc := 40) 3 [some (vR 111), some (vI ((frN S i : Nat) : Int)), some (vI (i : Int)), some (vI 0)] dX11_firstRow_40 rfl rfl (by decide) rfl ?_
        refine wp_iload_n (pc := 41) 1 dX11_firstRow_41 rfl rfl ?_
        refine wp_iload_n (pc := 42) 3 dX11_firstRow_42 rfl rfl ?_
        refine wp_iconst (pc := 43) dX11_firstRow_43 ?_
        refine wp_iload_n (pc := 44) 2 dX11_firstRow_44 rfl rfl ?_
        refine wp_imul (pc := 45) dX11_firstRow_45 ?_
        refine wn_shl (pc := 46) 0 (2 * i) dX11_firstRow_46 rfl (by omega) (by omega) ?_
        refine wn_or (pc := 47) (frN S i) (0 * 2 ^ (2 * i)) dX11_firstRow_47 rfl rfl ?_
        refine wq_istore_n (pc := 48) 1 [some (vR 111), some (vI (((frN S i) ||| (0 * 2 ^ (2 * i)) : Nat) : Int)), some (vI (i : Int)), some (vI 0)] dX11_firstRow_48 rfl rfl (by decide) rfl ?_
        refine wq_iinc (pc := 49) [some (vR 111), some (vI (((frN S i) ||| (0 * 2 ^ (2 * i)) : Nat) : Int)), some (vI ((i : Int) + 1)), some (vI 0)] dX11_firstRow_49 rfl rfl (by decide) rfl ?_
        refine wp_goto (pc := 52) 4 dX11_firstRow_52 (by decide) ?_
        refine wp_none 3 [some (vR 111), some (vI (((frN S i) ||| (0 * 2 ^ (2 * i)) : Nat) : Int)), some (vI ((i : Int) + 1)), none] rfl ?_
        refine wp_eqls (ls' := [some (vR 111), some (vI ((frN S (i + 1) : Nat) : Int)), some (vI (((i + 1) : Nat) : Int)), none]) (by rw [show frN S (i + 1) = frN S i ||| 0 * 2 ^ (2 * i) from by rw [frN, show dueQ S i = 0 from by unfold dueQ; omega]]; rfl) ih
      · refine wp_iconst (pc := 25) dX11_firstRow_25 ?_
        refine wp_aload_n (pc := 26) 0 dX11_firstRow_26 rfl rfl ?_
        refine wp_getr (pc := 27) dX11_firstRow_27 rfl f_X11_103 kd_111 la_111 rfl (r_111_60 D) ?_
        refine wp_bipush (pc := 30) dX11_firstRow_30 (by decide) ?_
        refine wp_iload_n (pc := 32) 2 dX11_firstRow_32 rfl rfl ?_
        refine wp_iadd (pc := 33) dX11_firstRow_33 ?_
        refine wq_iald (pc := 34) (13 + i) dX11_firstRow_34 kd_139 la_139 (by omega) (by omega) ?_
        refine wp_eqst (st' := [vI (S (23 + i)), vI 3]) (by rw [hN, pS_13 (by omega)]) ?_
        refine wp_isub (pc := 35) dX11_firstRow_35 ?_
        refine wp_goto (pc := 36) 40 dX11_firstRow_36 (by decide) ?_
        refine wq_istore_n (pc := 40) 3 [some (vR 111), some (vI ((frN S i : Nat) : Int)), some (vI (i : Int)), some (vI (3 - (S (23 + i))))] dX11_firstRow_40 rfl rfl (by decide) rfl ?_
        refine wp_iload_n (pc := 41) 1 dX11_firstRow_41 rfl rfl ?_
        refine wp_iload_n (pc := 42) 3 dX11_firstRow_42 rfl rfl ?_
        refine wp_iconst (pc := 43) dX11_firstRow_43 ?_
        refine wp_iload_n (pc := 44) 2 dX11_firstRow_44 rfl rfl ?_
        refine wp_imul (pc := 45) dX11_firstRow_45 ?_
        refine wn_shl (pc := 46) (Int.toNat (3 - (S (23 + i)))) (2 * i) dX11_firstRow_46 (by omega) (by omega) (by omega) ?_
        refine wn_or (pc := 47) (frN S i) ((Int.toNat (3 - (S (23 + i)))) * 2 ^ (2 * i)) dX11_firstRow_47 rfl rfl ?_
        refine wq_istore_n (pc := 48) 1 [some (vR 111), some (vI (((frN S i) ||| ((Int.toNat (3 - (S (23 + i)))) * 2 ^ (2 * i)) : Nat) : Int)), some (vI (i : Int)), some (vI (3 - (S (23 + i))))] dX11_firstRow_48 rfl rfl (by decide) rfl ?_
        refine wq_iinc (pc := 49) [some (vR 111), some (vI (((frN S i) ||| ((Int.toNat (3 - (S (23 + i)))) * 2 ^ (2 * i)) : Nat) : Int)), some (vI ((i : Int) + 1)), some (vI (3 - (S (23 + i))))] dX11_firstRow_49 rfl rfl (by decide) rfl ?_
        refine wp_goto (pc := 52) 4 dX11_firstRow_52 (by decide) ?_
        refine wp_none 3 [some (vR 111), some (vI (((frN S i) ||| ((Int.toNat (3 - (S (23 + i)))) * 2 ^ (2 * i)) : Nat) : Int)), some (vI ((i : Int) + 1)), none] rfl ?_
        refine wp_eqls (ls' := [some (vR 111), some (vI ((frN S (i + 1) : Nat) : Int)), some (vI (((i + 1) : Nat) : Int)), none]) (by rfl) ih

theorem rs_firstRow {l : Launch} {G : mG} {d : Nat} {I : mI} {L : Nat → Nat → Int} {D : Nat → Nat} {Q : mQ} {T : mT} {S : mS}  (hR : RT I T) (hN : I 139 = pS S) (hw : tw T) (hv : sw S 999) (hC : TC T) (hd : 0 ≤ d) (hQ : Q (some (vI (((frN S (nQ T) : Nat) : Int)))) I (XX L D)) : WP l G m_X11_firstRow d 153 I (XX L D) 0 [some (vR 111), none, none, none] [] Q := by
  have b_p := tw_p hw
  have b_q := tw_q hw
  have b_c := tw_c hw
  have eP : nP T = (T 0 12).toNat := rfl
  have eQ : nQ T = (T 0 13).toNat := rfl
  have eC : nC T = (T 0 11).toNat := rfl
  refine wp_iconst (pc := 0) dX11_firstRow_0 ?_
  refine wq_istore_n (pc := 1) 1 [some (vR 111), some (vI 0), none, none] dX11_firstRow_1 rfl rfl (by decide) rfl ?_
  refine wp_iconst (pc := 2) dX11_firstRow_2 ?_
  refine wq_istore_n (pc := 3) 2 [some (vR 111), some (vI 0), some (vI 0), none] dX11_firstRow_3 rfl rfl (by decide) rfl ?_
  exact rl_firstRow hR hN hw hv hC hd hQ 0 (Nat.zero_le _)

theorem rl_readBy {l : Launch} {G : mG} {d : Nat} {I : mI} {L : Nat → Nat → Int} {D : Nat → Nat} {Q : mQ} {T : mT} {S : mS} {r : Nat} (hR : RT I T) (hN : I 139 = pS S) (hw : tw T) (hv : sw S 999) (hC : TC T) (hr : r < 1024) (hd : 1 ≤ d) (hQ : Q (some (vI (((rdBy T S r : Nat) : Int)))) I (XX L D)) : ∀ i : Nat, i ≤ nQ T → WP l G m_X11_readBy d 153 I (XX L D) 4 [some (vR 111), some (vI (r : Int)), some (vI ((setOf (rdF S r) i : Nat) : Int)), some (vI (i : Int))] [] Q := by
  have b_p := tw_p hw
  have b_q := tw_q hw
  have b_c := tw_c hw
  have eP : nP T = (T 0 12).toNat := rfl
  have eQ : nQ T = (T 0 13).toNat := rfl
  have eC : nC T = (T 0 11).toNat := rfl
  refine loop_dn (fun i => WP l G m_X11_readBy d 153 I (XX L D) 4 [some (vR 111), some (vI (r : Int)), some (vI ((setOf (rdF S r) i : Nat) : Int)), some (vI (i : Int))] [] Q) (nQ T) ?_ (fun i hi ih => ?_)
  · refine wp_iload_n (pc := 4) 3 dX11_readBy_4 rfl rfl ?_
    refine wp_aload_n (pc := 5) 0 dX11_readBy_5 rfl rfl ?_
    refine wp_geti (pc := 6) dX11_readBy_6 rfl f_X11_415 kd_111 la_111 (Or.inl rfl) ?_
    refine wp_eqst (st' := [vI (T 0 13), vI (((nQ T) : Nat) : Int)]) (by rw [rt_q hR]) ?_
    refine wp_icmp_ge (pc := 9) 51 dX11_readBy_9 (by decide) (by omega) (by omega) (fun h_1 => ?_) (fun h_1 => ?_)
    · refine wp_iload_n (pc := 51) 2 dX11_readBy_51 rfl rfl ?_
      refine wp_iret (pc := 52) dX11_readBy_52 rfl rfl ?_
      exact hQ
    · exfalso; omega
  · have b1 := sw_stat hv (j := i) (by omega)
    have b3 : r / 2 ^ (2 * i) % 2 ^ 2 < 4 := Nat.mod_lt _ (by decide)
    have b4 := Nat.lt_of_lt_of_le (setOf_lt (rdF S r) i) (Nat.pow_le_pow_right (n := 2) (j := 8) (by decide) (by omega))
    refine wp_iload_n (pc := 4) 3 dX11_readBy_4 rfl rfl ?_
    refine wp_aload_n (pc := 5) 0 dX11_readBy_5 rfl rfl ?_
    refine wp_geti (pc := 6) dX11_readBy_6 rfl f_X11_415 kd_111 la_111 (Or.inl rfl) ?_
    refine wp_eqst (st' := [vI (T 0 13), vI (i : Int)]) (by rw [rt_q hR]) ?_
    refine wp_icmp_ge (pc := 9) 51 dX11_readBy_9 (by decide) (by omega) (by omega) (fun h_1 => ?_) (fun h_1 => ?_)
    · exfalso; omega
    · refine wp_iload_n (pc := 12) 2 dX11_readBy_12 rfl rfl ?_
      refine wp_aload_n (pc := 13) 0 dX11_readBy_13 rfl rfl ?_
      refine wp_getr (pc := 14) dX11_readBy_14 rfl f_X11_103 kd_111 la_111 rfl (r_111_60 D) ?_
      refine wp_bipush (pc := 17) dX11_readBy_17 (by decide) ?_
      refine wp_iload_n (pc := 19) 3 dX11_readBy_19 rfl rfl ?_
      refine wp_iadd (pc := 20) dX11_readBy_20 ?_
      refine wq_iald (pc := 21) (8 + i) dX11_readBy_21 kd_139 la_139 (by omega) (by omega) ?_
      refine wp_eqst (st' := [vI (S (8 + i)), vI ((setOf (rdF S r) i : Nat) : Int)]) (by rw [hN, pS_8 (by omega)]) ?_
      refine wp_if_ne (pc := 22) 37 dX11_readBy_22 (by decide) (by omega) (fun h_2 => ?_) (fun h_2 => ?_)
      · refine wp_iconst (pc := 37) dX11_readBy_37 ?_
        refine wp_callS (pc := 38) (st := [vI ((setOf (rdF S r) i : Nat) : Int)]) (nf' := 153) [vI 0] [some (vI 0)] dX11_readBy_38 rfl c_X11_320 rfl rfl (Nat.le_of_ble_eq_true rfl) rfl (Nat.le_of_ble_eq_true rfl) (by omega) (Nat.le_refl _) (Nat.le_refl _) ?_
        refine wp_iload_n (pc := 0) 0 dX11_truth_0 rfl rfl ?_
        refine wp_if_eq (pc := 1) 8 dX11_truth_1 (by decide) (by decide) (fun _ => ?_) (fun hh => absurd hh (by decide))
        refine wp_iconst (pc := 8) dX11_truth_8 ?_
        refine wp_iret (pc := 9) dX11_truth_9 rfl rfl ?_
        refine wp_eqst (st' := [vI 0, vI ((setOf (rdF S r) i : Nat) : Int)]) rfl ?_
        refine wp_iload_n (pc := 41) 3 dX11_readBy_41 rfl rfl ?_
        refine wn_shl (pc := 42) 0 i dX11_readBy_42 rfl rfl (by omega) ?_
        refine wn_or (pc := 43) (setOf (rdF S r) i) (0 * 2 ^ i) dX11_readBy_43 rfl rfl ?_
        refine wq_istore_n (pc := 44) 2 [some (vR 111), some (vI (r : Int)), some (vI (((setOf (rdF S r) i) ||| (0 * 2 ^ i) : Nat) : Int)), some (vI (i : Int))] dX11_readBy_44 rfl rfl (by decide) rfl ?_
        refine wq_iinc (pc := 45) [some (vR 111), some (vI (r : Int)), some (vI (((setOf (rdF S r) i) ||| (0 * 2 ^ i) : Nat) : Int)), some (vI ((i : Int) + 1))] dX11_readBy_45 rfl rfl (by decide) rfl ?_
        refine wp_goto (pc := 48) 4 dX11_readBy_48 (by decide) ?_
        refine wp_eqls (ls' := [some (vR 111), some (vI (r : Int)), some (vI ((setOf (rdF S r) (i + 1) : Nat) : Int)), some (vI (((i + 1) : Nat) : Int))]) (by rw [setOf_n (f := rdF S r) (n := i) (decide_eq_false (fun x => by have y1 := x.1; have y2 : r / 2 ^ (2 * i) % 2 ^ 2 = 0 := x.2; omega))]; first | rfl | (rw [Nat.zero_mul, Nat.or_zero]; rfl)) ih
      · refine wp_iload_n (pc := 25) 1 dX11_readBy_25 rfl rfl ?_
        refine wp_iload_n (pc := 26) 3 dX11_readBy_26 rfl rfl ?_
        refine wp_callS (pc := 27) (st := [vI ((setOf (rdF S r) i : Nat) : Int)]) (nf' := 153) [vI (r : Int), vI (i : Int)] [some (vI (r : Int)), some (vI (i : Int))] dX11_readBy_27 rfl c_X11_543 rfl rfl (Nat.le_of_ble_eq_true rfl) rfl (Nat.le_of_ble_eq_true rfl) (by omega) (Nat.le_refl _) (Nat.le_refl _) ?_
        refine wp_iload_n (pc := 0) 0 dX11_dueOf_0 rfl rfl ?_
        refine wp_iconst (pc := 1) dX11_dueOf_1 ?_
        refine wp_iload_n (pc := 2) 1 dX11_dueOf_2 rfl rfl ?_
        refine wp_imul (pc := 3) dX11_dueOf_3 ?_
        refine wn_shr (pc := 4) r (2 * i) dX11_dueOf_4 rfl (by omega) (by omega) (by omega) ?_
        refine wp_iconst (pc := 5) dX11_dueOf_5 ?_
        refine wn_mask (pc := 6) (r / 2 ^ (2 * i)) 2 dX11_dueOf_6 rfl rfl (by decide) ?_
        refine wp_iret (pc := 7) dX11_dueOf_7 rfl rfl ?_
        refine wp_eqst (st' := [vI (((r / 2 ^ (2 * i)) % 2 ^ 2 : Nat) : Int), vI ((setOf (rdF S r) i : Nat) : Int)]) rfl ?_
        refine wp_if_ne (pc := 30) 37 dX11_readBy_30 (by decide) (by omega) (fun h_3 => ?_) (fun h_3 => ?_)
        · refine wp_iconst (pc := 37) dX11_readBy_37 ?_
          refine wp_callS (pc := 38) (st := [vI ((setOf (rdF S r) i : Nat) : Int)]) (nf' := 153) [vI 0] [some (vI 0)] dX11_readBy_38 rfl c_X11_320 rfl rfl (Nat.le_of_ble_eq_true rfl) rfl (Nat.le_of_ble_eq_true rfl) (by omega) (Nat.le_refl _) (Nat.le_refl _) ?_
          refine wp_iload_n (pc := 0) 0 dX11_truth_0 rfl rfl ?_
          refine wp_if_eq (pc := 1) 8 dX11_truth_1 (by decide) (by decide) (fun _ => ?_) (fun hh => absurd hh (by decide))
          refine wp_iconst (pc := 8) dX11_truth_8 ?_
          refine wp_iret (pc := 9) dX11_truth_9 rfl rfl ?_
          refine wp_eqst (st' := [vI 0, vI ((setOf (rdF S r) i : Nat) : Int)]) rfl ?_
          refine wp_iload_n (pc := 41) 3 dX11_readBy_41 rfl rfl ?_
          refine wn_shl (pc := 42) 0 i dX11_readBy_42 rfl rfl (by omega) ?_
          refine wn_or (pc := 43) (setOf (rdF S r) i) (0 * 2 ^ i) dX11_readBy_43 rfl rfl ?_
          refine wq_istore_n (pc := 44) 2 [some (vR 111), some (vI (r : Int)), some (vI (((setOf (rdF S r) i) ||| (0 * 2 ^ i) : Nat) : Int)), some (vI (i : Int))] dX11_readBy_44 rfl rfl (by decide) rfl ?_
          refine wq_iinc (pc := 45) [some (vR 111), some (vI (r : Int)), some (vI (((setOf (rdF S r) i) ||| (0 * 2 ^ i) : Nat) : Int)), some (vI ((i : Int) + 1))] dX11_readBy_45 rfl rfl (by decide) rfl ?_
          refine wp_goto (pc := 48) 4 dX11_readBy_48 (by decide) ?_
          refine wp_eqls (ls' := [some (vR 111), some (vI (r : Int)), some (vI ((setOf (rdF S r) (i + 1) : Nat) : Int)), some (vI (((i + 1) : Nat) : Int))]) (by rw [setOf_n (f := rdF S r) (n := i) (decide_eq_false (fun x => by have y1 := x.1; have y2 : r / 2 ^ (2 * i) % 2 ^ 2 = 0 := x.2; omega))]; first | rfl | (rw [Nat.zero_mul, Nat.or_zero]; rfl)) ih
        · refine wp_iconst (pc := 33) dX11_readBy_33 ?_
          refine wp_goto (pc := 34) 38 dX11_readBy_34 (by decide) ?_
          refine wp_callS (pc := 38) (st := [vI ((setOf (rdF S r) i : Nat) : Int)]) (nf' := 153) [vI 1] [some (vI 1)] dX11_readBy_38 rfl c_X11_320 rfl rfl (Nat.le_of_ble_eq_true rfl) rfl (Nat.le_of_ble_eq_true rfl) (by omega) (Nat.le_refl _) (Nat.le_refl _) ?_
          refine wp_iload_n (pc := 0) 0 dX11_truth_0 rfl rfl ?_
          refine wp_if_eq (pc := 1) 8 dX11_truth_1 (by decide) (by decide) (fun hh => absurd hh (by decide)) (fun _ => ?_)
          refine wp_iconst (pc := 4) dX11_truth_4 ?_
          refine wp_goto (pc := 5) 9 dX11_truth_5 (by decide) ?_
          refine wp_iret (pc := 9) dX11_truth_9 rfl rfl ?_
          refine wp_eqst (st' := [vI 1, vI ((setOf (rdF S r) i : Nat) : Int)]) rfl ?_
          refine wp_iload_n (pc := 41) 3 dX11_readBy_41 rfl rfl ?_
          refine wn_shl1 (pc := 42) i dX11_readBy_42 rfl (by omega) ?_
          refine wn_or (pc := 43) (setOf (rdF S r) i) (2 ^ i) dX11_readBy_43 rfl rfl ?_
          refine wq_istore_n (pc := 44) 2 [some (vR 111), some (vI (r : Int)), some (vI (((setOf (rdF S r) i) ||| (2 ^ i) : Nat) : Int)), some (vI (i : Int))] dX11_readBy_44 rfl rfl (by decide) rfl ?_
          refine wq_iinc (pc := 45) [some (vR 111), some (vI (r : Int)), some (vI (((setOf (rdF S r) i) ||| (2 ^ i) : Nat) : Int)), some (vI ((i : Int) + 1))] dX11_readBy_45 rfl rfl (by decide) rfl ?_
          refine wp_goto (pc := 48) 4 dX11_readBy_48 (by decide) ?_
          refine wp_eqls (ls' := [some (vR 111), some (vI (r : Int)), some (vI ((setOf (rdF S r) (i + 1) : Nat) : Int)), some (vI (((i + 1) : Nat) : Int))]) (by rw [setOf_y (f := rdF S r) (n := i) (decide_eq_true ⟨by omega, by show r / 2 ^ (2 * i) % 2 ^ 2 = 0; omega⟩)]; first | rfl | (rw [Nat.one_mul]; rfl)) ih

theorem rs_readBy {l : Launch} {G : mG} {d : Nat} {I : mI} {L : Nat → Nat → Int} {D : Nat → Nat} {Q : mQ} {T : mT} {S : mS} (r : Nat) {r_ : Int} (hr_ : r_ = (r : Int)) (hR : RT I T) (hN : I 139 = pS S) (hw : tw T) (hv : sw S 999) (hC : TC T) (hr : r < 1024) (hd : 1 ≤ d) (hQ : Q (some (vI (((rdBy T S r : Nat) : Int)))) I (XX L D)) : WP l G m_X11_readBy d 153 I (XX L D) 0 [some (vR 111), some (vI r_), none, none] [] Q := by
  subst hr_
  have b_p := tw_p hw
  have b_q := tw_q hw
  have b_c := tw_c hw
  have eP : nP T = (T 0 12).toNat := rfl
  have eQ : nQ T = (T 0 13).toNat := rfl
  have eC : nC T = (T 0 11).toNat := rfl
  refine wp_iconst (pc := 0) dX11_readBy_0 ?_
  refine wq_istore_n (pc := 1) 2 [some (vR 111), some (vI (r : Int)), some (vI 0), none] dX11_readBy_1 rfl rfl (by decide) rfl ?_
  refine wp_iconst (pc := 2) dX11_readBy_2 ?_
  refine wq_istore_n (pc := 3) 3 [some (vR 111), some (vI (r : Int)), some (vI 0), some (vI 0)] dX11_readBy_3 rfl rfl (by decide) rfl ?_
  exact rl_readBy hR hN hw hv hC hr hd hQ 0 (Nat.zero_le _)

theorem rs_mayRead {l : Launch} {G : mG} {d : Nat} {I : mI} {L : Nat → Nat → Int} {D : Nat → Nat} {Q : mQ} {T : mT} {S : mS} {c : Int} (r : Nat) {r_ : Int} (hr_ : r_ = (r : Int)) (q : Nat) {q_ : Int} (hq_ : q_ = (q : Int)) (hR : RT I T) (hN : I 139 = pS S) (hw : tw T) (hv : sw S 999) (hC : TC T) (hr : r < 1024) (hq : q < nQ T) (hc : inR c) (hd : 1 ≤ d) (h1 : S (8 + q) = 0 ∧ dg r q ≠ 0 ∧ ¬ pairAway T q c → Q (some (vI 1)) I (XX L D)) (h0 : ¬ (S (8 + q) = 0 ∧ dg r q ≠ 0 ∧ ¬ pairAway T q c) → Q (some (vI 0)) I (XX L D)) : WP l G m_X11_mayRead d 153 I (XX L D) 0 [some (vR 111), some (vI r_), some (vI q_), some (vI c)] [] Q := by
  subst hr_
  subst hq_
  have b_p := tw_p hw
  have b_q := tw_q hw
  have b_c := tw_c hw
  have eP : nP T = (T 0 12).toNat := rfl
  have eQ : nQ T = (T 0 13).toNat := rfl
  have eC : nC T = (T 0 11).toNat := rfl
  have b1 := sw_stat hv (j := q) (by omega)
  have b2 := tw_one hw q
  have b3 := tw_other hw q
  have b4 : r / 2 ^ (2 * q) % 2 ^ 2 < 4 := Nat.mod_lt _ (by decide)
  have b5 : (T 6 q).toNat < nP T := (hC.2.2.2 q hq).1
  have b6 : (T 7 q).toNat < nP T := (hC.2.2.2 q hq).2
  refine wp_aload_n (pc := 0) 0 dX11_mayRead_0 rfl rfl ?_
  refine wp_getr (pc := 1) dX11_mayRead_1 rfl f_X11_103 kd_111 la_111 rfl (r_111_60 D) ?_
  refine wp_bipush (pc := 4) dX11_mayRead_4 (by decide) ?_
  refine wp_iload_n (pc := 6) 2 dX11_mayRead_6 rfl rfl ?_
  refine wp_iadd (pc := 7) dX11_mayRead_7 ?_
  refine wq_iald (pc := 8) (8 + q) dX11_mayRead_8 kd_139 la_139 (by omega) (by omega) ?_
  refine wp_eqst (st' := [vI (S (8 + q))]) (by rw [hN, pS_8 (by omega)]) ?_
  refine wp_if_ne (pc := 9) 52 dX11_mayRead_9 (by decide) (by omega) (fun h_1 => ?_) (fun h_1 => ?_)
  · refine wp_iconst (pc := 52) dX11_mayRead_52 ?_
    refine wp_zret (pc := 53) dX11_mayRead_53 rfl rfl (by decide) ?_
    refine h0 (fun x => ?_)
    have y1 := x.1; have y2 : r / 2 ^ (2 * q) % 2 ^ 2 ≠ 0 := x.2.1
    omega
  · refine wp_iload_n (pc := 12) 1 dX11_mayRead_12 rfl rfl ?_
    refine wp_iload_n (pc := 13) 2 dX11_mayRead_13 rfl rfl ?_
    refine wp_callS (pc := 14) (st := []) (nf' := 153) [vI (r : Int), vI (q : Int)] [some (vI (r : Int)), some (vI (q : Int))] dX11_mayRead_14 rfl c_X11_543 rfl rfl (Nat.le_of_ble_eq_true rfl) rfl (Nat.le_of_ble_eq_true rfl) (by omega) (Nat.le_refl _) (Nat.le_refl _) ?_
    refine wp_iload_n (pc := 0) 0 dX11_dueOf_0 rfl rfl ?_
    refine wp_iconst (pc := 1) dX11_dueOf_1 ?_
    refine wp_iload_n (pc := 2) 1 dX11_dueOf_2 rfl rfl ?_
    refine wp_imul (pc := 3) dX11_dueOf_3 ?_
    refine wn_shr (pc := 4) r (2 * q) dX11_dueOf_4 rfl (by omega) (by omega) (by omega) ?_
    refine wp_iconst (pc := 5) dX11_dueOf_5 ?_
    refine wn_mask (pc := 6) (r / 2 ^ (2 * q)) 2 dX11_dueOf_6 rfl rfl (by decide) ?_
    refine wp_iret (pc := 7) dX11_dueOf_7 rfl rfl ?_
    refine wp_eqst (st' := [vI (((r / 2 ^ (2 * q)) % 2 ^ 2 : Nat) : Int)]) rfl ?_
    refine wp_if_le (pc := 17) 52 dX11_mayRead_17 (by decide) (by omega) (fun h_2 => ?_) (fun h_2 => ?_)
    · refine wp_iconst (pc := 52) dX11_mayRead_52 ?_
      refine wp_zret (pc := 53) dX11_mayRead_53 rfl rfl (by decide) ?_
      refine h0 (fun x => ?_)
      have y1 := x.1; have y2 : r / 2 ^ (2 * q) % 2 ^ 2 ≠ 0 := x.2.1
      omega
    · refine wp_aload_n (pc := 20) 0 dX11_mayRead_20 rfl rfl ?_
      refine wp_aload_n (pc := 21) 0 dX11_mayRead_21 rfl rfl ?_
      refine wp_getr (pc := 22) dX11_mayRead_22 rfl f_X11_81 kd_111 la_111 rfl (r_111_38 D) ?_
      refine wp_iload_n (pc := 25) 2 dX11_mayRead_25 rfl rfl ?_
      refine wq_iald (pc := 26) q dX11_mayRead_26 kd_134 la_134 rfl (by omega) ?_
      refine wp_eqst (st' := [vI (T 6 q), vR 111]) (by rw [rt_one hR (by omega)]) ?_
      refine wp_iload_n (pc := 27) 3 dX11_mayRead_27 rfl rfl ?_
      refine wp_callV (pc := 28) (st := []) (nf' := 153) [vI (T 6 q), vI c] [some (vR 111), some (vI (T 6 q)), some (vI c)] dX11_mayRead_28 rfl c_X11_470 rfl kd_111 (by decide) rfl la_111 rfl (Nat.le_of_ble_eq_true rfl) rfl (Nat.le_of_ble_eq_true rfl) (by omega) (Nat.le_refl _) (Nat.le_refl _) ?_
      refine rs_isAwayOn (Int.toNat (T 6 q)) (by omega) hR hw (by omega) (by omega) (by omega) (fun h_3 => ?_) (fun h_3 => ?_)
      · refine wp_eqst (st' := [vI 1]) rfl ?_
        refine wp_if_ne (pc := 31) 52 dX11_mayRead_31 (by decide) (by decide) (fun _ => ?_) (fun hh => absurd hh (by decide))
        refine wp_iconst (pc := 52) dX11_mayRead_52 ?_
        refine wp_zret (pc := 53) dX11_mayRead_53 rfl rfl (by decide) ?_
        refine h0 (fun x => ?_)
        have y1 := x.1; have y2 : r / 2 ^ (2 * q) % 2 ^ 2 ≠ 0 := x.2.1
        exact x.2.2 (Or.inl h_3)
      · refine wp_eqst (st' := [vI 0]) rfl ?_
        refine wp_if_ne (pc := 31) 52 dX11_mayRead_31 (by decide) (by decide) (fun hh => absurd hh (by decide)) (fun _ => ?_)
        refine wp_aload_n (pc := 34) 0 dX11_mayRead_34 rfl rfl ?_
        refine wp_aload_n (pc := 35) 0 dX11_mayRead_35 rfl rfl ?_
        refine wp_getr (pc := 36) dX11_mayRead_36 rfl f_X11_84 kd_111 la_111 rfl (r_111_39 D) ?_
        refine wp_iload_n (pc := 39) 2 dX11_mayRead_39 rfl rfl ?_
        refine wq_iald (pc := 40) q dX11_mayRead_40 kd_135 la_135 rfl (by omega) ?_
        refine wp_eqst (st' := [vI (T 7 q), vR 111]) (by rw [rt_other hR (by omega)]) ?_
        refine wp_iload_n (pc := 41) 3 dX11_mayRead_41 rfl rfl ?_
        refine wp_callV (pc := 42) (st := []) (nf' := 153) [vI (T 7 q), vI c] [some (vR 111), some (vI (T 7 q)), some (vI c)] dX11_mayRead_42 rfl c_X11_470 rfl kd_111 (by decide) rfl la_111 rfl (Nat.le_of_ble_eq_true rfl) rfl (Nat.le_of_ble_eq_true rfl) (by omega) (Nat.le_refl _) (Nat.le_refl _) ?_
        refine rs_isAwayOn (Int.toNat (T 7 q)) (by omega) hR hw (by omega) (by omega) (by omega) (fun h_4 => ?_) (fun h_4 => ?_)
        · refine wp_eqst (st' := [vI 1]) rfl ?_
          refine wp_if_ne (pc := 45) 52 dX11_mayRead_45 (by decide) (by decide) (fun _ => ?_) (fun hh => absurd hh (by decide))
          refine wp_iconst (pc := 52) dX11_mayRead_52 ?_
          refine wp_zret (pc := 53) dX11_mayRead_53 rfl rfl (by decide) ?_
          refine h0 (fun x => ?_)
          have y1 := x.1; have y2 : r / 2 ^ (2 * q) % 2 ^ 2 ≠ 0 := x.2.1
          exact x.2.2 (Or.inr h_4)
        · refine wp_eqst (st' := [vI 0]) rfl ?_
          refine wp_if_ne (pc := 45) 52 dX11_mayRead_45 (by decide) (by decide) (fun hh => absurd hh (by decide)) (fun _ => ?_)
          refine wp_iconst (pc := 48) dX11_mayRead_48 ?_
          refine wp_goto (pc := 49) 53 dX11_mayRead_49 (by decide) ?_
          refine wp_zret (pc := 53) dX11_mayRead_53 rfl rfl (by decide) ?_
          exact h1 ⟨by omega, by show r / 2 ^ (2 * q) % 2 ^ 2 ≠ 0; omega, fun z => z.elim h_3 h_4⟩

theorem rl_readOn {l : Launch} {G : mG} {d : Nat} {I : mI} {L : Nat → Nat → Int} {D : Nat → Nat} {Q : mQ} {T : mT} {S : mS} {r s : Nat} {c : Int} (hR : RT I T) (hN : I 139 = pS S) (hw : tw T) (hv : sw S 999) (hC : TC T) (hr : r < 1024) (hs : s < 32) (hc : inR c) (hd : 2 ≤ d) (h1 : okR T S c r s → ∀ J, (∀ b, b ≠ 141 → J b = I b) → Q (some (vI (lfN r s (nQ T)))) J (XX L D)) (h0 : ¬ okR T S c r s → ∀ J, (∀ b, b ≠ 141 → J b = I b) → Q (some (vI (-1))) J (XX L D)) : ∀ i : Nat, i ≤ nQ T → ∀ K : mI, (∀ b, b ≠ 141 → K b = I b) → (∀ q, q < i → s.testBit q = true → S (8 + q) = 0 ∧ dg r q ≠ 0 ∧ ¬ pairAway T q c) → (∀ c : Nat, c < 4 → crN S s i c ≤ T 0 16) → (∀ j, j < 4 → K 141 j = crN S s i j) → WP l G m_X11_readOn d 153 K (XX L D) 29 [some (vR 111), some (vI (r : Int)), some (vI (s : Int)), some (vI c), some (vI (lfN r s i)), some (vI (i : Int)), none, none] [] Q := by
  have b_p := tw_p hw
  have b_q := tw_q hw
  have b_c := tw_c hw
  have eP : nP T = (T 0 12).toNat := rfl
  have eQ : nQ T = (T 0 13).toNat := rfl
  have eC : nC T = (T 0 11).toNat := rfl
  have b_k := tw_calls hw
  refine loop_dn (fun i => ∀ K : mI, (∀ b, b ≠ 141 → K b = I b) → (∀ q, q < i → s.testBit q = true → S (8 + q) = 0 ∧ dg r q ≠ 0 ∧ ¬ pairAway T q c) → (∀ c : Nat, c < 4 → crN S s i c ≤ T 0 16) → (∀ j, j < 4 → K 141 j = crN S s i j) → WP l G m_X11_readOn d 153 K (XX L D) 29 [some (vR 111), some (vI (r : Int)), some (vI (s : Int)), some (vI c), some (vI (lfN r s i)), some (vI (i : Int)), none, none] [] Q) (nQ T) ?_ (fun i hi ih => ?_)
  · intro K hK p1 p2 p3
    have hG : Gq I K := fun b a1 _ _ => hK b a1
    have hRK := hG.rt hR
    have hNK := hG.row hN
    refine wp_iload (pc := 29) dX11_readOn_29 rfl ?_
    refine wp_aload_n (pc := 31) 0 dX11_readOn_31 rfl rfl ?_
    refine wp_geti (pc := 32) dX11_readOn_32 rfl f_X11_415 kd_111 la_111 (Or.inl rfl) ?_
    refine wp_eqst (st' := [vI (T 0 13), vI (((nQ T) : Nat) : Int)]) (by rw [rt_q hRK]) ?_
    refine wp_icmp_ge (pc := 35) 163 dX11_readOn_35 (by decide) (by omega) (by omega) (fun h_1 => ?_) (fun h_1 => ?_)
    · refine wp_iload (pc := 163) dX11_readOn_163 rfl ?_
      refine wp_iret (pc := 165) dX11_readOn_165 rfl rfl ?_
      exact h1 ⟨p1, p2⟩ K hK
    · exfalso; omega
  · intro K hK p1 p2 p3
    have hG : Gq I K := fun b a1 _ _ => hK b a1
    have hRK := hG.rt hR
    have hNK := hG.row hN
    have b1 := sw_c1 hv (j := i) (by omega)
    have b2 := sw_c2 hv (j := i) (by omega)
    have b3 := bit_lt s i
    have b4 := lfN_in (n := i) hr hs (by omega)
    have b5 := crN_in S s i (S (13 + i)).toNat
    have b6 := crN_in S s i (S (18 + i)).toNat
    have b7 := p3 (S (13 + i)).toNat (by omega)
    have b8 := p3 (S (18 + i)).toNat (by omega)
    refine wp_iload (pc := 29) dX11_readOn_29 rfl ?_
    refine wp_aload_n (pc := 31) 0 dX11_readOn_31 rfl rfl ?_
    refine wp_geti (pc := 32) dX11_readOn_32 rfl f_X11_415 kd_111 la_111 (Or.inl rfl) ?_
    refine wp_eqst (st' := [vI (T 0 13), vI (i : Int)]) (by rw [rt_q hRK]) ?_
    refine wp_icmp_ge (pc := 35) 163 dX11_readOn_35 (by decide) (by omega) (by omega) (fun h_1 => ?_) (fun h_1 => ?_)
    · exfalso; omega
    · refine wp_iload_n (pc := 38) 2 dX11_readOn_38 rfl rfl ?_
      refine wp_iload (pc := 39) dX11_readOn_39 rfl ?_
      refine wn_shr (pc := 41) s i dX11_readOn_41 rfl rfl (by omega) (by omega) ?_
      refine wp_iconst (pc := 42) dX11_readOn_42 ?_
      refine wn_mask (pc := 43) (s / 2 ^ i) 1 dX11_readOn_43 rfl rfl (by decide) ?_
      refine wp_if_ne (pc := 44) 50 dX11_readOn_44 (by decide) (by omega) (fun h_2 => ?_) (fun h_2 => ?_)
      · refine wp_aload_n (pc := 50) 0 dX11_readOn_50 rfl rfl ?_
        refine wp_iload_n (pc := 51) 1 dX11_readOn_51 rfl rfl ?_
        refine wp_iload (pc := 52) dX11_readOn_52 rfl ?_
        refine wp_iload_n (pc := 54) 3 dX11_readOn_54 rfl rfl ?_
        refine wp_callV (pc := 55) (st := []) (nf' := 153) [vI (r : Int), vI (i : Int), vI c] [some (vR 111), some (vI (r : Int)), some (vI (i : Int)), some (vI c)] dX11_readOn_55 rfl c_X11_546 rfl kd_111 (by decide) rfl la_111 rfl (Nat.le_of_ble_eq_true rfl) rfl (Nat.le_of_ble_eq_true rfl) (by omega) (Nat.le_refl _) (Nat.le_refl _) ?_
        refine rs_mayRead r rfl i rfl hRK hNK hw hv hC (by omega) (by omega) (by omega) (by omega) (fun h_3 => ?_) (fun h_3 => ?_)
        · refine wp_eqst (st' := [vI 1]) rfl ?_
          refine wp_if_ne (pc := 58) 63 dX11_readOn_58 (by decide) (by decide) (fun _ => ?_) (fun hh => absurd hh (by decide))
          refine wp_aload_n (pc := 63) 0 dX11_readOn_63 rfl rfl ?_
          refine wp_getr (pc := 64) dX11_readOn_64 rfl f_X11_103 kd_111 la_111 rfl (r_111_60 D) ?_
          refine wp_bipush (pc := 67) dX11_readOn_67 (by decide) ?_
          refine wp_iload (pc := 69) dX11_readOn_69 rfl ?_
          refine wp_iadd (pc := 71) dX11_readOn_71 ?_
          refine wq_iald (pc := 72) (18 + i) dX11_readOn_72 kd_139 la_139 (by omega) (by omega) ?_
          refine wp_eqst (st' := [vI (S (13 + i))]) (by rw [hNK, pS_18 (by omega)]) ?_
          refine wq_istore (pc := 73) [some (vR 111), some (vI (r : Int)), some (vI (s : Int)), some (vI c), some (vI (lfN r s i)), some (vI (i : Int)), some (vI (S (13 + i))), none] dX11_readOn_73 rfl (by decide) rfl ?_
          refine wp_aload_n (pc := 75) 0 dX11_readOn_75 rfl rfl ?_
          refine wp_getr (pc := 76) dX11_readOn_76 rfl f_X11_103 kd_111 la_111 rfl (r_111_60 D) ?_
          refine wp_bipush (pc := 79) dX11_readOn_79 (by decide) ?_
          refine wp_iload (pc := 81) dX11_readOn_81 rfl ?_
          refine wp_iadd (pc := 83) dX11_readOn_83 ?_
          refine wq_iald (pc := 84) (23 + i) dX11_readOn_84 kd_139 la_139 (by omega) (by omega) ?_
          refine wp_eqst (st' := [vI (S (18 + i))]) (by rw [hNK, pS_23 (by omega)]) ?_
          refine wq_istore (pc := 85) [some (vR 111), some (vI (r : Int)), some (vI (s : Int)), some (vI c), some (vI (lfN r s i)), some (vI (i : Int)), some (vI (S (13 + i))), some (vI (S (18 + i)))] dX11_readOn_85 rfl (by decide) rfl ?_
          refine wp_aload_n (pc := 87) 0 dX11_readOn_87 rfl rfl ?_
          refine wp_getr (pc := 88) dX11_readOn_88 rfl f_X11_109 kd_111 la_111 rfl (r_111_62 D) ?_
          refine wp_iload (pc := 91) dX11_readOn_91 rfl ?_
          refine wp_dup2 (pc := 93) dX11_readOn_93 rfl rfl ?_
          refine wq_iald (pc := 94) (Int.toNat (S (13 + i))) dX11_readOn_94 kd_141 la_141 (by omega) (by omega) ?_
          refine wp_iconst (pc := 95) dX11_readOn_95 ?_
          refine wp_iadd (pc := 96) dX11_readOn_96 ?_
          refine wq_iast (pc := 97) (Int.toNat (S (13 + i))) dX11_readOn_97 kd_141 la_141 (by omega) (by omega) ?_
          refine wp_iload (pc := 98) dX11_readOn_98 rfl ?_
          refine wp_iload (pc := 100) dX11_readOn_100 rfl ?_
          refine wp_icmp_eq (pc := 102) 116 dX11_readOn_102 (by decide) (by omega) (by omega) (fun h_4 => ?_) (fun h_4 => ?_)
          · have ht : s.testBit i = true := (bit_iff s i).mp (by omega)
            refine wp_gen (fun J => (∀ b, b ≠ 141 → J b = I b) ∧ ∀ j, j < 4 → J 141 j = crN S s (i + 1) j) ⟨(fun b g => (funext fun j => by rw [up_c g]).trans (hK b g)), fun j hj => ?_⟩ (fun J hJm => ?_)
            · rw [show crN S s (i + 1) = inc2 (crN S s i) (S (13 + i)).toNat (S (18 + i)).toNat from if_pos ht, inc2_at, ← p3 j hj]
              simp only [up, true_and]; repeat' split
              all_goals first | omega | (subst_vars; omega) | (simp_all; done) | (simp_all; omega)
            obtain ⟨hJ, hm⟩ := hJm
            have hGJ : Gq I J := fun b a1 _ _ => hJ b a1
            have hRJ := hGJ.rt hR
            have hNJ := hGJ.row hN
            have q3 := hm (S (13 + i)).toNat (by omega); have q4 := hm (S (18 + i)).toNat (by omega); have q5 := crN_in S s (i + 1) (S (13 + i)).toNat; have q6 := crN_in S s (i + 1) (S (18 + i)).toNat
            refine wp_aload_n (pc := 116) 0 dX11_readOn_116 rfl rfl ?_
            refine wp_getr (pc := 117) dX11_readOn_117 rfl f_X11_109 kd_111 la_111 rfl (r_111_62 D) ?_
            refine wp_iload (pc := 120) dX11_readOn_120 rfl ?_
            refine wq_iald (pc := 122) (Int.toNat (S (13 + i))) dX11_readOn_122 kd_141 la_141 (by omega) (by omega) ?_
            refine wp_aload_n (pc := 123) 0 dX11_readOn_123 rfl rfl ?_
            refine wp_geti (pc := 124) dX11_readOn_124 rfl f_X11_97 kd_111 la_111 (Or.inl rfl) ?_
            refine wp_eqst (st' := [vI (T 0 16), vI (J 141 (Int.toNat (S (13 + i))))]) (by rw [rt_k hRJ]) ?_
            refine wp_icmp_gt (pc := 127) 144 dX11_readOn_127 (by decide) (by omega) (by omega) (fun h_5 => ?_) (fun h_5 => ?_)
            · refine wp_iconst (pc := 144) dX11_readOn_144 ?_
              refine wp_iret (pc := 145) dX11_readOn_145 rfl rfl ?_
              refine h0 (fun x => ?_) J hJ
              have y5 := x.2 (S (13 + i)).toNat (by omega); have y6 := x.2 (S (18 + i)).toNat (by omega)
              have q7 := crN_mono S s (S (13 + i)).toNat (i + 1) (nQ T) hi; have q8 := crN_mono S s (S (18 + i)).toNat (i + 1) (nQ T) hi
              omega
            · refine wp_aload_n (pc := 130) 0 dX11_readOn_130 rfl rfl ?_
              refine wp_getr (pc := 131) dX11_readOn_131 rfl f_X11_109 kd_111 la_111 rfl (r_111_62 D) ?_
              refine wp_iload (pc := 134) dX11_readOn_134 rfl ?_
              refine wq_iald (pc := 136) (Int.toNat (S (18 + i))) dX11_readOn_136 kd_141 la_141 (by omega) (by omega) ?_
              refine wp_aload_n (pc := 137) 0 dX11_readOn_137 rfl rfl ?_
              refine wp_geti (pc := 138) dX11_readOn_138 rfl f_X11_97 kd_111 la_111 (Or.inl rfl) ?_
              refine wp_eqst (st' := [vI (T 0 16), vI (J 141 (Int.toNat (S (18 + i))))]) (by rw [rt_k hRJ]) ?_
              refine wp_icmp_le (pc := 141) 146 dX11_readOn_141 (by decide) (by omega) (by omega) (fun h_6 => ?_) (fun h_6 => ?_)
              · refine wp_iload (pc := 146) dX11_readOn_146 rfl ?_
                refine wp_iconst (pc := 148) dX11_readOn_148 ?_
                refine wp_iconst (pc := 149) dX11_readOn_149 ?_
                refine wp_iload (pc := 150) dX11_readOn_150 rfl ?_
                refine wp_imul (pc := 152) dX11_readOn_152 ?_
                refine wn_shl1 (pc := 153) (2 * i) dX11_readOn_153 (by omega) (by omega) ?_
                refine wp_isub (pc := 154) dX11_readOn_154 ?_
                refine wq_istore (pc := 155) [some (vR 111), some (vI (r : Int)), some (vI (s : Int)), some (vI c), some (vI ((lfN r s i) - ((2 ^ (2 * i) : Nat) : Int))), some (vI (i : Int)), some (vI (S (13 + i))), some (vI (S (18 + i)))] dX11_readOn_155 rfl (by decide) rfl ?_
                refine wq_iinc (pc := 157) [some (vR 111), some (vI (r : Int)), some (vI (s : Int)), some (vI c), some (vI ((lfN r s i) - ((2 ^ (2 * i) : Nat) : Int))), some (vI ((i : Int) + 1)), some (vI (S (13 + i))), some (vI (S (18 + i)))] dX11_readOn_157 rfl rfl (by decide) rfl ?_
                refine wp_goto (pc := 160) 29 dX11_readOn_160 (by decide) ?_
                refine wp_none 6 [some (vR 111), some (vI (r : Int)), some (vI (s : Int)), some (vI c), some (vI ((lfN r s i) - ((2 ^ (2 * i) : Nat) : Int))), some (vI ((i : Int) + 1)), none, some (vI (S (18 + i)))] rfl ?_
                refine wp_none 7 [some (vR 111), some (vI (r : Int)), some (vI (s : Int)), some (vI c), some (vI ((lfN r s i) - ((2 ^ (2 * i) : Nat) : Int))), some (vI ((i : Int) + 1)), none, none] rfl ?_
                refine wp_eqls (ls' := [some (vR 111), some (vI (r : Int)), some (vI (s : Int)), some (vI c), some (vI (lfN r s (i + 1))), some (vI (((i + 1) : Nat) : Int)), none, none]) (by rw [show lfN r s (i + 1) = lfN r s i - ((2 ^ (2 * i) : Nat) : Int) from if_pos ht]; rfl) (ih J hJ (fun q hq hb => ?_) (fun c hc => ?_) hm)
                · by_cases e : q = i
                  · rw [e]; exact h_3
                  · exact p1 q (by omega) hb
                · have y5 := p2 c hc
                  by_cases e1 : c = (S (13 + i)).toNat
                  · rw [e1]; omega
                  · by_cases e2 : c = (S (18 + i)).toNat
                    · rw [e2]; omega
                    · rw [show crN S s (i + 1) = inc2 (crN S s i) (S (13 + i)).toNat (S (18 + i)).toNat from if_pos ht, inc2_at, if_neg (by omega)]; omega
              · refine wp_iconst (pc := 144) dX11_readOn_144 ?_
                refine wp_iret (pc := 145) dX11_readOn_145 rfl rfl ?_
                refine h0 (fun x => ?_) J hJ
                have y5 := x.2 (S (13 + i)).toNat (by omega); have y6 := x.2 (S (18 + i)).toNat (by omega)
                have q7 := crN_mono S s (S (13 + i)).toNat (i + 1) (nQ T) hi; have q8 := crN_mono S s (S (18 + i)).toNat (i + 1) (nQ T) hi
                omega
          · refine wp_aload_n (pc := 105) 0 dX11_readOn_105 rfl rfl ?_
            refine wp_getr (pc := 106) dX11_readOn_106 rfl f_X11_109 kd_111 la_111 rfl (r_111_62 D) ?_
            refine wp_iload (pc := 109) dX11_readOn_109 rfl ?_
            refine wp_dup2 (pc := 111) dX11_readOn_111 rfl rfl ?_
            refine wq_iald (pc := 112) (Int.toNat (S (18 + i))) dX11_readOn_112 kd_141 la_141 (by omega) (by omega) ?_
            refine wp_iconst (pc := 113) dX11_readOn_113 ?_
            refine wp_iadd (pc := 114) dX11_readOn_114 ?_
            refine wq_iast (pc := 115) (Int.toNat (S (18 + i))) dX11_readOn_115 kd_141 la_141 (by omega) (by omega) ?_
            have ht : s.testBit i = true := (bit_iff s i).mp (by omega)
            refine wp_gen (fun J => (∀ b, b ≠ 141 → J b = I b) ∧ ∀ j, j < 4 → J 141 j = crN S s (i + 1) j) ⟨(fun b g => (funext fun j => by rw [up_c g, up_c g]).trans (hK b g)), fun j hj => ?_⟩ (fun J hJm => ?_)
            · rw [show crN S s (i + 1) = inc2 (crN S s i) (S (13 + i)).toNat (S (18 + i)).toNat from if_pos ht, inc2_at, ← p3 j hj]
              simp only [up, true_and]; repeat' split
              all_goals first | omega | (subst_vars; omega) | (simp_all; done) | (simp_all; omega)
            obtain ⟨hJ, hm⟩ := hJm
            have hGJ : Gq I J := fun b a1 _ _ => hJ b a1
            have hRJ := hGJ.rt hR
            have hNJ := hGJ.row hN
            have q3 := hm (S (13 + i)).toNat (by omega); have q4 := hm (S (18 + i)).toNat (by omega); have q5 := crN_in S s (i + 1) (S (13 + i)).toNat; have q6 := crN_in S s (i + 1) (S (18 + i)).toNat
            refine wp_aload_n (pc := 116) 0 dX11_readOn_116 rfl rfl ?_
            refine wp_getr (pc := 117) dX11_readOn_117 rfl f_X11_109 kd_111 la_111 rfl (r_111_62 D) ?_
            refine wp_iload (pc := 120) dX11_readOn_120 rfl ?_
            refine wq_iald (pc := 122) (Int.toNat (S (13 + i))) dX11_readOn_122 kd_141 la_141 (by omega) (by omega) ?_
            refine wp_aload_n (pc := 123) 0 dX11_readOn_123 rfl rfl ?_
            refine wp_geti (pc := 124) dX11_readOn_124 rfl f_X11_97 kd_111 la_111 (Or.inl rfl) ?_
            refine wp_eqst (st' := [vI (T 0 16), vI (J 141 (Int.toNat (S (13 + i))))]) (by rw [rt_k hRJ]) ?_
            refine wp_icmp_gt (pc := 127) 144 dX11_readOn_127 (by decide) (by omega) (by omega) (fun h_7 => ?_) (fun h_7 => ?_)
            · refine wp_iconst (pc := 144) dX11_readOn_144 ?_
              refine wp_iret (pc := 145) dX11_readOn_145 rfl rfl ?_
              refine h0 (fun x => ?_) J hJ
              have y5 := x.2 (S (13 + i)).toNat (by omega); have y6 := x.2 (S (18 + i)).toNat (by omega)
              have q7 := crN_mono S s (S (13 + i)).toNat (i + 1) (nQ T) hi; have q8 := crN_mono S s (S (18 + i)).toNat (i + 1) (nQ T) hi
              omega
            · refine wp_aload_n (pc := 130) 0 dX11_readOn_130 rfl rfl ?_
              refine wp_getr (pc := 131) dX11_readOn_131 rfl f_X11_109 kd_111 la_111 rfl (r_111_62 D) ?_
              refine wp_iload (pc := 134) dX11_readOn_134 rfl ?_
              refine wq_iald (pc := 136) (Int.toNat (S (18 + i))) dX11_readOn_136 kd_141 la_141 (by omega) (by omega) ?_
              refine wp_aload_n (pc := 137) 0 dX11_readOn_137 rfl rfl ?_
              refine wp_geti (pc := 138) dX11_readOn_138 rfl f_X11_97 kd_111 la_111 (Or.inl rfl) ?_
              refine wp_eqst (st' := [vI (T 0 16), vI (J 141 (Int.toNat (S (18 + i))))]) (by rw [rt_k hRJ]) ?_
              refine wp_icmp_le (pc := 141) 146 dX11_readOn_141 (by decide) (by omega) (by omega) (fun h_8 => ?_) (fun h_8 => ?_)
              · refine wp_iload (pc := 146) dX11_readOn_146 rfl ?_
                refine wp_iconst (pc := 148) dX11_readOn_148 ?_
                refine wp_iconst (pc := 149) dX11_readOn_149 ?_
                refine wp_iload (pc := 150) dX11_readOn_150 rfl ?_
                refine wp_imul (pc := 152) dX11_readOn_152 ?_
                refine wn_shl1 (pc := 153) (2 * i) dX11_readOn_153 (by omega) (by omega) ?_
                refine wp_isub (pc := 154) dX11_readOn_154 ?_
                refine wq_istore (pc := 155) [some (vR 111), some (vI (r : Int)), some (vI (s : Int)), some (vI c), some (vI ((lfN r s i) - ((2 ^ (2 * i) : Nat) : Int))), some (vI (i : Int)), some (vI (S (13 + i))), some (vI (S (18 + i)))] dX11_readOn_155 rfl (by decide) rfl ?_
                refine wq_iinc (pc := 157) [some (vR 111), some (vI (r : Int)), some (vI (s : Int)), some (vI c), some (vI ((lfN r s i) - ((2 ^ (2 * i) : Nat) : Int))), some (vI ((i : Int) + 1)), some (vI (S (13 + i))), some (vI (S (18 + i)))] dX11_readOn_157 rfl rfl (by decide) rfl ?_
                refine wp_goto (pc := 160) 29 dX11_readOn_160 (by decide) ?_
                refine wp_none 6 [some (vR 111), some (vI (r : Int)), some (vI (s : Int)), some (vI c), some (vI ((lfN r s i) - ((2 ^ (2 * i) : Nat) : Int))), some (vI ((i : Int) + 1)), none, some (vI (S (18 + i)))] rfl ?_
                refine wp_none 7 [some (vR 111), some (vI (r : Int)), some (vI (s : Int)), some (vI c), some (vI ((lfN r s i) - ((2 ^ (2 * i) : Nat) : Int))), some (vI ((i : Int) + 1)), none, none] rfl ?_
                refine wp_eqls (ls' := [some (vR 111), some (vI (r : Int)), some (vI (s : Int)), some (vI c), some (vI (lfN r s (i + 1))), some (vI (((i + 1) : Nat) : Int)), none, none]) (by rw [show lfN r s (i + 1) = lfN r s i - ((2 ^ (2 * i) : Nat) : Int) from if_pos ht]; rfl) (ih J hJ (fun q hq hb => ?_) (fun c hc => ?_) hm)
                · by_cases e : q = i
                  · rw [e]; exact h_3
                  · exact p1 q (by omega) hb
                · have y5 := p2 c hc
                  by_cases e1 : c = (S (13 + i)).toNat
                  · rw [e1]; omega
                  · by_cases e2 : c = (S (18 + i)).toNat
                    · rw [e2]; omega
                    · rw [show crN S s (i + 1) = inc2 (crN S s i) (S (13 + i)).toNat (S (18 + i)).toNat from if_pos ht, inc2_at, if_neg (by omega)]; omega
              · refine wp_iconst (pc := 144) dX11_readOn_144 ?_
                refine wp_iret (pc := 145) dX11_readOn_145 rfl rfl ?_
                refine h0 (fun x => ?_) J hJ
                have y5 := x.2 (S (13 + i)).toNat (by omega); have y6 := x.2 (S (18 + i)).toNat (by omega)
                have q7 := crN_mono S s (S (13 + i)).toNat (i + 1) (nQ T) hi; have q8 := crN_mono S s (S (18 + i)).toNat (i + 1) (nQ T) hi
                omega
        · refine wp_eqst (st' := [vI 0]) rfl ?_
          refine wp_if_ne (pc := 58) 63 dX11_readOn_58 (by decide) (by decide) (fun hh => absurd hh (by decide)) (fun _ => ?_)
          refine wp_iconst (pc := 61) dX11_readOn_61 ?_
          refine wp_iret (pc := 62) dX11_readOn_62 rfl rfl ?_
          have ht : s.testBit i = true := (bit_iff s i).mp (by omega)
          exact h0 (fun x => h_3 (x.1 i hi ht)) K hK
      · refine wp_goto (pc := 47) 157 dX11_readOn_47 (by decide) ?_
        refine wq_iinc (pc := 157) [some (vR 111), some (vI (r : Int)), some (vI (s : Int)), some (vI c), some (vI (lfN r s i)), some (vI ((i : Int) + 1)), none, none] dX11_readOn_157 rfl rfl (by decide) rfl ?_
        refine wp_goto (pc := 160) 29 dX11_readOn_160 (by decide) ?_
        have ht : ¬ s.testBit i = true := fun z => absurd ((bit_iff s i).mpr z) (by omega)
        refine wp_eqls (ls' := [some (vR 111), some (vI (r : Int)), some (vI (s : Int)), some (vI c), some (vI (lfN r s (i + 1))), some (vI (((i + 1) : Nat) : Int)), none, none]) (by rw [show lfN r s (i + 1) = lfN r s i from if_neg ht]; rfl) (ih K hK (fun q hq hb => ?_) (by rw [show crN S s (i + 1) = crN S s i from if_neg ht]; exact p2) (by rw [show crN S s (i + 1) = crN S s i from if_neg ht]; exact p3))
        by_cases e : q = i
        · exact absurd (by rw [← e]; exact hb) ht
        · exact p1 q (by omega) hb

theorem rl_readOn0 {l : Launch} {G : mG} {d : Nat} {I : mI} {L : Nat → Nat → Int} {D : Nat → Nat} {Q : mQ} {T : mT} {S : mS} {r s : Nat} {c : Int} (hR : RT I T) (hN : I 139 = pS S) (hw : tw T) (hv : sw S 999) (hC : TC T) (hr : r < 1024) (hs : s < 32) (hc : inR c) (hd : 2 ≤ d) (h1 : okR T S c r s → ∀ J, (∀ b, b ≠ 141 → J b = I b) → Q (some (vI (lfN r s (nQ T)))) J (XX L D)) (h0 : ¬ okR T S c r s → ∀ J, (∀ b, b ≠ 141 → J b = I b) → Q (some (vI (-1))) J (XX L D)) : ∀ i : Nat, i ≤ 4 → ∀ K : mI, (∀ b, b ≠ 141 → K b = I b) → (∀ j, j < i → K 141 j = 0) → WP l G m_X11_readOn d 153 K (XX L D) 3 [some (vR 111), some (vI (r : Int)), some (vI (s : Int)), some (vI c), some (vI (i : Int)), none, none, none] [] Q := by
  have b_p := tw_p hw
  have b_q := tw_q hw
  have b_c := tw_c hw
  have eP : nP T = (T 0 12).toNat := rfl
  have eQ : nQ T = (T 0 13).toNat := rfl
  have eC : nC T = (T 0 11).toNat := rfl
  have b_k := tw_calls hw
  refine loop_dn (fun i => ∀ K : mI, (∀ b, b ≠ 141 → K b = I b) → (∀ j, j < i → K 141 j = 0) → WP l G m_X11_readOn d 153 K (XX L D) 3 [some (vR 111), some (vI (r : Int)), some (vI (s : Int)), some (vI c), some (vI (i : Int)), none, none, none] [] Q) 4 ?_ (fun i hi ih => ?_)
  · intro K hK p3
    refine wp_iload (pc := 3) dX11_readOn_3 rfl ?_
    refine wp_iconst (pc := 5) dX11_readOn_5 ?_
    refine wp_icmp_ge (pc := 6) 23 dX11_readOn_6 (by decide) (by decide) (by decide) (fun _ => ?_) (fun hh => absurd hh (by decide))
    refine wp_iload_n (pc := 23) 1 dX11_readOn_23 rfl rfl ?_
    refine wq_istore (pc := 24) [some (vR 111), some (vI (r : Int)), some (vI (s : Int)), some (vI c), some (vI (r : Int)), none, none, none] dX11_readOn_24 rfl (by decide) rfl ?_
    refine wp_iconst (pc := 26) dX11_readOn_26 ?_
    refine wq_istore (pc := 27) [some (vR 111), some (vI (r : Int)), some (vI (s : Int)), some (vI c), some (vI (r : Int)), some (vI 0), none, none] dX11_readOn_27 rfl (by decide) rfl ?_
    exact wp_eqls (ls' := [some (vR 111), some (vI (r : Int)), some (vI (s : Int)), some (vI c), some (vI (lfN r s 0)), some (vI 0), none, none]) rfl (rl_readOn hR hN hw hv hC hr hs hc hd h1 h0 0 (Nat.zero_le _) K hK (fun q h => absurd h (Nat.not_lt_zero q)) (fun c _ => by show (0 : Int) ≤ _; omega) (fun j hj => p3 j hj))
  · intro K hK p3
    refine wp_iload (pc := 3) dX11_readOn_3 rfl ?_
    refine wp_iconst (pc := 5) dX11_readOn_5 ?_
    refine wp_icmp_ge (pc := 6) 23 dX11_readOn_6 (by decide) (by omega) (by decide) (fun h_1 => ?_) (fun h_1 => ?_)
    · exfalso; omega
    · refine wp_aload_n (pc := 9) 0 dX11_readOn_9 rfl rfl ?_
      refine wp_getr (pc := 10) dX11_readOn_10 rfl f_X11_109 kd_111 la_111 rfl (r_111_62 D) ?_
      refine wp_iload (pc := 13) dX11_readOn_13 rfl ?_
      refine wp_iconst (pc := 15) dX11_readOn_15 ?_
      refine wq_iast (pc := 16) i dX11_readOn_16 kd_141 la_141 rfl (by omega) ?_
      refine wq_iinc (pc := 17) [some (vR 111), some (vI (r : Int)), some (vI (s : Int)), some (vI c), some (vI ((i : Int) + 1)), none, none, none] dX11_readOn_17 rfl rfl (by decide) rfl ?_
      refine wp_goto (pc := 20) 3 dX11_readOn_20 (by decide) ?_
      refine wp_eqls (ls' := [some (vR 111), some (vI (r : Int)), some (vI (s : Int)), some (vI c), some (vI (((i + 1) : Nat) : Int)), none, none, none]) rfl (ih (up K 141 i 0) (fun b g => (funext fun j => by rw [up_c g]).trans (hK b g)) (fun j hj => ?_))
      by_cases e : j = i
      · rw [e, up_s]
      · rw [up_j e]; exact p3 j (by omega)

theorem rs_readOn {l : Launch} {G : mG} {d : Nat} {I : mI} {L : Nat → Nat → Int} {D : Nat → Nat} {Q : mQ} {T : mT} {S : mS} {c : Int} (r : Nat) {r_ : Int} (hr_ : r_ = (r : Int)) (s : Nat) {s_ : Int} (hs_ : s_ = (s : Int)) (hR : RT I T) (hN : I 139 = pS S) (hw : tw T) (hv : sw S 999) (hC : TC T) (hr : r < 1024) (hs : s < 32) (hc : inR c) (hd : 2 ≤ d) (h1 : okR T S c r s → ∀ J, (∀ b, b ≠ 141 → J b = I b) → Q (some (vI (lfN r s (nQ T)))) J (XX L D)) (h0 : ¬ okR T S c r s → ∀ J, (∀ b, b ≠ 141 → J b = I b) → Q (some (vI (-1))) J (XX L D)) : WP l G m_X11_readOn d 153 I (XX L D) 0 [some (vR 111), some (vI r_), some (vI s_), some (vI c), none, none, none, none] [] Q := by
  subst hr_
  subst hs_
  have b_p := tw_p hw
  have b_q := tw_q hw
  have b_c := tw_c hw
  have eP : nP T = (T 0 12).toNat := rfl
  have eQ : nQ T = (T 0 13).toNat := rfl
  have eC : nC T = (T 0 11).toNat := rfl
  refine wp_iconst (pc := 0) dX11_readOn_0 ?_
  refine wq_istore (pc := 1) [some (vR 111), some (vI (r : Int)), some (vI (s : Int)), some (vI c), some (vI 0), none, none, none] dX11_readOn_1 rfl (by decide) rfl ?_
  exact rl_readOn0 hR hN hw hv hC hr hs hc hd h1 h0 0 (Nat.zero_le _) I (fun _ _ => rfl) (fun j h => absurd h (Nat.not_lt_zero j))

theorem rl_go3 {l : Launch} {G : mG} {d : Nat} {I : mI} {L : Nat → Nat → Int} {D : Nat → Nat} {Q : mQ} {c : Int} {A : Nat → Prop} (hd : 3 ≤ d) (hQ : ∀ J, Gq I J → RZb (J 143) A → Q none J (XX L D)) : ∀ i : Nat, i ≤ 1024 → ∀ K : mI, Gq I K → RZb (K 144) A → (∀ j, j < i → K 143 j = K 144 j) → WP l G m_X11_goSeason d 153 K (XX L D) 91 [some (vR 111), some (vI c), some (vI (i : Int)), none, none] [] Q := by
  refine loop_dn (fun i => ∀ K : mI, Gq I K → RZb (K 144) A → (∀ j, j < i → K 143 j = K 144 j) → WP l G m_X11_goSeason d 153 K (XX L D) 91 [some (vR 111), some (vI c), some (vI (i : Int)), none, none] [] Q) 1024 ?_ (fun i hi ih => ?_)
  · intro K hG hf hg
    refine wp_iload_n (pc := 91) 2 dX11_goSeason_91 rfl rfl ?_
    refine wp_sipush (pc := 92) dX11_goSeason_92 (by decide) ?_
    refine wp_icmp_ge (pc := 95) 116 dX11_goSeason_95 (by decide) (by decide) (by decide) (fun _ => ?_) (fun hh => absurd hh (by decide))
    refine wp_vret (pc := 116) dX11_goSeason_116 rfl rfl ?_
    exact hQ K hG (fun d hd => by rw [hg d hd]; exact hf d hd)
  · intro K hG hf hg
    have b1 := (hf i hi).1
    refine wp_iload_n (pc := 91) 2 dX11_goSeason_91 rfl rfl ?_
    refine wp_sipush (pc := 92) dX11_goSeason_92 (by decide) ?_
    refine wp_icmp_ge (pc := 95) 116 dX11_goSeason_95 (by decide) (by omega) (by decide) (fun h_1 => ?_) (fun h_1 => ?_)
    · exfalso; omega
    · refine wp_aload_n (pc := 98) 0 dX11_goSeason_98 rfl rfl ?_
      refine wp_getr (pc := 99) dX11_goSeason_99 rfl f_X11_115 kd_111 la_111 rfl (r_111_69 D) ?_
      refine wp_iload_n (pc := 102) 2 dX11_goSeason_102 rfl rfl ?_
      refine wp_aload_n (pc := 103) 0 dX11_goSeason_103 rfl rfl ?_
      refine wp_getr (pc := 104) dX11_goSeason_104 rfl f_X11_118 kd_111 la_111 rfl (r_111_70 D) ?_
      refine wp_iload_n (pc := 107) 2 dX11_goSeason_107 rfl rfl ?_
      refine wq_zald (pc := 108) i dX11_goSeason_108 kd_144 la_144 rfl (by omega) ?_
      refine wq_zast (pc := 109) i dX11_goSeason_109 kd_143 la_143 rfl (by omega) (by omega) ?_
      refine wq_iinc (pc := 110) [some (vR 111), some (vI c), some (vI ((i : Int) + 1)), none, none] dX11_goSeason_110 rfl rfl (by decide) rfl ?_
      refine wp_goto (pc := 113) 91 dX11_goSeason_113 (by decide) ?_
      have e4 : (up K 143 i (K 144 i)) 144 = K 144 := funext fun j => up_c (by decide)
      refine wp_eqls (ls' := [some (vR 111), some (vI c), some (vI (((i + 1) : Nat) : Int)), none, none]) rfl (ih (up K 143 i (K 144 i)) (hG.up (by decide)) (by rw [e4]; exact hf) (fun j hj => ?_))
      rw [e4]; by_cases e : j = i
      · rw [e, up_s]
      · rw [up_j e]; exact hg j (by omega)

theorem rl_go2i {l : Launch} {G : mG} {d : Nat} {I : mI} {L : Nat → Nat → Int} {D : Nat → Nat} {Q : mQ} {T : mT} {S : mS} {c : Int} {A : Nat → Prop} {f : Nat → Int} {r : Nat} (hR : RT I T) (hN : I 139 = pS S) (hw : tw T) (hv : sw S 999) (hC : TC T) (hc : inR c) (hr : r < 1024) (hA : A r) (hd : 3 ≤ d) (hX : ∀ K : mI, Gq I K → K 143 = f → RZb (K 144) (stepR T S c A (r + 1)) → WP l G m_X11_goSeason d 153 K (XX L D) 83 [some (vR 111), some (vI c), some (vI (r : Int)), none, none] [] Q) : ∀ i : Nat, i ≤ 2 ^ Int.toNat (T 0 13) → ∀ K : mI, Gq I K → K 143 = f → RZb (K 144) (fun e => stepR T S c A r e ∨ fromR T S c r i e) → WP l G m_X11_goSeason d 153 K (XX L D) 45 [some (vR 111), some (vI c), some (vI (r : Int)), some (vI (i : Int)), none] [] Q := by
  have b_p := tw_p hw
  have b_q := tw_q hw
  have b_c := tw_c hw
  have eP : nP T = (T 0 12).toNat := rfl
  have eQ : nQ T = (T 0 13).toNat := rfl
  have eC : nC T = (T 0 11).toNat := rfl
  have b_k := tw_calls hw
  have bP : 2 ^ Int.toNat (T 0 13) ≤ 32 := Nat.pow_le_pow_right (n := 2) (j := 5) (by decide) (by omega)
  have bP2 : 0 < 2 ^ Int.toNat (T 0 13) := Nat.pow_pos (by decide)
  refine loop_dn (fun i => ∀ K : mI, Gq I K → K 143 = f → RZb (K 144) (fun e => stepR T S c A r e ∨ fromR T S c r i e) → WP l G m_X11_goSeason d 153 K (XX L D) 45 [some (vR 111), some (vI c), some (vI (r : Int)), some (vI (i : Int)), none] [] Q) (2 ^ Int.toNat (T 0 13)) ?_ (fun i hi ih => ?_)
  · intro K hG hf hg
    have hRK := hG.rt hR
    have hNK := hG.row hN
    refine wp_iload_n (pc := 45) 3 dX11_goSeason_45 rfl rfl ?_
    refine wp_iconst (pc := 46) dX11_goSeason_46 ?_
    refine wp_aload_n (pc := 47) 0 dX11_goSeason_47 rfl rfl ?_
    refine wp_geti (pc := 48) dX11_goSeason_48 rfl f_X11_415 kd_111 la_111 (Or.inl rfl) ?_
    refine wp_eqst (st' := [vI (T 0 13), vI 1, vI (((2 ^ Int.toNat (T 0 13)) : Nat) : Int)]) (by rw [rt_q hRK]) ?_
    refine wn_shl1 (pc := 51) (Int.toNat (T 0 13)) dX11_goSeason_51 (by omega) (by omega) ?_
    refine wp_icmp_ge (pc := 52) 83 dX11_goSeason_52 (by decide) (by omega) (by omega) (fun h_1 => ?_) (fun h_1 => ?_)
    · refine wp_none 3 [some (vR 111), some (vI c), some (vI (r : Int)), none, none] rfl ?_
      exact hX K hG hf (hg.congr (fun e _ => (stR_y hA).symm))
    · exfalso; omega
  · intro K hG hf hg
    have hRK := hG.rt hR
    have hNK := hG.row hN
    refine wp_iload_n (pc := 45) 3 dX11_goSeason_45 rfl rfl ?_
    refine wp_iconst (pc := 46) dX11_goSeason_46 ?_
    refine wp_aload_n (pc := 47) 0 dX11_goSeason_47 rfl rfl ?_
    refine wp_geti (pc := 48) dX11_goSeason_48 rfl f_X11_415 kd_111 la_111 (Or.inl rfl) ?_
    refine wp_eqst (st' := [vI (T 0 13), vI 1, vI (i : Int)]) (by rw [rt_q hRK]) ?_
    refine wn_shl1 (pc := 51) (Int.toNat (T 0 13)) dX11_goSeason_51 (by omega) (by omega) ?_
    refine wp_icmp_ge (pc := 52) 83 dX11_goSeason_52 (by decide) (by omega) (by omega) (fun h_1 => ?_) (fun h_1 => ?_)
    · exfalso; omega
    · refine wp_aload_n (pc := 55) 0 dX11_goSeason_55 rfl rfl ?_
      refine wp_iload_n (pc := 56) 2 dX11_goSeason_56 rfl rfl ?_
      refine wp_iload_n (pc := 57) 3 dX11_goSeason_57 rfl rfl ?_
      refine wp_iload_n (pc := 58) 1 dX11_goSeason_58 rfl rfl ?_
      refine wp_callV (pc := 59) (st := []) (nf' := 153) [vI (r : Int), vI (i : Int), vI c] [some (vR 111), some (vI (r : Int)), some (vI (i : Int)), some (vI c), none, none, none, none] dX11_goSeason_59 rfl c_X11_549 rfl kd_111 (by decide) rfl la_111 rfl (Nat.le_of_ble_eq_true rfl) rfl (Nat.le_of_ble_eq_true rfl) (by omega) (Nat.le_refl _) (Nat.le_refl _) ?_
      refine rs_readOn r rfl i rfl hRK hNK hw hv hC (by omega) (by omega) (by omega) (by omega) (fun ho J hJ => ?_) (fun ho J hJ => ?_)
      · have lo := lfN_ok hw hr hi ho
        have hGJ : Gq I J := hG.trans (fun b a1 _ _ => hJ b a1)
        have e3 : J 143 = f := (hJ 143 (by decide)).trans hf
        have e4 : J 144 = K 144 := hJ 144 (by decide)
        rw [lo.2]
        refine wp_eqst (st' := [vI ((r - onN i 5 : Nat) : Int)]) rfl ?_
        refine wq_istore (pc := 62) [some (vR 111), some (vI c), some (vI (r : Int)), some (vI (i : Int)), some (vI ((r - onN i 5 : Nat) : Int))] dX11_goSeason_62 rfl (by decide) rfl ?_
        refine wp_iload (pc := 64) dX11_goSeason_64 rfl ?_
        refine wp_if_lt (pc := 66) 77 dX11_goSeason_66 (by decide) (by omega) (fun h_2 => ?_) (fun h_2 => ?_)
        · refine wq_iinc (pc := 77) [some (vR 111), some (vI c), some (vI (r : Int)), some (vI ((i : Int) + 1)), some (vI ((r - onN i 5 : Nat) : Int))] dX11_goSeason_77 rfl rfl (by decide) rfl ?_
          refine wp_goto (pc := 80) 45 dX11_goSeason_80 (by decide) ?_
          refine wp_none 4 [some (vR 111), some (vI c), some (vI (r : Int)), some (vI ((i : Int) + 1)), none] rfl ?_
          exfalso; omega
        · refine wp_aload_n (pc := 69) 0 dX11_goSeason_69 rfl rfl ?_
          refine wp_getr (pc := 70) dX11_goSeason_70 rfl f_X11_118 kd_111 la_111 rfl (r_111_70 D) ?_
          refine wp_iload (pc := 73) dX11_goSeason_73 rfl ?_
          refine wp_iconst (pc := 75) dX11_goSeason_75 ?_
          refine wq_zast (pc := 76) (r - onN i 5) dX11_goSeason_76 kd_144 la_144 rfl (by omega) (by decide) ?_
          refine wq_iinc (pc := 77) [some (vR 111), some (vI c), some (vI (r : Int)), some (vI ((i : Int) + 1)), some (vI ((r - onN i 5 : Nat) : Int))] dX11_goSeason_77 rfl rfl (by decide) rfl ?_
          refine wp_goto (pc := 80) 45 dX11_goSeason_80 (by decide) ?_
          refine wp_none 4 [some (vR 111), some (vI c), some (vI (r : Int)), some (vI ((i : Int) + 1)), none] rfl ?_
          refine wp_eqls (ls' := [some (vR 111), some (vI c), some (vI (r : Int)), some (vI (((i + 1) : Nat) : Int)), none]) rfl (ih (up J 144 (r - onN i 5) 1) (hGJ.up (by decide)) ((funext fun j => up_c (by decide)).trans e3) ?_)
          refine (rz_set (k := r - onN i 5) hg (fun j => ?_)).congr (fun e _ => by rw [frR_y ho]; exact or_assoc)
          by_cases e : j = r - onN i 5
          · rw [e, up_s, if_pos rfl]
          · rw [up_j e, if_neg e, e4]
      · have hGJ : Gq I J := hG.trans (fun b a1 _ _ => hJ b a1)
        have e3 : J 143 = f := (hJ 143 (by decide)).trans hf
        have e4 : J 144 = K 144 := hJ 144 (by decide)
        refine wp_eqst (st' := [vI (-1)]) rfl ?_
        refine wq_istore (pc := 62) [some (vR 111), some (vI c), some (vI (r : Int)), some (vI (i : Int)), some (vI (-1))] dX11_goSeason_62 rfl (by decide) rfl ?_
        refine wp_iload (pc := 64) dX11_goSeason_64 rfl ?_
        refine wp_if_lt (pc := 66) 77 dX11_goSeason_66 (by decide) (by decide) (fun _ => ?_) (fun hh => absurd hh (by decide))
        refine wq_iinc (pc := 77) [some (vR 111), some (vI c), some (vI (r : Int)), some (vI ((i : Int) + 1)), some (vI (-1))] dX11_goSeason_77 rfl rfl (by decide) rfl ?_
        refine wp_goto (pc := 80) 45 dX11_goSeason_80 (by decide) ?_
        refine wp_none 4 [some (vR 111), some (vI c), some (vI (r : Int)), some (vI ((i : Int) + 1)), none] rfl ?_
        exact wp_eqls (ls' := [some (vR 111), some (vI c), some (vI (r : Int)), some (vI (((i + 1) : Nat) : Int)), none]) rfl (ih J hGJ e3 (by rw [e4]; exact hg.congr (fun e _ => by rw [frR_n ho])))

theorem rl_go2 {l : Launch} {G : mG} {d : Nat} {I : mI} {L : Nat → Nat → Int} {D : Nat → Nat} {Q : mQ} {T : mT} {S : mS} {c : Int} {A : Nat → Prop} {f : Nat → Int} (hR : RT I T) (hN : I 139 = pS S) (hw : tw T) (hv : sw S 999) (hC : TC T) (hc : inR c) (hA : RZb f A) (hd : 3 ≤ d) (hQ : ∀ J, Gq I J → RZb (J 143) (stepR T S c A 1024) → Q none J (XX L D)) : ∀ i : Nat, i ≤ 1024 → ∀ K : mI, Gq I K → K 143 = f → RZb (K 144) (stepR T S c A i) → WP l G m_X11_goSeason d 153 K (XX L D) 24 [some (vR 111), some (vI c), some (vI (i : Int)), none, none] [] Q := by
  have b_p := tw_p hw
  have b_q := tw_q hw
  have b_c := tw_c hw
  have eP : nP T = (T 0 12).toNat := rfl
  have eQ : nQ T = (T 0 13).toNat := rfl
  have eC : nC T = (T 0 11).toNat := rfl
  have b_k := tw_calls hw
  have bP : 2 ^ Int.toNat (T 0 13) ≤ 32 := Nat.pow_le_pow_right (n := 2) (j := 5) (by decide) (by omega)
  have bP2 : 0 < 2 ^ Int.toNat (T 0 13) := Nat.pow_pos (by decide)
  refine loop_dn (fun i => ∀ K : mI, Gq I K → K 143 = f → RZb (K 144) (stepR T S c A i) → WP l G m_X11_goSeason d 153 K (XX L D) 24 [some (vR 111), some (vI c), some (vI (i : Int)), none, none] [] Q) 1024 ?_ (fun i hi ih => ?_)
  · intro K hG hf hg
    have hRK := hG.rt hR
    have hNK := hG.row hN
    refine wp_iload_n (pc := 24) 2 dX11_goSeason_24 rfl rfl ?_
    refine wp_sipush (pc := 25) dX11_goSeason_25 (by decide) ?_
    refine wp_icmp_ge (pc := 28) 89 dX11_goSeason_28 (by decide) (by decide) (by decide) (fun _ => ?_) (fun hh => absurd hh (by decide))
    refine wp_iconst (pc := 89) dX11_goSeason_89 ?_
    refine wq_istore_n (pc := 90) 2 [some (vR 111), some (vI c), some (vI 0), none, none] dX11_goSeason_90 rfl rfl (by decide) rfl ?_
    exact rl_go3 hd hQ 0 (Nat.zero_le _) K hG hg (fun j h => absurd h (Nat.not_lt_zero j))
  · intro K hG hf hg
    have hRK := hG.rt hR
    have hNK := hG.row hN
    have b1 : K 143 i = 0 ∨ K 143 i = 1 := by rw [hf]; exact (hA i hi).1
    refine wp_iload_n (pc := 24) 2 dX11_goSeason_24 rfl rfl ?_
    refine wp_sipush (pc := 25) dX11_goSeason_25 (by decide) ?_
    refine wp_icmp_ge (pc := 28) 89 dX11_goSeason_28 (by decide) (by omega) (by decide) (fun h_1 => ?_) (fun h_1 => ?_)
    · exfalso; omega
    · refine wp_aload_n (pc := 31) 0 dX11_goSeason_31 rfl rfl ?_
      refine wp_getr (pc := 32) dX11_goSeason_32 rfl f_X11_115 kd_111 la_111 rfl (r_111_69 D) ?_
      refine wp_iload_n (pc := 35) 2 dX11_goSeason_35 rfl rfl ?_
      refine wq_zald (pc := 36) i dX11_goSeason_36 kd_143 la_143 rfl (by omega) ?_
      refine wp_if_ne (pc := 37) 43 dX11_goSeason_37 (by decide) (by omega) (fun h_2 => ?_) (fun h_2 => ?_)
      · refine wp_iconst (pc := 43) dX11_goSeason_43 ?_
        refine wq_istore_n (pc := 44) 3 [some (vR 111), some (vI c), some (vI (i : Int)), some (vI 0), none] dX11_goSeason_44 rfl rfl (by decide) rfl ?_
        refine rl_go2i hR hN hw hv hC hc (f := f) (r := i) hi ((hA i hi).2.mp (by rw [← hf]; omega)) hd (fun K hG hf hg => ?_) 0 (Nat.zero_le _) K hG hf (hg.congr (fun e _ => ⟨Or.inl, fun x => x.elim id (fun ⟨s, h, _⟩ => absurd h (Nat.not_lt_zero s))⟩))
        refine wq_iinc (pc := 83) [some (vR 111), some (vI c), some (vI ((i : Int) + 1)), none, none] dX11_goSeason_83 rfl rfl (by decide) rfl ?_
        refine wp_goto (pc := 86) 24 dX11_goSeason_86 (by decide) ?_
        exact wp_eqls (ls' := [some (vR 111), some (vI c), some (vI (((i + 1) : Nat) : Int)), none, none]) rfl (ih K hG hf hg)
      · refine wp_goto (pc := 40) 83 dX11_goSeason_40 (by decide) ?_
        refine wq_iinc (pc := 83) [some (vR 111), some (vI c), some (vI ((i : Int) + 1)), none, none] dX11_goSeason_83 rfl rfl (by decide) rfl ?_
        refine wp_goto (pc := 86) 24 dX11_goSeason_86 (by decide) ?_
        exact wp_eqls (ls' := [some (vR 111), some (vI c), some (vI (((i + 1) : Nat) : Int)), none, none]) rfl (ih K hG hf (hg.congr (fun e _ => (stR_n (fun x => by have y := (hA i hi).2.mpr x; rw [← hf] at y; omega)).symm)))

theorem rl_go1 {l : Launch} {G : mG} {d : Nat} {I : mI} {L : Nat → Nat → Int} {D : Nat → Nat} {Q : mQ} {T : mT} {S : mS} {c : Int} {A : Nat → Prop} {f : Nat → Int} (hR : RT I T) (hN : I 139 = pS S) (hw : tw T) (hv : sw S 999) (hC : TC T) (hc : inR c) (hA : RZb f A) (hd : 3 ≤ d) (hQ : ∀ J, Gq I J → RZb (J 143) (stepR T S c A 1024) → Q none J (XX L D)) : ∀ i : Nat, i ≤ 1024 → ∀ K : mI, Gq I K → K 143 = f → (∀ j, j < i → K 144 j = 0) → WP l G m_X11_goSeason d 153 K (XX L D) 2 [some (vR 111), some (vI c), some (vI (i : Int)), none, none] [] Q := by
  have b_p := tw_p hw
  have b_q := tw_q hw
  have b_c := tw_c hw
  have eP : nP T = (T 0 12).toNat := rfl
  have eQ : nQ T = (T 0 13).toNat := rfl
  have eC : nC T = (T 0 11).toNat := rfl
  have b_k := tw_calls hw
  have bP : 2 ^ Int.toNat (T 0 13) ≤ 32 := Nat.pow_le_pow_right (n := 2) (j := 5) (by decide) (by omega)
  have bP2 : 0 < 2 ^ Int.toNat (T 0 13) := Nat.pow_pos (by decide)
  refine loop_dn (fun i => ∀ K : mI, Gq I K → K 143 = f → (∀ j, j < i → K 144 j = 0) → WP l G m_X11_goSeason d 153 K (XX L D) 2 [some (vR 111), some (vI c), some (vI (i : Int)), none, none] [] Q) 1024 ?_ (fun i hi ih => ?_)
  · intro K hG hf hg
    refine wp_iload_n (pc := 2) 2 dX11_goSeason_2 rfl rfl ?_
    refine wp_sipush (pc := 3) dX11_goSeason_3 (by decide) ?_
    refine wp_icmp_ge (pc := 6) 22 dX11_goSeason_6 (by decide) (by decide) (by decide) (fun _ => ?_) (fun hh => absurd hh (by decide))
    refine wp_iconst (pc := 22) dX11_goSeason_22 ?_
    refine wq_istore_n (pc := 23) 2 [some (vR 111), some (vI c), some (vI 0), none, none] dX11_goSeason_23 rfl rfl (by decide) rfl ?_
    exact rl_go2 hR hN hw hv hC hc (f := f) hA hd hQ 0 (Nat.zero_le _) K hG hf ((rz_0 hg).congr (fun e _ => ⟨False.elim, fun ⟨d, h, _⟩ => absurd h (Nat.not_lt_zero d)⟩))
  · intro K hG hf hg
    refine wp_iload_n (pc := 2) 2 dX11_goSeason_2 rfl rfl ?_
    refine wp_sipush (pc := 3) dX11_goSeason_3 (by decide) ?_
    refine wp_icmp_ge (pc := 6) 22 dX11_goSeason_6 (by decide) (by omega) (by decide) (fun h_1 => ?_) (fun h_1 => ?_)
    · exfalso; omega
    · refine wp_aload_n (pc := 9) 0 dX11_goSeason_9 rfl rfl ?_
      refine wp_getr (pc := 10) dX11_goSeason_10 rfl f_X11_118 kd_111 la_111 rfl (r_111_70 D) ?_
      refine wp_iload_n (pc := 13) 2 dX11_goSeason_13 rfl rfl ?_
      refine wp_iconst (pc := 14) dX11_goSeason_14 ?_
      refine wq_zast (pc := 15) i dX11_goSeason_15 kd_144 la_144 rfl (by omega) (by decide) ?_
      refine wq_iinc (pc := 16) [some (vR 111), some (vI c), some (vI ((i : Int) + 1)), none, none] dX11_goSeason_16 rfl rfl (by decide) rfl ?_
      refine wp_goto (pc := 19) 2 dX11_goSeason_19 (by decide) ?_
      refine wp_eqls (ls' := [some (vR 111), some (vI c), some (vI (((i + 1) : Nat) : Int)), none, none]) rfl (ih (up K 144 i 0) (hG.up (by decide)) ((funext fun j => up_c (by decide)).trans hf) (fun j hj => ?_))
      by_cases e : j = i
      · rw [e, up_s]
      · rw [up_j e]; exact hg j (by omega)

theorem rs_goSeason {l : Launch} {G : mG} {d : Nat} {I : mI} {L : Nat → Nat → Int} {D : Nat → Nat} {Q : mQ} {T : mT} {S : mS} {c : Int} {A : Nat → Prop}  (hR : RT I T) (hN : I 139 = pS S) (hw : tw T) (hv : sw S 999) (hC : TC T) (hc : inR c) (hA : RZb (I 143) A) (hd : 3 ≤ d) (hQ : ∀ J, Gq I J → RZb (J 143) (stepR T S c A 1024) → Q none J (XX L D)) : WP l G m_X11_goSeason d 153 I (XX L D) 0 [some (vR 111), some (vI c), none, none, none] [] Q := by
  have b_p := tw_p hw
  have b_q := tw_q hw
  have b_c := tw_c hw
  have eP : nP T = (T 0 12).toNat := rfl
  have eQ : nQ T = (T 0 13).toNat := rfl
  have eC : nC T = (T 0 11).toNat := rfl
  refine wp_iconst (pc := 0) dX11_goSeason_0 ?_
  refine wq_istore_n (pc := 1) 2 [some (vR 111), some (vI c), some (vI 0), none, none] dX11_goSeason_1 rfl rfl (by decide) rfl ?_
  exact rl_go1 hR hN hw hv hC hc (f := I 143) hA hd hQ 0 (Nat.zero_le _) I Gq.refl rfl (fun j h => absurd h (Nat.not_lt_zero j))

theorem rl_sea4 {l : Launch} {G : mG} {d : Nat} {I : mI} {L : Nat → Nat → Int} {D : Nat → Nat} {Q : mQ} {T : mT} {S : mS} {w : Int} {K : mI} (hR : RT I T) (hN : I 139 = pS S) (hw : tw T) (hv : sw S 999) (hC : TC T) (h_w : inR w) (hww : 0 ≤ w ∧ w ≤ 1) (hG : Gq I K) (hM : RZb (K 143) (rset T S 12)) (hd : 4 ≤ d) (hQ : ∀ J, Rq I J → Q (some (vI (seasonA T S w))) J (XX L D)) : ∀ i : Nat, i ≤ 1024 → WP l G m_X11_season d 153 K (XX L D) 74 [some (vR 111), some (vI w), some (vI ((bestN (fun r => @decide (rset T S 12 r) (Classical.propDecidable _)) (rdBy T S) i : Nat) : Int)), some (vI (i : Int)), none] [] Q := by
  have b_p := tw_p hw
  have b_q := tw_q hw
  have b_c := tw_c hw
  have eP : nP T = (T 0 12).toNat := rfl
  have eQ : nQ T = (T 0 13).toNat := rfl
  have eC : nC T = (T 0 11).toNat := rfl
  have b_k := tw_calls hw
  have b_s := sw_sun hv
  have bb := bestS_lt hw S
  have hw01 : 0 ≤ w ∧ w ≤ 1 := hww
  have hRK := hG.rt hR
  have hNK := hG.row hN
  refine loop_dn (fun i => WP l G m_X11_season d 153 K (XX L D) 74 [some (vR 111), some (vI w), some (vI ((bestN (fun r => @decide (rset T S 12 r) (Classical.propDecidable _)) (rdBy T S) i : Nat) : Int)), some (vI (i : Int)), none] [] Q) 1024 ?_ (fun i hi ih => ?_)
  · have e9 : bestN (fun r => @decide (rset T S 12 r) (Classical.propDecidable _)) (rdBy T S) 1024 = bestS T S := rfl
    rw [e9]
    refine wp_iload_n (pc := 74) 3 dX11_season_74 rfl rfl ?_
    refine wp_sipush (pc := 75) dX11_season_75 (by decide) ?_
    refine wp_icmp_ge (pc := 78) 139 dX11_season_78 (by decide) (by decide) (by decide) (fun _ => ?_) (fun hh => absurd hh (by decide))
    refine wp_iload_n (pc := 139) 1 dX11_season_139 rfl rfl ?_
    refine wp_if_ne (pc := 140) 150 dX11_season_140 (by decide) (by omega) (fun h_1 => ?_) (fun h_1 => ?_)
    · refine wp_iload_n (pc := 150) 2 dX11_season_150 rfl rfl ?_
      refine wp_iret (pc := 151) dX11_season_151 rfl rfl ?_
      have hq := hQ K hG.q
      rw [show seasonA T S w = ((bestS T S : Nat) : Int) from (if_pos (by omega)).trans (if_neg (by omega))] at hq; exact hq
    · refine wp_iload_n (pc := 143) 2 dX11_season_143 rfl rfl ?_
      refine wp_callS (pc := 144) (st := []) (nf' := 153) [vI ((bestS T S : Nat) : Int)] [some (vI ((bestS T S : Nat) : Int)), none, none] dX11_season_144 rfl c_X11_540 rfl rfl (Nat.le_of_ble_eq_true rfl) rfl (Nat.le_of_ble_eq_true rfl) (by omega) (Nat.le_refl _) (Nat.le_refl _) ?_
      refine rs_members (bestS T S) rfl (by omega) (by omega) ?_
      refine wp_eqst (st' := [vI ((pc8 (bestS T S) : Nat) : Int)]) rfl ?_
      refine wp_goto (pc := 147) 151 dX11_season_147 (by decide) ?_
      refine wp_iret (pc := 151) dX11_season_151 rfl rfl ?_
      have hq := hQ K hG.q
      rw [show seasonA T S w = ((pc8 (bestS T S) : Nat) : Int) from (if_pos (by omega)).trans (if_pos (by omega))] at hq; exact hq
  · have b1 := (hM i hi).1
    have b2 := rdBy_lt (S := S) hw i
    have b3 : bestN (fun r => @decide (rset T S 12 r) (Classical.propDecidable _)) (rdBy T S) i < 256 := best_lt (fun d => rdBy_lt hw d) i
    have p1 : pc8 (bestN (fun r => @decide (rset T S 12 r) (Classical.propDecidable _)) (rdBy T S) i) ≤ 8 := cnt_le _ 8
    have p2 : pc8 (rdBy T S i) ≤ 8 := cnt_le _ 8
    refine wp_iload_n (pc := 74) 3 dX11_season_74 rfl rfl ?_
    refine wp_sipush (pc := 75) dX11_season_75 (by decide) ?_
    refine wp_icmp_ge (pc := 78) 139 dX11_season_78 (by decide) (by omega) (by decide) (fun h_1 => ?_) (fun h_1 => ?_)
    · exfalso; omega
    · refine wp_aload_n (pc := 81) 0 dX11_season_81 rfl rfl ?_
      refine wp_iload_n (pc := 82) 3 dX11_season_82 rfl rfl ?_
      refine wp_callV (pc := 83) (st := []) (nf' := 153) [vI (i : Int)] [some (vR 111), some (vI (i : Int)), none, none] dX11_season_83 rfl c_X11_558 rfl kd_111 (by decide) rfl la_111 rfl (Nat.le_of_ble_eq_true rfl) rfl (Nat.le_of_ble_eq_true rfl) (by omega) (Nat.le_refl _) (Nat.le_refl _) ?_
      refine rs_readBy i rfl hRK hNK hw hv hC (by omega) (by omega) ?_
      refine wp_eqst (st' := [vI ((rdBy T S i : Nat) : Int)]) rfl ?_
      refine wq_istore (pc := 86) [some (vR 111), some (vI w), some (vI ((bestN (fun r => @decide (rset T S 12 r) (Classical.propDecidable _)) (rdBy T S) i : Nat) : Int)), some (vI (i : Int)), some (vI ((rdBy T S i : Nat) : Int))] dX11_season_86 rfl (by decide) rfl ?_
      refine wp_aload_n (pc := 88) 0 dX11_season_88 rfl rfl ?_
      refine wp_getr (pc := 89) dX11_season_89 rfl f_X11_115 kd_111 la_111 rfl (r_111_69 D) ?_
      refine wp_iload_n (pc := 92) 3 dX11_season_92 rfl rfl ?_
      refine wq_zald (pc := 93) i dX11_season_93 kd_143 la_143 rfl (by omega) ?_
      refine wp_if_eq (pc := 94) 133 dX11_season_94 (by decide) (by omega) (fun h_2 => ?_) (fun h_2 => ?_)
      · refine wq_iinc (pc := 133) [some (vR 111), some (vI w), some (vI ((bestN (fun r => @decide (rset T S 12 r) (Classical.propDecidable _)) (rdBy T S) i : Nat) : Int)), some (vI ((i : Int) + 1)), some (vI ((rdBy T S i : Nat) : Int))] dX11_season_133 rfl rfl (by decide) rfl ?_
        refine wp_goto (pc := 136) 74 dX11_season_136 (by decide) ?_
        refine wp_none 4 [some (vR 111), some (vI w), some (vI ((bestN (fun r => @decide (rset T S 12 r) (Classical.propDecidable _)) (rdBy T S) i : Nat) : Int)), some (vI ((i : Int) + 1)), none] rfl ?_
        exact wp_eqls (ls' := [some (vR 111), some (vI w), some (vI ((bestN (fun r => @decide (rset T S 12 r) (Classical.propDecidable _)) (rdBy T S) (i + 1) : Nat) : Int)), some (vI (((i + 1) : Nat) : Int)), none]) (by rw [show bestN (fun r => @decide (rset T S 12 r) (Classical.propDecidable _)) (rdBy T S) (i + 1) = bestN (fun r => @decide (rset T S 12 r) (Classical.propDecidable _)) (rdBy T S) i from if_neg (fun x => absurd ((hM i hi).2.mpr (@of_decide_eq_true _ (Classical.propDecidable _) x)) (by omega))]; rfl) ih
      · refine wp_iload (pc := 97) dX11_season_97 rfl ?_
        refine wp_callS (pc := 99) (st := []) (nf' := 153) [vI ((rdBy T S i : Nat) : Int)] [some (vI ((rdBy T S i : Nat) : Int)), none, none] dX11_season_99 rfl c_X11_540 rfl rfl (Nat.le_of_ble_eq_true rfl) rfl (Nat.le_of_ble_eq_true rfl) (by omega) (Nat.le_refl _) (Nat.le_refl _) ?_
        refine rs_members (rdBy T S i) rfl (by omega) (by omega) ?_
        refine wp_eqst (st' := [vI ((pc8 (rdBy T S i) : Nat) : Int)]) rfl ?_
        refine wp_iload_n (pc := 102) 2 dX11_season_102 rfl rfl ?_
        refine wp_callS (pc := 103) (st := [vI ((pc8 (rdBy T S i) : Nat) : Int)]) (nf' := 153) [vI ((bestN (fun r => @decide (rset T S 12 r) (Classical.propDecidable _)) (rdBy T S) i : Nat) : Int)] [some (vI ((bestN (fun r => @decide (rset T S 12 r) (Classical.propDecidable _)) (rdBy T S) i : Nat) : Int)), none, none] dX11_season_103 rfl c_X11_540 rfl rfl (Nat.le_of_ble_eq_true rfl) rfl (Nat.le_of_ble_eq_true rfl) (by omega) (Nat.le_refl _) (Nat.le_refl _) ?_
        refine rs_members (bestN (fun r => @decide (rset T S 12 r) (Classical.propDecidable _)) (rdBy T S) i) rfl (by omega) (by omega) ?_
        refine wp_eqst (st' := [vI ((pc8 (bestN (fun r => @decide (rset T S 12 r) (Classical.propDecidable _)) (rdBy T S) i) : Nat) : Int), vI ((pc8 (rdBy T S i) : Nat) : Int)]) rfl ?_
        refine wp_icmp_lt (pc := 106) 133 dX11_season_106 (by decide) (by omega) (by omega) (fun h_3 => ?_) (fun h_3 => ?_)
        · refine wq_iinc (pc := 133) [some (vR 111), some (vI w), some (vI ((bestN (fun r => @decide (rset T S 12 r) (Classical.propDecidable _)) (rdBy T S) i : Nat) : Int)), some (vI ((i : Int) + 1)), some (vI ((rdBy T S i : Nat) : Int))] dX11_season_133 rfl rfl (by decide) rfl ?_
          refine wp_goto (pc := 136) 74 dX11_season_136 (by decide) ?_
          refine wp_none 4 [some (vR 111), some (vI w), some (vI ((bestN (fun r => @decide (rset T S 12 r) (Classical.propDecidable _)) (rdBy T S) i : Nat) : Int)), some (vI ((i : Int) + 1)), none] rfl ?_
          exact wp_eqls (ls' := [some (vR 111), some (vI w), some (vI ((bestN (fun r => @decide (rset T S 12 r) (Classical.propDecidable _)) (rdBy T S) (i + 1) : Nat) : Int)), some (vI (((i + 1) : Nat) : Int)), none]) (by rw [show bestN (fun r => @decide (rset T S 12 r) (Classical.propDecidable _)) (rdBy T S) (i + 1) = bestN (fun r => @decide (rset T S 12 r) (Classical.propDecidable _)) (rdBy T S) i from (if_pos (@decide_eq_true _ (Classical.propDecidable _) ((hM i hi).2.mp (by omega)))).trans (if_neg (fun x => by rcases x with x | ⟨x, y⟩ <;> omega))]; rfl) ih
        · refine wp_iload (pc := 109) dX11_season_109 rfl ?_
          refine wp_callS (pc := 111) (st := []) (nf' := 153) [vI ((rdBy T S i : Nat) : Int)] [some (vI ((rdBy T S i : Nat) : Int)), none, none] dX11_season_111 rfl c_X11_540 rfl rfl (Nat.le_of_ble_eq_true rfl) rfl (Nat.le_of_ble_eq_true rfl) (by omega) (Nat.le_refl _) (Nat.le_refl _) ?_
          refine rs_members (rdBy T S i) rfl (by omega) (by omega) ?_
          refine wp_eqst (st' := [vI ((pc8 (rdBy T S i) : Nat) : Int)]) rfl ?_
          refine wp_iload_n (pc := 114) 2 dX11_season_114 rfl rfl ?_
          refine wp_callS (pc := 115) (st := [vI ((pc8 (rdBy T S i) : Nat) : Int)]) (nf' := 153) [vI ((bestN (fun r => @decide (rset T S 12 r) (Classical.propDecidable _)) (rdBy T S) i : Nat) : Int)] [some (vI ((bestN (fun r => @decide (rset T S 12 r) (Classical.propDecidable _)) (rdBy T S) i : Nat) : Int)), none, none] dX11_season_115 rfl c_X11_540 rfl rfl (Nat.le_of_ble_eq_true rfl) rfl (Nat.le_of_ble_eq_true rfl) (by omega) (Nat.le_refl _) (Nat.le_refl _) ?_
          refine rs_members (bestN (fun r => @decide (rset T S 12 r) (Classical.propDecidable _)) (rdBy T S) i) rfl (by omega) (by omega) ?_
          refine wp_eqst (st' := [vI ((pc8 (bestN (fun r => @decide (rset T S 12 r) (Classical.propDecidable _)) (rdBy T S) i) : Nat) : Int), vI ((pc8 (rdBy T S i) : Nat) : Int)]) rfl ?_
          refine wp_icmp_ne (pc := 118) 130 dX11_season_118 (by decide) (by omega) (by omega) (fun h_4 => ?_) (fun h_4 => ?_)
          · refine wp_iload (pc := 130) dX11_season_130 rfl ?_
            refine wq_istore_n (pc := 132) 2 [some (vR 111), some (vI w), some (vI ((rdBy T S i : Nat) : Int)), some (vI (i : Int)), some (vI ((rdBy T S i : Nat) : Int))] dX11_season_132 rfl rfl (by decide) rfl ?_
            refine wq_iinc (pc := 133) [some (vR 111), some (vI w), some (vI ((rdBy T S i : Nat) : Int)), some (vI ((i : Int) + 1)), some (vI ((rdBy T S i : Nat) : Int))] dX11_season_133 rfl rfl (by decide) rfl ?_
            refine wp_goto (pc := 136) 74 dX11_season_136 (by decide) ?_
            refine wp_none 4 [some (vR 111), some (vI w), some (vI ((rdBy T S i : Nat) : Int)), some (vI ((i : Int) + 1)), none] rfl ?_
            exact wp_eqls (ls' := [some (vR 111), some (vI w), some (vI ((bestN (fun r => @decide (rset T S 12 r) (Classical.propDecidable _)) (rdBy T S) (i + 1) : Nat) : Int)), some (vI (((i + 1) : Nat) : Int)), none]) (by rw [show bestN (fun r => @decide (rset T S 12 r) (Classical.propDecidable _)) (rdBy T S) (i + 1) = rdBy T S i from (if_pos (@decide_eq_true _ (Classical.propDecidable _) ((hM i hi).2.mp (by omega)))).trans (if_pos (by first | exact Or.inl (by omega) | exact Or.inr ⟨by omega, by omega⟩))]; rfl) ih
          · refine wp_iload (pc := 121) dX11_season_121 rfl ?_
            refine wp_iload_n (pc := 123) 2 dX11_season_123 rfl rfl ?_
            refine wp_icmp_lt (pc := 124) 130 dX11_season_124 (by decide) (by omega) (by omega) (fun h_5 => ?_) (fun h_5 => ?_)
            · refine wp_iload (pc := 130) dX11_season_130 rfl ?_
              refine wq_istore_n (pc := 132) 2 [some (vR 111), some (vI w), some (vI ((rdBy T S i : Nat) : Int)), some (vI (i : Int)), some (vI ((rdBy T S i : Nat) : Int))] dX11_season_132 rfl rfl (by decide) rfl ?_
              refine wq_iinc (pc := 133) [some (vR 111), some (vI w), some (vI ((rdBy T S i : Nat) : Int)), some (vI ((i : Int) + 1)), some (vI ((rdBy T S i : Nat) : Int))] dX11_season_133 rfl rfl (by decide) rfl ?_
              refine wp_goto (pc := 136) 74 dX11_season_136 (by decide) ?_
              refine wp_none 4 [some (vR 111), some (vI w), some (vI ((rdBy T S i : Nat) : Int)), some (vI ((i : Int) + 1)), none] rfl ?_
              exact wp_eqls (ls' := [some (vR 111), some (vI w), some (vI ((bestN (fun r => @decide (rset T S 12 r) (Classical.propDecidable _)) (rdBy T S) (i + 1) : Nat) : Int)), some (vI (((i + 1) : Nat) : Int)), none]) (by rw [show bestN (fun r => @decide (rset T S 12 r) (Classical.propDecidable _)) (rdBy T S) (i + 1) = rdBy T S i from (if_pos (@decide_eq_true _ (Classical.propDecidable _) ((hM i hi).2.mp (by omega)))).trans (if_pos (by first | exact Or.inl (by omega) | exact Or.inr ⟨by omega, by omega⟩))]; rfl) ih
            · refine wp_goto (pc := 127) 133 dX11_season_127 (by decide) ?_
              refine wq_iinc (pc := 133) [some (vR 111), some (vI w), some (vI ((bestN (fun r => @decide (rset T S 12 r) (Classical.propDecidable _)) (rdBy T S) i : Nat) : Int)), some (vI ((i : Int) + 1)), some (vI ((rdBy T S i : Nat) : Int))] dX11_season_133 rfl rfl (by decide) rfl ?_
              refine wp_goto (pc := 136) 74 dX11_season_136 (by decide) ?_
              refine wp_none 4 [some (vR 111), some (vI w), some (vI ((bestN (fun r => @decide (rset T S 12 r) (Classical.propDecidable _)) (rdBy T S) i : Nat) : Int)), some (vI ((i : Int) + 1)), none] rfl ?_
              exact wp_eqls (ls' := [some (vR 111), some (vI w), some (vI ((bestN (fun r => @decide (rset T S 12 r) (Classical.propDecidable _)) (rdBy T S) (i + 1) : Nat) : Int)), some (vI (((i + 1) : Nat) : Int)), none]) (by rw [show bestN (fun r => @decide (rset T S 12 r) (Classical.propDecidable _)) (rdBy T S) (i + 1) = bestN (fun r => @decide (rset T S 12 r) (Classical.propDecidable _)) (rdBy T S) i from (if_pos (@decide_eq_true _ (Classical.propDecidable _) ((hM i hi).2.mp (by omega)))).trans (if_neg (fun x => by rcases x with x | ⟨x, y⟩ <;> omega))]; rfl) ih

theorem rl_sea3 {l : Launch} {G : mG} {d : Nat} {I : mI} {L : Nat → Nat → Int} {D : Nat → Nat} {Q : mQ} {T : mT} {S : mS} {w : Int} (hR : RT I T) (hN : I 139 = pS S) (hw : tw T) (hv : sw S 999) (hC : TC T) (h_w : inR w) (hww : 0 ≤ w ∧ w ≤ 1) (hd : 4 ≤ d) (hQ : ∀ J, Rq I J → Q (some (vI (seasonA T S w))) J (XX L D)) : ∀ i : Nat, i ≤ 12 → ∀ K : mI, Gq I K → RZb (K 143) (rset T S i) → WP l G m_X11_season d 153 K (XX L D) 45 [some (vR 111), some (vI w), some (vI ((i + 1 : Nat) : Int)), none, none] [] Q := by
  have b_p := tw_p hw
  have b_q := tw_q hw
  have b_c := tw_c hw
  have eP : nP T = (T 0 12).toNat := rfl
  have eQ : nQ T = (T 0 13).toNat := rfl
  have eC : nC T = (T 0 11).toNat := rfl
  have b_k := tw_calls hw
  have b_s := sw_sun hv
  have bb := bestS_lt hw S
  have hw01 : 0 ≤ w ∧ w ≤ 1 := hww
  refine loop_dn (fun i => ∀ K : mI, Gq I K → RZb (K 143) (rset T S i) → WP l G m_X11_season d 153 K (XX L D) 45 [some (vR 111), some (vI w), some (vI ((i + 1 : Nat) : Int)), none, none] [] Q) 12 ?_ (fun i hi ih => ?_)
  · intro K hG hM
    have hRK := hG.rt hR
    have hNK := hG.row hN
    refine wp_iload_n (pc := 45) 2 dX11_season_45 rfl rfl ?_
    refine wp_bipush (pc := 46) dX11_season_46 (by decide) ?_
    refine wp_icmp_gt (pc := 48) 70 dX11_season_48 (by decide) (by omega) (by decide) (fun h_1 => ?_) (fun h_1 => ?_)
    · refine wp_iconst (pc := 70) dX11_season_70 ?_
      refine wq_istore_n (pc := 71) 2 [some (vR 111), some (vI w), some (vI 0), none, none] dX11_season_71 rfl rfl (by decide) rfl ?_
      refine wp_iconst (pc := 72) dX11_season_72 ?_
      refine wq_istore_n (pc := 73) 3 [some (vR 111), some (vI w), some (vI 0), some (vI 0), none] dX11_season_73 rfl rfl (by decide) rfl ?_
      exact rl_sea4 hR hN hw hv hC h_w hww hG hM hd hQ 0 (Nat.zero_le _)
    · exfalso; omega
  · intro K hG hM
    have hRK := hG.rt hR
    have hNK := hG.row hN
    refine wp_iload_n (pc := 45) 2 dX11_season_45 rfl rfl ?_
    refine wp_bipush (pc := 46) dX11_season_46 (by decide) ?_
    refine wp_icmp_gt (pc := 48) 70 dX11_season_48 (by decide) (by omega) (by decide) (fun h_1 => ?_) (fun h_1 => ?_)
    · exfalso; omega
    · refine wp_aload_n (pc := 51) 0 dX11_season_51 rfl rfl ?_
      refine wp_aload_n (pc := 52) 0 dX11_season_52 rfl rfl ?_
      refine wp_getr (pc := 53) dX11_season_53 rfl f_X11_103 kd_111 la_111 rfl (r_111_60 D) ?_
      refine wp_bipush (pc := 56) dX11_season_56 (by decide) ?_
      refine wq_iald (pc := 58) 28 dX11_season_58 kd_139 la_139 rfl (by decide) ?_
      refine wp_eqst (st' := [vI (S 28), vR 111]) (by rw [hNK, pS_28]) ?_
      refine wp_iload_n (pc := 59) 2 dX11_season_59 rfl rfl ?_
      refine wp_iadd (pc := 60) dX11_season_60 ?_
      refine wp_callV (pc := 61) (st := []) (nf' := 153) [vI ((S 28) + ((i + 1 : Nat) : Int))] [some (vR 111), some (vI ((S 28) + ((i + 1 : Nat) : Int))), none, none, none] dX11_season_61 rfl c_X11_555 rfl kd_111 (by decide) rfl la_111 rfl (Nat.le_of_ble_eq_true rfl) rfl (Nat.le_of_ble_eq_true rfl) (by omega) (Nat.le_refl _) (Nat.le_refl _) ?_
      refine rs_goSeason (A := rset T S i) hRK hNK hw hv hC (by omega) hM (by omega) (fun J hJ hMJ => ?_)
      refine wp_eqst (st' := []) rfl ?_
      refine wq_iinc (pc := 64) [some (vR 111), some (vI w), some (vI (((i + 1 : Nat) : Int) + 1)), none, none] dX11_season_64 rfl rfl (by decide) rfl ?_
      refine wp_goto (pc := 67) 45 dX11_season_67 (by decide) ?_
      refine wp_eqls (ls' := [some (vR 111), some (vI w), some (vI (((i + 1) + 1 : Nat) : Int)), none, none]) rfl (ih J (hG.trans hJ) ?_)
      rw [show S 28 + ((i + 1 : Nat) : Int) = S 28 + 1 + (i : Int) by omega] at hMJ; exact hMJ

theorem rl_sea1 {l : Launch} {G : mG} {d : Nat} {I : mI} {L : Nat → Nat → Int} {D : Nat → Nat} {Q : mQ} {T : mT} {S : mS} {w : Int} (hR : RT I T) (hN : I 139 = pS S) (hw : tw T) (hv : sw S 999) (hC : TC T) (h_w : inR w) (hww : 0 ≤ w ∧ w ≤ 1) (hd : 4 ≤ d) (hQ : ∀ J, Rq I J → Q (some (vI (seasonA T S w))) J (XX L D)) : ∀ i : Nat, i ≤ 1024 → ∀ K : mI, Gq I K → (∀ j, j < i → K 143 j = 0) → WP l G m_X11_season d 153 K (XX L D) 13 [some (vR 111), some (vI w), some (vI (i : Int)), none, none] [] Q := by
  have b_p := tw_p hw
  have b_q := tw_q hw
  have b_c := tw_c hw
  have eP : nP T = (T 0 12).toNat := rfl
  have eQ : nQ T = (T 0 13).toNat := rfl
  have eC : nC T = (T 0 11).toNat := rfl
  have b_k := tw_calls hw
  have b_s := sw_sun hv
  have bb := bestS_lt hw S
  have hw01 : 0 ≤ w ∧ w ≤ 1 := hww
  refine loop_dn (fun i => ∀ K : mI, Gq I K → (∀ j, j < i → K 143 j = 0) → WP l G m_X11_season d 153 K (XX L D) 13 [some (vR 111), some (vI w), some (vI (i : Int)), none, none] [] Q) 1024 ?_ (fun i hi ih => ?_)
  · intro K hG hg
    refine wp_iload_n (pc := 13) 2 dX11_season_13 rfl rfl ?_
    refine wp_sipush (pc := 14) dX11_season_14 (by decide) ?_
    refine wp_icmp_ge (pc := 17) 33 dX11_season_17 (by decide) (by decide) (by decide) (fun _ => ?_) (fun hh => absurd hh (by decide))
    refine wp_aload_n (pc := 33) 0 dX11_season_33 rfl rfl ?_
    refine wp_getr (pc := 34) dX11_season_34 rfl f_X11_115 kd_111 la_111 rfl (r_111_69 D) ?_
    refine wp_aload_n (pc := 37) 0 dX11_season_37 rfl rfl ?_
    refine wp_callV (pc := 38) (st := [vR 143]) (nf' := 153) [] [some (vR 111), none, none, none] dX11_season_38 rfl c_X11_552 rfl kd_111 (by decide) rfl la_111 rfl (Nat.le_of_ble_eq_true rfl) rfl (Nat.le_of_ble_eq_true rfl) (by omega) (Nat.le_refl _) (Nat.le_refl _) ?_
    refine rs_firstRow (hG.rt hR) (hG.row hN) hw hv hC (by omega) ?_
    have bf := frN_lt hv (nQ_le hw)
    refine wp_eqst (st' := [vI ((frN S (nQ T) : Nat) : Int), vR 143]) rfl ?_
    refine wp_iconst (pc := 41) dX11_season_41 ?_
    refine wq_zast (pc := 42) (frN S (nQ T)) dX11_season_42 kd_143 la_143 rfl (by omega) (by decide) ?_
    refine wp_iconst (pc := 43) dX11_season_43 ?_
    refine wq_istore_n (pc := 44) 2 [some (vR 111), some (vI w), some (vI 1), none, none] dX11_season_44 rfl rfl (by decide) rfl ?_
    refine wp_eqls (ls' := [some (vR 111), some (vI w), some (vI ((0 + 1 : Nat) : Int)), none, none]) rfl (rl_sea3 hR hN hw hv hC h_w hww hd hQ 0 (Nat.zero_le _) (up K 143 (frN S (nQ T)) 1) (hG.up (by decide)) ?_)
    refine (rz_set (k := frN S (nQ T)) (rz_0 hg) (fun j => ?_)).congr (fun e _ => ⟨fun x => x.elim False.elim id, Or.inr⟩)
    by_cases e : j = frN S (nQ T)
    · rw [e, up_s, if_pos rfl]
    · rw [up_j e, if_neg e]
  · intro K hG hg
    refine wp_iload_n (pc := 13) 2 dX11_season_13 rfl rfl ?_
    refine wp_sipush (pc := 14) dX11_season_14 (by decide) ?_
    refine wp_icmp_ge (pc := 17) 33 dX11_season_17 (by decide) (by omega) (by decide) (fun h_1 => ?_) (fun h_1 => ?_)
    · exfalso; omega
    · refine wp_aload_n (pc := 20) 0 dX11_season_20 rfl rfl ?_
      refine wp_getr (pc := 21) dX11_season_21 rfl f_X11_115 kd_111 la_111 rfl (r_111_69 D) ?_
      refine wp_iload_n (pc := 24) 2 dX11_season_24 rfl rfl ?_
      refine wp_iconst (pc := 25) dX11_season_25 ?_
      refine wq_zast (pc := 26) i dX11_season_26 kd_143 la_143 rfl (by omega) (by decide) ?_
      refine wq_iinc (pc := 27) [some (vR 111), some (vI w), some (vI ((i : Int) + 1)), none, none] dX11_season_27 rfl rfl (by decide) rfl ?_
      refine wp_goto (pc := 30) 13 dX11_season_30 (by decide) ?_
      refine wp_eqls (ls' := [some (vR 111), some (vI w), some (vI (((i + 1) : Nat) : Int)), none, none]) rfl (ih (up K 143 i 0) (hG.up (by decide)) (fun j hj => ?_))
      by_cases e : j = i
      · rw [e, up_s]
      · rw [up_j e]; exact hg j (by omega)

theorem rs_season {l : Launch} {G : mG} {d : Nat} {I : mI} {L : Nat → Nat → Int} {D : Nat → Nat} {Q : mQ} {T : mT} {S : mS} {w : Int}  (hI : RI I T S) (h_w : inR w) (hd : 4 ≤ d) (hQ : ∀ J, Rq I J → Q (some (vI (seasonA T S w))) J (XX L D)) : WP l G m_X11_season d 153 I (XX L D) 0 [some (vR 111), some (vI w), none, none, none] [] Q := by
  obtain ⟨hR, hN, hX, hw, hv, hrd, hC, hcd⟩ := hI
  have b_p := tw_p hw
  have b_q := tw_q hw
  have b_c := tw_c hw
  have eP : nP T = (T 0 12).toNat := rfl
  have eQ : nQ T = (T 0 13).toNat := rfl
  have eC : nC T = (T 0 11).toNat := rfl
  have b_s := sw_sun hv
  refine wp_iload_n (pc := 0) 1 dX11_season_0 rfl rfl ?_
  refine wp_iconst (pc := 1) dX11_season_1 ?_
  refine wp_iconst (pc := 2) dX11_season_2 ?_
  refine wp_callS (pc := 3) (st := []) (nf' := 153) [vI w, vI 0, vI 1] [some (vI w), some (vI 0), some (vI 1)] dX11_season_3 rfl c_X11_433 rfl rfl (Nat.le_of_ble_eq_true rfl) rfl (Nat.le_of_ble_eq_true rfl) (by omega) (Nat.le_refl _) (Nat.le_refl _) ?_
  refine wp_iload_n (pc := 0) 0 dX11_isIn_0 rfl rfl ?_
  refine wp_iload_n (pc := 1) 1 dX11_isIn_1 rfl rfl ?_
  refine wp_icmp_lt (pc := 2) 14 dX11_isIn_2 (by decide) (by omega) (by decide) (fun h_1 => ?_) (fun h_1 => ?_)
  · refine wp_iconst (pc := 14) dX11_isIn_14 ?_
    refine wp_zret (pc := 15) dX11_isIn_15 rfl rfl (by decide) ?_
    refine wp_eqst (st' := [vI 0]) rfl ?_
    refine wp_if_ne (pc := 6) 11 dX11_season_6 (by decide) (by decide) (fun hh => absurd hh (by decide)) (fun _ => ?_)
    refine wp_iconst (pc := 9) dX11_season_9 ?_
    refine wp_iret (pc := 10) dX11_season_10 rfl rfl ?_
    have hq := hQ I Rq.refl
    rw [show seasonA T S w = -1 from if_neg (by omega)] at hq; exact hq
  · refine wp_iload_n (pc := 5) 0 dX11_isIn_5 rfl rfl ?_
    refine wp_iload_n (pc := 6) 2 dX11_isIn_6 rfl rfl ?_
    refine wp_icmp_gt (pc := 7) 14 dX11_isIn_7 (by decide) (by omega) (by decide) (fun h_2 => ?_) (fun h_2 => ?_)
    · refine wp_iconst (pc := 14) dX11_isIn_14 ?_
      refine wp_zret (pc := 15) dX11_isIn_15 rfl rfl (by decide) ?_
      refine wp_eqst (st' := [vI 0]) rfl ?_
      refine wp_if_ne (pc := 6) 11 dX11_season_6 (by decide) (by decide) (fun hh => absurd hh (by decide)) (fun _ => ?_)
      refine wp_iconst (pc := 9) dX11_season_9 ?_
      refine wp_iret (pc := 10) dX11_season_10 rfl rfl ?_
      have hq := hQ I Rq.refl
      rw [show seasonA T S w = -1 from if_neg (by omega)] at hq; exact hq
    · refine wp_iconst (pc := 10) dX11_isIn_10 ?_
      refine wp_goto (pc := 11) 15 dX11_isIn_11 (by decide) ?_
      refine wp_zret (pc := 15) dX11_isIn_15 rfl rfl (by decide) ?_
      refine wp_eqst (st' := [vI 1]) rfl ?_
      refine wp_if_ne (pc := 6) 11 dX11_season_6 (by decide) (by decide) (fun _ => ?_) (fun hh => absurd hh (by decide))
      refine wp_iconst (pc := 11) dX11_season_11 ?_
      refine wq_istore_n (pc := 12) 2 [some (vR 111), some (vI w), some (vI 0), none, none] dX11_season_12 rfl rfl (by decide) rfl ?_
      exact rl_sea1 hR hN hw hv hC h_w (by omega) hd hQ 0 (Nat.zero_le _) I Gq.refl (fun j h => absurd h (Nat.not_lt_zero j))
