/-! the class's Parser: the formula -/
def OF (T : mT) (out : List Int) (un : Nat) : Prop := T 17 2 = (out.length : Int) ∧ T 17 3 = (un : Int) ∧ ∀ k, k < out.length → T 18 k = oat out k
def TF (T T' : mT) : Prop := ∀ k j, k ≠ 17 → k ≠ 18 → T' k j = T k j
theorem TF.refl {T : mT} : TF T T := fun _ _ _ _ => rfl
theorem TF.trans {T U V : mT} (h : TF T U) (h2 : TF U V) : TF T V := fun k j a1 a2 => (h2 k j a1 a2).trans (h k j a1 a2)
def addT (T : mT) (code : Int) : mT := if T 17 2 < 300 then setT (setT T 18 (T 17 2).toNat code) 17 2 (T 17 2 + 1) else T
theorem addT_F {T : mT} {code : Int} : TF T (addT T code) := fun k j a1 a2 => by
  unfold addT
  split
  · rw [setT_k a1, setT_k a2]
  · rfl
theorem addT_O {T : mT} {code : Int} {out : List Int} {un : Nat} (h : OF T out un) (hl : out.length < 300) : OF (addT T code) (code :: out) un := by
  have e : addT T code = setT (setT T 18 (T 17 2).toNat code) 17 2 (T 17 2 + 1) := if_pos (by rw [h.1]; omega)
  rw [e]
  refine ⟨?_, ?_, fun k hk => ?_⟩
  · rw [setT_s, h.1, List.length_cons]; push_cast; rfl
  · rw [setT_j (by decide), setT_k (by decide)]; exact h.2.1
  · rw [setT_k (by decide), h.1, Int.toNat_natCast]
    rw [List.length_cons] at hk
    show setT T 18 out.length code 18 k = if k = out.length then code else oat out k
    by_cases z : k = out.length
    · rw [if_pos z, z, setT_s]
    · rw [if_neg z, setT_j z]; exact h.2.2 k (by omega)
theorem unT_O {T : mT} {out : List Int} {un : Nat} (h : OF T out un) : OF (setT T 17 3 ((un : Int) + 1)) out (un + 1) := ⟨by rw [setT_j (by decide)]; exact h.1, by rw [setT_s]; push_cast; rfl, fun k hk => by rw [setT_k (by decide)]; exact h.2.2 k hk⟩
theorem unT_F {T : mT} {v : Int} : TF T (setT T 17 3 v) := fun k j a1 _ => setT_k a1
/-- what add() leaves as it was -/
def Fadd (I J : mI) (L : Nat → Nat → Int) (D : Nat → Nat) (b : Nat → Int) (n : Nat) (T : mT) (code : Int) : Prop := Fp I J (D 2) ∧ PX J L D b n ∧ J 41 = I 41 ∧ J 44 = I 44 ∧ TT J (D 2) = addT T code
theorem PS.add {I J : mI} {L : Nat → Nat → Int} {D : Nat → Nat} {b : Nat → Int} {n c : Nat} {T N : mT} {mo : Nat} {code : Int} (h : PS I L D b n c T N mo) (hJ : Fadd I J L D b n T code) : PS J L D b n c (addT T code) N mo := by
  have e11 : addT T code 0 11 = T 0 11 := addT_F 0 11 (by decide) (by decide)
  have e12 : addT T code 0 12 = T 0 12 := addT_F 0 12 (by decide) (by decide)
  exact ⟨hJ.2.1, h.2.1, h.2.2.1.o hJ.2.2.1 rfl, hJ.2.2.2.2, h.2.2.2.2.1, by rw [hJ.2.2.2.1]; exact h.2.2.2.2.2.1, by rw [hJ.2.2.2.1]; exact h.2.2.2.2.2.2.1, by show dst _ (addT T code 0 11).toNat; rw [e11]; exact h.2.2.2.2.2.2.2.1, by show dst _ (addT T code 0 12).toNat; rw [e12]; exact h.2.2.2.2.2.2.2.2⟩
theorem PE.add {I J : mI} {L : Nat → Nat → Int} {D : Nat → Nat} {b : Nat → Int} {n : Nat} {T : mT} {code : Int} {e : Int × Int} (h : PE I L D b n e) (hJ : Fadd I J L D b n T code) : PE J L D b n e := ⟨hJ.2.1, by rw [hJ.2.2.2.1]; exact h.2.1, by rw [hJ.2.2.2.1]; exact h.2.2⟩
theorem ts_end {g : Nat → Int} {n c : Nat} (h : n ≤ c) : ts (bOf g n) c = 0 ∧ sg (bOf g n) c = 0 := by
  have e : Run isBl (bOf g n) c c := ⟨Nat.le_refl c, fun j h1 h2 => absurd h2 (by omega), by rw [bOf_ge (by omega)]; decide⟩
  have e2 : tp (bOf g n) c = c := by
    have h1 := (run_ok (p := isBl) (g := g) (n := n) (by decide) c).1
    exact h1.uniq e
  have e3 : ts (bOf g n) c = 0 := (tk_end (by rw [e2, bOf_ge (by omega)]; decide)).1
  refine ⟨e3, ?_⟩
  unfold sg
  have hw : wi (bOf g n) c = -1 := Classical.byContradiction (fun z => by have := wi_ts z; omega)
  rw [if_neg (by omega), if_neg (by omega), if_neg (by omega)]
theorem sg_15 {b : Nat → Int} {c : Nat} (h : wi b c = 15) : sg b c = 124 := by unfold sg; rw [if_neg (by omega), if_pos h]
theorem sg_4 {b : Nat → Int} {c : Nat} (h : wi b c = 4) : sg b c = 38 := by unfold sg; rw [if_pos h]
theorem sg_s {b : Nat → Int} {c : Nat} (h : ts b c = 60 ∨ ts b c = 62 ∨ ts b c = 61 ∨ ts b c = 43 ∨ ts b c = 45 ∨ ts b c = 42 ∨ ts b c = 47 ∨ ts b c = 37) : sg b c = ts b c := by
  have hw : wi b c = -1 := Classical.byContradiction (fun z => by have := @wi_ts b c z; omega)
  unfold sg
  rw [if_neg (by omega), if_neg (by omega), if_pos h]
theorem sg_not {b : Nat → Int} {c : Nat} (h : sg b c ≠ 0) : (wi b c = 4 ∧ sg b c = 38) ∨ (wi b c = 15 ∧ sg b c = 124) ∨ sg b c = ts b c := by
  unfold sg at h ⊢
  split
  · next z => exact Or.inl ⟨z, rfl⟩
  · split
    · next z => exact Or.inr (Or.inl ⟨z, rfl⟩)
    · next z1 z2 =>
      split
      · exact Or.inr (Or.inr rfl)
      · next z3 => rw [if_neg z1, if_neg z2, if_neg z3] at h; exact absurd rfl h
theorem tg_s {s : Int} : (s = 43 ∨ s = 45 → tgt s = 5) ∧ (s = 42 ∨ s = 47 ∨ s = 37 → tgt s = 6) ∧ (s = 60 ∨ s = 62 ∨ s = 61 → tgt s = 4) := by
  refine ⟨fun h => ?_, fun h => ?_, fun h => ?_⟩
  · rcases h with rfl | rfl <;> decide
  · rcases h with rfl | rfl | rfl <;> decide
  · rcases h with rfl | rfl | rfl <;> decide
theorem opc_s {s : Int} (h : s = 60 ∨ s = 62 ∨ s = 61 ∨ s = 43 ∨ s = 45 ∨ s = 42 ∨ s = 47 ∨ s = 37) : opc s = -s := by
  rcases h with rfl | rfl | rfl | rfl | rfl | rfl | rfl | rfl <;> decide
section EXX
variable {b : Nat → Int} {c : Nat} {S : List Int}
theorem ex_or (h : EX b 2 c S) (hn : ¬ wi b c = 15) : EX b 1 c S := by
  by_cases z : sg b c = 0
  · exact Or.inl z
  rcases h with h | h | h
  · exact Or.inl h
  · rcases sg_in b c with y | y | y | y | y | y | y | y | y | y | y <;> rw [y] at h
    · exact absurd y z
    · exact absurd h (by decide)
    · rcases sg_not z with q | q | q
      · omega
      · exact absurd q.1 hn
      · have := ts_rng b c; omega
    all_goals exact absurd h (by decide)
  · exact Or.inr (Or.inr h)
theorem ex_and (h : EX b 4 c S) (hn : ¬ wi b c = 4) : EX b 2 c S := by
  by_cases z : sg b c = 0
  · exact Or.inl z
  rcases h with h | h | h
  · exact Or.inl h
  · rcases sg_in b c with y | y | y | y | y | y | y | y | y | y | y <;> rw [y] at h
    · exact absurd y z
    · rcases sg_not z with q | q | q
      · exact absurd q.1 hn
      · omega
      · have h2 := kC_ts b c; have h3 := @sg_s b c; have := ts_rng b c; unfold sg at y; rw [if_neg hn] at y; split at y
        · omega
        · split at y
          · omega
          · omega
    · refine Or.inr (Or.inl ?_); rw [y]; decide
    all_goals exact absurd h (by decide)
  · exact Or.inr (Or.inr h)
theorem ex_sum (h : EX b 6 c S) (h1 : ¬ ts b c = 43) (h2 : ¬ ts b c = 45) : EX b 5 c S := by
  by_cases z : sg b c = 0
  · exact Or.inl z
  rcases h with h | h | h
  · exact Or.inl h
  · rcases sg_in b c with y | y | y | y | y | y | y | y | y | y | y <;> rw [y] at h
    · exact absurd y z
    all_goals first | (refine Or.inr (Or.inl ?_); rw [y]; decide) | exact absurd h (by decide) | (rcases sg_not z with q | q | q <;> omega)
  · exact Or.inr (Or.inr h)
theorem ex_term (h1 : ¬ ts b c = 42) (h2 : ¬ ts b c = 47) (h3 : ¬ ts b c = 37) : EX b 6 c S := by
  by_cases z : sg b c = 0
  · exact Or.inl z
  rcases sg_in b c with y | y | y | y | y | y | y | y | y | y | y
  · exact absurd y z
  all_goals first | (refine Or.inr (Or.inl ?_); rw [y]; decide) | (rcases sg_not z with q | q | q <;> omega)
theorem ex_rel0 (h : EX b 5 c S) (h1 : ¬ ts b c = 60) (h2 : ¬ ts b c = 62) (h3 : ¬ ts b c = 61) : EX b 4 c S := by
  by_cases z : sg b c = 0
  · exact Or.inl z
  rcases h with h | h | h
  · exact Or.inl h
  · rcases sg_in b c with y | y | y | y | y | y | y | y | y | y | y <;> rw [y] at h
    · exact absurd y z
    all_goals first | (refine Or.inr (Or.inl ?_); rw [y]; decide) | exact absurd h (by decide) | (rcases sg_not z with q | q | q <;> omega)
  · exact Or.inr (Or.inr h)
theorem ex_rel1 {P K : List Int} {s : Int} (hP : aP 5 P) (hs : tgt s = 4) (h20 : s ≠ 20) (h : EX b 5 c (P ++ s :: K)) : EX b 4 c (P ++ s :: K) := by
  have hR : hasR (P ++ s :: K) = true := by
    rw [hasR_skip P hP]
    show (if s = 20 then false else if 4 < tgt s then hasR K else tgt s == 4) = true
    rw [if_neg h20, if_neg (by omega), hs]
    rfl
  rcases h with h | h | h
  · exact Or.inl h
  · by_cases z : tgt (sg b c) = 4
    · exact Or.inr (Or.inr ⟨z, hR⟩)
    · exact Or.inr (Or.inl (by omega))
  · exact Or.inr (Or.inr h)
theorem lfc_40 (h : ts b c = 40) : lfc b c = -1 := by
  have hw : wi b c = -1 := Classical.byContradiction (fun z => by have := @wi_ts b c z; omega)
  unfold lfc
  rw [if_neg (by omega), if_neg (by omega), if_neg (by omega), if_neg (by omega), if_neg (by omega)]
end EXX
theorem lfc_t {b : Nat → Int} {c : Nat} (h : lfc b c ≠ -1) : ts b c = 1 ∨ ts b c = 2 := by
  by_cases z : ts b c = 2
  · exact Or.inr z
  · by_cases y : wi b c = -1
    · unfold lfc at h
      rw [if_neg z, if_neg (by omega), if_neg (by omega), if_neg (by omega), if_neg (by omega)] at h
      exact absurd rfl h
    · exact Or.inl (wi_ts y)
theorem n3_l {b : Nat → Int} {c : Nat} (h : lfc b c ≠ -1) : ts b c ≠ 3 := by have := lfc_t h; omega
theorem lfc_in {g : Nat → Int} {n c : Nat} (hc : c ≤ n) : -5 ≤ lfc (bOf g n) c ∧ lfc (bOf g n) c ≤ 9999 := by
  unfold lfc
  split
  · next z => have := tn_in (g := g) hc z; omega
  · repeat' split
    all_goals decide
/-- a part of the formula is read, or a fault is met -/
def FSp (l : Launch) (G : mG) (μ : mM) (nl K m lv x : Nat) (nt : Bool) (w dep : Nat) : Prop := ∀ (d : Nat) (I : mI) (L : Nat → Nat → Int) (D : Nat → Nat) (Q : mQ) (b : Nat → Int) (n c : Nat) (T N : mT) (mo : Nat) (out : List Int) (un : Nat), PS I L D b n c T N mo → OF T out un → out.length ≤ 9 * un → un ≤ 30 → K ≤ d →
  (∀ c' T' out' un', OKx b m lv x nt w dep c out un c' out' un' → OF T' out' un' → TF T T' → ∀ J M, Fp I J (D 2) → Lp L M (D 2) → PS J M D b n c' T' N mo → Q (some (vI 1)) J (XX M D)) →
  (∀ c', BADx b m nt dep c out un c' → ∀ J M, Fp I J (D 2) → Lp L M (D 2) → PE J M D b n (bad b c' 2) → Q (some (vI 0)) J (XX M D)) → WP l G μ d 153 I (XX L D) 0 (some (vR 44) :: some (vI (dep : Int)) :: List.replicate nl none) [] Q
theorem PS.lt {I : mI} {M : Nat → Nat → Int} {D : Nat → Nat} {b : Nat → Int} {n c : Nat} {T N : mT} {mo : Nat} (h : PS I M D b n c T N mo) (h0 : ¬ ts b c = 0) : c < te b c := by
  have z := te_in (g := I 42) h.2.1
  rw [← h.1.2.1.1] at z
  have := z.2.2.2 h0
  omega
theorem PS.lf {I : mI} {M : Nat → Nat → Int} {D : Nat → Nat} {b : Nat → Int} {n c : Nat} {T N : mT} {mo : Nat} (h : PS I M D b n c T N mo) : -5 ≤ lfc b c ∧ lfc b c ≤ 9999 := by
  have z := lfc_in (g := I 42) h.2.1
  rw [← h.1.2.1.1] at z
  exact z

theorem sp_fadd {l : Launch} {G : mG} {d : Nat} {I : mI} {L : Nat → Nat → Int} {D : Nat → Nat} {Q : mQ} {b : Nat → Int} {n : Nat} {T : mT} {code : Int}  (hX : PX I L D b n) (hT : TT I (D 2) = T) (hcd : inR code) (hd : 0 ≤ d) (hQ : ∀ J, Fadd I J L D b n T code → Q none J (XX L D)) : WP l G m_X1_add d 153 I (XX L D) 0 [some (vR ((D 2) + 17)), some (vI code)] [] Q := by
  have ht := hX.1
  have g2 : D 2 = 1 ∨ D 2 = 21 := ht
  have hw : tw T := hT ▸ hX.2.2.2.1
  have bl := tw_len hw
  refine wp_aload_n (pc := 0) 0 dX1_add_0 rfl rfl ?_
  refine wp_geti (pc := 1) dX1_add_1 rfl f_X1_16 (tk_17 ht) (tl_17 ht) (Or.inl rfl) ?_
  refine wp_eqst (st' := [vI (T 17 2)]) (by rw [← hT] <;> rfl) ?_
  refine wp_sipush (pc := 4) dX1_add_4 (by decide) ?_
  refine wp_icmp_ge (pc := 7) 30 dX1_add_7 (by decide) (by omega) (by decide) (fun h_1 => ?_) (fun h_1 => ?_)
  · refine wp_vret (pc := 30) dX1_add_30 rfl rfl ?_
    refine hQ I ⟨Fp.refl, hX, rfl, rfl, ?_⟩
    unfold addT; rw [if_neg (by omega)]; exact hT
  · refine wp_aload_n (pc := 10) 0 dX1_add_10 rfl rfl ?_
    refine wp_getr (pc := 11) dX1_add_11 rfl f_X1_9 (tk_17 ht) (tl_17 ht) rfl (tr_17_0 D ht) ?_
    refine wp_aload_n (pc := 14) 0 dX1_add_14 rfl rfl ?_
    refine wp_geti (pc := 15) dX1_add_15 rfl f_X1_16 (tk_17 ht) (tl_17 ht) (Or.inl rfl) ?_
    refine wp_eqst (st' := [vI (T 17 2), vR ((D 2) + 18)]) (by rw [← hT] <;> rfl) ?_
    refine wp_iload_n (pc := 18) 1 dX1_add_18 rfl rfl ?_
    refine wq_iast (pc := 19) (Int.toNat (T 17 2)) dX1_add_19 (tk_18 ht) (tl_18 ht) (by omega) (by omega) ?_
    refine wp_aload_n (pc := 20) 0 dX1_add_20 rfl rfl ?_
    refine wp_dup (pc := 21) dX1_add_21 rfl ?_
    refine wp_geti (pc := 22) dX1_add_22 rfl f_X1_16 (tk_17 ht) (tl_17 ht) (Or.inl rfl) ?_
    refine wp_eqst (st' := [vI (T 17 2), vR ((D 2) + 17)]) (by rw [up_c (by omega), ← hT] <;> rfl) ?_
    refine wp_iconst (pc := 25) dX1_add_25 ?_
    refine wp_iadd (pc := 26) dX1_add_26 ?_
    refine wp_puti (pc := 27) dX1_add_27 rfl f_X1_16 (tk_17 ht) (tl_17 ht) (fun _ h => by cases h; rfl) rfl ?_
    refine wp_vret (pc := 30) dX1_add_30 rfl rfl ?_
    refine hQ _ ⟨(Fp.refl.upt ht (by omega)).upt ht (by omega), (hX.upT (k := 18) (by decide) (by unfold twB; omega) (fun _ => hcd)).upT (k := 17) (by decide) (by unfold twB; omega) (fun e => absurd e (by decide)), funext fun j => by rw [up_c (by omega), up_c (by omega)], funext fun j => by rw [up_c (by omega), up_c (by omega)], ?_⟩
    unfold addT; rw [if_pos (by omega), TT_up (by decide), TT_up (by decide), hT]

theorem sp_leafCode {l : Launch} {G : mG} {d : Nat} {I : mI} {L : Nat → Nat → Int} {D : Nat → Nat} {Q : mQ} {b : Nat → Int} {n c : Nat} {T N : mT} {mo : Nat}   (hP : PS I L D b n c T N mo)  (hd : 0 ≤ d) (hQ : Q (some (vI (lfc b c))) I (XX L D)) : WP l G m_X4_leafCode d 153 I (XX L D) 0 [some (vR 44)] [] Q := by
  have ht := hP.1.1
  have g2 : D 2 = 1 ∨ D 2 = 21 := ht
  have hT := hP.2.2.2.1
  have hw := hP.tw
  have k4 := hP.2.2.1.1
  have k5 := hP.2.2.1.2.1
  have k6 := hP.2.2.1.2.2.1.1
  have m4 := hP.2.2.2.2.2.1
  have ki := kC_in b c
  have kw := wi_in b c
  have tr := ts_rng b c
  have l7 := hP.2.2.1.2.2.2.2.1
  have b_c := tw_c hw
  have b_p := tw_p hw
  have b_q := tw_q hw
  have b_v := tw_vows hw
  have eC : nC T = (T 0 11).toNat := rfl
  have eP : nP T = (T 0 12).toNat := rfl
  have eQ : nQ T = (T 0 13).toNat := rfl
  have kt := kC_ts b c
  have kx := @wi_ts b c
  have kv : kC b c = 4 → I 41 6 = tn b c := fun z => by rw [hP.2.2.1.2.2.1.2 (by omega), vC_n (by omega)]
  have kq : ¬ wi b c = -1 → I 41 6 = wi b c := fun z => by rw [hP.2.2.1.2.2.1.2 (by have := kx z; omega), vC_w (kx z), if_neg z]
  refine wp_aload_n (pc := 0) 0 dX4_leafCode_0 rfl rfl ?_
  refine wp_getr (pc := 1) dX4_leafCode_1 rfl f_X4_15 kd_44 la_44 rfl (r_44_0 D) ?_
  refine wp_geti (pc := 4) dX4_leafCode_4 rfl f_X4_39 kd_41 la_41 (Or.inl rfl) ?_
  refine wp_eqst (st' := [vI (kC b c)]) (by rw [k4]) ?_
  refine wp_iconst (pc := 7) dX4_leafCode_7 ?_
  refine wp_icmp_ne (pc := 8) 19 dX4_leafCode_8 (by decide) (by omega) (by decide) (fun h_1 => ?_) (fun h_1 => ?_)
  · refine wp_aload_n (pc := 19) 0 dX4_leafCode_19 rfl rfl ?_
    refine wp_getr (pc := 20) dX4_leafCode_20 rfl f_X4_15 kd_44 la_44 rfl (r_44_0 D) ?_
    refine wp_geti (pc := 23) dX4_leafCode_23 rfl f_X4_39 kd_41 la_41 (Or.inl rfl) ?_
    refine wp_eqst (st' := [vI (kC b c)]) (by rw [k4]) ?_
    refine wp_iconst (pc := 26) dX4_leafCode_26 ?_
    refine wp_icmp_eq (pc := 27) 32 dX4_leafCode_27 (by decide) (by omega) (by decide) (fun h_2 => ?_) (fun h_2 => ?_)
    · refine wp_aload_n (pc := 32) 0 dX4_leafCode_32 rfl rfl ?_
      refine wp_getr (pc := 33) dX4_leafCode_33 rfl f_X4_15 kd_44 la_44 rfl (r_44_0 D) ?_
      refine wp_geti (pc := 36) dX4_leafCode_36 rfl f_X4_46 kd_41 la_41 (Or.inl rfl) ?_
      by_cases h_3 : I 41 6 = 17
      · refine wp_tin (pc := 39) 0 68 dX4_leafCode_39 (by omega) (by rw [h_3]; decide) (by decide) rfl (by decide) ?_
        refine wp_bipush (pc := 68) dX4_leafCode_68 (by decide) ?_
        refine wp_iret (pc := 70) dX4_leafCode_70 rfl rfl ?_
        have e1 : lfc b c = (-2) := by unfold lfc; (repeat (first | rw [if_pos (by omega)] | rw [if_neg (by omega)])); first | done | omega
        rw [e1] at hQ; exact hQ
      by_cases h_4 : I 41 6 = 18
      · refine wp_tin (pc := 39) 1 71 dX4_leafCode_39 (by omega) (by rw [h_4]; decide) (by decide) rfl (by decide) ?_
        refine wp_bipush (pc := 71) dX4_leafCode_71 (by decide) ?_
        refine wp_iret (pc := 73) dX4_leafCode_73 rfl rfl ?_
        have e1 : lfc b c = (-3) := by unfold lfc; (repeat (first | rw [if_pos (by omega)] | rw [if_neg (by omega)])); first | done | omega
        rw [e1] at hQ; exact hQ
      by_cases h_5 : I 41 6 = 19
      · refine wp_tin (pc := 39) 2 74 dX4_leafCode_39 (by omega) (by rw [h_5]; decide) (by decide) rfl (by decide) ?_
        refine wp_bipush (pc := 74) dX4_leafCode_74 (by decide) ?_
        refine wp_iret (pc := 76) dX4_leafCode_76 rfl rfl ?_
        have e1 : lfc b c = (-4) := by unfold lfc; (repeat (first | rw [if_pos (by omega)] | rw [if_neg (by omega)])); first | done | omega
        rw [e1] at hQ; exact hQ
      by_cases h_6 : I 41 6 = 20
      · refine wp_tin (pc := 39) 3 77 dX4_leafCode_39 (by omega) (by rw [h_6]; decide) (by decide) rfl (by decide) ?_
        refine wp_bipush (pc := 77) dX4_leafCode_77 (by decide) ?_
        refine wp_iret (pc := 79) dX4_leafCode_79 rfl rfl ?_
        have e1 : lfc b c = (-5) := by unfold lfc; (repeat (first | rw [if_pos (by omega)] | rw [if_neg (by omega)])); first | done | omega
        rw [e1] at hQ; exact hQ
      refine wp_tout (pc := 39) 80 dX4_leafCode_39 (by omega) (by omega) (by decide) ?_
      refine wp_iconst (pc := 80) dX4_leafCode_80 ?_
      refine wp_iret (pc := 81) dX4_leafCode_81 rfl rfl ?_
      have e1 : lfc b c = (-1) := by unfold lfc; (repeat (first | rw [if_pos (by omega)] | rw [if_neg (by omega)])); first | done | omega
      rw [e1] at hQ; exact hQ
    · refine wp_iconst (pc := 30) dX4_leafCode_30 ?_
      refine wp_iret (pc := 31) dX4_leafCode_31 rfl rfl ?_
      have e1 : lfc b c = (-1) := by unfold lfc; (repeat (first | rw [if_pos (by omega)] | rw [if_neg (by omega)])); first | done | omega
      rw [e1] at hQ; exact hQ
  · refine wp_aload_n (pc := 11) 0 dX4_leafCode_11 rfl rfl ?_
    refine wp_getr (pc := 12) dX4_leafCode_12 rfl f_X4_15 kd_44 la_44 rfl (r_44_0 D) ?_
    refine wp_geti (pc := 15) dX4_leafCode_15 rfl f_X4_46 kd_41 la_41 (Or.inl rfl) ?_
    refine wp_iret (pc := 18) dX4_leafCode_18 rfl rfl ?_
    have e1 : lfc b c = I 41 6 := by unfold lfc; rw [if_pos (by omega)]; omega
    rw [e1] at hQ; exact hQ

theorem fs_unit {l : Launch} {G : mG} {dep : Nat} (hdep : dep ≤ 7) (hE : dep < 7 → FSp l G m_X4_either 2 (7 * (8 - (dep + 1)) + 10) 1 1 1 false 1 (dep + 1)) : FSp l G m_X4_unit 2 (7 * (8 - dep) + 4) 7 7 7 true 8 dep := by
  intro d I L D Q b n c T N mo out un hP hO hl hu hd h1 h0
  have ht := hP.1.1
  have g2 : D 2 = 1 ∨ D 2 = 21 := ht
  have hT := hP.2.2.2.1
  have hw := hP.tw
  have k4 := hP.2.2.1.1
  have k5 := hP.2.2.1.2.1
  have k6 := hP.2.2.1.2.2.1.1
  have m4 := hP.2.2.2.2.2.1
  have ki := kC_in b c
  have kw := wi_in b c
  have tr := ts_rng b c
  have l7 := hP.2.2.1.2.2.2.2.1
  have b_c := tw_c hw
  have b_p := tw_p hw
  have b_q := tw_q hw
  have b_v := tw_vows hw
  have eC : nC T = (T 0 11).toNat := rfl
  have eP : nP T = (T 0 12).toNat := rfl
  have eQ : nQ T = (T 0 13).toNat := rfl
  have u3 : I ((D 2) + 17) 3 = ((un : Nat) : Int) := by rw [← hO.2.1, ← hT]; rfl
  refine wp_aload_n (pc := 0) 0 dX4_unit_0 rfl rfl ?_
  refine wp_callV (pc := 1) (st := []) (nf' := 153) [] [some (vR 44)] dX4_unit_1 rfl c_X4_225 rfl kd_44 (by decide) rfl la_44 rfl (Nat.le_of_ble_eq_true rfl) rfl (Nat.le_of_ble_eq_true rfl) (by omega) (Nat.le_refl _) (Nat.le_refl _) ?_
  refine sp_leafCode hP (by omega) ?_
  have lfb := hP.lf
  refine wp_eqst (st' := [vI (lfc b c)]) rfl ?_
  refine wq_istore_n (pc := 4) 2 [some (vR 44), some (vI (dep : Int)), some (vI (lfc b c)), none] dX4_unit_4 rfl rfl (by decide) rfl ?_
  refine wp_aload_n (pc := 5) 0 dX4_unit_5 rfl rfl ?_
  refine wp_getr (pc := 6) dX4_unit_6 rfl f_X4_15 kd_44 la_44 rfl (r_44_0 D) ?_
  refine wp_bipush (pc := 9) dX4_unit_9 (by decide) ?_
  refine wp_callV (pc := 11) (st := []) (nf' := 153) [vI 40] [some (vR 41), some (vI 40)] dX4_unit_11 rfl c_X4_191 rfl kd_41 (by decide) rfl la_41 rfl (Nat.le_of_ble_eq_true rfl) rfl (Nat.le_of_ble_eq_true rfl) (by omega) (Nat.le_refl _) (Nat.le_refl _) ?_
  refine sp_isSign hP.2.2.1 (by decide) (by omega) (fun h_1 => ?_) (fun h_1 => ?_)
  · refine wp_eqst (st' := [vI 1]) rfl ?_
    refine wq_istore_n (pc := 14) 3 [some (vR 44), some (vI (dep : Int)), some (vI (lfc b c)), some (vI 1)] dX4_unit_14 rfl rfl (by decide) rfl ?_
    refine wp_iload_n (pc := 15) 2 dX4_unit_15 rfl rfl ?_
    refine wp_iconst (pc := 16) dX4_unit_16 ?_
    refine wp_icmp_ne (pc := 17) 24 dX4_unit_17 (by decide) (by omega) (by decide) (fun h_2 => ?_) (fun h_2 => ?_)
    · refine wp_aload_n (pc := 24) 0 dX4_unit_24 rfl rfl ?_
      refine wp_getr (pc := 25) dX4_unit_25 rfl f_X4_19 kd_44 la_44 rfl (r_44_1 D) ?_
      refine wp_getr (pc := 28) dX4_unit_28 rfl f_X4_197 (tk_0 ht) (tl_0 ht) rfl (tr_0_10 D ht) ?_
      refine wp_geti (pc := 31) dX4_unit_31 rfl f_X4_228 (tk_17 ht) (tl_17 ht) (Or.inl rfl) ?_
      refine wp_eqst (st' := [vI ((un : Nat) : Int)]) (by rw [u3]) ?_
      refine wp_bipush (pc := 34) dX4_unit_34 (by decide) ?_
      refine wp_icmp_lt (pc := 36) 45 dX4_unit_36 (by decide) (by omega) (by decide) (fun h_3 => ?_) (fun h_3 => ?_)
      · refine wp_iload_n (pc := 45) 3 dX4_unit_45 rfl rfl ?_
        refine wp_if_eq (pc := 46) 61 dX4_unit_46 (by decide) (by decide) (fun hh => absurd hh (by decide)) (fun _ => ?_)
        refine wp_iload_n (pc := 49) 1 dX4_unit_49 rfl rfl ?_
        refine wp_bipush (pc := 50) dX4_unit_50 (by decide) ?_
        refine wp_icmp_lt (pc := 52) 61 dX4_unit_52 (by decide) (by omega) (by decide) (fun h_4 => ?_) (fun h_4 => ?_)
        · refine wp_aload_n (pc := 61) 0 dX4_unit_61 rfl rfl ?_
          refine wp_getr (pc := 62) dX4_unit_62 rfl f_X4_19 kd_44 la_44 rfl (r_44_1 D) ?_
          refine wp_getr (pc := 65) dX4_unit_65 rfl f_X4_197 (tk_0 ht) (tl_0 ht) rfl (tr_0_10 D ht) ?_
          refine wp_dup (pc := 68) dX4_unit_68 rfl ?_
          refine wp_geti (pc := 69) dX4_unit_69 rfl f_X4_228 (tk_17 ht) (tl_17 ht) (Or.inl rfl) ?_
          refine wp_eqst (st' := [vI ((un : Nat) : Int), vR ((D 2) + 17)]) (by rw [u3]) ?_
          refine wp_iconst (pc := 72) dX4_unit_72 ?_
          refine wp_iadd (pc := 73) dX4_unit_73 ?_
          refine wp_puti (pc := 74) dX4_unit_74 rfl f_X4_228 (tk_17 ht) (tl_17 ht) (fun _ h => by cases h; rfl) rfl ?_
          have hP1_ : PS (up I ((D 2) + 17) 3 (((un : Nat) : Int) + 1)) (L) D b n c (setT T 17 3 ((un : Int) + 1)) N mo := hP.upT1 (k := 17) (by decide) (by unfold twB; omega) (fun e => absurd e (by decide)) (Or.inl (by decide))
          have hF1_ : Fp I (up I ((D 2) + 17) 3 (((un : Nat) : Int) + 1)) (D 2) := Fp.refl.upt ht (by omega)
          refine wp_gen (fun J => Fp I J (D 2) ∧ PS J (L) D b n c (setT T 17 3 ((un : Int) + 1)) N mo) ⟨hF1_, hP1_⟩ (fun J1 hJ1 => ?_)
          have hF1 := hJ1.1
          have hP1 := hJ1.2
          have hT_1 := hP1.2.2.2.1
          have hw_1 := hP1.tw
          have k4_1 := hP1.2.2.1.1
          have k5_1 := hP1.2.2.1.2.1
          have k6_1 := hP1.2.2.1.2.2.1.1
          have m4_1 := hP1.2.2.2.2.2.1
          have ki_1 := kC_in b c
          have kw_1 := wi_in b c
          have tr_1 := ts_rng b c
          have l7_1 := hP1.2.2.1.2.2.2.2.1
          have u3_1 : J1 ((D 2) + 17) 3 = ((un + 1 : Nat) : Int) := by rw [← (unT_O hO).2.1, ← hT_1]; rfl
          refine wp_aload_n (pc := 77) 0 dX4_unit_77 rfl rfl ?_
          refine wp_getr (pc := 78) dX4_unit_78 rfl f_X4_15 kd_44 la_44 rfl (r_44_0 D) ?_
          refine wp_callV (pc := 81) (st := []) (nf' := 153) [] [some (vR 41), none] dX4_unit_81 rfl c_X4_93 rfl kd_41 (by decide) rfl la_41 rfl (Nat.le_of_ble_eq_true rfl) rfl (Nat.le_of_ble_eq_true rfl) (by omega) (Nat.le_refl _) (Nat.le_refl _) ?_
          have n32 : ts b c ≠ 3 := (by first | exact n3_k (by omega) | exact n3_4 (by omega) | exact n3_w (by omega) | exact n3_s (by omega) | exact n3_l (by omega))
          refine sp_advance hP1.1.2.1 hP1.nx hP1.1.2.2.1 (hP1.2.2.1.2.2.2.1 n32) (by omega) (fun J2 M2 hFa2 hLa2 hTk2 => ?_)
          have hP2 := hP1.adv hP1.nx hFa2 hLa2 hTk2
          have hT_2 := hP2.2.2.2.1
          have hw_2 := hP2.tw
          have k4_2 := hP2.2.2.1.1
          have k5_2 := hP2.2.2.1.2.1
          have k6_2 := hP2.2.2.1.2.2.1.1
          have m4_2 := hP2.2.2.2.2.2.1
          have ki_2 := kC_in b (te b c)
          have kw_2 := wi_in b (te b c)
          have tr_2 := ts_rng b (te b c)
          have l7_2 := hP2.2.2.1.2.2.2.2.1
          have u3_2 : J2 ((D 2) + 17) 3 = ((un + 1 : Nat) : Int) := by rw [← (unT_O hO).2.1, ← hT_2]; rfl
          refine wp_eqst (st' := []) rfl ?_
          refine wp_iload_n (pc := 84) 3 dX4_unit_84 rfl rfl ?_
          refine wp_if_eq (pc := 85) 113 dX4_unit_85 (by decide) (by decide) (fun hh => absurd hh (by decide)) (fun _ => ?_)
          refine wp_aload_n (pc := 88) 0 dX4_unit_88 rfl rfl ?_
          refine wp_iload_n (pc := 89) 1 dX4_unit_89 rfl rfl ?_
          refine wp_iconst (pc := 90) dX4_unit_90 ?_
          refine wp_iadd (pc := 91) dX4_unit_91 ?_
          refine wp_callV (pc := 92) (st := []) (nf' := 153) [vI ((dep : Int) + 1)] [some (vR 44), some (vI ((dep : Int) + 1)), none, none] dX4_unit_92 rfl c_X4_185 rfl kd_44 (by decide) rfl la_44 rfl (Nat.le_of_ble_eq_true rfl) rfl (Nat.le_of_ble_eq_true rfl) (by omega) (Nat.le_refl _) (Nat.le_refl _) ?_
          refine wp_eqls (ls' := [some (vR 44), some (vI (((dep + 1) : Nat) : Int)), none, none]) rfl ?_
          refine hE (by omega) _ _ _ _ _ _ _ _ _ _ _ _ _ hP2 (unT_O hO) (show out.length ≤ 9 * (un + 1) by omega) (show un + 1 ≤ 30 by omega) (by omega) (fun c3 T3 o3 u3 hK3 hO3 hTF3 J3 M3 hF3 hL3 hP3 => ?_) (fun c4 hK4 J4 M4 hF4 hL4 hE4 => ?_)
          · have hq3 := hK3.1
            have hq33 : u3 ≤ 30 := hq3.2.2.1
            have hq13 := hq3.1
            have hq23 := hq3.2.1
            have hq43 := hq3.2.2.2.1
            have hT_3 := hP3.2.2.2.1
            have hw_3 := hP3.tw
            have k4_3 := hP3.2.2.1.1
            have k5_3 := hP3.2.2.1.2.1
            have k6_3 := hP3.2.2.1.2.2.1.1
            have m4_3 := hP3.2.2.2.2.2.1
            have ki_3 := kC_in b c3
            have kw_3 := wi_in b c3
            have tr_3 := ts_rng b c3
            have l7_3 := hP3.2.2.1.2.2.2.2.1
            have u3_3 : J3 ((D 2) + 17) 3 = ((u3 : Nat) : Int) := by rw [← hO3.2.1, ← hT_3]; rfl
            refine wp_eqst (st' := [vI 1]) rfl ?_
            refine wp_if_eq (pc := 95) 111 dX4_unit_95 (by decide) (by decide) (fun hh => absurd hh (by decide)) (fun _ => ?_)
            refine wp_aload_n (pc := 98) 0 dX4_unit_98 rfl rfl ?_
            refine wp_bipush (pc := 99) dX4_unit_99 (by decide) ?_
            refine wp_callV (pc := 101) (st := []) (nf' := 153) [vI 41] [some (vR 44), some (vI 41)] dX4_unit_101 rfl c_X4_83 rfl kd_44 (by decide) rfl la_44 rfl (Nat.le_of_ble_eq_true rfl) rfl (Nat.le_of_ble_eq_true rfl) (by omega) (Nat.le_refl _) (Nat.le_refl _) ?_
            refine sp_sign hP3 (by decide) (by omega) (fun h_5 J5 M5 hF5 hL5 hP5 => ?_) (fun h_5 J6 M6 hF6 hL6 hE6 => ?_)
            · skip
              have hT_5 := hP5.2.2.2.1
              have hw_5 := hP5.tw
              have k4_5 := hP5.2.2.1.1
              have k5_5 := hP5.2.2.1.2.1
              have k6_5 := hP5.2.2.1.2.2.1.1
              have m4_5 := hP5.2.2.2.2.2.1
              have ki_5 := kC_in b (te b c3)
              have kw_5 := wi_in b (te b c3)
              have tr_5 := ts_rng b (te b c3)
              have l7_5 := hP5.2.2.1.2.2.2.2.1
              refine wp_eqst (st' := [vI 1]) rfl ?_
              refine wp_if_eq (pc := 104) 111 dX4_unit_104 (by decide) (by decide) (fun hh => absurd hh (by decide)) (fun _ => ?_)
              refine wp_iconst (pc := 107) dX4_unit_107 ?_
              refine wp_goto (pc := 108) 112 dX4_unit_108 (by decide) ?_
              refine wp_zret (pc := 112) dX4_unit_112 rfl rfl (by decide) ?_
              have q41 : ts b c3 = 41 := by omega
              exact h1 _ _ _ _ (ok_brac (by omega) (by omega) (by omega) hK3 q41 (hP.lt (by omega)) (hP3.lt (by omega))) hO3 (unT_F.trans hTF3) _ _ (((hF1.trans hFa2.p).trans hF3).trans hF5) (((Lp.refl.trans hLa2.p).trans hL3).trans hL5) hP5
            · skip
              refine wp_eqst (st' := [vI 0]) rfl ?_
              refine wp_if_eq (pc := 104) 111 dX4_unit_104 (by decide) (by decide) (fun _ => ?_) (fun hh => absurd hh (by decide))
              refine wp_iconst (pc := 111) dX4_unit_111 ?_
              refine wp_zret (pc := 112) dX4_unit_112 rfl rfl (by decide) ?_
              exact h0 _ (bad_brac2 (by omega) (by omega) (by omega) hK3 (by omega)) _ _ (((hF1.trans hFa2.p).trans hF3).trans hF6) (((Lp.refl.trans hLa2.p).trans hL3).trans hL6) hE6
          · skip
            refine wp_eqst (st' := [vI 0]) rfl ?_
            refine wp_if_eq (pc := 95) 111 dX4_unit_95 (by decide) (by decide) (fun _ => ?_) (fun hh => absurd hh (by decide))
            refine wp_iconst (pc := 111) dX4_unit_111 ?_
            refine wp_zret (pc := 112) dX4_unit_112 rfl rfl (by decide) ?_
            exact h0 _ (bad_brac1 (by omega) (by omega) (by omega) hK4) _ _ ((hF1.trans hFa2.p).trans hF4) ((Lp.refl.trans hLa2.p).trans hL4) hE4
        · refine wp_aload_n (pc := 55) 0 dX4_unit_55 rfl rfl ?_
          refine wp_iconst (pc := 56) dX4_unit_56 ?_
          refine wp_callV (pc := 57) (st := []) (nf' := 153) [vI 2] [some (vR 44), some (vI 2)] dX4_unit_57 rfl c_X4_42 rfl kd_44 (by decide) rfl la_44 rfl (Nat.le_of_ble_eq_true rfl) rfl (Nat.le_of_ble_eq_true rfl) (by omega) (Nat.le_refl _) (Nat.le_refl _) ?_
          refine sp_refuse hP.2.2.1 (by decide) (by omega) ?_
          refine wp_eqst (st' := [vI 0]) rfl ?_
          refine wp_zret (pc := 60) dX4_unit_60 rfl rfl (by decide) ?_
          exact h0 _ (bad_unit (by omega) lfc_40) _ _ Fp.refl.up44.up44 Lp.refl (hP.ref 2)
      · refine wp_aload_n (pc := 39) 0 dX4_unit_39 rfl rfl ?_
        refine wp_iconst (pc := 40) dX4_unit_40 ?_
        refine wp_callV (pc := 41) (st := []) (nf' := 153) [vI 2] [some (vR 44), some (vI 2)] dX4_unit_41 rfl c_X4_42 rfl kd_44 (by decide) rfl la_44 rfl (Nat.le_of_ble_eq_true rfl) rfl (Nat.le_of_ble_eq_true rfl) (by omega) (Nat.le_refl _) (Nat.le_refl _) ?_
        refine sp_refuse hP.2.2.1 (by decide) (by omega) ?_
        refine wp_eqst (st' := [vI 0]) rfl ?_
        refine wp_zret (pc := 44) dX4_unit_44 rfl rfl (by decide) ?_
        exact h0 _ (bad_unit (by omega) lfc_40) _ _ Fp.refl.up44.up44 Lp.refl (hP.ref 2)
    · refine wp_iload_n (pc := 20) 3 dX4_unit_20 rfl rfl ?_
      refine wp_if_eq (pc := 21) 39 dX4_unit_21 (by decide) (by decide) (fun hh => absurd hh (by decide)) (fun _ => ?_)
      refine wp_aload_n (pc := 24) 0 dX4_unit_24 rfl rfl ?_
      refine wp_getr (pc := 25) dX4_unit_25 rfl f_X4_19 kd_44 la_44 rfl (r_44_1 D) ?_
      refine wp_getr (pc := 28) dX4_unit_28 rfl f_X4_197 (tk_0 ht) (tl_0 ht) rfl (tr_0_10 D ht) ?_
      refine wp_geti (pc := 31) dX4_unit_31 rfl f_X4_228 (tk_17 ht) (tl_17 ht) (Or.inl rfl) ?_
      refine wp_eqst (st' := [vI ((un : Nat) : Int)]) (by rw [u3]) ?_
      refine wp_bipush (pc := 34) dX4_unit_34 (by decide) ?_
      refine wp_icmp_lt (pc := 36) 45 dX4_unit_36 (by decide) (by omega) (by decide) (fun h_6 => ?_) (fun h_6 => ?_)
      · refine wp_iload_n (pc := 45) 3 dX4_unit_45 rfl rfl ?_
        refine wp_if_eq (pc := 46) 61 dX4_unit_46 (by decide) (by decide) (fun hh => absurd hh (by decide)) (fun _ => ?_)
        refine wp_iload_n (pc := 49) 1 dX4_unit_49 rfl rfl ?_
        refine wp_bipush (pc := 50) dX4_unit_50 (by decide) ?_
        refine wp_icmp_lt (pc := 52) 61 dX4_unit_52 (by decide) (by omega) (by decide) (fun h_7 => ?_) (fun h_7 => ?_)
        · refine wp_aload_n (pc := 61) 0 dX4_unit_61 rfl rfl ?_
          refine wp_getr (pc := 62) dX4_unit_62 rfl f_X4_19 kd_44 la_44 rfl (r_44_1 D) ?_
          refine wp_getr (pc := 65) dX4_unit_65 rfl f_X4_197 (tk_0 ht) (tl_0 ht) rfl (tr_0_10 D ht) ?_
          refine wp_dup (pc := 68) dX4_unit_68 rfl ?_
          refine wp_geti (pc := 69) dX4_unit_69 rfl f_X4_228 (tk_17 ht) (tl_17 ht) (Or.inl rfl) ?_
          refine wp_eqst (st' := [vI ((un : Nat) : Int), vR ((D 2) + 17)]) (by rw [u3]) ?_
          refine wp_iconst (pc := 72) dX4_unit_72 ?_
          refine wp_iadd (pc := 73) dX4_unit_73 ?_
          refine wp_puti (pc := 74) dX4_unit_74 rfl f_X4_228 (tk_17 ht) (tl_17 ht) (fun _ h => by cases h; rfl) rfl ?_
          have hP7_ : PS (up I ((D 2) + 17) 3 (((un : Nat) : Int) + 1)) (L) D b n c (setT T 17 3 ((un : Int) + 1)) N mo := hP.upT1 (k := 17) (by decide) (by unfold twB; omega) (fun e => absurd e (by decide)) (Or.inl (by decide))
          have hF7_ : Fp I (up I ((D 2) + 17) 3 (((un : Nat) : Int) + 1)) (D 2) := Fp.refl.upt ht (by omega)
          refine wp_gen (fun J => Fp I J (D 2) ∧ PS J (L) D b n c (setT T 17 3 ((un : Int) + 1)) N mo) ⟨hF7_, hP7_⟩ (fun J7 hJ7 => ?_)
          have hF7 := hJ7.1
          have hP7 := hJ7.2
          have hT_7 := hP7.2.2.2.1
          have hw_7 := hP7.tw
          have k4_7 := hP7.2.2.1.1
          have k5_7 := hP7.2.2.1.2.1
          have k6_7 := hP7.2.2.1.2.2.1.1
          have m4_7 := hP7.2.2.2.2.2.1
          have ki_7 := kC_in b c
          have kw_7 := wi_in b c
          have tr_7 := ts_rng b c
          have l7_7 := hP7.2.2.1.2.2.2.2.1
          have u3_7 : J7 ((D 2) + 17) 3 = ((un + 1 : Nat) : Int) := by rw [← (unT_O hO).2.1, ← hT_7]; rfl
          refine wp_aload_n (pc := 77) 0 dX4_unit_77 rfl rfl ?_
          refine wp_getr (pc := 78) dX4_unit_78 rfl f_X4_15 kd_44 la_44 rfl (r_44_0 D) ?_
          refine wp_callV (pc := 81) (st := []) (nf' := 153) [] [some (vR 41), none] dX4_unit_81 rfl c_X4_93 rfl kd_41 (by decide) rfl la_41 rfl (Nat.le_of_ble_eq_true rfl) rfl (Nat.le_of_ble_eq_true rfl) (by omega) (Nat.le_refl _) (Nat.le_refl _) ?_
          have n38 : ts b c ≠ 3 := (by first | exact n3_k (by omega) | exact n3_4 (by omega) | exact n3_w (by omega) | exact n3_s (by omega) | exact n3_l (by omega))
          refine sp_advance hP7.1.2.1 hP7.nx hP7.1.2.2.1 (hP7.2.2.1.2.2.2.1 n38) (by omega) (fun J8 M8 hFa8 hLa8 hTk8 => ?_)
          have hP8 := hP7.adv hP7.nx hFa8 hLa8 hTk8
          have hT_8 := hP8.2.2.2.1
          have hw_8 := hP8.tw
          have k4_8 := hP8.2.2.1.1
          have k5_8 := hP8.2.2.1.2.1
          have k6_8 := hP8.2.2.1.2.2.1.1
          have m4_8 := hP8.2.2.2.2.2.1
          have ki_8 := kC_in b (te b c)
          have kw_8 := wi_in b (te b c)
          have tr_8 := ts_rng b (te b c)
          have l7_8 := hP8.2.2.1.2.2.2.2.1
          have u3_8 : J8 ((D 2) + 17) 3 = ((un + 1 : Nat) : Int) := by rw [← (unT_O hO).2.1, ← hT_8]; rfl
          refine wp_eqst (st' := []) rfl ?_
          refine wp_iload_n (pc := 84) 3 dX4_unit_84 rfl rfl ?_
          refine wp_if_eq (pc := 85) 113 dX4_unit_85 (by decide) (by decide) (fun hh => absurd hh (by decide)) (fun _ => ?_)
          refine wp_aload_n (pc := 88) 0 dX4_unit_88 rfl rfl ?_
          refine wp_iload_n (pc := 89) 1 dX4_unit_89 rfl rfl ?_
          refine wp_iconst (pc := 90) dX4_unit_90 ?_
          refine wp_iadd (pc := 91) dX4_unit_91 ?_
          refine wp_callV (pc := 92) (st := []) (nf' := 153) [vI ((dep : Int) + 1)] [some (vR 44), some (vI ((dep : Int) + 1)), none, none] dX4_unit_92 rfl c_X4_185 rfl kd_44 (by decide) rfl la_44 rfl (Nat.le_of_ble_eq_true rfl) rfl (Nat.le_of_ble_eq_true rfl) (by omega) (Nat.le_refl _) (Nat.le_refl _) ?_
          refine wp_eqls (ls' := [some (vR 44), some (vI (((dep + 1) : Nat) : Int)), none, none]) rfl ?_
          refine hE (by omega) _ _ _ _ _ _ _ _ _ _ _ _ _ hP8 (unT_O hO) (show out.length ≤ 9 * (un + 1) by omega) (show un + 1 ≤ 30 by omega) (by omega) (fun c9 T9 o9 u9 hK9 hO9 hTF9 J9 M9 hF9 hL9 hP9 => ?_) (fun c10 hK10 J10 M10 hF10 hL10 hE10 => ?_)
          · have hq9 := hK9.1
            have hq39 : u9 ≤ 30 := hq9.2.2.1
            have hq19 := hq9.1
            have hq29 := hq9.2.1
            have hq49 := hq9.2.2.2.1
            have hT_9 := hP9.2.2.2.1
            have hw_9 := hP9.tw
            have k4_9 := hP9.2.2.1.1
            have k5_9 := hP9.2.2.1.2.1
            have k6_9 := hP9.2.2.1.2.2.1.1
            have m4_9 := hP9.2.2.2.2.2.1
            have ki_9 := kC_in b c9
            have kw_9 := wi_in b c9
            have tr_9 := ts_rng b c9
            have l7_9 := hP9.2.2.1.2.2.2.2.1
            have u3_9 : J9 ((D 2) + 17) 3 = ((u9 : Nat) : Int) := by rw [← hO9.2.1, ← hT_9]; rfl
            refine wp_eqst (st' := [vI 1]) rfl ?_
            refine wp_if_eq (pc := 95) 111 dX4_unit_95 (by decide) (by decide) (fun hh => absurd hh (by decide)) (fun _ => ?_)
            refine wp_aload_n (pc := 98) 0 dX4_unit_98 rfl rfl ?_
            refine wp_bipush (pc := 99) dX4_unit_99 (by decide) ?_
            refine wp_callV (pc := 101) (st := []) (nf' := 153) [vI 41] [some (vR 44), some (vI 41)] dX4_unit_101 rfl c_X4_83 rfl kd_44 (by decide) rfl la_44 rfl (Nat.le_of_ble_eq_true rfl) rfl (Nat.le_of_ble_eq_true rfl) (by omega) (Nat.le_refl _) (Nat.le_refl _) ?_
            refine sp_sign hP9 (by decide) (by omega) (fun h_8 J11 M11 hF11 hL11 hP11 => ?_) (fun h_8 J12 M12 hF12 hL12 hE12 => ?_)
            · skip
              have hT_11 := hP11.2.2.2.1
              have hw_11 := hP11.tw
              have k4_11 := hP11.2.2.1.1
              have k5_11 := hP11.2.2.1.2.1
              have k6_11 := hP11.2.2.1.2.2.1.1
              have m4_11 := hP11.2.2.2.2.2.1
              have ki_11 := kC_in b (te b c9)
              have kw_11 := wi_in b (te b c9)
              have tr_11 := ts_rng b (te b c9)
              have l7_11 := hP11.2.2.1.2.2.2.2.1
              refine wp_eqst (st' := [vI 1]) rfl ?_
              refine wp_if_eq (pc := 104) 111 dX4_unit_104 (by decide) (by decide) (fun hh => absurd hh (by decide)) (fun _ => ?_)
              refine wp_iconst (pc := 107) dX4_unit_107 ?_
              refine wp_goto (pc := 108) 112 dX4_unit_108 (by decide) ?_
              refine wp_zret (pc := 112) dX4_unit_112 rfl rfl (by decide) ?_
              have q41 : ts b c9 = 41 := by omega
              exact h1 _ _ _ _ (ok_brac (by omega) (by omega) (by omega) hK9 q41 (hP.lt (by omega)) (hP9.lt (by omega))) hO9 (unT_F.trans hTF9) _ _ (((hF7.trans hFa8.p).trans hF9).trans hF11) (((Lp.refl.trans hLa8.p).trans hL9).trans hL11) hP11
            · skip
              refine wp_eqst (st' := [vI 0]) rfl ?_
              refine wp_if_eq (pc := 104) 111 dX4_unit_104 (by decide) (by decide) (fun _ => ?_) (fun hh => absurd hh (by decide))
              refine wp_iconst (pc := 111) dX4_unit_111 ?_
              refine wp_zret (pc := 112) dX4_unit_112 rfl rfl (by decide) ?_
              exact h0 _ (bad_brac2 (by omega) (by omega) (by omega) hK9 (by omega)) _ _ (((hF7.trans hFa8.p).trans hF9).trans hF12) (((Lp.refl.trans hLa8.p).trans hL9).trans hL12) hE12
          · skip
            refine wp_eqst (st' := [vI 0]) rfl ?_
            refine wp_if_eq (pc := 95) 111 dX4_unit_95 (by decide) (by decide) (fun _ => ?_) (fun hh => absurd hh (by decide))
            refine wp_iconst (pc := 111) dX4_unit_111 ?_
            refine wp_zret (pc := 112) dX4_unit_112 rfl rfl (by decide) ?_
            exact h0 _ (bad_brac1 (by omega) (by omega) (by omega) hK10) _ _ ((hF7.trans hFa8.p).trans hF10) ((Lp.refl.trans hLa8.p).trans hL10) hE10
        · refine wp_aload_n (pc := 55) 0 dX4_unit_55 rfl rfl ?_
          refine wp_iconst (pc := 56) dX4_unit_56 ?_
          refine wp_callV (pc := 57) (st := []) (nf' := 153) [vI 2] [some (vR 44), some (vI 2)] dX4_unit_57 rfl c_X4_42 rfl kd_44 (by decide) rfl la_44 rfl (Nat.le_of_ble_eq_true rfl) rfl (Nat.le_of_ble_eq_true rfl) (by omega) (Nat.le_refl _) (Nat.le_refl _) ?_
          refine sp_refuse hP.2.2.1 (by decide) (by omega) ?_
          refine wp_eqst (st' := [vI 0]) rfl ?_
          refine wp_zret (pc := 60) dX4_unit_60 rfl rfl (by decide) ?_
          exact h0 _ (bad_unit (by omega) lfc_40) _ _ Fp.refl.up44.up44 Lp.refl (hP.ref 2)
      · refine wp_aload_n (pc := 39) 0 dX4_unit_39 rfl rfl ?_
        refine wp_iconst (pc := 40) dX4_unit_40 ?_
        refine wp_callV (pc := 41) (st := []) (nf' := 153) [vI 2] [some (vR 44), some (vI 2)] dX4_unit_41 rfl c_X4_42 rfl kd_44 (by decide) rfl la_44 rfl (Nat.le_of_ble_eq_true rfl) rfl (Nat.le_of_ble_eq_true rfl) (by omega) (Nat.le_refl _) (Nat.le_refl _) ?_
        refine sp_refuse hP.2.2.1 (by decide) (by omega) ?_
        refine wp_eqst (st' := [vI 0]) rfl ?_
        refine wp_zret (pc := 44) dX4_unit_44 rfl rfl (by decide) ?_
        exact h0 _ (bad_unit (by omega) lfc_40) _ _ Fp.refl.up44.up44 Lp.refl (hP.ref 2)
  · refine wp_eqst (st' := [vI 0]) rfl ?_
    refine wq_istore_n (pc := 14) 3 [some (vR 44), some (vI (dep : Int)), some (vI (lfc b c)), some (vI 0)] dX4_unit_14 rfl rfl (by decide) rfl ?_
    refine wp_iload_n (pc := 15) 2 dX4_unit_15 rfl rfl ?_
    refine wp_iconst (pc := 16) dX4_unit_16 ?_
    refine wp_icmp_ne (pc := 17) 24 dX4_unit_17 (by decide) (by omega) (by decide) (fun h_9 => ?_) (fun h_9 => ?_)
    · refine wp_aload_n (pc := 24) 0 dX4_unit_24 rfl rfl ?_
      refine wp_getr (pc := 25) dX4_unit_25 rfl f_X4_19 kd_44 la_44 rfl (r_44_1 D) ?_
      refine wp_getr (pc := 28) dX4_unit_28 rfl f_X4_197 (tk_0 ht) (tl_0 ht) rfl (tr_0_10 D ht) ?_
      refine wp_geti (pc := 31) dX4_unit_31 rfl f_X4_228 (tk_17 ht) (tl_17 ht) (Or.inl rfl) ?_
      refine wp_eqst (st' := [vI ((un : Nat) : Int)]) (by rw [u3]) ?_
      refine wp_bipush (pc := 34) dX4_unit_34 (by decide) ?_
      refine wp_icmp_lt (pc := 36) 45 dX4_unit_36 (by decide) (by omega) (by decide) (fun h_10 => ?_) (fun h_10 => ?_)
      · refine wp_iload_n (pc := 45) 3 dX4_unit_45 rfl rfl ?_
        refine wp_if_eq (pc := 46) 61 dX4_unit_46 (by decide) (by decide) (fun _ => ?_) (fun hh => absurd hh (by decide))
        refine wp_aload_n (pc := 61) 0 dX4_unit_61 rfl rfl ?_
        refine wp_getr (pc := 62) dX4_unit_62 rfl f_X4_19 kd_44 la_44 rfl (r_44_1 D) ?_
        refine wp_getr (pc := 65) dX4_unit_65 rfl f_X4_197 (tk_0 ht) (tl_0 ht) rfl (tr_0_10 D ht) ?_
        refine wp_dup (pc := 68) dX4_unit_68 rfl ?_
        refine wp_geti (pc := 69) dX4_unit_69 rfl f_X4_228 (tk_17 ht) (tl_17 ht) (Or.inl rfl) ?_
        refine wp_eqst (st' := [vI ((un : Nat) : Int), vR ((D 2) + 17)]) (by rw [u3]) ?_
        refine wp_iconst (pc := 72) dX4_unit_72 ?_
        refine wp_iadd (pc := 73) dX4_unit_73 ?_
        refine wp_puti (pc := 74) dX4_unit_74 rfl f_X4_228 (tk_17 ht) (tl_17 ht) (fun _ h => by cases h; rfl) rfl ?_
        have hP13_ : PS (up I ((D 2) + 17) 3 (((un : Nat) : Int) + 1)) (L) D b n c (setT T 17 3 ((un : Int) + 1)) N mo := hP.upT1 (k := 17) (by decide) (by unfold twB; omega) (fun e => absurd e (by decide)) (Or.inl (by decide))
        have hF13_ : Fp I (up I ((D 2) + 17) 3 (((un : Nat) : Int) + 1)) (D 2) := Fp.refl.upt ht (by omega)
        refine wp_gen (fun J => Fp I J (D 2) ∧ PS J (L) D b n c (setT T 17 3 ((un : Int) + 1)) N mo) ⟨hF13_, hP13_⟩ (fun J13 hJ13 => ?_)
        have hF13 := hJ13.1
        have hP13 := hJ13.2
        have hT_13 := hP13.2.2.2.1
        have hw_13 := hP13.tw
        have k4_13 := hP13.2.2.1.1
        have k5_13 := hP13.2.2.1.2.1
        have k6_13 := hP13.2.2.1.2.2.1.1
        have m4_13 := hP13.2.2.2.2.2.1
        have ki_13 := kC_in b c
        have kw_13 := wi_in b c
        have tr_13 := ts_rng b c
        have l7_13 := hP13.2.2.1.2.2.2.2.1
        have u3_13 : J13 ((D 2) + 17) 3 = ((un + 1 : Nat) : Int) := by rw [← (unT_O hO).2.1, ← hT_13]; rfl
        refine wp_aload_n (pc := 77) 0 dX4_unit_77 rfl rfl ?_
        refine wp_getr (pc := 78) dX4_unit_78 rfl f_X4_15 kd_44 la_44 rfl (r_44_0 D) ?_
        refine wp_callV (pc := 81) (st := []) (nf' := 153) [] [some (vR 41), none] dX4_unit_81 rfl c_X4_93 rfl kd_41 (by decide) rfl la_41 rfl (Nat.le_of_ble_eq_true rfl) rfl (Nat.le_of_ble_eq_true rfl) (by omega) (Nat.le_refl _) (Nat.le_refl _) ?_
        have n314 : ts b c ≠ 3 := (by first | exact n3_k (by omega) | exact n3_4 (by omega) | exact n3_w (by omega) | exact n3_s (by omega) | exact n3_l (by omega))
        refine sp_advance hP13.1.2.1 hP13.nx hP13.1.2.2.1 (hP13.2.2.1.2.2.2.1 n314) (by omega) (fun J14 M14 hFa14 hLa14 hTk14 => ?_)
        have hP14 := hP13.adv hP13.nx hFa14 hLa14 hTk14
        have hT_14 := hP14.2.2.2.1
        have hw_14 := hP14.tw
        have k4_14 := hP14.2.2.1.1
        have k5_14 := hP14.2.2.1.2.1
        have k6_14 := hP14.2.2.1.2.2.1.1
        have m4_14 := hP14.2.2.2.2.2.1
        have ki_14 := kC_in b (te b c)
        have kw_14 := wi_in b (te b c)
        have tr_14 := ts_rng b (te b c)
        have l7_14 := hP14.2.2.1.2.2.2.2.1
        have u3_14 : J14 ((D 2) + 17) 3 = ((un + 1 : Nat) : Int) := by rw [← (unT_O hO).2.1, ← hT_14]; rfl
        refine wp_eqst (st' := []) rfl ?_
        refine wp_iload_n (pc := 84) 3 dX4_unit_84 rfl rfl ?_
        refine wp_if_eq (pc := 85) 113 dX4_unit_85 (by decide) (by decide) (fun _ => ?_) (fun hh => absurd hh (by decide))
        refine wp_aload_n (pc := 113) 0 dX4_unit_113 rfl rfl ?_
        refine wp_getr (pc := 114) dX4_unit_114 rfl f_X4_19 kd_44 la_44 rfl (r_44_1 D) ?_
        refine wp_getr (pc := 117) dX4_unit_117 rfl f_X4_197 (tk_0 ht) (tl_0 ht) rfl (tr_0_10 D ht) ?_
        refine wp_iload_n (pc := 120) 2 dX4_unit_120 rfl rfl ?_
        refine wp_callV (pc := 121) (st := []) (nf' := 153) [vI (lfc b c)] [some (vR ((D 2) + 17)), some (vI (lfc b c))] dX4_unit_121 rfl c_X4_203 rfl (tk_17 ht) (by decide) rfl (tl_17 ht) rfl (Nat.le_of_ble_eq_true rfl) rfl (Nat.le_of_ble_eq_true rfl) (by omega) (Nat.le_refl _) (Nat.le_refl _) ?_
        refine sp_fadd hP14.1 hT_14 (by omega) (by omega) (fun J15 hA15 => ?_)
        have hP15 := hP14.add hA15
        have hO15 := addT_O (code := lfc b c) (unT_O hO) (by omega)
        have hT_15 := hP15.2.2.2.1
        have hw_15 := hP15.tw
        have k4_15 := hP15.2.2.1.1
        have k5_15 := hP15.2.2.1.2.1
        have k6_15 := hP15.2.2.1.2.2.1.1
        have m4_15 := hP15.2.2.2.2.2.1
        have ki_15 := kC_in b (te b c)
        have kw_15 := wi_in b (te b c)
        have tr_15 := ts_rng b (te b c)
        have l7_15 := hP15.2.2.1.2.2.2.2.1
        have u3_15 : J15 ((D 2) + 17) 3 = ((un + 1 : Nat) : Int) := by rw [← hO15.2.1, ← hT_15]; rfl
        refine wp_eqst (st' := []) rfl ?_
        refine wp_iconst (pc := 124) dX4_unit_124 ?_
        refine wp_zret (pc := 125) dX4_unit_125 rfl rfl (by decide) ?_
        exact h1 _ _ _ _ (ok_leaf (by omega) (by omega) (by omega) lfb.1 (hP.lt (by have z := lfc_t (b := b) (c := c) (by omega); omega))) hO15 (unT_F.trans addT_F) _ _ ((hF13.trans hFa14.p).trans hA15.1) (Lp.refl.trans hLa14.p) hP15
      · refine wp_aload_n (pc := 39) 0 dX4_unit_39 rfl rfl ?_
        refine wp_iconst (pc := 40) dX4_unit_40 ?_
        refine wp_callV (pc := 41) (st := []) (nf' := 153) [vI 2] [some (vR 44), some (vI 2)] dX4_unit_41 rfl c_X4_42 rfl kd_44 (by decide) rfl la_44 rfl (Nat.le_of_ble_eq_true rfl) rfl (Nat.le_of_ble_eq_true rfl) (by omega) (Nat.le_refl _) (Nat.le_refl _) ?_
        refine sp_refuse hP.2.2.1 (by decide) (by omega) ?_
        refine wp_eqst (st' := [vI 0]) rfl ?_
        refine wp_zret (pc := 44) dX4_unit_44 rfl rfl (by decide) ?_
        exact h0 _ (bad_unit (by omega) lfc_40) _ _ Fp.refl.up44.up44 Lp.refl (hP.ref 2)
    · refine wp_iload_n (pc := 20) 3 dX4_unit_20 rfl rfl ?_
      refine wp_if_eq (pc := 21) 39 dX4_unit_21 (by decide) (by decide) (fun _ => ?_) (fun hh => absurd hh (by decide))
      refine wp_aload_n (pc := 39) 0 dX4_unit_39 rfl rfl ?_
      refine wp_iconst (pc := 40) dX4_unit_40 ?_
      refine wp_callV (pc := 41) (st := []) (nf' := 153) [vI 2] [some (vR 44), some (vI 2)] dX4_unit_41 rfl c_X4_42 rfl kd_44 (by decide) rfl la_44 rfl (Nat.le_of_ble_eq_true rfl) rfl (Nat.le_of_ble_eq_true rfl) (by omega) (Nat.le_refl _) (Nat.le_refl _) ?_
      refine sp_refuse hP.2.2.1 (by decide) (by omega) ?_
      refine wp_eqst (st' := [vI 0]) rfl ?_
      refine wp_zret (pc := 44) dX4_unit_44 rfl rfl (by decide) ?_
      exact h0 _ (bad_unit (by omega) lfc_40) _ _ Fp.refl.up44.up44 Lp.refl (hP.ref 2)
