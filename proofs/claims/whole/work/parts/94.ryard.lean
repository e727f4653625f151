/-! THE REFERENCE's formula: the yard in its memory -/
def RB0 (I : mI) (M : Nat → Nat → Int) (b g : Nat → Int) (n c : Nat) : Prop := RBk I b g n ∧ c ≤ n ∧ TKR I M b c ∧ (I 111 2 = 0 ∧ I 111 3 = -1) ∧ True
def YM (I : mI) (st out : List Int) (un dp : Nat) : Prop := (I 111 19 = ((st.length : Nat) : Int) ∧ ∀ k, k < st.length → I 118 k = oat st k) ∧ (I 111 17 = ((out.length : Nat) : Int) ∧ ∀ k, k < out.length → codeR (I 114 k) (I 115 k) (oat out k)) ∧ (I 111 20 = ((un : Nat) : Int) ∧ I 111 22 = ((un : Nat) : Int)) ∧ I 111 23 = ((dp : Nat) : Int)
/-- what the formula alone writes -/
def Fq (I J : mI) : Prop := (∀ b, b ≠ 111 → b ≠ 114 → b ≠ 115 → b ≠ 118 → J b = I b) ∧ ∀ j, j ≠ 17 → j ≠ 19 → j ≠ 20 → j ≠ 22 → j ≠ 23 → J 111 j = I 111 j
theorem Fq.refl {I : mI} : Fq I I := ⟨fun _ _ _ _ _ => rfl, fun _ _ _ _ _ _ => rfl⟩
theorem Fq.trans {I J K : mI} (h : Fq I J) (h2 : Fq J K) : Fq I K := ⟨fun b a1 a2 a3 a4 => (h2.1 b a1 a2 a3 a4).trans (h.1 b a1 a2 a3 a4), fun j a1 a2 a3 a4 a5 => (h2.2 j a1 a2 a3 a4 a5).trans (h.2 j a1 a2 a3 a4 a5)⟩
theorem Fq.wr {I J : mI} {a j : Nat} {v : Int} (h : Fq I J) (ha : a = 111 ∧ (j = 17 ∨ j = 19 ∨ j = 20 ∨ j = 22 ∨ j = 23) ∨ a = 114 ∨ a = 115 ∨ a = 118) : Fq I (up J a j v) := by
  refine ⟨fun b a1 a2 a3 a4 => (funext fun k => up_c (by omega)).trans (h.1 b a1 a2 a3 a4), fun k a1 a2 a3 a4 a5 => Eq.trans (if_neg (fun z => by omega)) (h.2 k a1 a2 a3 a4 a5)⟩
/-- and what its tokens and a fault write too -/
def Fyd (I J : mI) : Prop := (∀ b, b ≠ 111 → b ≠ 114 → b ≠ 115 → b ≠ 118 → J b = I b) ∧ ∀ j, ¬ (2 ≤ j ∧ j ≤ 4) → ¬ (6 ≤ j ∧ j ≤ 8) → j ≠ 17 → j ≠ 19 → j ≠ 20 → j ≠ 22 → j ≠ 23 → J 111 j = I 111 j
theorem Fyd.refl {I : mI} : Fyd I I := ⟨fun _ _ _ _ _ => rfl, fun _ _ _ _ _ _ _ _ => rfl⟩
theorem Fyd.trans {I J K : mI} (h : Fyd I J) (h2 : Fyd J K) : Fyd I K := ⟨fun b a1 a2 a3 a4 => (h2.1 b a1 a2 a3 a4).trans (h.1 b a1 a2 a3 a4), fun j b1 b2 a1 a2 a3 a4 a5 => (h2.2 j b1 b2 a1 a2 a3 a4 a5).trans (h.2 j b1 b2 a1 a2 a3 a4 a5)⟩
theorem Fq.y {I J : mI} (h : Fq I J) : Fyd I J := ⟨h.1, fun j _ _ a1 a2 a3 a4 a5 => h.2 j a1 a2 a3 a4 a5⟩
theorem Fb.y {I J : mI} (h : Fb I J) : Fyd I J := ⟨fun b a1 _ _ _ => h.1 b a1, fun j b1 b2 _ _ _ _ _ => h.2 j (by omega) (by omega) (by omega) (by omega)⟩
theorem Fe.y {I J : mI} (h : Fe I J) : Fyd I J := ⟨fun b a1 _ _ _ => h.1 b a1, fun j b1 b2 _ _ _ _ _ => h.2 j (by omega) (by omega) (by omega) (by omega) (by omega) (by omega)⟩
section YMS
variable {I J : mI} {L M : Nat → Nat → Int} {b g : Nat → Int} {n c : Nat} {st out : List Int} {un dp : Nat}
theorem RB0.q (h : RB0 I L b g n c) (hF : Fq I J) : RB0 J L b g n c := by
  have f : ∀ j, j < 17 → J 111 j = I 111 j := fun j hj => hF.2 j (by omega) (by omega) (by omega) (by omega) (by omega)
  exact ⟨⟨h.1.1, by rw [hF.1 112 (by decide) (by decide) (by decide) (by decide)]; exact h.1.2.1, (f 5 (by decide)).trans h.1.2.2.1, h.1.2.2.2⟩, h.2.1, h.2.2.1.o (fun j hj => f j (by omega)) rfl, ⟨(f 2 (by decide)).trans h.2.2.2.1.1, (f 3 (by decide)).trans h.2.2.2.1.2⟩, trivial⟩
theorem RB0.nx (h : RB0 I L b g n c) : te b c ≤ n := by
  have := (te_in (g := g) h.2.1).2.2.1
  rw [← h.1.1] at this
  exact this
theorem RB0.q4 (h : RB0 I L b g n c) (hs : ts b c ≠ 3) : I 111 4 = ((te b c : Nat) : Int) := h.2.2.1.2.2.2.1 hs
theorem RB0.adv {c' : Nat} (h : RB0 I L b g n c) (hc : c' ≤ n) (hF : Fb I J) (hT : TKR J M b c') : RB0 J M b g n c' := ⟨hF.tb h.1, hc, hT, ⟨(hF.2 2 (by decide) (by decide) (by decide) (by decide)).trans h.2.2.2.1.1, (hF.2 3 (by decide) (by decide) (by decide) (by decide)).trans h.2.2.2.1.2⟩, trivial⟩
theorem YM.o (h : YM I st out un dp) (e : ∀ a, a ≠ 111 → J a = I a) (f : ∀ j, 17 ≤ j → J 111 j = I 111 j) : YM J st out un dp := by
  unfold YM at h ⊢
  rw [e 118 (by decide), e 114 (by decide), e 115 (by decide), f 19 (by decide), f 17 (by decide), f 20 (by decide), f 22 (by decide), f 23 (by decide)]
  exact h
theorem YM.tb (h : YM I st out un dp) (hF : Fb I J) : YM J st out un dp := h.o hF.1 (fun j hj => hF.2 j (by omega) (by omega) (by omega) (by omega))
theorem YM.e (h : YM I st out un dp) (hF : Fe I J) : YM J st out un dp := h.o hF.1 (fun j hj => hF.2 j (by omega) (by omega) (by omega) (by omega) (by omega) (by omega))
theorem oat_top {x : Int} {xs : List Int} : oat (x :: xs) xs.length = x := if_pos rfl
theorem oat_low {x : Int} {xs : List Int} {k : Nat} (h : k < xs.length) : oat (x :: xs) k = oat xs k := if_neg (by omega)
/-- a sign more is open -/
theorem YM.push {s : Int} (h : YM I st out un dp) : YM (up (up I 118 st.length s) 111 19 (((st.length : Nat) : Int) + 1)) (s :: st) out un dp := by
  obtain ⟨⟨h1, h2⟩, ⟨h3, h4⟩, ⟨h5, h6⟩, h7⟩ := h
  have u : ∀ j, j ≠ 19 → up (up I 118 st.length s) 111 19 (((st.length : Nat) : Int) + 1) 111 j = I 111 j := fun j hj => (up_j (by omega)).trans (up_c (by decide))
  have v : ∀ a, a ≠ 111 → a ≠ 118 → up (up I 118 st.length s) 111 19 (((st.length : Nat) : Int) + 1) a = I a := fun a g1 g2 => funext fun k => (up_c g1).trans (up_c g2)
  refine ⟨⟨by rw [up_s, List.length_cons]; omega, fun k hk => ?_⟩, ⟨(u 17 (by decide)).trans h3, by rw [v 114 (by decide) (by decide), v 115 (by decide) (by decide)]; exact h4⟩, ⟨(u 20 (by decide)).trans h5, (u 22 (by decide)).trans h6⟩, (u 23 (by decide)).trans h7⟩
  rw [List.length_cons] at hk
  rw [up_c (by decide)]
  by_cases z : k = st.length
  · rw [z, up_s, oat_top]
  · rw [up_j z, oat_low (by omega)]; exact h2 k (by omega)
theorem YM.pop {s : Int} (h : YM I (s :: st) out un dp) : YM (up I 111 19 ((st.length : Nat) : Int)) st out un dp := by
  obtain ⟨⟨h1, h2⟩, ⟨h3, h4⟩, ⟨h5, h6⟩, h7⟩ := h
  refine ⟨⟨up_s _ _ _ _, fun k hk => ?_⟩, ⟨(up_j (by decide)).trans h3, h4⟩, ⟨(up_j (by decide)).trans h5, (up_j (by decide)).trans h6⟩, (up_j (by decide)).trans h7⟩
  rw [up_c (by decide)]
  exact (h2 k (by rw [List.length_cons]; omega)).trans (oat_low hk)
theorem YM.top {s : Int} (h : YM I (s :: st) out un dp) : I 118 st.length = s := (h.1.2 st.length (by rw [List.length_cons]; omega)).trans oat_top
theorem YM.add {s a x : Int} (h : YM I st out un dp) (hx : codeR s a x) : YM (up (up (up I 114 out.length s) 115 out.length a) 111 17 (((out.length : Nat) : Int) + 1)) st (x :: out) un dp := by
  obtain ⟨⟨h1, h2⟩, ⟨h3, h4⟩, ⟨h5, h6⟩, h7⟩ := h
  have u : ∀ j, j ≠ 17 → up (up (up I 114 out.length s) 115 out.length a) 111 17 (((out.length : Nat) : Int) + 1) 111 j = I 111 j := fun j hj => (up_j (by omega)).trans ((up_c (by decide)).trans (up_c (by decide)))
  refine ⟨⟨(u 19 (by decide)).trans h1, fun k hk => ?_⟩, ⟨by rw [up_s, List.length_cons]; omega, fun k hk => ?_⟩, ⟨(u 20 (by decide)).trans h5, (u 22 (by decide)).trans h6⟩, (u 23 (by decide)).trans h7⟩
  · rw [up_c (by decide), up_c (by decide), up_c (by decide)]; exact h2 k hk
  · rw [List.length_cons] at hk
    have m1 : ∀ k, up (up (up I 114 out.length s) 115 out.length a) 111 17 (((out.length : Nat) : Int) + 1) 114 k = up I 114 out.length s 114 k := fun k => (up_c (by decide)).trans (up_c (by decide))
    have m2 : ∀ k, up (up (up I 114 out.length s) 115 out.length a) 111 17 (((out.length : Nat) : Int) + 1) 115 k = up (up I 114 out.length s) 115 out.length a 115 k := fun k => up_c (by decide)
    rw [m1, m2]
    by_cases z : k = out.length
    · rw [z, up_s, up_s, oat_top]; exact hx
    · rw [up_j z, up_j z, up_c (by decide), oat_low (by omega)]; exact h4 k (by omega)
theorem YM.deep {v : Nat} (h : YM I st out un dp) : YM (up I 111 23 ((v : Nat) : Int)) st out un v := ⟨⟨(up_j (by decide)).trans h.1.1, h.1.2⟩, ⟨(up_j (by decide)).trans h.2.1.1, h.2.1.2⟩, ⟨(up_j (by decide)).trans h.2.2.1.1, (up_j (by decide)).trans h.2.2.1.2⟩, up_s _ _ _ _⟩
theorem YM.count (h : YM I st out un dp) : YM (up (up I 111 20 (((un : Nat) : Int) + 1)) 111 22 (((un : Nat) : Int) + 1)) st out (un + 1) dp := ⟨⟨((up_j (by decide)).trans (up_j (by decide))).trans h.1.1, h.1.2⟩, ⟨((up_j (by decide)).trans (up_j (by decide))).trans h.2.1.1, h.2.1.2⟩, ⟨(up_j (by decide)).trans (by rw [up_s]; omega), by rw [up_s]; omega⟩, ((up_j (by decide)).trans (up_j (by decide))).trans h.2.2.2⟩
end YMS
/-- brackets and nots that are open -/
def cn : List Int → Nat
  | [] => 0
  | s :: st => (if s = 20 ∨ s = 21 then 1 else 0) + cn st
def isSn (s : Int) : Prop := s = 20 ∨ s = 21 ∨ s = 38 ∨ s = 124 ∨ s = 37 ∨ s = 42 ∨ s = 43 ∨ s = 45 ∨ s = 47 ∨ s = 60 ∨ s = 61 ∨ s = 62
theorem opc_R {s : Int} (h : isSn s) (h0 : s ≠ 20) (h1 : s ≠ 21) : codeR 3 s (opc s) := by
  unfold isSn at h
  rcases h with rfl | rfl | rfl | rfl | rfl | rfl | rfl | rfl | rfl | rfl | rfl | rfl
  · exact absurd rfl h0
  · exact absurd rfl h1
  all_goals (unfold codeR opR opc; decide)

theorem rs_tight {l : Launch} {G : mG} {d : Nat} {I : mI} {L : Nat → Nat → Int} {D : Nat → Nat} {Q : mQ} {s : Int}  (hs : inR s) (hd : 0 ≤ d) (hQ : Q (some (vI (((tgt s : Nat) : Int)))) I (XX L D)) : WP l G m_X11_tight d 153 I (XX L D) 0 [some (vI s)] [] Q := by
  refine wp_iload_n (pc := 0) 0 dX11_tight_0 rfl rfl ?_
  by_cases h_1 : s = 21
  · refine wp_lsw (pc := 1) 80 dX11_tight_1 (by omega) (by decide) (by rw [h_1] <;> decide) (by decide) ?_
    refine wp_iconst (pc := 80) dX11_tight_80 ?_
    refine wp_iret (pc := 81) dX11_tight_81 rfl rfl ?_
    rw [show ((tgt s : Nat) : Int) = 3 from congrArg Nat.cast (by unfold tgt; (repeat (first | rw [if_pos (by omega)] | rw [if_neg (by omega)])))] at hQ; exact hQ
  by_cases h_2 : s = 38
  · refine wp_lsw (pc := 1) 78 dX11_tight_1 (by omega) (by decide) (by rw [h_2] <;> decide) (by decide) ?_
    refine wp_iconst (pc := 78) dX11_tight_78 ?_
    refine wp_iret (pc := 79) dX11_tight_79 rfl rfl ?_
    rw [show ((tgt s : Nat) : Int) = 2 from congrArg Nat.cast (by unfold tgt; (repeat (first | rw [if_pos (by omega)] | rw [if_neg (by omega)])))] at hQ; exact hQ
  by_cases h_3 : s = 43
  · refine wp_lsw (pc := 1) 84 dX11_tight_1 (by omega) (by decide) (by rw [h_3] <;> decide) (by decide) ?_
    refine wp_iconst (pc := 84) dX11_tight_84 ?_
    refine wp_iret (pc := 85) dX11_tight_85 rfl rfl ?_
    rw [show ((tgt s : Nat) : Int) = 5 from congrArg Nat.cast (by unfold tgt; (repeat (first | rw [if_pos (by omega)] | rw [if_neg (by omega)])))] at hQ; exact hQ
  by_cases h_4 : s = 45
  · refine wp_lsw (pc := 1) 84 dX11_tight_1 (by omega) (by decide) (by rw [h_4] <;> decide) (by decide) ?_
    refine wp_iconst (pc := 84) dX11_tight_84 ?_
    refine wp_iret (pc := 85) dX11_tight_85 rfl rfl ?_
    rw [show ((tgt s : Nat) : Int) = 5 from congrArg Nat.cast (by unfold tgt; (repeat (first | rw [if_pos (by omega)] | rw [if_neg (by omega)])))] at hQ; exact hQ
  by_cases h_5 : s = 60
  · refine wp_lsw (pc := 1) 82 dX11_tight_1 (by omega) (by decide) (by rw [h_5] <;> decide) (by decide) ?_
    refine wp_iconst (pc := 82) dX11_tight_82 ?_
    refine wp_iret (pc := 83) dX11_tight_83 rfl rfl ?_
    rw [show ((tgt s : Nat) : Int) = 4 from congrArg Nat.cast (by unfold tgt; (repeat (first | rw [if_pos (by omega)] | rw [if_neg (by omega)])))] at hQ; exact hQ
  by_cases h_6 : s = 61
  · refine wp_lsw (pc := 1) 82 dX11_tight_1 (by omega) (by decide) (by rw [h_6] <;> decide) (by decide) ?_
    refine wp_iconst (pc := 82) dX11_tight_82 ?_
    refine wp_iret (pc := 83) dX11_tight_83 rfl rfl ?_
    rw [show ((tgt s : Nat) : Int) = 4 from congrArg Nat.cast (by unfold tgt; (repeat (first | rw [if_pos (by omega)] | rw [if_neg (by omega)])))] at hQ; exact hQ
  by_cases h_7 : s = 62
  · refine wp_lsw (pc := 1) 82 dX11_tight_1 (by omega) (by decide) (by rw [h_7] <;> decide) (by decide) ?_
    refine wp_iconst (pc := 82) dX11_tight_82 ?_
    refine wp_iret (pc := 83) dX11_tight_83 rfl rfl ?_
    rw [show ((tgt s : Nat) : Int) = 4 from congrArg Nat.cast (by unfold tgt; (repeat (first | rw [if_pos (by omega)] | rw [if_neg (by omega)])))] at hQ; exact hQ
  by_cases h_8 : s = 124
  · refine wp_lsw (pc := 1) 76 dX11_tight_1 (by omega) (by decide) (by rw [h_8] <;> decide) (by decide) ?_
    refine wp_iconst (pc := 76) dX11_tight_76 ?_
    refine wp_iret (pc := 77) dX11_tight_77 rfl rfl ?_
    rw [show ((tgt s : Nat) : Int) = 1 from congrArg Nat.cast (by unfold tgt; (repeat (first | rw [if_pos (by omega)] | rw [if_neg (by omega)])))] at hQ; exact hQ
  refine wp_lsw (pc := 1) (off := 85) 86 dX11_tight_1 (by omega) (by decide) (by simp only [Op.lookupswitch.offset_cons, Op.lookupswitch.offset]; repeat rw [if_neg (by omega)]) (by decide) ?_
  refine wp_bipush (pc := 86) dX11_tight_86 (by decide) ?_
  refine wp_iret (pc := 88) dX11_tight_88 rfl rfl ?_
  rw [show ((tgt s : Nat) : Int) = 6 from congrArg Nat.cast (by unfold tgt; (repeat (first | rw [if_pos (by omega)] | rw [if_neg (by omega)])))] at hQ; exact hQ

theorem rs_add {l : Launch} {G : mG} {d : Nat} {I : mI} {L : Nat → Nat → Int} {D : Nat → Nat} {Q : mQ} {s a : Int} {st out : List Int} {un dp : Nat}  (hY : YM I st out un dp) (hl : out.length < 320) (hd : 0 ≤ d) (hQ : Q none (up (up (up I 114 out.length s) 115 out.length a) 111 17 (((out.length : Nat) : Int) + 1)) (XX L D)) : WP l G m_X11_add d 153 I (XX L D) 0 [some (vR 111), some (vI s), some (vI a)] [] Q := by
  refine wp_aload_n (pc := 0) 0 dX11_add_0 rfl rfl ?_
  refine wp_getr (pc := 1) dX11_add_1 rfl f_X11_21 kd_111 la_111 rfl (r_111_11 D) ?_
  refine wp_aload_n (pc := 4) 0 dX11_add_4 rfl rfl ?_
  refine wp_geti (pc := 5) dX11_add_5 rfl f_X11_267 kd_111 la_111 (Or.inl rfl) ?_
  refine wp_eqst (st' := [vI ((out.length : Nat) : Int), vR 114]) (by rw [hY.2.1.1]) ?_
  refine wp_iload_n (pc := 8) 1 dX11_add_8 rfl rfl ?_
  refine wq_iast (pc := 9) out.length dX11_add_9 kd_114 la_114 rfl (by omega) ?_
  refine wp_aload_n (pc := 10) 0 dX11_add_10 rfl rfl ?_
  refine wp_getr (pc := 11) dX11_add_11 rfl f_X11_24 kd_111 la_111 rfl (r_111_12 D) ?_
  refine wp_aload_n (pc := 14) 0 dX11_add_14 rfl rfl ?_
  refine wp_geti (pc := 15) dX11_add_15 rfl f_X11_267 kd_111 la_111 (Or.inl rfl) ?_
  refine wp_eqst (st' := [vI ((out.length : Nat) : Int), vR 115]) (by rw [up_c (by omega), hY.2.1.1]) ?_
  refine wp_iload_n (pc := 18) 2 dX11_add_18 rfl rfl ?_
  refine wq_iast (pc := 19) out.length dX11_add_19 kd_115 la_115 rfl (by omega) ?_
  refine wp_aload_n (pc := 20) 0 dX11_add_20 rfl rfl ?_
  refine wp_dup (pc := 21) dX11_add_21 rfl ?_
  refine wp_geti (pc := 22) dX11_add_22 rfl f_X11_267 kd_111 la_111 (Or.inl rfl) ?_
  refine wp_eqst (st' := [vI ((out.length : Nat) : Int), vR 111]) (by rw [up_c (by omega), up_c (by omega), hY.2.1.1]) ?_
  refine wp_iconst (pc := 25) dX11_add_25 ?_
  refine wp_iadd (pc := 26) dX11_add_26 ?_
  refine wp_puti (pc := 27) dX11_add_27 rfl f_X11_267 kd_111 la_111 (fun _ h => by cases h; rfl) rfl ?_
  refine wp_vret (pc := 30) dX11_add_30 rfl rfl ?_
  exact hQ

theorem rs_mayNot1 {l : Launch} {G : mG} {d : Nat} {I : mI} {L : Nat → Nat → Int} {D : Nat → Nat} {Q : mQ} {s : Int} {st out : List Int} {un dp : Nat}  (hY : YM I (s :: st) out un dp) (hs : inR s) (hl9 : st.length < 159) (hd : 1 ≤ d) (h1 : mayN (s :: st) = true → Q (some (vI 1)) I (XX L D)) (h0 : ¬ (mayN (s :: st) = true) → Q (some (vI 0)) I (XX L D)) : WP l G m_X11_mayNot d 153 I (XX L D) 0 [some (vR 111)] [] Q := by
  have ht := hY.top
  have hl : (s :: st).length = st.length + 1 := rfl
  refine wp_aload_n (pc := 0) 0 dX11_mayNot_0 rfl rfl ?_
  refine wp_geti (pc := 1) dX11_mayNot_1 rfl f_X11_270 kd_111 la_111 (Or.inl rfl) ?_
  refine wp_eqst (st' := [vI (((s :: st).length : Nat) : Int)]) (by rw [hY.1.1]) ?_
  refine wp_if_eq (pc := 4) 41 dX11_mayNot_4 (by decide) (by omega) (fun h_1 => ?_) (fun h_1 => ?_)
  · refine wp_iconst (pc := 41) dX11_mayNot_41 ?_
    refine wp_goto (pc := 42) 46 dX11_mayNot_42 (by decide) ?_
    refine wp_zret (pc := 46) dX11_mayNot_46 rfl rfl (by decide) ?_
    first | (exfalso; omega) | exact h1 (by show (s == 20 || decide (tgt s < 4)) = true; rw [Bool.or_eq_true, beq_iff_eq, decide_eq_true_iff]; omega)
  · refine wp_aload_n (pc := 7) 0 dX11_mayNot_7 rfl rfl ?_
    refine wp_getr (pc := 8) dX11_mayNot_8 rfl f_X11_33 kd_111 la_111 rfl (r_111_15 D) ?_
    refine wp_aload_n (pc := 11) 0 dX11_mayNot_11 rfl rfl ?_
    refine wp_geti (pc := 12) dX11_mayNot_12 rfl f_X11_270 kd_111 la_111 (Or.inl rfl) ?_
    refine wp_eqst (st' := [vI (((s :: st).length : Nat) : Int), vR 118]) (by rw [hY.1.1]) ?_
    refine wp_iconst (pc := 15) dX11_mayNot_15 ?_
    refine wp_isub (pc := 16) dX11_mayNot_16 ?_
    refine wq_iald (pc := 17) (Int.toNat ((((s :: st).length : Nat) : Int) - 1)) dX11_mayNot_17 kd_118 la_118 (by omega) (by omega) ?_
    refine wp_eqst (st' := [vI s]) (by rw [show Int.toNat _ = st.length from (by omega), ht]) ?_
    refine wp_bipush (pc := 18) dX11_mayNot_18 (by decide) ?_
    refine wp_icmp_eq (pc := 20) 41 dX11_mayNot_20 (by decide) (by omega) (by decide) (fun h_2 => ?_) (fun h_2 => ?_)
    · refine wp_iconst (pc := 41) dX11_mayNot_41 ?_
      refine wp_goto (pc := 42) 46 dX11_mayNot_42 (by decide) ?_
      refine wp_zret (pc := 46) dX11_mayNot_46 rfl rfl (by decide) ?_
      first | (exfalso; omega) | exact h1 (by show (s == 20 || decide (tgt s < 4)) = true; rw [Bool.or_eq_true, beq_iff_eq, decide_eq_true_iff]; omega)
    · refine wp_aload_n (pc := 23) 0 dX11_mayNot_23 rfl rfl ?_
      refine wp_getr (pc := 24) dX11_mayNot_24 rfl f_X11_33 kd_111 la_111 rfl (r_111_15 D) ?_
      refine wp_aload_n (pc := 27) 0 dX11_mayNot_27 rfl rfl ?_
      refine wp_geti (pc := 28) dX11_mayNot_28 rfl f_X11_270 kd_111 la_111 (Or.inl rfl) ?_
      refine wp_eqst (st' := [vI (((s :: st).length : Nat) : Int), vR 118]) (by rw [hY.1.1]) ?_
      refine wp_iconst (pc := 31) dX11_mayNot_31 ?_
      refine wp_isub (pc := 32) dX11_mayNot_32 ?_
      refine wq_iald (pc := 33) (Int.toNat ((((s :: st).length : Nat) : Int) - 1)) dX11_mayNot_33 kd_118 la_118 (by omega) (by omega) ?_
      refine wp_eqst (st' := [vI s]) (by rw [show Int.toNat _ = st.length from (by omega), ht]) ?_
      refine wp_callS (pc := 34) (st := []) (nf' := 153) [vI s] [some (vI s)] dX11_mayNot_34 rfl c_X11_273 rfl rfl (Nat.le_of_ble_eq_true rfl) rfl (Nat.le_of_ble_eq_true rfl) (by omega) (Nat.le_refl _) (Nat.le_refl _) ?_
      refine rs_tight (by omega) (by omega) ?_
      have tg1 := tgt_in s
      refine wp_eqst (st' := [vI ((tgt s : Nat) : Int)]) rfl ?_
      refine wp_iconst (pc := 37) dX11_mayNot_37 ?_
      refine wp_icmp_ge (pc := 38) 45 dX11_mayNot_38 (by decide) (by omega) (by decide) (fun h_3 => ?_) (fun h_3 => ?_)
      · refine wp_iconst (pc := 45) dX11_mayNot_45 ?_
        refine wp_zret (pc := 46) dX11_mayNot_46 rfl rfl (by decide) ?_
        exact h0 (by show ¬ (s == 20 || decide (tgt s < 4)) = true; rw [Bool.or_eq_true, beq_iff_eq, decide_eq_true_iff]; omega)
      · refine wp_iconst (pc := 41) dX11_mayNot_41 ?_
        refine wp_goto (pc := 42) 46 dX11_mayNot_42 (by decide) ?_
        refine wp_zret (pc := 46) dX11_mayNot_46 rfl rfl (by decide) ?_
        first | (exfalso; omega) | exact h1 (by show (s == 20 || decide (tgt s < 4)) = true; rw [Bool.or_eq_true, beq_iff_eq, decide_eq_true_iff]; omega)

theorem rs_mayNot {l : Launch} {G : mG} {d : Nat} {I : mI} {L : Nat → Nat → Int} {D : Nat → Nat} {Q : mQ} {st out : List Int} {un dp : Nat} (hY : YM I st out un dp) (hs : ∀ s ∈ st, inR s) (hl9 : st.length < 160) (hd : 1 ≤ d) (h1 : mayN st = true → Q (some (vI 1)) I (XX L D)) (h0 : ¬ mayN st = true → Q (some (vI 0)) I (XX L D)) : WP l G m_X11_mayNot d 153 I (XX L D) 0 [some (vR 111)] [] Q := by
  match st, hY, hs, hl9, h1, h0 with
  | s :: st, hY, hs, hl9, h1, h0 => exact rs_mayNot1 hY (hs s List.mem_cons_self) (by rw [List.length_cons] at hl9; omega) hd h1 h0
  | [], hY, hs, hl9, h1, h0 =>
    have h19 : I 111 19 = 0 := hY.1.1
    refine wp_aload_n (pc := 0) 0 dX11_mayNot_0 rfl rfl ?_
    refine wp_geti (pc := 1) dX11_mayNot_1 rfl f_X11_270 kd_111 la_111 (Or.inl rfl) ?_
    refine wp_eqst (st' := [vI 0]) (by rw [h19]) ?_
    refine wp_if_eq (pc := 4) 41 dX11_mayNot_4 (by decide) (by decide) (fun _ => ?_) (fun hh => absurd hh (by decide))
    refine wp_iconst (pc := 41) dX11_mayNot_41 ?_
    refine wp_goto (pc := 42) 46 dX11_mayNot_42 (by decide) ?_
    refine wp_zret (pc := 46) dX11_mayNot_46 rfl rfl (by decide) ?_
    exact h1 rfl
