/-! the class's Tape -/
theorem loop_ab (H : Nat → Prop) (a e : Nat) (he : H e) (hs : ∀ i, a ≤ i → i < e → H (i + 1) → H i) : ∀ i, a ≤ i → i ≤ e → H i := by
  intro i h1 h2
  have key : ∀ m i, e - i = m → a ≤ i → i ≤ e → H i := by
    intro m
    induction m with
    | zero => intro i h3 h4 h5; rw [show i = e by omega]; exact he
    | succ m ih => intro i h3 h4 h5; exact hs i h4 (by omega) (ih (i + 1) (by omega) (by omega) (by omega))
  exact key _ i rfl h1 h2
def TBk (I : mI) (b : Nat → Int) (n : Nat) : Prop := b = bOf (I 42) n ∧ I 41 3 = (n : Int) ∧ n ≤ 1600
/-- all but the Tape's own cell is as it was, and its length -/
def Fa (I J : mI) : Prop := (∀ b, b ≠ 41 → J b = I b) ∧ J 41 3 = I 41 3
theorem Fa.refl {I : mI} : Fa I I := ⟨fun _ _ => rfl, rfl⟩
theorem Fa.trans {I J K : mI} (h : Fa I J) (h2 : Fa J K) : Fa I K := ⟨fun b g => (h2.1 b g).trans (h.1 b g), h2.2.trans h.2⟩
theorem Fa.up {I J : mI} {j : Nat} {v : Int} (h : Fa I J) (hj : j ≠ 3) : Fa I (up J 41 j v) := ⟨fun b g => (funext fun k => up_c g).trans (h.1 b g), (up_j (Ne.symm hj)).trans h.2⟩
theorem Fa.tb {I J : mI} {b : Nat → Int} {n : Nat} (h : Fa I J) (hB : TBk I b n) : TBk J b n := ⟨by rw [h.1 42 (by decide)]; exact hB.1, h.2.trans hB.2.1, hB.2.2⟩
def La (L K : Nat → Nat → Int) : Prop := ∀ a, a ≠ 41 → K a = L a
theorem La.refl {L : Nat → Nat → Int} : La L L := fun _ _ => rfl
theorem La.trans {L K M : Nat → Nat → Int} (h : La L K) (h2 : La K M) : La L M := fun a g => (h2 a g).trans (h a g)
theorem La.up {L K : Nat → Nat → Int} {j : Nat} {v : Int} (h : La L K) : La L (upL K 41 j v) := fun a g => (funext fun k => if_neg (fun z => g z.1)).trans (h a g)
theorem upL_s {L : Nat → Nat → Int} {a j : Nat} {v : Int} : upL L a j v a j = v := if_pos ⟨rfl, rfl⟩
/-- the Tape stands at the token that is met from c on -/
def TKC (I : mI) (L : Nat → Nat → Int) (b : Nat → Int) (c : Nat) : Prop := I 41 4 = kC b c ∧ I 41 5 = ((tp b c : Nat) : Int) ∧ (inR (I 41 6) ∧ (ts b c ≠ 3 → I 41 6 = vC b c)) ∧ (ts b c ≠ 3 → I 41 2 = ((te b c : Nat) : Int)) ∧ (inL (L 41 7) ∧ (ts b c = 1 → L 41 7 = w5 b c))
abbrev w64 (x : Int) : Int := (Int64.ofInt x).toInt
theorem w64_in (x : Int) : inL (w64 x) := by
  have h1 := Int64.le_toInt (Int64.ofInt x)
  have h2 := Int64.toInt_lt (Int64.ofInt x)
  constructor
  · show -9223372036854775808 ≤ (Int64.ofInt x).toInt
    omega
  · show (Int64.ofInt x).toInt ≤ 9223372036854775807
    omega
theorem w64_of {x : Int} (h : inL x) : w64 x = x := ol_toInt h
section TKW
variable {l : Launch} {G : mG} {μ : mM} {d nf : Nat} {I : mI} {X : mX} {pc : Nat} {ls : List (Option mV)} {st : List mV} {Q : mQ}
theorem wp_w64 {z : Int} (k : WP l G μ d nf I X pc ls (vJ (w64 z) :: st) Q) : WP l G μ d nf I X pc ls (vJ z :: st) Q := by
  have e : cv G (vJ (w64 z)) = cv G (vJ z) := by
    show Value.long (Int64.ofInt (w64 z)) = Value.long (Int64.ofInt z)
    rw [show Int64.ofInt (w64 z) = Int64.ofInt z from Int64.ofInt_toInt _]
  intro p e1 R s m args below meth c H locs cells slots n0 cl hF hR hH hL
  have w := k p e1 R s m args below meth c H locs cells slots n0 cl hF hR hH hL
  rw [List.map_cons, e] at w
  exact w
end TKW
theorem tk_end {b : Nat → Int} {c : Nat} (h : b (tp b c) < 0) : ts b c = 0 ∧ te b c = tp b c := by
  unfold ts te
  rw [if_pos h, if_pos h]
  exact ⟨rfl, rfl⟩
theorem tk_word {b : Nat → Int} {c : Nat} (h : isLt (b (tp b c))) : te b c = lEnd b (tp b c) ∧ (8 < lEnd b (tp b c) - tp b c → ts b c = 3) ∧ (¬ 8 < lEnd b (tp b c) - tp b c → ts b c = 1) := by
  have h0 : ¬ b (tp b c) < 0 := by have : 97 ≤ b (tp b c) := h.1; omega
  have e : te b c = lEnd b (tp b c) := by unfold te; rw [if_neg h0, if_pos h]
  refine ⟨e, ?_, ?_⟩
  · intro z
    unfold ts
    rw [if_neg h0, if_pos h, e, if_pos z]
  · intro z
    unfold ts
    rw [if_neg h0, if_pos h, e, if_neg z]
theorem tk_num {b : Nat → Int} {c : Nat} (h : isDg (b (tp b c))) : te b c = dEnd b (tp b c) ∧ ((4 < dEnd b (tp b c) - tp b c ∨ isLt (b (dEnd b (tp b c)))) → ts b c = 3) ∧ (¬ (4 < dEnd b (tp b c) - tp b c ∨ isLt (b (dEnd b (tp b c)))) → ts b c = 2) := by
  have h0 : ¬ b (tp b c) < 0 := by have : 48 ≤ b (tp b c) := h.1; omega
  have h1 : ¬ isLt (b (tp b c)) := fun z => by have z1 : 97 ≤ b (tp b c) := z.1; have z2 : b (tp b c) ≤ 57 := h.2; omega
  have e : te b c = dEnd b (tp b c) := by unfold te; rw [if_neg h0, if_neg h1, if_pos h]
  refine ⟨e, ?_, ?_⟩
  · intro z
    unfold ts
    rw [if_neg h0, if_neg h1, if_pos h, e, if_pos z]
  · intro z
    unfold ts
    rw [if_neg h0, if_neg h1, if_pos h, e, if_neg z]
theorem tk_sgn {b : Nat → Int} {c : Nat} (h0 : ¬ b (tp b c) < 0) (h1 : ¬ isLt (b (tp b c))) (h2 : ¬ isDg (b (tp b c))) : te b c = tp b c + 1 ∧ (isSg (b (tp b c)) → ts b c = b (tp b c)) ∧ (¬ isSg (b (tp b c)) → ts b c = 3) := by
  have e : te b c = tp b c + 1 := by unfold te; rw [if_neg h0, if_neg h1, if_neg h2]
  refine ⟨e, ?_, ?_⟩
  · intro z
    unfold ts
    rw [if_neg h0, if_neg h1, if_neg h2, @if_pos _ (Classical.propDecidable _) z]
  · intro z
    unfold ts
    rw [if_neg h0, if_neg h1, if_neg h2, @if_neg _ (Classical.propDecidable _) z]
theorem vC_w {b : Nat → Int} {c : Nat} (h : ts b c = 1) : vC b c = if wi b c = -1 then 0 else wi b c := by unfold vC; rw [if_neg (by omega), if_pos h]
theorem vC_n {b : Nat → Int} {c : Nat} (h : ts b c = 2) : vC b c = tn b c := by unfold vC; rw [if_pos h]
theorem vC_s {b : Nat → Int} {c : Nat} (h : ts b c ≠ 2) (h1 : ts b c ≠ 1) : vC b c = ts b c := by unfold vC; rw [if_neg h, if_neg h1]

theorem sp_byteAt {l : Launch} {G : mG} {d : Nat} {I : mI} {L : Nat → Nat → Int} {D : Nat → Nat} {Q : mQ} {b : Nat → Int} {n : Nat} (k : Nat) {k_ : Int} (hk_ : k_ = (k : Int)) (hB : TBk I b n) (hk : k ≤ 1600) (hd : 0 ≤ d) (hQ : Q (some (vI (b k))) I (XX L D)) : WP l G m_X8_byteAt d 153 I (XX L D) 0 [some (vR 41), some (vI k_)] [] Q := by
  subst hk_
  have e3 := hB.2.1
  have e4 := hB.2.2
  refine wp_iload_n (pc := 0) 1 dX8_byteAt_0 rfl rfl ?_
  refine wp_if_lt (pc := 1) 32 dX8_byteAt_1 (by decide) (by omega) (fun h_1 => ?_) (fun h_1 => ?_)
  · refine wp_iconst (pc := 32) dX8_byteAt_32 ?_
    refine wp_iret (pc := 33) dX8_byteAt_33 rfl rfl ?_
    have e := bOf_ge (g := I 42) (n := n) (j := k) (by omega); rw [hB.1, e] at hQ; exact hQ
  · refine wp_iload_n (pc := 4) 1 dX8_byteAt_4 rfl rfl ?_
    refine wp_aload_n (pc := 5) 0 dX8_byteAt_5 rfl rfl ?_
    refine wp_geti (pc := 6) dX8_byteAt_6 rfl f_X8_35 kd_41 la_41 (Or.inl rfl) ?_
    refine wp_icmp_ge (pc := 9) 32 dX8_byteAt_9 (by decide) (by omega) (by omega) (fun h_2 => ?_) (fun h_2 => ?_)
    · refine wp_iconst (pc := 32) dX8_byteAt_32 ?_
      refine wp_iret (pc := 33) dX8_byteAt_33 rfl rfl ?_
      have e := bOf_ge (g := I 42) (n := n) (j := k) (by omega); rw [hB.1, e] at hQ; exact hQ
    · refine wp_iload_n (pc := 12) 1 dX8_byteAt_12 rfl rfl ?_
      refine wp_sipush (pc := 13) dX8_byteAt_13 (by decide) ?_
      refine wp_icmp_ge (pc := 16) 32 dX8_byteAt_16 (by decide) (by omega) (by decide) (fun h_3 => ?_) (fun h_3 => ?_)
      · refine wp_iconst (pc := 32) dX8_byteAt_32 ?_
        refine wp_iret (pc := 33) dX8_byteAt_33 rfl rfl ?_
        have e := bOf_ge (g := I 42) (n := n) (j := k) (by omega); rw [hB.1, e] at hQ; exact hQ
      · refine wp_aload_n (pc := 19) 0 dX8_byteAt_19 rfl rfl ?_
        refine wp_getr (pc := 20) dX8_byteAt_20 rfl f_X8_11 kd_41 la_41 rfl (r_41_0 D) ?_
        refine wp_iload_n (pc := 23) 1 dX8_byteAt_23 rfl rfl ?_
        refine wq_bald (pc := 24) k dX8_byteAt_24 kd_42 la_42 rfl (by omega) ?_
        refine wp_sipush (pc := 25) dX8_byteAt_25 (by decide) ?_
        refine wp_imask (pc := 28) 8 dX8_byteAt_28 rfl (by decide) ?_
        refine wp_goto (pc := 29) 33 dX8_byteAt_29 (by decide) ?_
        refine wp_iret (pc := 33) dX8_byteAt_33 rfl rfl ?_
        have e := bOf_lt (g := I 42) (n := n) (j := k) (by omega); rw [hB.1, e] at hQ; exact hQ

theorem lp_words {l : Launch} {G : mG} {d : Nat} {I : mI} {L : Nat → Nat → Int} {D : Nat → Nat} {Q : mQ} {b : Nat → Int} {n : Nat} {c : Nat} (hB : TBk I b n) (hc : c ≤ n) (hsp : ∀ k, k < 21 → L 43 k = W5 k) (hlt : isLt (b (tp b c))) (h1 : ts b c = 1) (h7 : L 41 7 = w5 b c) (hQ : ∀ J, Fa I J → TKC J L b c → Q none J (XX L D)) : ∀ i : Nat, i ≤ 21 → ∀ K : mI, Fa I K → K 41 4 = (if wiL (w5 b c) i = -1 then 2 else 3) → K 41 6 = (if wiL (w5 b c) i = -1 then 0 else wiL (w5 b c) i) → K 41 5 = ((tp b c : Nat) : Int) → K 41 2 = ((te b c : Nat) : Int) → WP l G m_X8_takeWord d 153 K (XX L D) 84 [some (vR 41), some (vI (i : Int))] [] Q := by
  have h5 : 0 < w5 b c ∧ w5 b c < 1099511627776 := by have z := w5_in (g := I 42) hc (by rw [← hB.1]; exact h1); rw [← hB.1] at z; exact ⟨z.1, z.2.1⟩
  refine loop_dn (fun i => ∀ K : mI, Fa I K → K 41 4 = (if wiL (w5 b c) i = -1 then 2 else 3) → K 41 6 = (if wiL (w5 b c) i = -1 then 0 else wiL (w5 b c) i) → K 41 5 = ((tp b c : Nat) : Int) → K 41 2 = ((te b c : Nat) : Int) → WP l G m_X8_takeWord d 153 K (XX L D) 84 [some (vR 41), some (vI (i : Int))] [] Q) 21 ?_ (fun i hi ih => ?_)
  · intro K hK q4 q6 q5 q2
    refine wp_iload_n (pc := 84) 1 dX8_takeWord_84 rfl rfl ?_
    refine wp_bipush (pc := 85) dX8_takeWord_85 (by decide) ?_
    refine wp_icmp_ge (pc := 87) 120 dX8_takeWord_87 (by decide) (by decide) (by decide) (fun _ => ?_) (fun hh => absurd hh (by decide))
    refine wp_vret (pc := 120) dX8_takeWord_120 rfl rfl ?_
    have ew : wi b c = wiL (w5 b c) 21 := if_pos h1
    rw [← ew] at q4 q6
    refine hQ K hK ⟨?_, q5, ⟨?_, fun _ => ?_⟩, fun _ => q2, ⟨by rw [h7]; omega, fun _ => h7⟩⟩
    · rw [q4]; unfold kC; rw [h1]; rfl
    · rw [q6]; have := wi_in b c; split <;> omega
    · rw [q6, vC_w h1]
  · intro K hK q4 q6 q5 q2
    have es := hsp i hi
    have bw := W_in i hi
    have bc := cmpL_in (L 43 i) (L 41 7)
    have b43 : inL (L 43 i) := by rw [es]; omega
    have b41 : inL (L 41 7) := by rw [h7]; omega
    refine wp_iload_n (pc := 84) 1 dX8_takeWord_84 rfl rfl ?_
    refine wp_bipush (pc := 85) dX8_takeWord_85 (by decide) ?_
    refine wp_icmp_ge (pc := 87) 120 dX8_takeWord_87 (by decide) (by omega) (by decide) (fun h_1 => ?_) (fun h_1 => ?_)
    · exfalso; omega
    · refine wp_aload_n (pc := 90) 0 dX8_takeWord_90 rfl rfl ?_
      refine wp_getr (pc := 91) dX8_takeWord_91 rfl f_X8_15 kd_41 la_41 rfl (r_41_1 D) ?_
      refine wp_iload_n (pc := 94) 1 dX8_takeWord_94 rfl rfl ?_
      refine wq_lald (pc := 95) i dX8_takeWord_95 kd_43 la_43 rfl (by omega) ?_
      refine wp_eqst (st' := [vJ (L 43 i)]) rfl ?_
      refine wp_aload_n (pc := 96) 0 dX8_takeWord_96 rfl rfl ?_
      refine wp_getl (pc := 97) dX8_takeWord_97 rfl f_X8_58 kd_41 la_41 rfl ?_
      refine wp_eqst (st' := [vJ (L 41 7), vJ (L 43 i)]) rfl ?_
      refine wq_lcmp (pc := 100) dX8_takeWord_100 (by omega) (by omega) ?_
      refine wp_if_ne (pc := 101) 114 dX8_takeWord_101 (by decide) (by omega) (fun h_2 => ?_) (fun h_2 => ?_)
      · refine wq_iinc (pc := 114) [some (vR 41), some (vI ((i : Int) + 1))] dX8_takeWord_114 rfl rfl (by decide) rfl ?_
        refine wp_goto (pc := 117) 84 dX8_takeWord_117 (by decide) ?_
        have e1 : wiL (w5 b c) (i + 1) = wiL (w5 b c) i := if_neg (fun x => h_2 (cmpL_0.mpr (by rw [es, h7]; exact x)))
        exact wp_eqls (ls' := [some (vR 41), some (vI (((i + 1) : Nat) : Int))]) rfl (ih K hK (by rw [e1]; exact q4) (by rw [e1]; exact q6) q5 q2)
      · refine wp_aload_n (pc := 104) 0 dX8_takeWord_104 rfl rfl ?_
        refine wp_iconst (pc := 105) dX8_takeWord_105 ?_
        refine wp_puti (pc := 106) dX8_takeWord_106 rfl f_X8_62 kd_41 la_41 (fun _ h => by cases h; rfl) rfl ?_
        refine wp_aload_n (pc := 109) 0 dX8_takeWord_109 rfl rfl ?_
        refine wp_iload_n (pc := 110) 1 dX8_takeWord_110 rfl rfl ?_
        refine wp_puti (pc := 111) dX8_takeWord_111 rfl f_X8_55 kd_41 la_41 (fun _ h => by cases h; rfl) rfl ?_
        refine wq_iinc (pc := 114) [some (vR 41), some (vI ((i : Int) + 1))] dX8_takeWord_114 rfl rfl (by decide) rfl ?_
        refine wp_goto (pc := 117) 84 dX8_takeWord_117 (by decide) ?_
        have e1 : wiL (w5 b c) (i + 1) = (i : Int) := if_pos (by have x := cmpL_0.mp h_2; rw [es, h7] at x; exact x)
        exact wp_eqls (ls' := [some (vR 41), some (vI (((i + 1) : Nat) : Int))]) rfl (ih (up (up K 41 4 3) 41 6 (i : Int)) ((hK.up (by decide)).up (by decide)) (by rw [e1, if_neg (by omega), up_j (by decide), up_s]) (by rw [e1, if_neg (by omega), up_s]) (by rw [up_j (by decide), up_j (by decide)]; exact q5) (by rw [up_j (by decide), up_j (by decide)]; exact q2))

theorem sp_withLetter {l : Launch} {G : mG} {d : Nat} {I : mI} {L : Nat → Nat → Int} {D : Nat → Nat} {Q : mQ} {x y : Int}  (hy : 97 ≤ y ∧ y ≤ 122) (hd : 0 ≤ d) (hQ : Q (some (vJ (x * 2 ^ 5 + (y - 97 + 1)))) I (XX L D)) : WP l G m_X8_withLetter d 153 I (XX L D) 0 [some (vJ x), none, some (vI y)] [] Q := by
  refine wp_lload_n (pc := 0) 0 dX8_withLetter_0 rfl rfl ?_
  refine wp_iconst (pc := 1) dX8_withLetter_1 ?_
  refine wp_lshl (pc := 2) 5 dX8_withLetter_2 rfl (by decide) ?_
  refine wp_iload_n (pc := 3) 2 dX8_withLetter_3 rfl rfl ?_
  refine wp_bipush (pc := 4) dX8_withLetter_4 (by decide) ?_
  refine wp_isub (pc := 6) dX8_withLetter_6 ?_
  refine wp_iconst (pc := 7) dX8_withLetter_7 ?_
  refine wp_iadd (pc := 8) dX8_withLetter_8 ?_
  refine wp_i2l (pc := 9) dX8_withLetter_9 (by omega) ?_
  refine wp_lor (pc := 10) x 5 dX8_withLetter_10 rfl (by decide) (by omega) (by omega) ?_
  refine wp_lret (pc := 11) dX8_withLetter_11 rfl rfl ?_
  exact hQ

theorem lp_letters {l : Launch} {G : mG} {d : Nat} {I : mI} {L0 : Nat → Nat → Int} {D : Nat → Nat} {Q : mQ} {b : Nat → Int} {n : Nat} {c : Nat} (hB : TBk I b n) (hc : c ≤ n) (hsp : ∀ k, k < 21 → L0 43 k = W5 k) (hlt : isLt (b (tp b c))) (hd : 1 ≤ d) (hQ : ∀ J M, Fa I J → La L0 M → TKC J M b c → Q none J (XX M D)) : ∀ i : Nat, tp b c ≤ i → i ≤ lEnd b (tp b c) → ∀ (K : mI) (L : Nat → Nat → Int), Fa I K → La L0 L → K 41 2 = ((i : Nat) : Int) → K 41 5 = ((tp b c : Nat) : Int) → K 41 6 = 0 → inL (L 41 7) → (i - tp b c ≤ 8 → L 41 7 = enc5 b (tp b c) (i - tp b c)) → WP l G m_X8_takeWord d 153 K (XX L D) 0 [some (vR 41), none] [] Q := by
  have e3 := hB.2.1
  have e4 := hB.2.2
  have hp := tp_ok (g := I 42) hc
  rw [← hB.1] at hp
  have hl := lEnd_ok (g := I 42) (tp b c) hp.2
  rw [← hB.1] at hl
  have hl1 := hl.1.1
  have hl2 := hl.2
  have hp2 := hp.2
  have tk := tk_word hlt
  refine loop_ab (fun i => ∀ (K : mI) (L : Nat → Nat → Int), Fa I K → La L0 L → K 41 2 = ((i : Nat) : Int) → K 41 5 = ((tp b c : Nat) : Int) → K 41 6 = 0 → inL (L 41 7) → (i - tp b c ≤ 8 → L 41 7 = enc5 b (tp b c) (i - tp b c)) → WP l G m_X8_takeWord d 153 K (XX L D) 0 [some (vR 41), none] [] Q) (tp b c) (lEnd b (tp b c)) ?_ (fun i hi0 hi ih => ?_)
  · intro K L hK hM q2 q5 q6 q7 q8
    have hBK := hK.tb hB
    have k3 := hBK.2.1
    have bi := bOf_in (I 42) n (lEnd b (tp b c))
    rw [← hB.1] at bi
    refine wp_aload_n (pc := 0) 0 dX8_takeWord_0 rfl rfl ?_
    refine wp_geti (pc := 1) dX8_takeWord_1 rfl f_X8_38 kd_41 la_41 (Or.inl rfl) ?_
    refine wp_eqst (st' := [vI ((lEnd b (tp b c) : Nat) : Int)]) (by rw [q2]) ?_
    refine wp_aload_n (pc := 4) 0 dX8_takeWord_4 rfl rfl ?_
    refine wp_geti (pc := 5) dX8_takeWord_5 rfl f_X8_35 kd_41 la_41 (Or.inl rfl) ?_
    refine wp_eqst (st' := [vI (n : Int), vI ((lEnd b (tp b c) : Nat) : Int)]) (by rw [k3]) ?_
    refine wp_icmp_ge (pc := 8) 57 dX8_takeWord_8 (by decide) (by omega) (by omega) (fun h_1 => ?_) (fun h_1 => ?_)
    · refine wp_aload_n (pc := 57) 0 dX8_takeWord_57 rfl rfl ?_
      refine wp_geti (pc := 58) dX8_takeWord_58 rfl f_X8_38 kd_41 la_41 (Or.inl rfl) ?_
      refine wp_eqst (st' := [vI ((lEnd b (tp b c) : Nat) : Int)]) (by rw [q2]) ?_
      refine wp_aload_n (pc := 61) 0 dX8_takeWord_61 rfl rfl ?_
      refine wp_geti (pc := 62) dX8_takeWord_62 rfl f_X8_52 kd_41 la_41 (Or.inl rfl) ?_
      refine wp_eqst (st' := [vI ((tp b c : Nat) : Int), vI ((lEnd b (tp b c) : Nat) : Int)]) (by rw [q5]) ?_
      refine wp_isub (pc := 65) dX8_takeWord_65 ?_
      refine wp_bipush (pc := 66) dX8_takeWord_66 (by decide) ?_
      refine wp_icmp_le (pc := 68) 77 dX8_takeWord_68 (by decide) (by omega) (by decide) (fun h_2 => ?_) (fun h_2 => ?_)
      · refine wp_aload_n (pc := 77) 0 dX8_takeWord_77 rfl rfl ?_
        refine wp_iconst (pc := 78) dX8_takeWord_78 ?_
        refine wp_puti (pc := 79) dX8_takeWord_79 rfl f_X8_62 kd_41 la_41 (fun _ h => by cases h; rfl) rfl ?_
        refine wp_iconst (pc := 82) dX8_takeWord_82 ?_
        refine wq_istore_n (pc := 83) 1 [some (vR 41), some (vI 0)] dX8_takeWord_83 rfl rfl (by decide) rfl ?_
        have t1 := tk.2.2 (by omega)
        have h7 : L 41 7 = w5 b c := by rw [q8 (by omega)]; unfold w5; rw [tk.1]
        have hs2 : ∀ k, k < 21 → L 43 k = W5 k := fun k hk => by rw [hM 43 (by decide)]; exact hsp k hk
        exact lp_words (I := I) hB hc hs2 hlt t1 h7 (fun J hJ hT => hQ J L hJ hM hT) 0 (Nat.zero_le _) (up K 41 4 2) (hK.up (by decide)) (by rw [up_s]; rfl) (by rw [up_j (by decide)]; exact q6) (by rw [up_j (by decide)]; exact q5) (by rw [up_j (by decide), tk.1]; exact q2)
      · refine wp_aload_n (pc := 71) 0 dX8_takeWord_71 rfl rfl ?_
        refine wp_iconst (pc := 72) dX8_takeWord_72 ?_
        refine wp_puti (pc := 73) dX8_takeWord_73 rfl f_X8_62 kd_41 la_41 (fun _ h => by cases h; rfl) rfl ?_
        refine wp_vret (pc := 76) dX8_takeWord_76 rfl rfl ?_
        have t3 := tk.2.1 (by omega)
        exact hQ _ L (hK.up (by decide)) hM ⟨by rw [up_s, (kC_ts b c).2.1.mpr t3], by rw [up_j (by decide)]; exact q5, ⟨by rw [up_j (by decide), q6]; decide, fun z => absurd t3 z⟩, fun z => absurd t3 z, q7, fun z => by omega⟩
    · refine wp_aload_n (pc := 11) 0 dX8_takeWord_11 rfl rfl ?_
      refine wp_aload_n (pc := 12) 0 dX8_takeWord_12 rfl rfl ?_
      refine wp_geti (pc := 13) dX8_takeWord_13 rfl f_X8_38 kd_41 la_41 (Or.inl rfl) ?_
      refine wp_eqst (st' := [vI ((lEnd b (tp b c) : Nat) : Int), vR 41]) (by rw [q2]) ?_
      refine wp_callV (pc := 16) (st := []) (nf' := 153) [vI ((lEnd b (tp b c) : Nat) : Int)] [some (vR 41), some (vI ((lEnd b (tp b c) : Nat) : Int))] dX8_takeWord_16 rfl c_X8_44 rfl kd_41 (by decide) rfl la_41 rfl (Nat.le_of_ble_eq_true rfl) rfl (Nat.le_of_ble_eq_true rfl) (by omega) (Nat.le_refl _) (Nat.le_refl _) ?_
      refine sp_byteAt (lEnd b (tp b c)) rfl hBK (by omega) (by omega) ?_
      refine wp_eqst (st' := [vI (b (lEnd b (tp b c)))]) rfl ?_
      refine wp_callS (pc := 19) (st := []) (nf' := 153) [vI (b (lEnd b (tp b c)))] [some (vI (b (lEnd b (tp b c))))] dX8_takeWord_19 rfl c_X8_65 rfl rfl (Nat.le_of_ble_eq_true rfl) rfl (Nat.le_of_ble_eq_true rfl) (by omega) (Nat.le_refl _) (Nat.le_refl _) ?_
      refine wp_iload_n (pc := 0) 0 dX8_isLetter_0 rfl rfl ?_
      refine wp_bipush (pc := 1) dX8_isLetter_1 (by decide) ?_
      refine wp_icmp_lt (pc := 3) 16 dX8_isLetter_3 (by decide) (by omega) (by decide) (fun h_3 => ?_) (fun h_3 => ?_)
      · refine wp_iconst (pc := 16) dX8_isLetter_16 ?_
        refine wp_zret (pc := 17) dX8_isLetter_17 rfl rfl (by decide) ?_
        refine wp_eqst (st' := [vI 0]) rfl ?_
        refine wp_if_eq (pc := 22) 57 dX8_takeWord_22 (by decide) (by decide) (fun _ => ?_) (fun hh => absurd hh (by decide))
        refine wp_aload_n (pc := 57) 0 dX8_takeWord_57 rfl rfl ?_
        refine wp_geti (pc := 58) dX8_takeWord_58 rfl f_X8_38 kd_41 la_41 (Or.inl rfl) ?_
        refine wp_eqst (st' := [vI ((lEnd b (tp b c) : Nat) : Int)]) (by rw [q2]) ?_
        refine wp_aload_n (pc := 61) 0 dX8_takeWord_61 rfl rfl ?_
        refine wp_geti (pc := 62) dX8_takeWord_62 rfl f_X8_52 kd_41 la_41 (Or.inl rfl) ?_
        refine wp_eqst (st' := [vI ((tp b c : Nat) : Int), vI ((lEnd b (tp b c) : Nat) : Int)]) (by rw [q5]) ?_
        refine wp_isub (pc := 65) dX8_takeWord_65 ?_
        refine wp_bipush (pc := 66) dX8_takeWord_66 (by decide) ?_
        refine wp_icmp_le (pc := 68) 77 dX8_takeWord_68 (by decide) (by omega) (by decide) (fun h_4 => ?_) (fun h_4 => ?_)
        · refine wp_aload_n (pc := 77) 0 dX8_takeWord_77 rfl rfl ?_
          refine wp_iconst (pc := 78) dX8_takeWord_78 ?_
          refine wp_puti (pc := 79) dX8_takeWord_79 rfl f_X8_62 kd_41 la_41 (fun _ h => by cases h; rfl) rfl ?_
          refine wp_iconst (pc := 82) dX8_takeWord_82 ?_
          refine wq_istore_n (pc := 83) 1 [some (vR 41), some (vI 0)] dX8_takeWord_83 rfl rfl (by decide) rfl ?_
          have t1 := tk.2.2 (by omega)
          have h7 : L 41 7 = w5 b c := by rw [q8 (by omega)]; unfold w5; rw [tk.1]
          have hs2 : ∀ k, k < 21 → L 43 k = W5 k := fun k hk => by rw [hM 43 (by decide)]; exact hsp k hk
          exact lp_words (I := I) hB hc hs2 hlt t1 h7 (fun J hJ hT => hQ J L hJ hM hT) 0 (Nat.zero_le _) (up K 41 4 2) (hK.up (by decide)) (by rw [up_s]; rfl) (by rw [up_j (by decide)]; exact q6) (by rw [up_j (by decide)]; exact q5) (by rw [up_j (by decide), tk.1]; exact q2)
        · refine wp_aload_n (pc := 71) 0 dX8_takeWord_71 rfl rfl ?_
          refine wp_iconst (pc := 72) dX8_takeWord_72 ?_
          refine wp_puti (pc := 73) dX8_takeWord_73 rfl f_X8_62 kd_41 la_41 (fun _ h => by cases h; rfl) rfl ?_
          refine wp_vret (pc := 76) dX8_takeWord_76 rfl rfl ?_
          have t3 := tk.2.1 (by omega)
          exact hQ _ L (hK.up (by decide)) hM ⟨by rw [up_s, (kC_ts b c).2.1.mpr t3], by rw [up_j (by decide)]; exact q5, ⟨by rw [up_j (by decide), q6]; decide, fun z => absurd t3 z⟩, fun z => absurd t3 z, q7, fun z => by omega⟩
      · refine wp_iload_n (pc := 6) 0 dX8_isLetter_6 rfl rfl ?_
        refine wp_bipush (pc := 7) dX8_isLetter_7 (by decide) ?_
        refine wp_icmp_gt (pc := 9) 16 dX8_isLetter_9 (by decide) (by omega) (by decide) (fun h_5 => ?_) (fun h_5 => ?_)
        · refine wp_iconst (pc := 16) dX8_isLetter_16 ?_
          refine wp_zret (pc := 17) dX8_isLetter_17 rfl rfl (by decide) ?_
          refine wp_eqst (st' := [vI 0]) rfl ?_
          refine wp_if_eq (pc := 22) 57 dX8_takeWord_22 (by decide) (by decide) (fun _ => ?_) (fun hh => absurd hh (by decide))
          refine wp_aload_n (pc := 57) 0 dX8_takeWord_57 rfl rfl ?_
          refine wp_geti (pc := 58) dX8_takeWord_58 rfl f_X8_38 kd_41 la_41 (Or.inl rfl) ?_
          refine wp_eqst (st' := [vI ((lEnd b (tp b c) : Nat) : Int)]) (by rw [q2]) ?_
          refine wp_aload_n (pc := 61) 0 dX8_takeWord_61 rfl rfl ?_
          refine wp_geti (pc := 62) dX8_takeWord_62 rfl f_X8_52 kd_41 la_41 (Or.inl rfl) ?_
          refine wp_eqst (st' := [vI ((tp b c : Nat) : Int), vI ((lEnd b (tp b c) : Nat) : Int)]) (by rw [q5]) ?_
          refine wp_isub (pc := 65) dX8_takeWord_65 ?_
          refine wp_bipush (pc := 66) dX8_takeWord_66 (by decide) ?_
          refine wp_icmp_le (pc := 68) 77 dX8_takeWord_68 (by decide) (by omega) (by decide) (fun h_6 => ?_) (fun h_6 => ?_)
          · refine wp_aload_n (pc := 77) 0 dX8_takeWord_77 rfl rfl ?_
            refine wp_iconst (pc := 78) dX8_takeWord_78 ?_
            refine wp_puti (pc := 79) dX8_takeWord_79 rfl f_X8_62 kd_41 la_41 (fun _ h => by cases h; rfl) rfl ?_
            refine wp_iconst (pc := 82) dX8_takeWord_82 ?_
            refine wq_istore_n (pc := 83) 1 [some (vR 41), some (vI 0)] dX8_takeWord_83 rfl rfl (by decide) rfl ?_
            have t1 := tk.2.2 (by omega)
            have h7 : L 41 7 = w5 b c := by rw [q8 (by omega)]; unfold w5; rw [tk.1]
            have hs2 : ∀ k, k < 21 → L 43 k = W5 k := fun k hk => by rw [hM 43 (by decide)]; exact hsp k hk
            exact lp_words (I := I) hB hc hs2 hlt t1 h7 (fun J hJ hT => hQ J L hJ hM hT) 0 (Nat.zero_le _) (up K 41 4 2) (hK.up (by decide)) (by rw [up_s]; rfl) (by rw [up_j (by decide)]; exact q6) (by rw [up_j (by decide)]; exact q5) (by rw [up_j (by decide), tk.1]; exact q2)
          · refine wp_aload_n (pc := 71) 0 dX8_takeWord_71 rfl rfl ?_
            refine wp_iconst (pc := 72) dX8_takeWord_72 ?_
            refine wp_puti (pc := 73) dX8_takeWord_73 rfl f_X8_62 kd_41 la_41 (fun _ h => by cases h; rfl) rfl ?_
            refine wp_vret (pc := 76) dX8_takeWord_76 rfl rfl ?_
            have t3 := tk.2.1 (by omega)
            exact hQ _ L (hK.up (by decide)) hM ⟨by rw [up_s, (kC_ts b c).2.1.mpr t3], by rw [up_j (by decide)]; exact q5, ⟨by rw [up_j (by decide), q6]; decide, fun z => absurd t3 z⟩, fun z => absurd t3 z, q7, fun z => by omega⟩
        · refine wp_iconst (pc := 12) dX8_isLetter_12 ?_
          refine wp_goto (pc := 13) 17 dX8_isLetter_13 (by decide) ?_
          refine wp_zret (pc := 17) dX8_isLetter_17 rfl rfl (by decide) ?_
          refine wp_eqst (st' := [vI 1]) rfl ?_
          refine wp_if_eq (pc := 22) 57 dX8_takeWord_22 (by decide) (by decide) (fun hh => absurd hh (by decide)) (fun _ => ?_)
          exact absurd (show isLt (b (lEnd b (tp b c))) from ⟨by omega, by omega⟩) hl.1.2.2
  · intro K L hK hM q2 q5 q6 q7 q8
    have hBK := hK.tb hB
    have k3 := hBK.2.1
    have bl : isLt (b i) := hl.1.2.1 i hi0 hi
    have bl1 : 97 ≤ b i ∧ b i ≤ 122 := bl
    refine wp_aload_n (pc := 0) 0 dX8_takeWord_0 rfl rfl ?_
    refine wp_geti (pc := 1) dX8_takeWord_1 rfl f_X8_38 kd_41 la_41 (Or.inl rfl) ?_
    refine wp_eqst (st' := [vI ((i : Nat) : Int)]) (by rw [q2]) ?_
    refine wp_aload_n (pc := 4) 0 dX8_takeWord_4 rfl rfl ?_
    refine wp_geti (pc := 5) dX8_takeWord_5 rfl f_X8_35 kd_41 la_41 (Or.inl rfl) ?_
    refine wp_eqst (st' := [vI (n : Int), vI ((i : Nat) : Int)]) (by rw [k3]) ?_
    refine wp_icmp_ge (pc := 8) 57 dX8_takeWord_8 (by decide) (by omega) (by omega) (fun h_1 => ?_) (fun h_1 => ?_)
    · exfalso; omega
    · refine wp_aload_n (pc := 11) 0 dX8_takeWord_11 rfl rfl ?_
      refine wp_aload_n (pc := 12) 0 dX8_takeWord_12 rfl rfl ?_
      refine wp_geti (pc := 13) dX8_takeWord_13 rfl f_X8_38 kd_41 la_41 (Or.inl rfl) ?_
      refine wp_eqst (st' := [vI ((i : Nat) : Int), vR 41]) (by rw [q2]) ?_
      refine wp_callV (pc := 16) (st := []) (nf' := 153) [vI ((i : Nat) : Int)] [some (vR 41), some (vI ((i : Nat) : Int))] dX8_takeWord_16 rfl c_X8_44 rfl kd_41 (by decide) rfl la_41 rfl (Nat.le_of_ble_eq_true rfl) rfl (Nat.le_of_ble_eq_true rfl) (by omega) (Nat.le_refl _) (Nat.le_refl _) ?_
      refine sp_byteAt i rfl hBK (by omega) (by omega) ?_
      refine wp_eqst (st' := [vI (b i)]) rfl ?_
      refine wp_callS (pc := 19) (st := []) (nf' := 153) [vI (b i)] [some (vI (b i))] dX8_takeWord_19 rfl c_X8_65 rfl rfl (Nat.le_of_ble_eq_true rfl) rfl (Nat.le_of_ble_eq_true rfl) (by omega) (Nat.le_refl _) (Nat.le_refl _) ?_
      refine wp_iload_n (pc := 0) 0 dX8_isLetter_0 rfl rfl ?_
      refine wp_bipush (pc := 1) dX8_isLetter_1 (by decide) ?_
      refine wp_icmp_lt (pc := 3) 16 dX8_isLetter_3 (by decide) (by omega) (by decide) (fun h_2 => ?_) (fun h_2 => ?_)
      · refine wp_iconst (pc := 16) dX8_isLetter_16 ?_
        refine wp_zret (pc := 17) dX8_isLetter_17 rfl rfl (by decide) ?_
        refine wp_eqst (st' := [vI 0]) rfl ?_
        refine wp_if_eq (pc := 22) 57 dX8_takeWord_22 (by decide) (by decide) (fun _ => ?_) (fun hh => absurd hh (by decide))
        exfalso; omega
      · refine wp_iload_n (pc := 6) 0 dX8_isLetter_6 rfl rfl ?_
        refine wp_bipush (pc := 7) dX8_isLetter_7 (by decide) ?_
        refine wp_icmp_gt (pc := 9) 16 dX8_isLetter_9 (by decide) (by omega) (by decide) (fun h_3 => ?_) (fun h_3 => ?_)
        · refine wp_iconst (pc := 16) dX8_isLetter_16 ?_
          refine wp_zret (pc := 17) dX8_isLetter_17 rfl rfl (by decide) ?_
          refine wp_eqst (st' := [vI 0]) rfl ?_
          refine wp_if_eq (pc := 22) 57 dX8_takeWord_22 (by decide) (by decide) (fun _ => ?_) (fun hh => absurd hh (by decide))
          exfalso; omega
        · refine wp_iconst (pc := 12) dX8_isLetter_12 ?_
          refine wp_goto (pc := 13) 17 dX8_isLetter_13 (by decide) ?_
          refine wp_zret (pc := 17) dX8_isLetter_17 rfl rfl (by decide) ?_
          refine wp_eqst (st' := [vI 1]) rfl ?_
          refine wp_if_eq (pc := 22) 57 dX8_takeWord_22 (by decide) (by decide) (fun hh => absurd hh (by decide)) (fun _ => ?_)
          refine wp_aload_n (pc := 25) 0 dX8_takeWord_25 rfl rfl ?_
          refine wp_aload_n (pc := 26) 0 dX8_takeWord_26 rfl rfl ?_
          refine wp_getl (pc := 27) dX8_takeWord_27 rfl f_X8_58 kd_41 la_41 rfl ?_
          refine wp_eqst (st' := [vJ (L 41 7), vR 41]) rfl ?_
          refine wp_aload_n (pc := 30) 0 dX8_takeWord_30 rfl rfl ?_
          refine wp_aload_n (pc := 31) 0 dX8_takeWord_31 rfl rfl ?_
          refine wp_geti (pc := 32) dX8_takeWord_32 rfl f_X8_38 kd_41 la_41 (Or.inl rfl) ?_
          refine wp_eqst (st' := [vI ((i : Nat) : Int), vR 41, vJ (L 41 7), vR 41]) (by rw [q2]) ?_
          refine wp_callV (pc := 35) (st := [vJ (L 41 7), vR 41]) (nf' := 153) [vI ((i : Nat) : Int)] [some (vR 41), some (vI ((i : Nat) : Int))] dX8_takeWord_35 rfl c_X8_44 rfl kd_41 (by decide) rfl la_41 rfl (Nat.le_of_ble_eq_true rfl) rfl (Nat.le_of_ble_eq_true rfl) (by omega) (Nat.le_refl _) (Nat.le_refl _) ?_
          refine sp_byteAt i rfl hBK (by omega) (by omega) ?_
          refine wp_eqst (st' := [vI (b i), vJ (L 41 7), vR 41]) rfl ?_
          refine wp_callS (pc := 38) (st := [vR 41]) (nf' := 153) [vJ (L 41 7), vI (b i)] [some (vJ (L 41 7)), none, some (vI (b i))] dX8_takeWord_38 rfl c_X8_31 rfl rfl (Nat.le_of_ble_eq_true rfl) rfl (Nat.le_of_ble_eq_true rfl) (by omega) (Nat.le_refl _) (Nat.le_refl _) ?_
          refine sp_withLetter (by omega) (by omega) ?_
          refine wp_eqst (st' := [vJ ((L 41 7) * 2 ^ 5 + (b i - 97 + 1)), vR 41]) rfl ?_
          refine wp_w64 ?_
          refine wp_putl (pc := 41) dX8_takeWord_41 rfl f_X8_58 kd_41 la_41 (fun _ h => by cases h; rfl) rfl ?_
          refine wp_aload_n (pc := 44) 0 dX8_takeWord_44 rfl rfl ?_
          refine wp_dup (pc := 45) dX8_takeWord_45 rfl ?_
          refine wp_geti (pc := 46) dX8_takeWord_46 rfl f_X8_38 kd_41 la_41 (Or.inl rfl) ?_
          refine wp_eqst (st' := [vI ((i : Nat) : Int), vR 41]) (by rw [q2]) ?_
          refine wp_iconst (pc := 49) dX8_takeWord_49 ?_
          refine wp_iadd (pc := 50) dX8_takeWord_50 ?_
          refine wp_puti (pc := 51) dX8_takeWord_51 rfl f_X8_38 kd_41 la_41 (fun _ h => by cases h; rfl) rfl ?_
          refine wp_goto (pc := 54) 0 dX8_takeWord_54 (by decide) ?_
          refine ih (up K 41 2 (((i : Nat) : Int) + 1)) (upL L 41 7 (w64 ((L 41 7) * 2 ^ 5 + (b i - 97 + 1)))) (hK.up (by decide)) hM.up (by rw [up_s]; rfl) (by rw [up_j (by decide)]; exact q5) (by rw [up_j (by decide)]; exact q6) (by rw [upL_s]; exact w64_in _) (fun h8 => ?_)
          rw [upL_s, q8 (by omega)]
          have e5 := enc5_in (b := b) (q := tp b c) (i - tp b c) (fun j hj => hl.1.2.1 _ (by omega) (by omega))
          have e6 : (32 : Int) ^ (i - tp b c) ≤ 32 ^ 7 := ipow 32 (by decide) (by omega)
          have e7 : (32 : Int) ^ 7 = 34359738368 := by decide
          rw [show i + 1 - tp b c = (i - tp b c) + 1 by omega, enc5, show tp b c + (i - tp b c) = i by omega, show (2 : Int) ^ 5 = 32 from rfl, w64_of ⟨by omega, by omega⟩]; omega

theorem lp_digits {l : Launch} {G : mG} {d : Nat} {I : mI} {L : Nat → Nat → Int} {D : Nat → Nat} {Q : mQ} {b : Nat → Int} {n : Nat} {c : Nat} (hB : TBk I b n) (hc : c ≤ n) (hdg : isDg (b (tp b c))) (hd : 1 ≤ d) (hQ : ∀ J, Fa I J → TKC J L b c → Q none J (XX L D)) (h70 : L 41 7 = 0) : ∀ i : Nat, tp b c ≤ i → i ≤ dEnd b (tp b c) → ∀ K : mI, Fa I K → K 41 2 = ((i : Nat) : Int) → K 41 5 = ((tp b c : Nat) : Int) → inR (K 41 6) → (i - tp b c ≤ 4 → K 41 6 = encN b (tp b c) (i - tp b c)) → WP l G m_X8_takeNumber d 153 K (XX L D) 0 [some (vR 41)] [] Q := by
  have e3 := hB.2.1
  have e4 := hB.2.2
  have hp := tp_ok (g := I 42) hc
  rw [← hB.1] at hp
  have hl := dEnd_ok (g := I 42) (tp b c) hp.2
  rw [← hB.1] at hl
  have hl1 := hl.1.1
  have hl2 := hl.2
  have hp2 := hp.2
  have tk := tk_num hdg
  refine loop_ab (fun i => ∀ K : mI, Fa I K → K 41 2 = ((i : Nat) : Int) → K 41 5 = ((tp b c : Nat) : Int) → inR (K 41 6) → (i - tp b c ≤ 4 → K 41 6 = encN b (tp b c) (i - tp b c)) → WP l G m_X8_takeNumber d 153 K (XX L D) 0 [some (vR 41)] [] Q) (tp b c) (dEnd b (tp b c)) ?_ (fun i hi0 hi ih => ?_)
  · intro K hK q2 q5 q6 q8
    have hBK := hK.tb hB
    have k3 := hBK.2.1
    have bi := bOf_in (I 42) n (dEnd b (tp b c))
    rw [← hB.1] at bi
    refine wp_aload_n (pc := 0) 0 dX8_takeNumber_0 rfl rfl ?_
    refine wp_geti (pc := 1) dX8_takeNumber_1 rfl f_X8_38 kd_41 la_41 (Or.inl rfl) ?_
    refine wp_eqst (st' := [vI ((dEnd b (tp b c) : Nat) : Int)]) (by rw [q2]) ?_
    refine wp_aload_n (pc := 4) 0 dX8_takeNumber_4 rfl rfl ?_
    refine wp_geti (pc := 5) dX8_takeNumber_5 rfl f_X8_35 kd_41 la_41 (Or.inl rfl) ?_
    refine wp_eqst (st' := [vI (n : Int), vI ((dEnd b (tp b c) : Nat) : Int)]) (by rw [k3]) ?_
    refine wp_icmp_ge (pc := 8) 61 dX8_takeNumber_8 (by decide) (by omega) (by omega) (fun h_1 => ?_) (fun h_1 => ?_)
    · refine wp_aload_n (pc := 61) 0 dX8_takeNumber_61 rfl rfl ?_
      refine wp_aload_n (pc := 62) 0 dX8_takeNumber_62 rfl rfl ?_
      refine wp_geti (pc := 63) dX8_takeNumber_63 rfl f_X8_38 kd_41 la_41 (Or.inl rfl) ?_
      refine wp_eqst (st' := [vI ((dEnd b (tp b c) : Nat) : Int), vR 41]) (by rw [q2]) ?_
      refine wp_aload_n (pc := 66) 0 dX8_takeNumber_66 rfl rfl ?_
      refine wp_geti (pc := 67) dX8_takeNumber_67 rfl f_X8_52 kd_41 la_41 (Or.inl rfl) ?_
      refine wp_eqst (st' := [vI ((tp b c : Nat) : Int), vI ((dEnd b (tp b c) : Nat) : Int), vR 41]) (by rw [q5]) ?_
      refine wp_isub (pc := 70) dX8_takeNumber_70 ?_
      refine wp_iconst (pc := 71) dX8_takeNumber_71 ?_
      refine wp_icmp_gt (pc := 72) 89 dX8_takeNumber_72 (by decide) (by omega) (by decide) (fun h_2 => ?_) (fun h_2 => ?_)
      · refine wp_iconst (pc := 89) dX8_takeNumber_89 ?_
        refine wp_goto (pc := 90) 94 dX8_takeNumber_90 (by decide) ?_
        refine wp_puti (pc := 94) dX8_takeNumber_94 rfl f_X8_62 kd_41 la_41 (fun _ h => by cases h; rfl) rfl ?_
        refine wp_vret (pc := 97) dX8_takeNumber_97 rfl rfl ?_
        have t3 := tk.2.1 (by first | exact Or.inl (by omega) | exact Or.inr ⟨by omega, by omega⟩)
        exact hQ _ (hK.up (by decide)) ⟨by rw [up_s, (kC_ts b c).2.1.mpr t3], by rw [up_j (by decide)]; exact q5, ⟨by rw [up_j (by decide)]; exact q6, fun z => absurd t3 z⟩, fun z => absurd t3 z, by rw [h70]; decide, fun z => by omega⟩
      · refine wp_aload_n (pc := 75) 0 dX8_takeNumber_75 rfl rfl ?_
        refine wp_aload_n (pc := 76) 0 dX8_takeNumber_76 rfl rfl ?_
        refine wp_geti (pc := 77) dX8_takeNumber_77 rfl f_X8_38 kd_41 la_41 (Or.inl rfl) ?_
        refine wp_eqst (st' := [vI ((dEnd b (tp b c) : Nat) : Int), vR 41, vR 41]) (by rw [q2]) ?_
        refine wp_callV (pc := 80) (st := [vR 41]) (nf' := 153) [vI ((dEnd b (tp b c) : Nat) : Int)] [some (vR 41), some (vI ((dEnd b (tp b c) : Nat) : Int))] dX8_takeNumber_80 rfl c_X8_44 rfl kd_41 (by decide) rfl la_41 rfl (Nat.le_of_ble_eq_true rfl) rfl (Nat.le_of_ble_eq_true rfl) (by omega) (Nat.le_refl _) (Nat.le_refl _) ?_
        refine sp_byteAt (dEnd b (tp b c)) rfl hBK (by omega) (by omega) ?_
        refine wp_eqst (st' := [vI (b (dEnd b (tp b c))), vR 41]) rfl ?_
        refine wp_callS (pc := 83) (st := [vR 41]) (nf' := 153) [vI (b (dEnd b (tp b c)))] [some (vI (b (dEnd b (tp b c))))] dX8_takeNumber_83 rfl c_X8_65 rfl rfl (Nat.le_of_ble_eq_true rfl) rfl (Nat.le_of_ble_eq_true rfl) (by omega) (Nat.le_refl _) (Nat.le_refl _) ?_
        refine wp_iload_n (pc := 0) 0 dX8_isLetter_0 rfl rfl ?_
        refine wp_bipush (pc := 1) dX8_isLetter_1 (by decide) ?_
        refine wp_icmp_lt (pc := 3) 16 dX8_isLetter_3 (by decide) (by omega) (by decide) (fun h_3 => ?_) (fun h_3 => ?_)
        · refine wp_iconst (pc := 16) dX8_isLetter_16 ?_
          refine wp_zret (pc := 17) dX8_isLetter_17 rfl rfl (by decide) ?_
          refine wp_eqst (st' := [vI 0, vR 41]) rfl ?_
          refine wp_if_eq (pc := 86) 93 dX8_takeNumber_86 (by decide) (by decide) (fun _ => ?_) (fun hh => absurd hh (by decide))
          refine wp_iconst (pc := 93) dX8_takeNumber_93 ?_
          refine wp_puti (pc := 94) dX8_takeNumber_94 rfl f_X8_62 kd_41 la_41 (fun _ h => by cases h; rfl) rfl ?_
          refine wp_vret (pc := 97) dX8_takeNumber_97 rfl rfl ?_
          have t2 := tk.2.2 (by intro z; have z2 : 4 < dEnd b (tp b c) - tp b c ∨ (97 ≤ b (dEnd b (tp b c)) ∧ b (dEnd b (tp b c)) ≤ 122) := z; omega)
          refine hQ _ (hK.up (by decide)) ⟨by rw [up_s, (kC_ts b c).2.2.1.mpr t2], by rw [up_j (by decide)]; exact q5, ⟨by rw [up_j (by decide)]; exact q6, fun z => ?_⟩, fun _ => by rw [up_j (by decide), tk.1]; exact q2, by rw [h70]; decide, fun z => by omega⟩
          rw [up_j (by decide), vC_n t2, q8 (by omega)]; unfold tn; rw [tk.1]
        · refine wp_iload_n (pc := 6) 0 dX8_isLetter_6 rfl rfl ?_
          refine wp_bipush (pc := 7) dX8_isLetter_7 (by decide) ?_
          refine wp_icmp_gt (pc := 9) 16 dX8_isLetter_9 (by decide) (by omega) (by decide) (fun h_4 => ?_) (fun h_4 => ?_)
          · refine wp_iconst (pc := 16) dX8_isLetter_16 ?_
            refine wp_zret (pc := 17) dX8_isLetter_17 rfl rfl (by decide) ?_
            refine wp_eqst (st' := [vI 0, vR 41]) rfl ?_
            refine wp_if_eq (pc := 86) 93 dX8_takeNumber_86 (by decide) (by decide) (fun _ => ?_) (fun hh => absurd hh (by decide))
            refine wp_iconst (pc := 93) dX8_takeNumber_93 ?_
            refine wp_puti (pc := 94) dX8_takeNumber_94 rfl f_X8_62 kd_41 la_41 (fun _ h => by cases h; rfl) rfl ?_
            refine wp_vret (pc := 97) dX8_takeNumber_97 rfl rfl ?_
            have t2 := tk.2.2 (by intro z; have z2 : 4 < dEnd b (tp b c) - tp b c ∨ (97 ≤ b (dEnd b (tp b c)) ∧ b (dEnd b (tp b c)) ≤ 122) := z; omega)
            refine hQ _ (hK.up (by decide)) ⟨by rw [up_s, (kC_ts b c).2.2.1.mpr t2], by rw [up_j (by decide)]; exact q5, ⟨by rw [up_j (by decide)]; exact q6, fun z => ?_⟩, fun _ => by rw [up_j (by decide), tk.1]; exact q2, by rw [h70]; decide, fun z => by omega⟩
            rw [up_j (by decide), vC_n t2, q8 (by omega)]; unfold tn; rw [tk.1]
          · refine wp_iconst (pc := 12) dX8_isLetter_12 ?_
            refine wp_goto (pc := 13) 17 dX8_isLetter_13 (by decide) ?_
            refine wp_zret (pc := 17) dX8_isLetter_17 rfl rfl (by decide) ?_
            refine wp_eqst (st' := [vI 1, vR 41]) rfl ?_
            refine wp_if_eq (pc := 86) 93 dX8_takeNumber_86 (by decide) (by decide) (fun hh => absurd hh (by decide)) (fun _ => ?_)
            refine wp_iconst (pc := 89) dX8_takeNumber_89 ?_
            refine wp_goto (pc := 90) 94 dX8_takeNumber_90 (by decide) ?_
            refine wp_puti (pc := 94) dX8_takeNumber_94 rfl f_X8_62 kd_41 la_41 (fun _ h => by cases h; rfl) rfl ?_
            refine wp_vret (pc := 97) dX8_takeNumber_97 rfl rfl ?_
            have t3 := tk.2.1 (by first | exact Or.inl (by omega) | exact Or.inr ⟨by omega, by omega⟩)
            exact hQ _ (hK.up (by decide)) ⟨by rw [up_s, (kC_ts b c).2.1.mpr t3], by rw [up_j (by decide)]; exact q5, ⟨by rw [up_j (by decide)]; exact q6, fun z => absurd t3 z⟩, fun z => absurd t3 z, by rw [h70]; decide, fun z => by omega⟩
    · refine wp_aload_n (pc := 11) 0 dX8_takeNumber_11 rfl rfl ?_
      refine wp_aload_n (pc := 12) 0 dX8_takeNumber_12 rfl rfl ?_
      refine wp_geti (pc := 13) dX8_takeNumber_13 rfl f_X8_38 kd_41 la_41 (Or.inl rfl) ?_
      refine wp_eqst (st' := [vI ((dEnd b (tp b c) : Nat) : Int), vR 41]) (by rw [q2]) ?_
      refine wp_callV (pc := 16) (st := []) (nf' := 153) [vI ((dEnd b (tp b c) : Nat) : Int)] [some (vR 41), some (vI ((dEnd b (tp b c) : Nat) : Int))] dX8_takeNumber_16 rfl c_X8_44 rfl kd_41 (by decide) rfl la_41 rfl (Nat.le_of_ble_eq_true rfl) rfl (Nat.le_of_ble_eq_true rfl) (by omega) (Nat.le_refl _) (Nat.le_refl _) ?_
      refine sp_byteAt (dEnd b (tp b c)) rfl hBK (by omega) (by omega) ?_
      refine wp_eqst (st' := [vI (b (dEnd b (tp b c)))]) rfl ?_
      refine wp_callS (pc := 19) (st := []) (nf' := 153) [vI (b (dEnd b (tp b c)))] [some (vI (b (dEnd b (tp b c))))] dX8_takeNumber_19 rfl c_X8_71 rfl rfl (Nat.le_of_ble_eq_true rfl) rfl (Nat.le_of_ble_eq_true rfl) (by omega) (Nat.le_refl _) (Nat.le_refl _) ?_
      refine wp_iload_n (pc := 0) 0 dX8_isDigit_0 rfl rfl ?_
      refine wp_bipush (pc := 1) dX8_isDigit_1 (by decide) ?_
      refine wp_icmp_lt (pc := 3) 16 dX8_isDigit_3 (by decide) (by omega) (by decide) (fun h_5 => ?_) (fun h_5 => ?_)
      · refine wp_iconst (pc := 16) dX8_isDigit_16 ?_
        refine wp_zret (pc := 17) dX8_isDigit_17 rfl rfl (by decide) ?_
        refine wp_eqst (st' := [vI 0]) rfl ?_
        refine wp_if_eq (pc := 22) 61 dX8_takeNumber_22 (by decide) (by decide) (fun _ => ?_) (fun hh => absurd hh (by decide))
        refine wp_aload_n (pc := 61) 0 dX8_takeNumber_61 rfl rfl ?_
        refine wp_aload_n (pc := 62) 0 dX8_takeNumber_62 rfl rfl ?_
        refine wp_geti (pc := 63) dX8_takeNumber_63 rfl f_X8_38 kd_41 la_41 (Or.inl rfl) ?_
        refine wp_eqst (st' := [vI ((dEnd b (tp b c) : Nat) : Int), vR 41]) (by rw [q2]) ?_
        refine wp_aload_n (pc := 66) 0 dX8_takeNumber_66 rfl rfl ?_
        refine wp_geti (pc := 67) dX8_takeNumber_67 rfl f_X8_52 kd_41 la_41 (Or.inl rfl) ?_
        refine wp_eqst (st' := [vI ((tp b c : Nat) : Int), vI ((dEnd b (tp b c) : Nat) : Int), vR 41]) (by rw [q5]) ?_
        refine wp_isub (pc := 70) dX8_takeNumber_70 ?_
        refine wp_iconst (pc := 71) dX8_takeNumber_71 ?_
        refine wp_icmp_gt (pc := 72) 89 dX8_takeNumber_72 (by decide) (by omega) (by decide) (fun h_6 => ?_) (fun h_6 => ?_)
        · refine wp_iconst (pc := 89) dX8_takeNumber_89 ?_
          refine wp_goto (pc := 90) 94 dX8_takeNumber_90 (by decide) ?_
          refine wp_puti (pc := 94) dX8_takeNumber_94 rfl f_X8_62 kd_41 la_41 (fun _ h => by cases h; rfl) rfl ?_
          refine wp_vret (pc := 97) dX8_takeNumber_97 rfl rfl ?_
          have t3 := tk.2.1 (by first | exact Or.inl (by omega) | exact Or.inr ⟨by omega, by omega⟩)
          exact hQ _ (hK.up (by decide)) ⟨by rw [up_s, (kC_ts b c).2.1.mpr t3], by rw [up_j (by decide)]; exact q5, ⟨by rw [up_j (by decide)]; exact q6, fun z => absurd t3 z⟩, fun z => absurd t3 z, by rw [h70]; decide, fun z => by omega⟩
        · refine wp_aload_n (pc := 75) 0 dX8_takeNumber_75 rfl rfl ?_
          refine wp_aload_n (pc := 76) 0 dX8_takeNumber_76 rfl rfl ?_
          refine wp_geti (pc := 77) dX8_takeNumber_77 rfl f_X8_38 kd_41 la_41 (Or.inl rfl) ?_
          refine wp_eqst (st' := [vI ((dEnd b (tp b c) : Nat) : Int), vR 41, vR 41]) (by rw [q2]) ?_
          refine wp_callV (pc := 80) (st := [vR 41]) (nf' := 153) [vI ((dEnd b (tp b c) : Nat) : Int)] [some (vR 41), some (vI ((dEnd b (tp b c) : Nat) : Int))] dX8_takeNumber_80 rfl c_X8_44 rfl kd_41 (by decide) rfl la_41 rfl (Nat.le_of_ble_eq_true rfl) rfl (Nat.le_of_ble_eq_true rfl) (by omega) (Nat.le_refl _) (Nat.le_refl _) ?_
          refine sp_byteAt (dEnd b (tp b c)) rfl hBK (by omega) (by omega) ?_
          refine wp_eqst (st' := [vI (b (dEnd b (tp b c))), vR 41]) rfl ?_
          refine wp_callS (pc := 83) (st := [vR 41]) (nf' := 153) [vI (b (dEnd b (tp b c)))] [some (vI (b (dEnd b (tp b c))))] dX8_takeNumber_83 rfl c_X8_65 rfl rfl (Nat.le_of_ble_eq_true rfl) rfl (Nat.le_of_ble_eq_true rfl) (by omega) (Nat.le_refl _) (Nat.le_refl _) ?_
          refine wp_iload_n (pc := 0) 0 dX8_isLetter_0 rfl rfl ?_
          refine wp_bipush (pc := 1) dX8_isLetter_1 (by decide) ?_
          refine wp_icmp_lt (pc := 3) 16 dX8_isLetter_3 (by decide) (by omega) (by decide) (fun h_7 => ?_) (fun h_7 => ?_)
          · refine wp_iconst (pc := 16) dX8_isLetter_16 ?_
            refine wp_zret (pc := 17) dX8_isLetter_17 rfl rfl (by decide) ?_
            refine wp_eqst (st' := [vI 0, vR 41]) rfl ?_
            refine wp_if_eq (pc := 86) 93 dX8_takeNumber_86 (by decide) (by decide) (fun _ => ?_) (fun hh => absurd hh (by decide))
            refine wp_iconst (pc := 93) dX8_takeNumber_93 ?_
            refine wp_puti (pc := 94) dX8_takeNumber_94 rfl f_X8_62 kd_41 la_41 (fun _ h => by cases h; rfl) rfl ?_
            refine wp_vret (pc := 97) dX8_takeNumber_97 rfl rfl ?_
            have t2 := tk.2.2 (by intro z; have z2 : 4 < dEnd b (tp b c) - tp b c ∨ (97 ≤ b (dEnd b (tp b c)) ∧ b (dEnd b (tp b c)) ≤ 122) := z; omega)
            refine hQ _ (hK.up (by decide)) ⟨by rw [up_s, (kC_ts b c).2.2.1.mpr t2], by rw [up_j (by decide)]; exact q5, ⟨by rw [up_j (by decide)]; exact q6, fun z => ?_⟩, fun _ => by rw [up_j (by decide), tk.1]; exact q2, by rw [h70]; decide, fun z => by omega⟩
            rw [up_j (by decide), vC_n t2, q8 (by omega)]; unfold tn; rw [tk.1]
          · refine wp_iload_n (pc := 6) 0 dX8_isLetter_6 rfl rfl ?_
            refine wp_bipush (pc := 7) dX8_isLetter_7 (by decide) ?_
            refine wp_icmp_gt (pc := 9) 16 dX8_isLetter_9 (by decide) (by omega) (by decide) (fun h_8 => ?_) (fun h_8 => ?_)
            · refine wp_iconst (pc := 16) dX8_isLetter_16 ?_
              refine wp_zret (pc := 17) dX8_isLetter_17 rfl rfl (by decide) ?_
              refine wp_eqst (st' := [vI 0, vR 41]) rfl ?_
              refine wp_if_eq (pc := 86) 93 dX8_takeNumber_86 (by decide) (by decide) (fun _ => ?_) (fun hh => absurd hh (by decide))
              refine wp_iconst (pc := 93) dX8_takeNumber_93 ?_
              refine wp_puti (pc := 94) dX8_takeNumber_94 rfl f_X8_62 kd_41 la_41 (fun _ h => by cases h; rfl) rfl ?_
              refine wp_vret (pc := 97) dX8_takeNumber_97 rfl rfl ?_
              have t2 := tk.2.2 (by intro z; have z2 : 4 < dEnd b (tp b c) - tp b c ∨ (97 ≤ b (dEnd b (tp b c)) ∧ b (dEnd b (tp b c)) ≤ 122) := z; omega)
              refine hQ _ (hK.up (by decide)) ⟨by rw [up_s, (kC_ts b c).2.2.1.mpr t2], by rw [up_j (by decide)]; exact q5, ⟨by rw [up_j (by decide)]; exact q6, fun z => ?_⟩, fun _ => by rw [up_j (by decide), tk.1]; exact q2, by rw [h70]; decide, fun z => by omega⟩
              rw [up_j (by decide), vC_n t2, q8 (by omega)]; unfold tn; rw [tk.1]
            · refine wp_iconst (pc := 12) dX8_isLetter_12 ?_
              refine wp_goto (pc := 13) 17 dX8_isLetter_13 (by decide) ?_
              refine wp_zret (pc := 17) dX8_isLetter_17 rfl rfl (by decide) ?_
              refine wp_eqst (st' := [vI 1, vR 41]) rfl ?_
              refine wp_if_eq (pc := 86) 93 dX8_takeNumber_86 (by decide) (by decide) (fun hh => absurd hh (by decide)) (fun _ => ?_)
              refine wp_iconst (pc := 89) dX8_takeNumber_89 ?_
              refine wp_goto (pc := 90) 94 dX8_takeNumber_90 (by decide) ?_
              refine wp_puti (pc := 94) dX8_takeNumber_94 rfl f_X8_62 kd_41 la_41 (fun _ h => by cases h; rfl) rfl ?_
              refine wp_vret (pc := 97) dX8_takeNumber_97 rfl rfl ?_
              have t3 := tk.2.1 (by first | exact Or.inl (by omega) | exact Or.inr ⟨by omega, by omega⟩)
              exact hQ _ (hK.up (by decide)) ⟨by rw [up_s, (kC_ts b c).2.1.mpr t3], by rw [up_j (by decide)]; exact q5, ⟨by rw [up_j (by decide)]; exact q6, fun z => absurd t3 z⟩, fun z => absurd t3 z, by rw [h70]; decide, fun z => by omega⟩
      · refine wp_iload_n (pc := 6) 0 dX8_isDigit_6 rfl rfl ?_
        refine wp_bipush (pc := 7) dX8_isDigit_7 (by decide) ?_
        refine wp_icmp_gt (pc := 9) 16 dX8_isDigit_9 (by decide) (by omega) (by decide) (fun h_9 => ?_) (fun h_9 => ?_)
        · refine wp_iconst (pc := 16) dX8_isDigit_16 ?_
          refine wp_zret (pc := 17) dX8_isDigit_17 rfl rfl (by decide) ?_
          refine wp_eqst (st' := [vI 0]) rfl ?_
          refine wp_if_eq (pc := 22) 61 dX8_takeNumber_22 (by decide) (by decide) (fun _ => ?_) (fun hh => absurd hh (by decide))
          refine wp_aload_n (pc := 61) 0 dX8_takeNumber_61 rfl rfl ?_
          refine wp_aload_n (pc := 62) 0 dX8_takeNumber_62 rfl rfl ?_
          refine wp_geti (pc := 63) dX8_takeNumber_63 rfl f_X8_38 kd_41 la_41 (Or.inl rfl) ?_
          refine wp_eqst (st' := [vI ((dEnd b (tp b c) : Nat) : Int), vR 41]) (by rw [q2]) ?_
          refine wp_aload_n (pc := 66) 0 dX8_takeNumber_66 rfl rfl ?_
          refine wp_geti (pc := 67) dX8_takeNumber_67 rfl f_X8_52 kd_41 la_41 (Or.inl rfl) ?_
          refine wp_eqst (st' := [vI ((tp b c : Nat) : Int), vI ((dEnd b (tp b c) : Nat) : Int), vR 41]) (by rw [q5]) ?_
          refine wp_isub (pc := 70) dX8_takeNumber_70 ?_
          refine wp_iconst (pc := 71) dX8_takeNumber_71 ?_
          refine wp_icmp_gt (pc := 72) 89 dX8_takeNumber_72 (by decide) (by omega) (by decide) (fun h_10 => ?_) (fun h_10 => ?_)
          · refine wp_iconst (pc := 89) dX8_takeNumber_89 ?_
            refine wp_goto (pc := 90) 94 dX8_takeNumber_90 (by decide) ?_
            refine wp_puti (pc := 94) dX8_takeNumber_94 rfl f_X8_62 kd_41 la_41 (fun _ h => by cases h; rfl) rfl ?_
            refine wp_vret (pc := 97) dX8_takeNumber_97 rfl rfl ?_
            have t3 := tk.2.1 (by first | exact Or.inl (by omega) | exact Or.inr ⟨by omega, by omega⟩)
            exact hQ _ (hK.up (by decide)) ⟨by rw [up_s, (kC_ts b c).2.1.mpr t3], by rw [up_j (by decide)]; exact q5, ⟨by rw [up_j (by decide)]; exact q6, fun z => absurd t3 z⟩, fun z => absurd t3 z, by rw [h70]; decide, fun z => by omega⟩
          · refine wp_aload_n (pc := 75) 0 dX8_takeNumber_75 rfl rfl ?_
            refine wp_aload_n (pc := 76) 0 dX8_takeNumber_76 rfl rfl ?_
            refine wp_geti (pc := 77) dX8_takeNumber_77 rfl f_X8_38 kd_41 la_41 (Or.inl rfl) ?_
            refine wp_eqst (st' := [vI ((dEnd b (tp b c) : Nat) : Int), vR 41, vR 41]) (by rw [q2]) ?_
            refine wp_callV (pc := 80) (st := [vR 41]) (nf' := 153) [vI ((dEnd b (tp b c) : Nat) : Int)] [some (vR 41), some (vI ((dEnd b (tp b c) : Nat) : Int))] dX8_takeNumber_80 rfl c_X8_44 rfl kd_41 (by decide) rfl la_41 rfl (Nat.le_of_ble_eq_true rfl) rfl (Nat.le_of_ble_eq_true rfl) (by omega) (Nat.le_refl _) (Nat.le_refl _) ?_
            refine sp_byteAt (dEnd b (tp b c)) rfl hBK (by omega) (by omega) ?_
            refine wp_eqst (st' := [vI (b (dEnd b (tp b c))), vR 41]) rfl ?_
            refine wp_callS (pc := 83) (st := [vR 41]) (nf' := 153) [vI (b (dEnd b (tp b c)))] [some (vI (b (dEnd b (tp b c))))] dX8_takeNumber_83 rfl c_X8_65 rfl rfl (Nat.le_of_ble_eq_true rfl) rfl (Nat.le_of_ble_eq_true rfl) (by omega) (Nat.le_refl _) (Nat.le_refl _) ?_
            refine wp_iload_n (pc := 0) 0 dX8_isLetter_0 rfl rfl ?_
            refine wp_bipush (pc := 1) dX8_isLetter_1 (by decide) ?_
            refine wp_icmp_lt (pc := 3) 16 dX8_isLetter_3 (by decide) (by omega) (by decide) (fun h_11 => ?_) (fun h_11 => ?_)
            · refine wp_iconst (pc := 16) dX8_isLetter_16 ?_
              refine wp_zret (pc := 17) dX8_isLetter_17 rfl rfl (by decide) ?_
              refine wp_eqst (st' := [vI 0, vR 41]) rfl ?_
              refine wp_if_eq (pc := 86) 93 dX8_takeNumber_86 (by decide) (by decide) (fun _ => ?_) (fun hh => absurd hh (by decide))
              refine wp_iconst (pc := 93) dX8_takeNumber_93 ?_
              refine wp_puti (pc := 94) dX8_takeNumber_94 rfl f_X8_62 kd_41 la_41 (fun _ h => by cases h; rfl) rfl ?_
              refine wp_vret (pc := 97) dX8_takeNumber_97 rfl rfl ?_
              have t2 := tk.2.2 (by intro z; have z2 : 4 < dEnd b (tp b c) - tp b c ∨ (97 ≤ b (dEnd b (tp b c)) ∧ b (dEnd b (tp b c)) ≤ 122) := z; omega)
              refine hQ _ (hK.up (by decide)) ⟨by rw [up_s, (kC_ts b c).2.2.1.mpr t2], by rw [up_j (by decide)]; exact q5, ⟨by rw [up_j (by decide)]; exact q6, fun z => ?_⟩, fun _ => by rw [up_j (by decide), tk.1]; exact q2, by rw [h70]; decide, fun z => by omega⟩
              rw [up_j (by decide), vC_n t2, q8 (by omega)]; unfold tn; rw [tk.1]
            · refine wp_iload_n (pc := 6) 0 dX8_isLetter_6 rfl rfl ?_
              refine wp_bipush (pc := 7) dX8_isLetter_7 (by decide) ?_
              refine wp_icmp_gt (pc := 9) 16 dX8_isLetter_9 (by decide) (by omega) (by decide) (fun h_12 => ?_) (fun h_12 => ?_)
              · refine wp_iconst (pc := 16) dX8_isLetter_16 ?_
                refine wp_zret (pc := 17) dX8_isLetter_17 rfl rfl (by decide) ?_
                refine wp_eqst (st' := [vI 0, vR 41]) rfl ?_
                refine wp_if_eq (pc := 86) 93 dX8_takeNumber_86 (by decide) (by decide) (fun _ => ?_) (fun hh => absurd hh (by decide))
                refine wp_iconst (pc := 93) dX8_takeNumber_93 ?_
                refine wp_puti (pc := 94) dX8_takeNumber_94 rfl f_X8_62 kd_41 la_41 (fun _ h => by cases h; rfl) rfl ?_
                refine wp_vret (pc := 97) dX8_takeNumber_97 rfl rfl ?_
                have t2 := tk.2.2 (by intro z; have z2 : 4 < dEnd b (tp b c) - tp b c ∨ (97 ≤ b (dEnd b (tp b c)) ∧ b (dEnd b (tp b c)) ≤ 122) := z; omega)
                refine hQ _ (hK.up (by decide)) ⟨by rw [up_s, (kC_ts b c).2.2.1.mpr t2], by rw [up_j (by decide)]; exact q5, ⟨by rw [up_j (by decide)]; exact q6, fun z => ?_⟩, fun _ => by rw [up_j (by decide), tk.1]; exact q2, by rw [h70]; decide, fun z => by omega⟩
                rw [up_j (by decide), vC_n t2, q8 (by omega)]; unfold tn; rw [tk.1]
              · refine wp_iconst (pc := 12) dX8_isLetter_12 ?_
                refine wp_goto (pc := 13) 17 dX8_isLetter_13 (by decide) ?_
                refine wp_zret (pc := 17) dX8_isLetter_17 rfl rfl (by decide) ?_
                refine wp_eqst (st' := [vI 1, vR 41]) rfl ?_
                refine wp_if_eq (pc := 86) 93 dX8_takeNumber_86 (by decide) (by decide) (fun hh => absurd hh (by decide)) (fun _ => ?_)
                refine wp_iconst (pc := 89) dX8_takeNumber_89 ?_
                refine wp_goto (pc := 90) 94 dX8_takeNumber_90 (by decide) ?_
                refine wp_puti (pc := 94) dX8_takeNumber_94 rfl f_X8_62 kd_41 la_41 (fun _ h => by cases h; rfl) rfl ?_
                refine wp_vret (pc := 97) dX8_takeNumber_97 rfl rfl ?_
                have t3 := tk.2.1 (by first | exact Or.inl (by omega) | exact Or.inr ⟨by omega, by omega⟩)
                exact hQ _ (hK.up (by decide)) ⟨by rw [up_s, (kC_ts b c).2.1.mpr t3], by rw [up_j (by decide)]; exact q5, ⟨by rw [up_j (by decide)]; exact q6, fun z => absurd t3 z⟩, fun z => absurd t3 z, by rw [h70]; decide, fun z => by omega⟩
        · refine wp_iconst (pc := 12) dX8_isDigit_12 ?_
          refine wp_goto (pc := 13) 17 dX8_isDigit_13 (by decide) ?_
          refine wp_zret (pc := 17) dX8_isDigit_17 rfl rfl (by decide) ?_
          refine wp_eqst (st' := [vI 1]) rfl ?_
          refine wp_if_eq (pc := 22) 61 dX8_takeNumber_22 (by decide) (by decide) (fun hh => absurd hh (by decide)) (fun _ => ?_)
          exact absurd (show isDg (b (dEnd b (tp b c))) from ⟨by omega, by omega⟩) hl.1.2.2
  · intro K hK q2 q5 q6 q8
    have hBK := hK.tb hB
    have k3 := hBK.2.1
    have bl : isDg (b i) := hl.1.2.1 i hi0 hi
    have bl1 : 48 ≤ b i ∧ b i ≤ 57 := bl
    refine wp_aload_n (pc := 0) 0 dX8_takeNumber_0 rfl rfl ?_
    refine wp_geti (pc := 1) dX8_takeNumber_1 rfl f_X8_38 kd_41 la_41 (Or.inl rfl) ?_
    refine wp_eqst (st' := [vI ((i : Nat) : Int)]) (by rw [q2]) ?_
    refine wp_aload_n (pc := 4) 0 dX8_takeNumber_4 rfl rfl ?_
    refine wp_geti (pc := 5) dX8_takeNumber_5 rfl f_X8_35 kd_41 la_41 (Or.inl rfl) ?_
    refine wp_eqst (st' := [vI (n : Int), vI ((i : Nat) : Int)]) (by rw [k3]) ?_
    refine wp_icmp_ge (pc := 8) 61 dX8_takeNumber_8 (by decide) (by omega) (by omega) (fun h_1 => ?_) (fun h_1 => ?_)
    · exfalso; omega
    · refine wp_aload_n (pc := 11) 0 dX8_takeNumber_11 rfl rfl ?_
      refine wp_aload_n (pc := 12) 0 dX8_takeNumber_12 rfl rfl ?_
      refine wp_geti (pc := 13) dX8_takeNumber_13 rfl f_X8_38 kd_41 la_41 (Or.inl rfl) ?_
      refine wp_eqst (st' := [vI ((i : Nat) : Int), vR 41]) (by rw [q2]) ?_
      refine wp_callV (pc := 16) (st := []) (nf' := 153) [vI ((i : Nat) : Int)] [some (vR 41), some (vI ((i : Nat) : Int))] dX8_takeNumber_16 rfl c_X8_44 rfl kd_41 (by decide) rfl la_41 rfl (Nat.le_of_ble_eq_true rfl) rfl (Nat.le_of_ble_eq_true rfl) (by omega) (Nat.le_refl _) (Nat.le_refl _) ?_
      refine sp_byteAt i rfl hBK (by omega) (by omega) ?_
      refine wp_eqst (st' := [vI (b i)]) rfl ?_
      refine wp_callS (pc := 19) (st := []) (nf' := 153) [vI (b i)] [some (vI (b i))] dX8_takeNumber_19 rfl c_X8_71 rfl rfl (Nat.le_of_ble_eq_true rfl) rfl (Nat.le_of_ble_eq_true rfl) (by omega) (Nat.le_refl _) (Nat.le_refl _) ?_
      refine wp_iload_n (pc := 0) 0 dX8_isDigit_0 rfl rfl ?_
      refine wp_bipush (pc := 1) dX8_isDigit_1 (by decide) ?_
      refine wp_icmp_lt (pc := 3) 16 dX8_isDigit_3 (by decide) (by omega) (by decide) (fun h_2 => ?_) (fun h_2 => ?_)
      · refine wp_iconst (pc := 16) dX8_isDigit_16 ?_
        refine wp_zret (pc := 17) dX8_isDigit_17 rfl rfl (by decide) ?_
        refine wp_eqst (st' := [vI 0]) rfl ?_
        refine wp_if_eq (pc := 22) 61 dX8_takeNumber_22 (by decide) (by decide) (fun _ => ?_) (fun hh => absurd hh (by decide))
        exfalso; omega
      · refine wp_iload_n (pc := 6) 0 dX8_isDigit_6 rfl rfl ?_
        refine wp_bipush (pc := 7) dX8_isDigit_7 (by decide) ?_
        refine wp_icmp_gt (pc := 9) 16 dX8_isDigit_9 (by decide) (by omega) (by decide) (fun h_3 => ?_) (fun h_3 => ?_)
        · refine wp_iconst (pc := 16) dX8_isDigit_16 ?_
          refine wp_zret (pc := 17) dX8_isDigit_17 rfl rfl (by decide) ?_
          refine wp_eqst (st' := [vI 0]) rfl ?_
          refine wp_if_eq (pc := 22) 61 dX8_takeNumber_22 (by decide) (by decide) (fun _ => ?_) (fun hh => absurd hh (by decide))
          exfalso; omega
        · refine wp_iconst (pc := 12) dX8_isDigit_12 ?_
          refine wp_goto (pc := 13) 17 dX8_isDigit_13 (by decide) ?_
          refine wp_zret (pc := 17) dX8_isDigit_17 rfl rfl (by decide) ?_
          refine wp_eqst (st' := [vI 1]) rfl ?_
          refine wp_if_eq (pc := 22) 61 dX8_takeNumber_22 (by decide) (by decide) (fun hh => absurd hh (by decide)) (fun _ => ?_)
          refine wp_aload_n (pc := 25) 0 dX8_takeNumber_25 rfl rfl ?_
          refine wp_aload_n (pc := 26) 0 dX8_takeNumber_26 rfl rfl ?_
          refine wp_geti (pc := 27) dX8_takeNumber_27 rfl f_X8_55 kd_41 la_41 (Or.inl rfl) ?_
          refine wp_bipush (pc := 30) dX8_takeNumber_30 (by decide) ?_
          refine wp_imul (pc := 32) dX8_takeNumber_32 ?_
          refine wp_aload_n (pc := 33) 0 dX8_takeNumber_33 rfl rfl ?_
          refine wp_aload_n (pc := 34) 0 dX8_takeNumber_34 rfl rfl ?_
          refine wp_geti (pc := 35) dX8_takeNumber_35 rfl f_X8_38 kd_41 la_41 (Or.inl rfl) ?_
          refine wp_eqst (st' := [vI ((i : Nat) : Int), vR 41, vI ((K 41 6) * 10), vR 41]) (by rw [q2]) ?_
          refine wp_callV (pc := 38) (st := [vI ((K 41 6) * 10), vR 41]) (nf' := 153) [vI ((i : Nat) : Int)] [some (vR 41), some (vI ((i : Nat) : Int))] dX8_takeNumber_38 rfl c_X8_44 rfl kd_41 (by decide) rfl la_41 rfl (Nat.le_of_ble_eq_true rfl) rfl (Nat.le_of_ble_eq_true rfl) (by omega) (Nat.le_refl _) (Nat.le_refl _) ?_
          refine sp_byteAt i rfl hBK (by omega) (by omega) ?_
          refine wp_eqst (st' := [vI (b i), vI ((K 41 6) * 10), vR 41]) rfl ?_
          refine wp_iadd (pc := 41) dX8_takeNumber_41 ?_
          refine wp_bipush (pc := 42) dX8_takeNumber_42 (by decide) ?_
          refine wp_isub (pc := 44) dX8_takeNumber_44 ?_
          refine wp_w32 ?_
          refine wp_puti (pc := 45) dX8_takeNumber_45 rfl f_X8_55 kd_41 la_41 (fun _ h => by cases h; rfl) rfl ?_
          refine wp_aload_n (pc := 48) 0 dX8_takeNumber_48 rfl rfl ?_
          refine wp_dup (pc := 49) dX8_takeNumber_49 rfl ?_
          refine wp_geti (pc := 50) dX8_takeNumber_50 rfl f_X8_38 kd_41 la_41 (Or.inl rfl) ?_
          refine wp_eqst (st' := [vI ((i : Nat) : Int), vR 41]) (by rw [up_j (by omega), q2]) ?_
          refine wp_iconst (pc := 53) dX8_takeNumber_53 ?_
          refine wp_iadd (pc := 54) dX8_takeNumber_54 ?_
          refine wp_puti (pc := 55) dX8_takeNumber_55 rfl f_X8_38 kd_41 la_41 (fun _ h => by cases h; rfl) rfl ?_
          refine wp_goto (pc := 58) 0 dX8_takeNumber_58 (by decide) ?_
          refine ih (up (up K 41 6 (w32 ((((K 41 6) * 10) + (b i)) - 48))) 41 2 (((i : Nat) : Int) + 1)) ((hK.up (by decide)).up (by decide)) (by rw [up_s]; rfl) (by rw [up_j (by decide), up_j (by decide)]; exact q5) (by rw [up_j (by decide), up_s]; exact w32_in _) (fun h8 => ?_)
          have e5 := encN_in (b := b) (q := tp b c) (i - tp b c) (fun j hj => hl.1.2.1 _ (by omega) (by omega))
          have e6 : (10 : Int) ^ (i - tp b c) ≤ 10 ^ 3 := ipow 10 (by decide) (by omega)
          have e7 : (10 : Int) ^ 3 = 1000 := by decide
          have q9 := q8 (by omega)
          rw [up_j (by decide), up_s, w32_of ⟨by omega, by omega⟩, show i + 1 - tp b c = (i - tp b c) + 1 by omega, encN, show tp b c + (i - tp b c) = i by omega, q9]

theorem sp_takeSign {l : Launch} {G : mG} {d : Nat} {I : mI} {L : Nat → Nat → Int} {D : Nat → Nat} {Q : mQ} {b : Nat → Int} {n : Nat} {c : Nat} {K : mI}  (hB : TBk I b n) (hc : c ≤ n) (h0 : ¬ b (tp b c) < 0) (h1 : ¬ isLt (b (tp b c))) (h2 : ¬ isDg (b (tp b c))) (q2 : K 41 2 = ((tp b c : Nat) : Int)) (q5 : K 41 5 = ((tp b c : Nat) : Int)) (hK : Fa I K) (h70 : L 41 7 = 0) (hd : 5 ≤ d) (hQ : ∀ J, Fa I J → TKC J L b c → Q none J (XX L D)) : WP l G m_X8_takeSign d 153 K (XX L D) 0 [some (vR 41), some (vI (b (tp b c)))] [] Q := by
  have bi := bOf_in (I 42) n (tp b c)
  rw [← hB.1] at bi
  have tk := tk_sgn h0 h1 h2
  refine wp_aload_n (pc := 0) 0 dX8_takeSign_0 rfl rfl ?_
  refine wp_ldcS1 (pc := 1) dX8_takeSign_1 rfl ?_
  refine wp_iload_n (pc := 3) 1 dX8_takeSign_3 rfl rfl ?_
  refine wp_i2c (pc := 4) dX8_takeSign_4 (by omega) ?_
  refine wp_callK (pc := 5) (st := [vR 41]) (nf' := 153) 1 (by decide) [vI (b (tp b c))] [some (vR 1002), some (vI (b (tp b c)))] dX8_takeSign_5 rfl c_X8_83 rfl rfl rfl (Nat.le_of_ble_eq_true rfl) rfl (Nat.le_of_ble_eq_true rfl) (by omega) (Nat.le_refl _) (Nat.le_refl _) ?_
  refine sp_indexOf (by omega) (by omega) (fun h_1 z hz => ?_) (fun h_1 => ?_)
  · refine wp_eqst (st' := [vI (z : Int), vR 41]) rfl ?_
    refine wp_if_ge (pc := 8) 15 dX8_takeSign_8 (by decide) (by omega) (fun h_2 => ?_) (fun h_2 => ?_)
    · refine wp_iconst (pc := 15) dX8_takeSign_15 ?_
      refine wp_puti (pc := 16) dX8_takeSign_16 rfl f_X8_62 kd_41 la_41 (fun _ h => by cases h; rfl) rfl ?_
      refine wp_aload_n (pc := 19) 0 dX8_takeSign_19 rfl rfl ?_
      refine wp_iload_n (pc := 20) 1 dX8_takeSign_20 rfl rfl ?_
      refine wp_puti (pc := 21) dX8_takeSign_21 rfl f_X8_55 kd_41 la_41 (fun _ h => by cases h; rfl) rfl ?_
      refine wp_aload_n (pc := 24) 0 dX8_takeSign_24 rfl rfl ?_
      refine wp_dup (pc := 25) dX8_takeSign_25 rfl ?_
      refine wp_geti (pc := 26) dX8_takeSign_26 rfl f_X8_38 kd_41 la_41 (Or.inl rfl) ?_
      refine wp_eqst (st' := [vI ((tp b c : Nat) : Int), vR 41]) (by rw [up_j (by omega), up_j (by omega), q2]) ?_
      refine wp_iconst (pc := 29) dX8_takeSign_29 ?_
      refine wp_iadd (pc := 30) dX8_takeSign_30 ?_
      refine wp_puti (pc := 31) dX8_takeSign_31 rfl f_X8_38 kd_41 la_41 (fun _ h => by cases h; rfl) rfl ?_
      refine wp_vret (pc := 34) dX8_takeSign_34 rfl rfl ?_
      have t5 := tk.2.1 h_1
      have s5 : ts b c ≠ 0 ∧ ts b c ≠ 1 ∧ ts b c ≠ 2 ∧ ts b c ≠ 3 := by unfold isSg at h_1; omega
      refine hQ _ (((hK.up (by decide)).up (by decide)).up (by decide)) ⟨by rw [up_j (by decide), up_j (by decide), up_s, (kC_ts b c).2.2.2.2.2.mpr s5], by rw [up_j (by decide), up_j (by decide), up_j (by decide)]; exact q5, ⟨by rw [up_j (by decide), up_s]; omega, fun z => by rw [up_j (by decide), up_s, vC_s s5.2.2.1 s5.2.1, t5]⟩, fun _ => by rw [up_s, tk.1]; rfl, by rw [h70]; decide, fun z => by omega⟩
    · refine wp_iconst (pc := 11) dX8_takeSign_11 ?_
      refine wp_goto (pc := 12) 16 dX8_takeSign_12 (by decide) ?_
      refine wp_puti (pc := 16) dX8_takeSign_16 rfl f_X8_62 kd_41 la_41 (fun _ h => by cases h; rfl) rfl ?_
      refine wp_aload_n (pc := 19) 0 dX8_takeSign_19 rfl rfl ?_
      refine wp_iload_n (pc := 20) 1 dX8_takeSign_20 rfl rfl ?_
      refine wp_puti (pc := 21) dX8_takeSign_21 rfl f_X8_55 kd_41 la_41 (fun _ h => by cases h; rfl) rfl ?_
      refine wp_aload_n (pc := 24) 0 dX8_takeSign_24 rfl rfl ?_
      refine wp_dup (pc := 25) dX8_takeSign_25 rfl ?_
      refine wp_geti (pc := 26) dX8_takeSign_26 rfl f_X8_38 kd_41 la_41 (Or.inl rfl) ?_
      refine wp_eqst (st' := [vI ((tp b c : Nat) : Int), vR 41]) (by rw [up_j (by omega), up_j (by omega), q2]) ?_
      refine wp_iconst (pc := 29) dX8_takeSign_29 ?_
      refine wp_iadd (pc := 30) dX8_takeSign_30 ?_
      refine wp_puti (pc := 31) dX8_takeSign_31 rfl f_X8_38 kd_41 la_41 (fun _ h => by cases h; rfl) rfl ?_
      refine wp_vret (pc := 34) dX8_takeSign_34 rfl rfl ?_
      exfalso; omega
  · refine wp_eqst (st' := [vI (-1), vR 41]) rfl ?_
    refine wp_if_ge (pc := 8) 15 dX8_takeSign_8 (by decide) (by decide) (fun hh => absurd hh (by decide)) (fun _ => ?_)
    refine wp_iconst (pc := 11) dX8_takeSign_11 ?_
    refine wp_goto (pc := 12) 16 dX8_takeSign_12 (by decide) ?_
    refine wp_puti (pc := 16) dX8_takeSign_16 rfl f_X8_62 kd_41 la_41 (fun _ h => by cases h; rfl) rfl ?_
    refine wp_aload_n (pc := 19) 0 dX8_takeSign_19 rfl rfl ?_
    refine wp_iload_n (pc := 20) 1 dX8_takeSign_20 rfl rfl ?_
    refine wp_puti (pc := 21) dX8_takeSign_21 rfl f_X8_55 kd_41 la_41 (fun _ h => by cases h; rfl) rfl ?_
    refine wp_aload_n (pc := 24) 0 dX8_takeSign_24 rfl rfl ?_
    refine wp_dup (pc := 25) dX8_takeSign_25 rfl ?_
    refine wp_geti (pc := 26) dX8_takeSign_26 rfl f_X8_38 kd_41 la_41 (Or.inl rfl) ?_
    refine wp_eqst (st' := [vI ((tp b c : Nat) : Int), vR 41]) (by rw [up_j (by omega), up_j (by omega), q2]) ?_
    refine wp_iconst (pc := 29) dX8_takeSign_29 ?_
    refine wp_iadd (pc := 30) dX8_takeSign_30 ?_
    refine wp_puti (pc := 31) dX8_takeSign_31 rfl f_X8_38 kd_41 la_41 (fun _ h => by cases h; rfl) rfl ?_
    refine wp_vret (pc := 34) dX8_takeSign_34 rfl rfl ?_
    have t3 := tk.2.2 h_1
    exact hQ _ (((hK.up (by decide)).up (by decide)).up (by decide)) ⟨by rw [up_j (by decide), up_j (by decide), up_s, (kC_ts b c).2.1.mpr t3], by rw [up_j (by decide), up_j (by decide), up_j (by decide)]; exact q5, ⟨by rw [up_j (by decide), up_s]; omega, fun z => absurd t3 z⟩, fun z => absurd t3 z, by rw [h70]; decide, fun z => by omega⟩

theorem lp_advance {l : Launch} {G : mG} {d : Nat} {I : mI} {L : Nat → Nat → Int} {D : Nat → Nat} {Q : mQ} {b : Nat → Int} {n : Nat} {c : Nat} (hB : TBk I b n) (hc : c ≤ n) (hsp : ∀ k, k < 21 → L 43 k = W5 k) (hd : 6 ≤ d) (hQ : ∀ J M, Fa I J → La L M → TKC J M b c → Q none J (XX M D)) : ∀ i : Nat, c ≤ i → i ≤ tp b c → ∀ K : mI, Fa I K → K 41 2 = ((i : Nat) : Int) → WP l G m_X8_advance d 153 K (XX L D) 0 [some (vR 41), none] [] Q := by
  have e3 := hB.2.1
  have e4 := hB.2.2
  have hp := tp_ok (g := I 42) hc
  rw [← hB.1] at hp
  have hp1 := hp.1.1
  have hp2 := hp.2
  refine loop_ab (fun i => ∀ K : mI, Fa I K → K 41 2 = ((i : Nat) : Int) → WP l G m_X8_advance d 153 K (XX L D) 0 [some (vR 41), none] [] Q) c (tp b c) ?_ (fun i hi0 hi ih => ?_)
  · intro K hK q2
    have hBK := hK.tb hB
    have k3 := hBK.2.1
    have bi := bOf_in (I 42) n (tp b c)
    rw [← hB.1] at bi
    have hsp2 : ∀ k, k < 21 → upL L 41 7 0 43 k = W5 k := fun k hk => (if_neg (fun z => absurd z.1 (by decide))).trans (hsp k hk)
    refine wp_aload_n (pc := 0) 0 dX8_advance_0 rfl rfl ?_
    refine wp_geti (pc := 1) dX8_advance_1 rfl f_X8_38 kd_41 la_41 (Or.inl rfl) ?_
    refine wp_eqst (st' := [vI ((tp b c : Nat) : Int)]) (by rw [q2]) ?_
    refine wp_aload_n (pc := 4) 0 dX8_advance_4 rfl rfl ?_
    refine wp_geti (pc := 5) dX8_advance_5 rfl f_X8_35 kd_41 la_41 (Or.inl rfl) ?_
    refine wp_eqst (st' := [vI (n : Int), vI ((tp b c : Nat) : Int)]) (by rw [k3]) ?_
    refine wp_icmp_ge (pc := 8) 38 dX8_advance_8 (by decide) (by omega) (by omega) (fun h_1 => ?_) (fun h_1 => ?_)
    · refine wp_aload_n (pc := 38) 0 dX8_advance_38 rfl rfl ?_
      refine wp_aload_n (pc := 39) 0 dX8_advance_39 rfl rfl ?_
      refine wp_geti (pc := 40) dX8_advance_40 rfl f_X8_38 kd_41 la_41 (Or.inl rfl) ?_
      refine wp_eqst (st' := [vI ((tp b c : Nat) : Int), vR 41]) (by rw [q2]) ?_
      refine wp_puti (pc := 43) dX8_advance_43 rfl f_X8_52 kd_41 la_41 (fun _ h => by cases h; rfl) rfl ?_
      refine wp_aload_n (pc := 46) 0 dX8_advance_46 rfl rfl ?_
      refine wp_iconst (pc := 47) dX8_advance_47 ?_
      refine wp_puti (pc := 48) dX8_advance_48 rfl f_X8_55 kd_41 la_41 (fun _ h => by cases h; rfl) rfl ?_
      refine wp_aload_n (pc := 51) 0 dX8_advance_51 rfl rfl ?_
      refine wp_lconst (pc := 52) (z := 0) dX8_advance_52 rfl ?_
      refine wp_putl (pc := 53) dX8_advance_53 rfl f_X8_58 kd_41 la_41 (fun _ h => by cases h; rfl) rfl ?_
      refine wp_aload_n (pc := 56) 0 dX8_advance_56 rfl rfl ?_
      refine wp_aload_n (pc := 57) 0 dX8_advance_57 rfl rfl ?_
      refine wp_geti (pc := 58) dX8_advance_58 rfl f_X8_38 kd_41 la_41 (Or.inl rfl) ?_
      refine wp_eqst (st' := [vI ((tp b c : Nat) : Int), vR 41]) (by rw [up_j (by omega), up_j (by omega), q2]) ?_
      refine wp_callV (pc := 61) (st := []) (nf' := 153) [vI ((tp b c : Nat) : Int)] [some (vR 41), some (vI ((tp b c : Nat) : Int))] dX8_advance_61 rfl c_X8_44 rfl kd_41 (by decide) rfl la_41 rfl (Nat.le_of_ble_eq_true rfl) rfl (Nat.le_of_ble_eq_true rfl) (by omega) (Nat.le_refl _) (Nat.le_refl _) ?_
      refine sp_byteAt (tp b c) rfl (((hK.up (by decide)).up (by decide)).tb hB) (by omega) (by omega) ?_
      refine wp_eqst (st' := [vI (b (tp b c))]) rfl ?_
      refine wq_istore_n (pc := 64) 1 [some (vR 41), some (vI (b (tp b c)))] dX8_advance_64 rfl rfl (by decide) rfl ?_
      refine wp_iload_n (pc := 65) 1 dX8_advance_65 rfl rfl ?_
      refine wp_iconst (pc := 66) dX8_advance_66 ?_
      refine wp_icmp_ne (pc := 67) 78 dX8_advance_67 (by decide) (by omega) (by decide) (fun h_2 => ?_) (fun h_2 => ?_)
      · refine wp_iload_n (pc := 78) 1 dX8_advance_78 rfl rfl ?_
        refine wp_callS (pc := 79) (st := []) (nf' := 153) [vI (b (tp b c))] [some (vI (b (tp b c)))] dX8_advance_79 rfl c_X8_65 rfl rfl (Nat.le_of_ble_eq_true rfl) rfl (Nat.le_of_ble_eq_true rfl) (by omega) (Nat.le_refl _) (Nat.le_refl _) ?_
        refine wp_iload_n (pc := 0) 0 dX8_isLetter_0 rfl rfl ?_
        refine wp_bipush (pc := 1) dX8_isLetter_1 (by decide) ?_
        refine wp_icmp_lt (pc := 3) 16 dX8_isLetter_3 (by decide) (by omega) (by decide) (fun h_3 => ?_) (fun h_3 => ?_)
        · refine wp_iconst (pc := 16) dX8_isLetter_16 ?_
          refine wp_zret (pc := 17) dX8_isLetter_17 rfl rfl (by decide) ?_
          refine wp_eqst (st' := [vI 0]) rfl ?_
          refine wp_if_eq (pc := 82) 92 dX8_advance_82 (by decide) (by decide) (fun _ => ?_) (fun hh => absurd hh (by decide))
          refine wp_iload_n (pc := 92) 1 dX8_advance_92 rfl rfl ?_
          refine wp_callS (pc := 93) (st := []) (nf' := 153) [vI (b (tp b c))] [some (vI (b (tp b c)))] dX8_advance_93 rfl c_X8_71 rfl rfl (Nat.le_of_ble_eq_true rfl) rfl (Nat.le_of_ble_eq_true rfl) (by omega) (Nat.le_refl _) (Nat.le_refl _) ?_
          refine wp_iload_n (pc := 0) 0 dX8_isDigit_0 rfl rfl ?_
          refine wp_bipush (pc := 1) dX8_isDigit_1 (by decide) ?_
          refine wp_icmp_lt (pc := 3) 16 dX8_isDigit_3 (by decide) (by omega) (by decide) (fun h_4 => ?_) (fun h_4 => ?_)
          · refine wp_iconst (pc := 16) dX8_isDigit_16 ?_
            refine wp_zret (pc := 17) dX8_isDigit_17 rfl rfl (by decide) ?_
            refine wp_eqst (st' := [vI 0]) rfl ?_
            refine wp_if_eq (pc := 96) 106 dX8_advance_96 (by decide) (by decide) (fun _ => ?_) (fun hh => absurd hh (by decide))
            refine wp_aload_n (pc := 106) 0 dX8_advance_106 rfl rfl ?_
            refine wp_iload_n (pc := 107) 1 dX8_advance_107 rfl rfl ?_
            refine wp_callV (pc := 108) (st := []) (nf' := 153) [vI (b (tp b c))] [some (vR 41), some (vI (b (tp b c)))] dX8_advance_108 rfl c_X8_77 rfl kd_41 (by decide) rfl la_41 rfl (Nat.le_of_ble_eq_true rfl) rfl (Nat.le_of_ble_eq_true rfl) (by omega) (Nat.le_refl _) (Nat.le_refl _) ?_
            refine sp_takeSign (I := I) hB hc (by omega) (fun z => by have z1 : 97 ≤ b (tp b c) ∧ b (tp b c) ≤ 122 := z; omega) (fun z => by have z1 : 48 ≤ b (tp b c) ∧ b (tp b c) ≤ 57 := z; omega) (by rw [up_j (by omega), up_j (by omega), q2]) (by rw [up_j (by omega), up_s]) ((hK.up (by decide)).up (by decide)) upL_s (by omega) (fun J hJ hT => ?_)
            refine wp_eqst (st' := []) rfl ?_
            refine wp_vret (pc := 111) dX8_advance_111 rfl rfl ?_
            exact hQ J _ hJ La.refl.up hT
          · refine wp_iload_n (pc := 6) 0 dX8_isDigit_6 rfl rfl ?_
            refine wp_bipush (pc := 7) dX8_isDigit_7 (by decide) ?_
            refine wp_icmp_gt (pc := 9) 16 dX8_isDigit_9 (by decide) (by omega) (by decide) (fun h_5 => ?_) (fun h_5 => ?_)
            · refine wp_iconst (pc := 16) dX8_isDigit_16 ?_
              refine wp_zret (pc := 17) dX8_isDigit_17 rfl rfl (by decide) ?_
              refine wp_eqst (st' := [vI 0]) rfl ?_
              refine wp_if_eq (pc := 96) 106 dX8_advance_96 (by decide) (by decide) (fun _ => ?_) (fun hh => absurd hh (by decide))
              refine wp_aload_n (pc := 106) 0 dX8_advance_106 rfl rfl ?_
              refine wp_iload_n (pc := 107) 1 dX8_advance_107 rfl rfl ?_
              refine wp_callV (pc := 108) (st := []) (nf' := 153) [vI (b (tp b c))] [some (vR 41), some (vI (b (tp b c)))] dX8_advance_108 rfl c_X8_77 rfl kd_41 (by decide) rfl la_41 rfl (Nat.le_of_ble_eq_true rfl) rfl (Nat.le_of_ble_eq_true rfl) (by omega) (Nat.le_refl _) (Nat.le_refl _) ?_
              refine sp_takeSign (I := I) hB hc (by omega) (fun z => by have z1 : 97 ≤ b (tp b c) ∧ b (tp b c) ≤ 122 := z; omega) (fun z => by have z1 : 48 ≤ b (tp b c) ∧ b (tp b c) ≤ 57 := z; omega) (by rw [up_j (by omega), up_j (by omega), q2]) (by rw [up_j (by omega), up_s]) ((hK.up (by decide)).up (by decide)) upL_s (by omega) (fun J hJ hT => ?_)
              refine wp_eqst (st' := []) rfl ?_
              refine wp_vret (pc := 111) dX8_advance_111 rfl rfl ?_
              exact hQ J _ hJ La.refl.up hT
            · refine wp_iconst (pc := 12) dX8_isDigit_12 ?_
              refine wp_goto (pc := 13) 17 dX8_isDigit_13 (by decide) ?_
              refine wp_zret (pc := 17) dX8_isDigit_17 rfl rfl (by decide) ?_
              refine wp_eqst (st' := [vI 1]) rfl ?_
              refine wp_if_eq (pc := 96) 106 dX8_advance_96 (by decide) (by decide) (fun hh => absurd hh (by decide)) (fun _ => ?_)
              refine wp_aload_n (pc := 99) 0 dX8_advance_99 rfl rfl ?_
              refine wp_callV (pc := 100) (st := []) (nf' := 153) [] [some (vR 41)] dX8_advance_100 rfl c_X8_74 rfl kd_41 (by decide) rfl la_41 rfl (Nat.le_of_ble_eq_true rfl) rfl (Nat.le_of_ble_eq_true rfl) (by omega) (Nat.le_refl _) (Nat.le_refl _) ?_
              refine lp_digits (I := I) hB hc (show isDg (b (tp b c)) from ⟨by omega, by omega⟩) (by omega) (fun J hJ hT => ?_) upL_s (tp b c) (Nat.le_refl _) (by have z := (dEnd_ok (g := I 42) (tp b c) hp2).1.1; rw [← hB.1] at z; exact z) (up (up K 41 5 ((tp b c : Nat) : Int)) 41 6 0) ((hK.up (by decide)).up (by decide)) (by rw [up_j (by omega), up_j (by omega), q2]) (by rw [up_j (by omega), up_s]) (by rw [show (up (up K 41 5 ((tp b c : Nat) : Int)) 41 6 0) 41 6 = 0 from (by rw [up_s])]; decide) (fun _ => by rw [show (up (up K 41 5 ((tp b c : Nat) : Int)) 41 6 0) 41 6 = 0 from (by rw [up_s]), Nat.sub_self]; rfl)
              refine wp_eqst (st' := []) rfl ?_
              refine wp_goto (pc := 103) 111 dX8_advance_103 (by decide) ?_
              refine wp_vret (pc := 111) dX8_advance_111 rfl rfl ?_
              exact hQ J _ hJ La.refl.up hT
        · refine wp_iload_n (pc := 6) 0 dX8_isLetter_6 rfl rfl ?_
          refine wp_bipush (pc := 7) dX8_isLetter_7 (by decide) ?_
          refine wp_icmp_gt (pc := 9) 16 dX8_isLetter_9 (by decide) (by omega) (by decide) (fun h_6 => ?_) (fun h_6 => ?_)
          · refine wp_iconst (pc := 16) dX8_isLetter_16 ?_
            refine wp_zret (pc := 17) dX8_isLetter_17 rfl rfl (by decide) ?_
            refine wp_eqst (st' := [vI 0]) rfl ?_
            refine wp_if_eq (pc := 82) 92 dX8_advance_82 (by decide) (by decide) (fun _ => ?_) (fun hh => absurd hh (by decide))
            refine wp_iload_n (pc := 92) 1 dX8_advance_92 rfl rfl ?_
            refine wp_callS (pc := 93) (st := []) (nf' := 153) [vI (b (tp b c))] [some (vI (b (tp b c)))] dX8_advance_93 rfl c_X8_71 rfl rfl (Nat.le_of_ble_eq_true rfl) rfl (Nat.le_of_ble_eq_true rfl) (by omega) (Nat.le_refl _) (Nat.le_refl _) ?_
            refine wp_iload_n (pc := 0) 0 dX8_isDigit_0 rfl rfl ?_
            refine wp_bipush (pc := 1) dX8_isDigit_1 (by decide) ?_
            refine wp_icmp_lt (pc := 3) 16 dX8_isDigit_3 (by decide) (by omega) (by decide) (fun h_7 => ?_) (fun h_7 => ?_)
            · refine wp_iconst (pc := 16) dX8_isDigit_16 ?_
              refine wp_zret (pc := 17) dX8_isDigit_17 rfl rfl (by decide) ?_
              refine wp_eqst (st' := [vI 0]) rfl ?_
              refine wp_if_eq (pc := 96) 106 dX8_advance_96 (by decide) (by decide) (fun _ => ?_) (fun hh => absurd hh (by decide))
              refine wp_aload_n (pc := 106) 0 dX8_advance_106 rfl rfl ?_
              refine wp_iload_n (pc := 107) 1 dX8_advance_107 rfl rfl ?_
              refine wp_callV (pc := 108) (st := []) (nf' := 153) [vI (b (tp b c))] [some (vR 41), some (vI (b (tp b c)))] dX8_advance_108 rfl c_X8_77 rfl kd_41 (by decide) rfl la_41 rfl (Nat.le_of_ble_eq_true rfl) rfl (Nat.le_of_ble_eq_true rfl) (by omega) (Nat.le_refl _) (Nat.le_refl _) ?_
              refine sp_takeSign (I := I) hB hc (by omega) (fun z => by have z1 : 97 ≤ b (tp b c) ∧ b (tp b c) ≤ 122 := z; omega) (fun z => by have z1 : 48 ≤ b (tp b c) ∧ b (tp b c) ≤ 57 := z; omega) (by rw [up_j (by omega), up_j (by omega), q2]) (by rw [up_j (by omega), up_s]) ((hK.up (by decide)).up (by decide)) upL_s (by omega) (fun J hJ hT => ?_)
              refine wp_eqst (st' := []) rfl ?_
              refine wp_vret (pc := 111) dX8_advance_111 rfl rfl ?_
              exact hQ J _ hJ La.refl.up hT
            · refine wp_iload_n (pc := 6) 0 dX8_isDigit_6 rfl rfl ?_
              refine wp_bipush (pc := 7) dX8_isDigit_7 (by decide) ?_
              refine wp_icmp_gt (pc := 9) 16 dX8_isDigit_9 (by decide) (by omega) (by decide) (fun h_8 => ?_) (fun h_8 => ?_)
              · refine wp_iconst (pc := 16) dX8_isDigit_16 ?_
                refine wp_zret (pc := 17) dX8_isDigit_17 rfl rfl (by decide) ?_
                refine wp_eqst (st' := [vI 0]) rfl ?_
                refine wp_if_eq (pc := 96) 106 dX8_advance_96 (by decide) (by decide) (fun _ => ?_) (fun hh => absurd hh (by decide))
                refine wp_aload_n (pc := 106) 0 dX8_advance_106 rfl rfl ?_
                refine wp_iload_n (pc := 107) 1 dX8_advance_107 rfl rfl ?_
                refine wp_callV (pc := 108) (st := []) (nf' := 153) [vI (b (tp b c))] [some (vR 41), some (vI (b (tp b c)))] dX8_advance_108 rfl c_X8_77 rfl kd_41 (by decide) rfl la_41 rfl (Nat.le_of_ble_eq_true rfl) rfl (Nat.le_of_ble_eq_true rfl) (by omega) (Nat.le_refl _) (Nat.le_refl _) ?_
                refine sp_takeSign (I := I) hB hc (by omega) (fun z => by have z1 : 97 ≤ b (tp b c) ∧ b (tp b c) ≤ 122 := z; omega) (fun z => by have z1 : 48 ≤ b (tp b c) ∧ b (tp b c) ≤ 57 := z; omega) (by rw [up_j (by omega), up_j (by omega), q2]) (by rw [up_j (by omega), up_s]) ((hK.up (by decide)).up (by decide)) upL_s (by omega) (fun J hJ hT => ?_)
                refine wp_eqst (st' := []) rfl ?_
                refine wp_vret (pc := 111) dX8_advance_111 rfl rfl ?_
                exact hQ J _ hJ La.refl.up hT
              · refine wp_iconst (pc := 12) dX8_isDigit_12 ?_
                refine wp_goto (pc := 13) 17 dX8_isDigit_13 (by decide) ?_
                refine wp_zret (pc := 17) dX8_isDigit_17 rfl rfl (by decide) ?_
                refine wp_eqst (st' := [vI 1]) rfl ?_
                refine wp_if_eq (pc := 96) 106 dX8_advance_96 (by decide) (by decide) (fun hh => absurd hh (by decide)) (fun _ => ?_)
                refine wp_aload_n (pc := 99) 0 dX8_advance_99 rfl rfl ?_
                refine wp_callV (pc := 100) (st := []) (nf' := 153) [] [some (vR 41)] dX8_advance_100 rfl c_X8_74 rfl kd_41 (by decide) rfl la_41 rfl (Nat.le_of_ble_eq_true rfl) rfl (Nat.le_of_ble_eq_true rfl) (by omega) (Nat.le_refl _) (Nat.le_refl _) ?_
                refine lp_digits (I := I) hB hc (show isDg (b (tp b c)) from ⟨by omega, by omega⟩) (by omega) (fun J hJ hT => ?_) upL_s (tp b c) (Nat.le_refl _) (by have z := (dEnd_ok (g := I 42) (tp b c) hp2).1.1; rw [← hB.1] at z; exact z) (up (up K 41 5 ((tp b c : Nat) : Int)) 41 6 0) ((hK.up (by decide)).up (by decide)) (by rw [up_j (by omega), up_j (by omega), q2]) (by rw [up_j (by omega), up_s]) (by rw [show (up (up K 41 5 ((tp b c : Nat) : Int)) 41 6 0) 41 6 = 0 from (by rw [up_s])]; decide) (fun _ => by rw [show (up (up K 41 5 ((tp b c : Nat) : Int)) 41 6 0) 41 6 = 0 from (by rw [up_s]), Nat.sub_self]; rfl)
                refine wp_eqst (st' := []) rfl ?_
                refine wp_goto (pc := 103) 111 dX8_advance_103 (by decide) ?_
                refine wp_vret (pc := 111) dX8_advance_111 rfl rfl ?_
                exact hQ J _ hJ La.refl.up hT
          · refine wp_iconst (pc := 12) dX8_isLetter_12 ?_
            refine wp_goto (pc := 13) 17 dX8_isLetter_13 (by decide) ?_
            refine wp_zret (pc := 17) dX8_isLetter_17 rfl rfl (by decide) ?_
            refine wp_eqst (st' := [vI 1]) rfl ?_
            refine wp_if_eq (pc := 82) 92 dX8_advance_82 (by decide) (by decide) (fun hh => absurd hh (by decide)) (fun _ => ?_)
            refine wp_aload_n (pc := 85) 0 dX8_advance_85 rfl rfl ?_
            refine wp_callV (pc := 86) (st := []) (nf' := 153) [] [some (vR 41), none] dX8_advance_86 rfl c_X8_68 rfl kd_41 (by decide) rfl la_41 rfl (Nat.le_of_ble_eq_true rfl) rfl (Nat.le_of_ble_eq_true rfl) (by omega) (Nat.le_refl _) (Nat.le_refl _) ?_
            refine lp_letters (I := I) hB hc (by intro k hk; exact hsp2 k hk) (show isLt (b (tp b c)) from ⟨by omega, by omega⟩) (by omega) (fun J M hJ hM hT => ?_) (tp b c) (Nat.le_refl _) (by have z := (lEnd_ok (g := I 42) (tp b c) hp2).1.1; rw [← hB.1] at z; exact z) (up (up K 41 5 ((tp b c : Nat) : Int)) 41 6 0) (upL L 41 7 0) ((hK.up (by decide)).up (by decide)) La.refl (by rw [up_j (by omega), up_j (by omega), q2]) (by rw [up_j (by omega), up_s]) (by rw [up_s]) (by rw [upL_s]; decide) (fun _ => by rw [upL_s, Nat.sub_self]; rfl)
            refine wp_eqst (st' := []) rfl ?_
            refine wp_goto (pc := 89) 111 dX8_advance_89 (by decide) ?_
            refine wp_vret (pc := 111) dX8_advance_111 rfl rfl ?_
            exact hQ J _ hJ (La.refl.up.trans hM) hT
      · refine wp_aload_n (pc := 70) 0 dX8_advance_70 rfl rfl ?_
        refine wp_iconst (pc := 71) dX8_advance_71 ?_
        refine wp_puti (pc := 72) dX8_advance_72 rfl f_X8_62 kd_41 la_41 (fun _ h => by cases h; rfl) rfl ?_
        refine wp_goto (pc := 75) 111 dX8_advance_75 (by decide) ?_
        refine wp_vret (pc := 111) dX8_advance_111 rfl rfl ?_
        have tk := tk_end (b := b) (c := c) (by omega)
        refine hQ _ _ (((hK.up (by decide)).up (by decide)).up (by decide)) La.refl.up ⟨by rw [up_s, (kC_ts b c).1.mpr tk.1], by rw [up_j (by decide), up_j (by decide), up_s], ⟨by rw [up_j (by decide), up_s]; decide, fun _ => ?_⟩, fun _ => by rw [up_j (by decide), up_j (by decide), up_j (by decide), tk.2]; exact q2, by rw [upL_s]; decide, fun z => by have := tk.1; omega⟩
        rw [up_j (by decide), up_s, vC_s (by have := tk.1; omega) (by have := tk.1; omega), tk.1]
    · refine wp_aload_n (pc := 11) 0 dX8_advance_11 rfl rfl ?_
      refine wp_aload_n (pc := 12) 0 dX8_advance_12 rfl rfl ?_
      refine wp_geti (pc := 13) dX8_advance_13 rfl f_X8_38 kd_41 la_41 (Or.inl rfl) ?_
      refine wp_eqst (st' := [vI ((tp b c : Nat) : Int), vR 41]) (by rw [q2]) ?_
      refine wp_callV (pc := 16) (st := []) (nf' := 153) [vI ((tp b c : Nat) : Int)] [some (vR 41), some (vI ((tp b c : Nat) : Int))] dX8_advance_16 rfl c_X8_44 rfl kd_41 (by decide) rfl la_41 rfl (Nat.le_of_ble_eq_true rfl) rfl (Nat.le_of_ble_eq_true rfl) (by omega) (Nat.le_refl _) (Nat.le_refl _) ?_
      refine sp_byteAt (tp b c) rfl hBK (by omega) (by omega) ?_
      refine wp_eqst (st' := [vI (b (tp b c))]) rfl ?_
      refine wp_callS (pc := 19) (st := []) (nf' := 153) [vI (b (tp b c))] [some (vI (b (tp b c)))] dX8_advance_19 rfl c_X8_48 rfl rfl (Nat.le_of_ble_eq_true rfl) rfl (Nat.le_of_ble_eq_true rfl) (by omega) (Nat.le_refl _) (Nat.le_refl _) ?_
      refine wp_iload_n (pc := 0) 0 dX8_isBlank_0 rfl rfl ?_
      refine wp_bipush (pc := 1) dX8_isBlank_1 (by decide) ?_
      refine wp_icmp_eq (pc := 3) 12 dX8_isBlank_3 (by decide) (by omega) (by decide) (fun h_9 => ?_) (fun h_9 => ?_)
      · refine wp_iconst (pc := 12) dX8_isBlank_12 ?_
        refine wp_goto (pc := 13) 17 dX8_isBlank_13 (by decide) ?_
        refine wp_zret (pc := 17) dX8_isBlank_17 rfl rfl (by decide) ?_
        refine wp_eqst (st' := [vI 1]) rfl ?_
        refine wp_if_eq (pc := 22) 38 dX8_advance_22 (by decide) (by decide) (fun hh => absurd hh (by decide)) (fun _ => ?_)
        exact absurd (show isBl (b (tp b c)) by first | exact Or.inl (by omega) | exact Or.inr (by omega)) hp.1.2.2
      · refine wp_iload_n (pc := 6) 0 dX8_isBlank_6 rfl rfl ?_
        refine wp_bipush (pc := 7) dX8_isBlank_7 (by decide) ?_
        refine wp_icmp_ne (pc := 9) 16 dX8_isBlank_9 (by decide) (by omega) (by decide) (fun h_10 => ?_) (fun h_10 => ?_)
        · refine wp_iconst (pc := 16) dX8_isBlank_16 ?_
          refine wp_zret (pc := 17) dX8_isBlank_17 rfl rfl (by decide) ?_
          refine wp_eqst (st' := [vI 0]) rfl ?_
          refine wp_if_eq (pc := 22) 38 dX8_advance_22 (by decide) (by decide) (fun _ => ?_) (fun hh => absurd hh (by decide))
          refine wp_aload_n (pc := 38) 0 dX8_advance_38 rfl rfl ?_
          refine wp_aload_n (pc := 39) 0 dX8_advance_39 rfl rfl ?_
          refine wp_geti (pc := 40) dX8_advance_40 rfl f_X8_38 kd_41 la_41 (Or.inl rfl) ?_
          refine wp_eqst (st' := [vI ((tp b c : Nat) : Int), vR 41]) (by rw [q2]) ?_
          refine wp_puti (pc := 43) dX8_advance_43 rfl f_X8_52 kd_41 la_41 (fun _ h => by cases h; rfl) rfl ?_
          refine wp_aload_n (pc := 46) 0 dX8_advance_46 rfl rfl ?_
          refine wp_iconst (pc := 47) dX8_advance_47 ?_
          refine wp_puti (pc := 48) dX8_advance_48 rfl f_X8_55 kd_41 la_41 (fun _ h => by cases h; rfl) rfl ?_
          refine wp_aload_n (pc := 51) 0 dX8_advance_51 rfl rfl ?_
          refine wp_lconst (pc := 52) (z := 0) dX8_advance_52 rfl ?_
          refine wp_putl (pc := 53) dX8_advance_53 rfl f_X8_58 kd_41 la_41 (fun _ h => by cases h; rfl) rfl ?_
          refine wp_aload_n (pc := 56) 0 dX8_advance_56 rfl rfl ?_
          refine wp_aload_n (pc := 57) 0 dX8_advance_57 rfl rfl ?_
          refine wp_geti (pc := 58) dX8_advance_58 rfl f_X8_38 kd_41 la_41 (Or.inl rfl) ?_
          refine wp_eqst (st' := [vI ((tp b c : Nat) : Int), vR 41]) (by rw [up_j (by omega), up_j (by omega), q2]) ?_
          refine wp_callV (pc := 61) (st := []) (nf' := 153) [vI ((tp b c : Nat) : Int)] [some (vR 41), some (vI ((tp b c : Nat) : Int))] dX8_advance_61 rfl c_X8_44 rfl kd_41 (by decide) rfl la_41 rfl (Nat.le_of_ble_eq_true rfl) rfl (Nat.le_of_ble_eq_true rfl) (by omega) (Nat.le_refl _) (Nat.le_refl _) ?_
          refine sp_byteAt (tp b c) rfl (((hK.up (by decide)).up (by decide)).tb hB) (by omega) (by omega) ?_
          refine wp_eqst (st' := [vI (b (tp b c))]) rfl ?_
          refine wq_istore_n (pc := 64) 1 [some (vR 41), some (vI (b (tp b c)))] dX8_advance_64 rfl rfl (by decide) rfl ?_
          refine wp_iload_n (pc := 65) 1 dX8_advance_65 rfl rfl ?_
          refine wp_iconst (pc := 66) dX8_advance_66 ?_
          refine wp_icmp_ne (pc := 67) 78 dX8_advance_67 (by decide) (by omega) (by decide) (fun h_11 => ?_) (fun h_11 => ?_)
          · refine wp_iload_n (pc := 78) 1 dX8_advance_78 rfl rfl ?_
            refine wp_callS (pc := 79) (st := []) (nf' := 153) [vI (b (tp b c))] [some (vI (b (tp b c)))] dX8_advance_79 rfl c_X8_65 rfl rfl (Nat.le_of_ble_eq_true rfl) rfl (Nat.le_of_ble_eq_true rfl) (by omega) (Nat.le_refl _) (Nat.le_refl _) ?_
            refine wp_iload_n (pc := 0) 0 dX8_isLetter_0 rfl rfl ?_
            refine wp_bipush (pc := 1) dX8_isLetter_1 (by decide) ?_
            refine wp_icmp_lt (pc := 3) 16 dX8_isLetter_3 (by decide) (by omega) (by decide) (fun h_12 => ?_) (fun h_12 => ?_)
            · refine wp_iconst (pc := 16) dX8_isLetter_16 ?_
              refine wp_zret (pc := 17) dX8_isLetter_17 rfl rfl (by decide) ?_
              refine wp_eqst (st' := [vI 0]) rfl ?_
              refine wp_if_eq (pc := 82) 92 dX8_advance_82 (by decide) (by decide) (fun _ => ?_) (fun hh => absurd hh (by decide))
              refine wp_iload_n (pc := 92) 1 dX8_advance_92 rfl rfl ?_
              refine wp_callS (pc := 93) (st := []) (nf' := 153) [vI (b (tp b c))] [some (vI (b (tp b c)))] dX8_advance_93 rfl c_X8_71 rfl rfl (Nat.le_of_ble_eq_true rfl) rfl (Nat.le_of_ble_eq_true rfl) (by omega) (Nat.le_refl _) (Nat.le_refl _) ?_
              refine wp_iload_n (pc := 0) 0 dX8_isDigit_0 rfl rfl ?_
              refine wp_bipush (pc := 1) dX8_isDigit_1 (by decide) ?_
              refine wp_icmp_lt (pc := 3) 16 dX8_isDigit_3 (by decide) (by omega) (by decide) (fun h_13 => ?_) (fun h_13 => ?_)
              · refine wp_iconst (pc := 16) dX8_isDigit_16 ?_
                refine wp_zret (pc := 17) dX8_isDigit_17 rfl rfl (by decide) ?_
                refine wp_eqst (st' := [vI 0]) rfl ?_
                refine wp_if_eq (pc := 96) 106 dX8_advance_96 (by decide) (by decide) (fun _ => ?_) (fun hh => absurd hh (by decide))
                refine wp_aload_n (pc := 106) 0 dX8_advance_106 rfl rfl ?_
                refine wp_iload_n (pc := 107) 1 dX8_advance_107 rfl rfl ?_
                refine wp_callV (pc := 108) (st := []) (nf' := 153) [vI (b (tp b c))] [some (vR 41), some (vI (b (tp b c)))] dX8_advance_108 rfl c_X8_77 rfl kd_41 (by decide) rfl la_41 rfl (Nat.le_of_ble_eq_true rfl) rfl (Nat.le_of_ble_eq_true rfl) (by omega) (Nat.le_refl _) (Nat.le_refl _) ?_
                refine sp_takeSign (I := I) hB hc (by omega) (fun z => by have z1 : 97 ≤ b (tp b c) ∧ b (tp b c) ≤ 122 := z; omega) (fun z => by have z1 : 48 ≤ b (tp b c) ∧ b (tp b c) ≤ 57 := z; omega) (by rw [up_j (by omega), up_j (by omega), q2]) (by rw [up_j (by omega), up_s]) ((hK.up (by decide)).up (by decide)) upL_s (by omega) (fun J hJ hT => ?_)
                refine wp_eqst (st' := []) rfl ?_
                refine wp_vret (pc := 111) dX8_advance_111 rfl rfl ?_
                exact hQ J _ hJ La.refl.up hT
              · refine wp_iload_n (pc := 6) 0 dX8_isDigit_6 rfl rfl ?_
                refine wp_bipush (pc := 7) dX8_isDigit_7 (by decide) ?_
                refine wp_icmp_gt (pc := 9) 16 dX8_isDigit_9 (by decide) (by omega) (by decide) (fun h_14 => ?_) (fun h_14 => ?_)
                · refine wp_iconst (pc := 16) dX8_isDigit_16 ?_
                  refine wp_zret (pc := 17) dX8_isDigit_17 rfl rfl (by decide) ?_
                  refine wp_eqst (st' := [vI 0]) rfl ?_
                  refine wp_if_eq (pc := 96) 106 dX8_advance_96 (by decide) (by decide) (fun _ => ?_) (fun hh => absurd hh (by decide))
                  refine wp_aload_n (pc := 106) 0 dX8_advance_106 rfl rfl ?_
                  refine wp_iload_n (pc := 107) 1 dX8_advance_107 rfl rfl ?_
                  refine wp_callV (pc := 108) (st := []) (nf' := 153) [vI (b (tp b c))] [some (vR 41), some (vI (b (tp b c)))] dX8_advance_108 rfl c_X8_77 rfl kd_41 (by decide) rfl la_41 rfl (Nat.le_of_ble_eq_true rfl) rfl (Nat.le_of_ble_eq_true rfl) (by omega) (Nat.le_refl _) (Nat.le_refl _) ?_
                  refine sp_takeSign (I := I) hB hc (by omega) (fun z => by have z1 : 97 ≤ b (tp b c) ∧ b (tp b c) ≤ 122 := z; omega) (fun z => by have z1 : 48 ≤ b (tp b c) ∧ b (tp b c) ≤ 57 := z; omega) (by rw [up_j (by omega), up_j (by omega), q2]) (by rw [up_j (by omega), up_s]) ((hK.up (by decide)).up (by decide)) upL_s (by omega) (fun J hJ hT => ?_)
                  refine wp_eqst (st' := []) rfl ?_
                  refine wp_vret (pc := 111) dX8_advance_111 rfl rfl ?_
                  exact hQ J _ hJ La.refl.up hT
                · refine wp_iconst (pc := 12) dX8_isDigit_12 ?_
                  refine wp_goto (pc := 13) 17 dX8_isDigit_13 (by decide) ?_
                  refine wp_zret (pc := 17) dX8_isDigit_17 rfl rfl (by decide) ?_
                  refine wp_eqst (st' := [vI 1]) rfl ?_
                  refine wp_if_eq (pc := 96) 106 dX8_advance_96 (by decide) (by decide) (fun hh => absurd hh (by decide)) (fun _ => ?_)
                  refine wp_aload_n (pc := 99) 0 dX8_advance_99 rfl rfl ?_
                  refine wp_callV (pc := 100) (st := []) (nf' := 153) [] [some (vR 41)] dX8_advance_100 rfl c_X8_74 rfl kd_41 (by decide) rfl la_41 rfl (Nat.le_of_ble_eq_true rfl) rfl (Nat.le_of_ble_eq_true rfl) (by omega) (Nat.le_refl _) (Nat.le_refl _) ?_
                  refine lp_digits (I := I) hB hc (show isDg (b (tp b c)) from ⟨by omega, by omega⟩) (by omega) (fun J hJ hT => ?_) upL_s (tp b c) (Nat.le_refl _) (by have z := (dEnd_ok (g := I 42) (tp b c) hp2).1.1; rw [← hB.1] at z; exact z) (up (up K 41 5 ((tp b c : Nat) : Int)) 41 6 0) ((hK.up (by decide)).up (by decide)) (by rw [up_j (by omega), up_j (by omega), q2]) (by rw [up_j (by omega), up_s]) (by rw [show (up (up K 41 5 ((tp b c : Nat) : Int)) 41 6 0) 41 6 = 0 from (by rw [up_s])]; decide) (fun _ => by rw [show (up (up K 41 5 ((tp b c : Nat) : Int)) 41 6 0) 41 6 = 0 from (by rw [up_s]), Nat.sub_self]; rfl)
                  refine wp_eqst (st' := []) rfl ?_
                  refine wp_goto (pc := 103) 111 dX8_advance_103 (by decide) ?_
                  refine wp_vret (pc := 111) dX8_advance_111 rfl rfl ?_
                  exact hQ J _ hJ La.refl.up hT
            · refine wp_iload_n (pc := 6) 0 dX8_isLetter_6 rfl rfl ?_
              refine wp_bipush (pc := 7) dX8_isLetter_7 (by decide) ?_
              refine wp_icmp_gt (pc := 9) 16 dX8_isLetter_9 (by decide) (by omega) (by decide) (fun h_15 => ?_) (fun h_15 => ?_)
              · refine wp_iconst (pc := 16) dX8_isLetter_16 ?_
                refine wp_zret (pc := 17) dX8_isLetter_17 rfl rfl (by decide) ?_
                refine wp_eqst (st' := [vI 0]) rfl ?_
                refine wp_if_eq (pc := 82) 92 dX8_advance_82 (by decide) (by decide) (fun _ => ?_) (fun hh => absurd hh (by decide))
                refine wp_iload_n (pc := 92) 1 dX8_advance_92 rfl rfl ?_
                refine wp_callS (pc := 93) (st := []) (nf' := 153) [vI (b (tp b c))] [some (vI (b (tp b c)))] dX8_advance_93 rfl c_X8_71 rfl rfl (Nat.le_of_ble_eq_true rfl) rfl (Nat.le_of_ble_eq_true rfl) (by omega) (Nat.le_refl _) (Nat.le_refl _) ?_
                refine wp_iload_n (pc := 0) 0 dX8_isDigit_0 rfl rfl ?_
                refine wp_bipush (pc := 1) dX8_isDigit_1 (by decide) ?_
                refine wp_icmp_lt (pc := 3) 16 dX8_isDigit_3 (by decide) (by omega) (by decide) (fun h_16 => ?_) (fun h_16 => ?_)
                · refine wp_iconst (pc := 16) dX8_isDigit_16 ?_
                  refine wp_zret (pc := 17) dX8_isDigit_17 rfl rfl (by decide) ?_
                  refine wp_eqst (st' := [vI 0]) rfl ?_
                  refine wp_if_eq (pc := 96) 106 dX8_advance_96 (by decide) (by decide) (fun _ => ?_) (fun hh => absurd hh (by decide))
                  refine wp_aload_n (pc := 106) 0 dX8_advance_106 rfl rfl ?_
                  refine wp_iload_n (pc := 107) 1 dX8_advance_107 rfl rfl ?_
                  refine wp_callV (pc := 108) (st := []) (nf' := 153) [vI (b (tp b c))] [some (vR 41), some (vI (b (tp b c)))] dX8_advance_108 rfl c_X8_77 rfl kd_41 (by decide) rfl la_41 rfl (Nat.le_of_ble_eq_true rfl) rfl (Nat.le_of_ble_eq_true rfl) (by omega) (Nat.le_refl _) (Nat.le_refl _) ?_
                  refine sp_takeSign (I := I) hB hc (by omega) (fun z => by have z1 : 97 ≤ b (tp b c) ∧ b (tp b c) ≤ 122 := z; omega) (fun z => by have z1 : 48 ≤ b (tp b c) ∧ b (tp b c) ≤ 57 := z; omega) (by rw [up_j (by omega), up_j (by omega), q2]) (by rw [up_j (by omega), up_s]) ((hK.up (by decide)).up (by decide)) upL_s (by omega) (fun J hJ hT => ?_)
                  refine wp_eqst (st' := []) rfl ?_
                  refine wp_vret (pc := 111) dX8_advance_111 rfl rfl ?_
                  exact hQ J _ hJ La.refl.up hT
                · refine wp_iload_n (pc := 6) 0 dX8_isDigit_6 rfl rfl ?_
                  refine wp_bipush (pc := 7) dX8_isDigit_7 (by decide) ?_
                  refine wp_icmp_gt (pc := 9) 16 dX8_isDigit_9 (by decide) (by omega) (by decide) (fun h_17 => ?_) (fun h_17 => ?_)
                  · refine wp_iconst (pc := 16) dX8_isDigit_16 ?_
                    refine wp_zret (pc := 17) dX8_isDigit_17 rfl rfl (by decide) ?_
                    refine wp_eqst (st' := [vI 0]) rfl ?_
                    refine wp_if_eq (pc := 96) 106 dX8_advance_96 (by decide) (by decide) (fun _ => ?_) (fun hh => absurd hh (by decide))
                    refine wp_aload_n (pc := 106) 0 dX8_advance_106 rfl rfl ?_
                    refine wp_iload_n (pc := 107) 1 dX8_advance_107 rfl rfl ?_
                    refine wp_callV (pc := 108) (st := []) (nf' := 153) [vI (b (tp b c))] [some (vR 41), some (vI (b (tp b c)))] dX8_advance_108 rfl c_X8_77 rfl kd_41 (by decide) rfl la_41 rfl (Nat.le_of_ble_eq_true rfl) rfl (Nat.le_of_ble_eq_true rfl) (by omega) (Nat.le_refl _) (Nat.le_refl _) ?_
                    refine sp_takeSign (I := I) hB hc (by omega) (fun z => by have z1 : 97 ≤ b (tp b c) ∧ b (tp b c) ≤ 122 := z; omega) (fun z => by have z1 : 48 ≤ b (tp b c) ∧ b (tp b c) ≤ 57 := z; omega) (by rw [up_j (by omega), up_j (by omega), q2]) (by rw [up_j (by omega), up_s]) ((hK.up (by decide)).up (by decide)) upL_s (by omega) (fun J hJ hT => ?_)
                    refine wp_eqst (st' := []) rfl ?_
                    refine wp_vret (pc := 111) dX8_advance_111 rfl rfl ?_
                    exact hQ J _ hJ La.refl.up hT
                  · refine wp_iconst (pc := 12) dX8_isDigit_12 ?_
                    refine wp_goto (pc := 13) 17 dX8_isDigit_13 (by decide) ?_
                    refine wp_zret (pc := 17) dX8_isDigit_17 rfl rfl (by decide) ?_
                    refine wp_eqst (st' := [vI 1]) rfl ?_
                    refine wp_if_eq (pc := 96) 106 dX8_advance_96 (by decide) (by decide) (fun hh => absurd hh (by decide)) (fun _ => ?_)
                    refine wp_aload_n (pc := 99) 0 dX8_advance_99 rfl rfl ?_
                    refine wp_callV (pc := 100) (st := []) (nf' := 153) [] [some (vR 41)] dX8_advance_100 rfl c_X8_74 rfl kd_41 (by decide) rfl la_41 rfl (Nat.le_of_ble_eq_true rfl) rfl (Nat.le_of_ble_eq_true rfl) (by omega) (Nat.le_refl _) (Nat.le_refl _) ?_
                    refine lp_digits (I := I) hB hc (show isDg (b (tp b c)) from ⟨by omega, by omega⟩) (by omega) (fun J hJ hT => ?_) upL_s (tp b c) (Nat.le_refl _) (by have z := (dEnd_ok (g := I 42) (tp b c) hp2).1.1; rw [← hB.1] at z; exact z) (up (up K 41 5 ((tp b c : Nat) : Int)) 41 6 0) ((hK.up (by decide)).up (by decide)) (by rw [up_j (by omega), up_j (by omega), q2]) (by rw [up_j (by omega), up_s]) (by rw [show (up (up K 41 5 ((tp b c : Nat) : Int)) 41 6 0) 41 6 = 0 from (by rw [up_s])]; decide) (fun _ => by rw [show (up (up K 41 5 ((tp b c : Nat) : Int)) 41 6 0) 41 6 = 0 from (by rw [up_s]), Nat.sub_self]; rfl)
                    refine wp_eqst (st' := []) rfl ?_
                    refine wp_goto (pc := 103) 111 dX8_advance_103 (by decide) ?_
                    refine wp_vret (pc := 111) dX8_advance_111 rfl rfl ?_
                    exact hQ J _ hJ La.refl.up hT
              · refine wp_iconst (pc := 12) dX8_isLetter_12 ?_
                refine wp_goto (pc := 13) 17 dX8_isLetter_13 (by decide) ?_
                refine wp_zret (pc := 17) dX8_isLetter_17 rfl rfl (by decide) ?_
                refine wp_eqst (st' := [vI 1]) rfl ?_
                refine wp_if_eq (pc := 82) 92 dX8_advance_82 (by decide) (by decide) (fun hh => absurd hh (by decide)) (fun _ => ?_)
                refine wp_aload_n (pc := 85) 0 dX8_advance_85 rfl rfl ?_
                refine wp_callV (pc := 86) (st := []) (nf' := 153) [] [some (vR 41), none] dX8_advance_86 rfl c_X8_68 rfl kd_41 (by decide) rfl la_41 rfl (Nat.le_of_ble_eq_true rfl) rfl (Nat.le_of_ble_eq_true rfl) (by omega) (Nat.le_refl _) (Nat.le_refl _) ?_
                refine lp_letters (I := I) hB hc (by intro k hk; exact hsp2 k hk) (show isLt (b (tp b c)) from ⟨by omega, by omega⟩) (by omega) (fun J M hJ hM hT => ?_) (tp b c) (Nat.le_refl _) (by have z := (lEnd_ok (g := I 42) (tp b c) hp2).1.1; rw [← hB.1] at z; exact z) (up (up K 41 5 ((tp b c : Nat) : Int)) 41 6 0) (upL L 41 7 0) ((hK.up (by decide)).up (by decide)) La.refl (by rw [up_j (by omega), up_j (by omega), q2]) (by rw [up_j (by omega), up_s]) (by rw [up_s]) (by rw [upL_s]; decide) (fun _ => by rw [upL_s, Nat.sub_self]; rfl)
                refine wp_eqst (st' := []) rfl ?_
                refine wp_goto (pc := 89) 111 dX8_advance_89 (by decide) ?_
                refine wp_vret (pc := 111) dX8_advance_111 rfl rfl ?_
                exact hQ J _ hJ (La.refl.up.trans hM) hT
          · refine wp_aload_n (pc := 70) 0 dX8_advance_70 rfl rfl ?_
            refine wp_iconst (pc := 71) dX8_advance_71 ?_
            refine wp_puti (pc := 72) dX8_advance_72 rfl f_X8_62 kd_41 la_41 (fun _ h => by cases h; rfl) rfl ?_
            refine wp_goto (pc := 75) 111 dX8_advance_75 (by decide) ?_
            refine wp_vret (pc := 111) dX8_advance_111 rfl rfl ?_
            have tk := tk_end (b := b) (c := c) (by omega)
            refine hQ _ _ (((hK.up (by decide)).up (by decide)).up (by decide)) La.refl.up ⟨by rw [up_s, (kC_ts b c).1.mpr tk.1], by rw [up_j (by decide), up_j (by decide), up_s], ⟨by rw [up_j (by decide), up_s]; decide, fun _ => ?_⟩, fun _ => by rw [up_j (by decide), up_j (by decide), up_j (by decide), tk.2]; exact q2, by rw [upL_s]; decide, fun z => by have := tk.1; omega⟩
            rw [up_j (by decide), up_s, vC_s (by have := tk.1; omega) (by have := tk.1; omega), tk.1]
        · refine wp_iconst (pc := 12) dX8_isBlank_12 ?_
          refine wp_goto (pc := 13) 17 dX8_isBlank_13 (by decide) ?_
          refine wp_zret (pc := 17) dX8_isBlank_17 rfl rfl (by decide) ?_
          refine wp_eqst (st' := [vI 1]) rfl ?_
          refine wp_if_eq (pc := 22) 38 dX8_advance_22 (by decide) (by decide) (fun hh => absurd hh (by decide)) (fun _ => ?_)
          exact absurd (show isBl (b (tp b c)) by first | exact Or.inl (by omega) | exact Or.inr (by omega)) hp.1.2.2
  · intro K hK q2
    have hBK := hK.tb hB
    have k3 := hBK.2.1
    have bl : isBl (b i) := hp.1.2.1 i hi0 hi
    have bl1 : b i = 32 ∨ b i = 10 := bl
    refine wp_aload_n (pc := 0) 0 dX8_advance_0 rfl rfl ?_
    refine wp_geti (pc := 1) dX8_advance_1 rfl f_X8_38 kd_41 la_41 (Or.inl rfl) ?_
    refine wp_eqst (st' := [vI ((i : Nat) : Int)]) (by rw [q2]) ?_
    refine wp_aload_n (pc := 4) 0 dX8_advance_4 rfl rfl ?_
    refine wp_geti (pc := 5) dX8_advance_5 rfl f_X8_35 kd_41 la_41 (Or.inl rfl) ?_
    refine wp_eqst (st' := [vI (n : Int), vI ((i : Nat) : Int)]) (by rw [k3]) ?_
    refine wp_icmp_ge (pc := 8) 38 dX8_advance_8 (by decide) (by omega) (by omega) (fun h_1 => ?_) (fun h_1 => ?_)
    · exfalso; omega
    · refine wp_aload_n (pc := 11) 0 dX8_advance_11 rfl rfl ?_
      refine wp_aload_n (pc := 12) 0 dX8_advance_12 rfl rfl ?_
      refine wp_geti (pc := 13) dX8_advance_13 rfl f_X8_38 kd_41 la_41 (Or.inl rfl) ?_
      refine wp_eqst (st' := [vI ((i : Nat) : Int), vR 41]) (by rw [q2]) ?_
      refine wp_callV (pc := 16) (st := []) (nf' := 153) [vI ((i : Nat) : Int)] [some (vR 41), some (vI ((i : Nat) : Int))] dX8_advance_16 rfl c_X8_44 rfl kd_41 (by decide) rfl la_41 rfl (Nat.le_of_ble_eq_true rfl) rfl (Nat.le_of_ble_eq_true rfl) (by omega) (Nat.le_refl _) (Nat.le_refl _) ?_
      refine sp_byteAt i rfl hBK (by omega) (by omega) ?_
      refine wp_eqst (st' := [vI (b i)]) rfl ?_
      refine wp_callS (pc := 19) (st := []) (nf' := 153) [vI (b i)] [some (vI (b i))] dX8_advance_19 rfl c_X8_48 rfl rfl (Nat.le_of_ble_eq_true rfl) rfl (Nat.le_of_ble_eq_true rfl) (by omega) (Nat.le_refl _) (Nat.le_refl _) ?_
      refine wp_iload_n (pc := 0) 0 dX8_isBlank_0 rfl rfl ?_
      refine wp_bipush (pc := 1) dX8_isBlank_1 (by decide) ?_
      refine wp_icmp_eq (pc := 3) 12 dX8_isBlank_3 (by decide) (by omega) (by decide) (fun h_2 => ?_) (fun h_2 => ?_)
      · refine wp_iconst (pc := 12) dX8_isBlank_12 ?_
        refine wp_goto (pc := 13) 17 dX8_isBlank_13 (by decide) ?_
        refine wp_zret (pc := 17) dX8_isBlank_17 rfl rfl (by decide) ?_
        refine wp_eqst (st' := [vI 1]) rfl ?_
        refine wp_if_eq (pc := 22) 38 dX8_advance_22 (by decide) (by decide) (fun hh => absurd hh (by decide)) (fun _ => ?_)
        refine wp_aload_n (pc := 25) 0 dX8_advance_25 rfl rfl ?_
        refine wp_dup (pc := 26) dX8_advance_26 rfl ?_
        refine wp_geti (pc := 27) dX8_advance_27 rfl f_X8_38 kd_41 la_41 (Or.inl rfl) ?_
        refine wp_eqst (st' := [vI ((i : Nat) : Int), vR 41]) (by rw [q2]) ?_
        refine wp_iconst (pc := 30) dX8_advance_30 ?_
        refine wp_iadd (pc := 31) dX8_advance_31 ?_
        refine wp_puti (pc := 32) dX8_advance_32 rfl f_X8_38 kd_41 la_41 (fun _ h => by cases h; rfl) rfl ?_
        refine wp_goto (pc := 35) 0 dX8_advance_35 (by decide) ?_
        exact ih (up K 41 2 (((i : Nat) : Int) + 1)) (hK.up (by decide)) (by rw [up_s]; rfl)
      · refine wp_iload_n (pc := 6) 0 dX8_isBlank_6 rfl rfl ?_
        refine wp_bipush (pc := 7) dX8_isBlank_7 (by decide) ?_
        refine wp_icmp_ne (pc := 9) 16 dX8_isBlank_9 (by decide) (by omega) (by decide) (fun h_3 => ?_) (fun h_3 => ?_)
        · refine wp_iconst (pc := 16) dX8_isBlank_16 ?_
          refine wp_zret (pc := 17) dX8_isBlank_17 rfl rfl (by decide) ?_
          refine wp_eqst (st' := [vI 0]) rfl ?_
          refine wp_if_eq (pc := 22) 38 dX8_advance_22 (by decide) (by decide) (fun _ => ?_) (fun hh => absurd hh (by decide))
          exfalso; omega
        · refine wp_iconst (pc := 12) dX8_isBlank_12 ?_
          refine wp_goto (pc := 13) 17 dX8_isBlank_13 (by decide) ?_
          refine wp_zret (pc := 17) dX8_isBlank_17 rfl rfl (by decide) ?_
          refine wp_eqst (st' := [vI 1]) rfl ?_
          refine wp_if_eq (pc := 22) 38 dX8_advance_22 (by decide) (by decide) (fun hh => absurd hh (by decide)) (fun _ => ?_)
          refine wp_aload_n (pc := 25) 0 dX8_advance_25 rfl rfl ?_
          refine wp_dup (pc := 26) dX8_advance_26 rfl ?_
          refine wp_geti (pc := 27) dX8_advance_27 rfl f_X8_38 kd_41 la_41 (Or.inl rfl) ?_
          refine wp_eqst (st' := [vI ((i : Nat) : Int), vR 41]) (by rw [q2]) ?_
          refine wp_iconst (pc := 30) dX8_advance_30 ?_
          refine wp_iadd (pc := 31) dX8_advance_31 ?_
          refine wp_puti (pc := 32) dX8_advance_32 rfl f_X8_38 kd_41 la_41 (fun _ h => by cases h; rfl) rfl ?_
          refine wp_goto (pc := 35) 0 dX8_advance_35 (by decide) ?_
          exact ih (up K 41 2 (((i : Nat) : Int) + 1)) (hK.up (by decide)) (by rw [up_s]; rfl)

theorem sp_advance {l : Launch} {G : mG} {d : Nat} {I : mI} {L : Nat → Nat → Int} {D : Nat → Nat} {Q : mQ} {b : Nat → Int} {n : Nat} {c : Nat} (hB : TBk I b n) (hc : c ≤ n) (hsp : ∀ k, k < 21 → L 43 k = W5 k) (q2 : I 41 2 = (c : Int)) (hd : 6 ≤ d) (hQ : ∀ J M, Fa I J → La L M → TKC J M b c → Q none J (XX M D)) : WP l G m_X8_advance d 153 I (XX L D) 0 [some (vR 41), none] [] Q := by
  have hp := (tp_ok (g := I 42) hc).1.1
  rw [← hB.1] at hp
  exact lp_advance hB hc hsp hd hQ c (Nat.le_refl c) hp I Fa.refl q2

theorem sp_isWord {l : Launch} {G : mG} {d : Nat} {I : mI} {L : Nat → Nat → Int} {D : Nat → Nat} {Q : mQ} {b : Nat → Int} {c : Nat} {w : Int}  (hT : TKC I L b c) (hw : 0 ≤ w ∧ w ≤ 20) (hd : 0 ≤ d) (h1 : wi b c = w → Q (some (vI 1)) I (XX L D)) (h0 : ¬ (wi b c = w) → Q (some (vI 0)) I (XX L D)) : WP l G m_X8_isWord d 153 I (XX L D) 0 [some (vR 41), some (vI w)] [] Q := by
  have k4 := hT.1
  have k6 := hT.2.2.1.1
  have k7 := hT.2.2.1.2
  have kt := kC_ts b c
  have kw := wi_in b c
  have ki := kC_in b c
  have kv : ¬ wi b c = -1 → vC b c = wi b c := fun z => by rw [vC_w (wi_ts z), if_neg z]
  have kx := @wi_ts b c
  refine wp_aload_n (pc := 0) 0 dX8_isWord_0 rfl rfl ?_
  refine wp_geti (pc := 1) dX8_isWord_1 rfl f_X8_62 kd_41 la_41 (Or.inl rfl) ?_
  refine wp_eqst (st' := [vI (kC b c)]) (by rw [k4]) ?_
  refine wp_iconst (pc := 4) dX8_isWord_4 ?_
  refine wp_icmp_ne (pc := 5) 20 dX8_isWord_5 (by decide) (by omega) (by decide) (fun h_1 => ?_) (fun h_1 => ?_)
  · refine wp_iconst (pc := 20) dX8_isWord_20 ?_
    refine wp_zret (pc := 21) dX8_isWord_21 rfl rfl (by decide) ?_
    exact h0 (by omega)
  · refine wp_aload_n (pc := 8) 0 dX8_isWord_8 rfl rfl ?_
    refine wp_geti (pc := 9) dX8_isWord_9 rfl f_X8_55 kd_41 la_41 (Or.inl rfl) ?_
    refine wp_iload_n (pc := 12) 1 dX8_isWord_12 rfl rfl ?_
    refine wp_icmp_ne (pc := 13) 20 dX8_isWord_13 (by decide) (by omega) (by omega) (fun h_2 => ?_) (fun h_2 => ?_)
    · refine wp_iconst (pc := 20) dX8_isWord_20 ?_
      refine wp_zret (pc := 21) dX8_isWord_21 rfl rfl (by decide) ?_
      exact h0 (by omega)
    · refine wp_iconst (pc := 16) dX8_isWord_16 ?_
      refine wp_goto (pc := 17) 21 dX8_isWord_17 (by decide) ?_
      refine wp_zret (pc := 21) dX8_isWord_21 rfl rfl (by decide) ?_
      exact h1 (by omega)

theorem sp_isSign {l : Launch} {G : mG} {d : Nat} {I : mI} {L : Nat → Nat → Int} {D : Nat → Nat} {Q : mQ} {b : Nat → Int} {c : Nat} {w : Int}  (hT : TKC I L b c) (hw : (w = 59 ∨ w = 40 ∨ w = 41 ∨ w = 60 ∨ w = 62 ∨ w = 61 ∨ w = 43 ∨ w = 45 ∨ w = 42 ∨ w = 47 ∨ w = 37)) (hd : 0 ≤ d) (h1 : ts b c = w → Q (some (vI 1)) I (XX L D)) (h0 : ¬ (ts b c = w) → Q (some (vI 0)) I (XX L D)) : WP l G m_X8_isSign d 153 I (XX L D) 0 [some (vR 41), some (vI w)] [] Q := by
  have k4 := hT.1
  have k6 := hT.2.2.1.1
  have k7 := hT.2.2.1.2
  have kt := kC_ts b c
  have ki := kC_in b c
  have kr := ts_rng b c
  have kv : ts b c ≠ 2 → ts b c ≠ 1 → vC b c = ts b c := vC_s
  refine wp_aload_n (pc := 0) 0 dX8_isSign_0 rfl rfl ?_
  refine wp_geti (pc := 1) dX8_isSign_1 rfl f_X8_62 kd_41 la_41 (Or.inl rfl) ?_
  refine wp_eqst (st' := [vI (kC b c)]) (by rw [k4]) ?_
  refine wp_iconst (pc := 4) dX8_isSign_4 ?_
  refine wp_icmp_ne (pc := 5) 20 dX8_isSign_5 (by decide) (by omega) (by decide) (fun h_1 => ?_) (fun h_1 => ?_)
  · refine wp_iconst (pc := 20) dX8_isSign_20 ?_
    refine wp_zret (pc := 21) dX8_isSign_21 rfl rfl (by decide) ?_
    exact h0 (by omega)
  · refine wp_aload_n (pc := 8) 0 dX8_isSign_8 rfl rfl ?_
    refine wp_geti (pc := 9) dX8_isSign_9 rfl f_X8_55 kd_41 la_41 (Or.inl rfl) ?_
    refine wp_iload_n (pc := 12) 1 dX8_isSign_12 rfl rfl ?_
    refine wp_icmp_ne (pc := 13) 20 dX8_isSign_13 (by decide) (by omega) (by omega) (fun h_2 => ?_) (fun h_2 => ?_)
    · refine wp_iconst (pc := 20) dX8_isSign_20 ?_
      refine wp_zret (pc := 21) dX8_isSign_21 rfl rfl (by decide) ?_
      exact h0 (by omega)
    · refine wp_iconst (pc := 16) dX8_isSign_16 ?_
      refine wp_goto (pc := 17) 21 dX8_isSign_17 (by decide) ?_
      refine wp_zret (pc := 21) dX8_isSign_21 rfl rfl (by decide) ?_
      exact h1 (by omega)
