/-! the reference's tokens -/
def RBk (I : mI) (b : Nat → Int) (g : Nat → Int) (n : Nat) : Prop := b = bOf g n ∧ (∀ j, I 112 j = g j % 256) ∧ I 111 5 = (n : Int) ∧ n ≤ 1600
/-- all but what token() writes is as it was -/
def Fb (I J : mI) : Prop := (∀ b, b ≠ 111 → J b = I b) ∧ ∀ j, j ≠ 4 → j ≠ 6 → j ≠ 7 → j ≠ 8 → J 111 j = I 111 j
theorem Fb.refl {I : mI} : Fb I I := ⟨fun _ _ => rfl, fun _ _ _ _ _ => rfl⟩
theorem Fb.trans {I J K : mI} (h : Fb I J) (h2 : Fb J K) : Fb I K := ⟨fun b g => (h2.1 b g).trans (h.1 b g), fun j a1 a2 a3 a4 => (h2.2 j a1 a2 a3 a4).trans (h.2 j a1 a2 a3 a4)⟩
theorem Fb.up {I J : mI} {j : Nat} {v : Int} (h : Fb I J) (hj : j = 4 ∨ j = 6 ∨ j = 7 ∨ j = 8) : Fb I (up J 111 j v) := ⟨fun b g => (funext fun k => up_c g).trans (h.1 b g), fun k a1 a2 a3 a4 => (up_j (by omega)).trans (h.2 k a1 a2 a3 a4)⟩
theorem Fb.tb {I J : mI} {b g : Nat → Int} {n : Nat} (h : Fb I J) (hB : RBk I b g n) : RBk J b g n := ⟨hB.1, by rw [h.1 112 (by decide)]; exact hB.2.1, (h.2 5 (by decide) (by decide) (by decide) (by decide)).trans hB.2.2.1, hB.2.2.2⟩
def Lb (L K : Nat → Nat → Int) : Prop := ∀ a, a ≠ 111 → K a = L a
theorem Lb.refl {L : Nat → Nat → Int} : Lb L L := fun _ _ => rfl
theorem Lb.trans {L K M : Nat → Nat → Int} (h : Lb L K) (h2 : Lb K M) : Lb L M := fun a g => (h2 a g).trans (h a g)
theorem Lb.up {L K : Nat → Nat → Int} {j : Nat} {v : Int} (h : Lb L K) : Lb L (upL K 111 j v) := fun a g => (funext fun k => if_neg (fun z => g z.1)).trans (h a g)
/-- the reference stands at the token that is met from c on -/
def TKR (I : mI) (L : Nat → Nat → Int) (b : Nat → Int) (c : Nat) : Prop := I 111 6 = ts b c ∧ I 111 7 = ((tp b c : Nat) : Int) ∧ (inR (I 111 8) ∧ (ts b c = 2 → I 111 8 = tn b c)) ∧ (ts b c ≠ 3 → I 111 4 = ((te b c : Nat) : Int)) ∧ (inL (L 111 9) ∧ (ts b c = 1 → L 111 9 = w8 b c))
theorem w64_step (x y : Int) : w64 (w64 x * 2 ^ 8 + y) = w64 (x * 256 + y) := by
  show (Int64.ofInt _).toInt = (Int64.ofInt _).toInt
  rw [Int64.ofInt_add, Int64.ofInt_mul, show Int64.ofInt (w64 x) = Int64.ofInt x from Int64.ofInt_toInt _, ← Int64.ofInt_mul, ← Int64.ofInt_add]
  rfl
abbrev mn8 (k : Nat) : Nat := if k ≤ 8 then k else 8
abbrev mn4 (k : Nat) : Nat := if k ≤ 4 then k else 4

theorem rs_here {l : Launch} {G : mG} {d : Nat} {I : mI} {L : Nat → Nat → Int} {D : Nat → Nat} {Q : mQ} {b g : Nat → Int} {n : Nat} {a : Nat} (k : Nat) {k_ : Int} (hk_ : k_ = (k : Int)) (hB : RBk I b g n) (ha : I 111 4 = (a : Int)) (h9 : a + k ≤ 100000) (hd : 0 ≤ d) (hQ : Q (some (vI (b (a + k)))) I (XX L D)) : WP l G m_X11_here d 153 I (XX L D) 0 [some (vR 111), some (vI k_)] [] Q := by
  subst hk_
  have e3 := hB.2.2.1
  have e4 := hB.2.2.2
  have e5 := hB.2.1
  refine wp_aload_n (pc := 0) 0 dX11_here_0 rfl rfl ?_
  refine wp_geti (pc := 1) dX11_here_1 rfl f_X11_152 kd_111 la_111 (Or.inl rfl) ?_
  refine wp_eqst (st' := [vI ((a : Nat) : Int)]) (by rw [ha]) ?_
  refine wp_iload_n (pc := 4) 1 dX11_here_4 rfl rfl ?_
  refine wp_iadd (pc := 5) dX11_here_5 ?_
  refine wp_aload_n (pc := 6) 0 dX11_here_6 rfl rfl ?_
  refine wp_geti (pc := 7) dX11_here_7 rfl f_X11_155 kd_111 la_111 (Or.inl rfl) ?_
  refine wp_eqst (st' := [vI (n : Int), vI (((a : Nat) : Int) + (k : Int))]) (by rw [e3]) ?_
  refine wp_icmp_ge (pc := 10) 27 dX11_here_10 (by decide) (by omega) (by omega) (fun h_1 => ?_) (fun h_1 => ?_)
  · refine wp_iconst (pc := 27) dX11_here_27 ?_
    refine wp_iret (pc := 28) dX11_here_28 rfl rfl ?_
    have e := bOf_ge (g := g) (n := n) (j := a + k) (by omega); rw [hB.1, e] at hQ; exact hQ
  · refine wp_aload_n (pc := 13) 0 dX11_here_13 rfl rfl ?_
    refine wp_getr (pc := 14) dX11_here_14 rfl f_X11_7 kd_111 la_111 rfl (r_111_0 D) ?_
    refine wp_aload_n (pc := 17) 0 dX11_here_17 rfl rfl ?_
    refine wp_geti (pc := 18) dX11_here_18 rfl f_X11_152 kd_111 la_111 (Or.inl rfl) ?_
    refine wp_eqst (st' := [vI ((a : Nat) : Int), vR 112]) (by rw [ha]) ?_
    refine wp_iload_n (pc := 21) 1 dX11_here_21 rfl rfl ?_
    refine wp_iadd (pc := 22) dX11_here_22 ?_
    refine wq_iald (pc := 23) (a + k) dX11_here_23 kd_112 la_112 (by omega) (by omega) ?_
    refine wp_goto (pc := 24) 28 dX11_here_24 (by decide) ?_
    refine wp_iret (pc := 28) dX11_here_28 rfl rfl ?_
    have e := bOf_lt (g := g) (n := n) (j := a + k) (by omega); rw [hB.1, e, ← e5] at hQ; exact hQ

theorem lp_tkend {l : Launch} {G : mG} {d : Nat} {I : mI} {L : Nat → Nat → Int} {D : Nat → Nat} {Q : mQ} {b g : Nat → Int} {n : Nat} {c k : Nat} {K : mI} (hB : RBk I b g n) (hc : c ≤ n) (hK : Fb I K) (q6 : K 111 6 = ts b c) (q7 : K 111 7 = ((tp b c : Nat) : Int)) (q8 : inR (K 111 8) ∧ (ts b c = 2 → K 111 8 = tn b c)) (q4 : K 111 4 = ((tp b c : Nat) : Int)) (hk : ts b c ≠ 3 → tp b c + k = te b c) (q9 : inL (L 111 9) ∧ (ts b c = 1 → L 111 9 = w8 b c)) (hQ : ∀ J M, Fb I J → Lb L M → TKR J M b c → Q none J (XX M D)) : WP l G m_X11_token d 153 K (XX L D) 232 [some (vR 111), none, some (vI (k : Int))] [] Q := by
  have kr := ts_rng b c
  refine wp_aload_n (pc := 232) 0 dX11_token_232 rfl rfl ?_
  refine wp_geti (pc := 233) dX11_token_233 rfl f_X11_172 kd_111 la_111 (Or.inl rfl) ?_
  refine wp_eqst (st' := [vI (ts b c)]) (by rw [q6]) ?_
  refine wp_iconst (pc := 236) dX11_token_236 ?_
  refine wp_icmp_eq (pc := 237) 250 dX11_token_237 (by decide) (by omega) (by decide) (fun h_1 => ?_) (fun h_1 => ?_)
  · refine wp_vret (pc := 250) dX11_token_250 rfl rfl ?_
    exact hQ _ L hK Lb.refl ⟨q6, q7, q8, fun z => by omega, q9⟩
  · refine wp_aload_n (pc := 240) 0 dX11_token_240 rfl rfl ?_
    refine wp_dup (pc := 241) dX11_token_241 rfl ?_
    refine wp_geti (pc := 242) dX11_token_242 rfl f_X11_152 kd_111 la_111 (Or.inl rfl) ?_
    refine wp_eqst (st' := [vI ((tp b c : Nat) : Int), vR 111]) (by rw [q4]) ?_
    refine wp_iload_n (pc := 245) 2 dX11_token_245 rfl rfl ?_
    refine wp_iadd (pc := 246) dX11_token_246 ?_
    refine wp_puti (pc := 247) dX11_token_247 rfl f_X11_152 kd_111 la_111 (fun _ h => by cases h; rfl) rfl ?_
    refine wp_vret (pc := 250) dX11_token_250 rfl rfl ?_
    exact hQ _ L (hK.up (by decide)) Lb.refl ⟨by rw [up_j (by decide)]; exact q6, by rw [up_j (by decide)]; exact q7, by rw [up_j (by decide)]; exact q8, fun z => by rw [up_s, ← hk z]; push_cast; rfl, q9⟩

theorem rl_letters {l : Launch} {G : mG} {d : Nat} {I : mI} {L0 : Nat → Nat → Int} {D : Nat → Nat} {Q : mQ} {b g : Nat → Int} {n : Nat} {c : Nat} (hB : RBk I b g n) (hc : c ≤ n) (hlt : isLt (b (tp b c))) (hd : 1 ≤ d) (hQ : ∀ J M, Fb I J → Lb L0 M → TKR J M b c → Q none J (XX M D)) : ∀ i : Nat, i ≤ lEnd b (tp b c) - tp b c → ∀ (K : mI) (L : Nat → Nat → Int), Fb I K → Lb L0 L → K 111 4 = ((tp b c : Nat) : Int) → K 111 7 = ((tp b c : Nat) : Int) → K 111 8 = 0 → L 111 9 = w64 (enc8 b (tp b c) (mn8 i)) → WP l G m_X11_token d 153 K (XX L D) 78 [some (vR 111), none, some (vI (i : Int))] [] Q := by
  have e3 := hB.2.2.1
  have e4 := hB.2.2.2
  have hp := tp_ok (g := g) hc
  rw [← hB.1] at hp
  have hp1 := hp.1.1
  have hp2 := hp.2
  have hl := lEnd_ok (g := g) (tp b c) hp.2
  rw [← hB.1] at hl
  have hl1 := hl.1.1
  have hl2 := hl.2
  have tk := tk_word hlt
  refine loop_dn (fun i => ∀ (K : mI) (L : Nat → Nat → Int), Fb I K → Lb L0 L → K 111 4 = ((tp b c : Nat) : Int) → K 111 7 = ((tp b c : Nat) : Int) → K 111 8 = 0 → L 111 9 = w64 (enc8 b (tp b c) (mn8 i)) → WP l G m_X11_token d 153 K (XX L D) 78 [some (vR 111), none, some (vI (i : Int))] [] Q) (lEnd b (tp b c) - tp b c) ?_ (fun i hi ih => ?_)
  · intro K L hK hM q4 q7 q8 q9
    have hBK := hK.tb hB
    have bi := bOf_in g n (tp b c + (lEnd b (tp b c) - tp b c))
    rw [← hB.1] at bi
    refine wp_aload_n (pc := 78) 0 dX11_token_78 rfl rfl ?_
    refine wp_iload_n (pc := 79) 2 dX11_token_79 rfl rfl ?_
    refine wp_callV (pc := 80) (st := []) (nf' := 153) [vI (((lEnd b (tp b c) - tp b c) : Nat) : Int)] [some (vR 111), some (vI (((lEnd b (tp b c) - tp b c) : Nat) : Int))] dX11_token_80 rfl c_X11_158 rfl kd_111 (by decide) rfl la_111 rfl (Nat.le_of_ble_eq_true rfl) rfl (Nat.le_of_ble_eq_true rfl) (by omega) (Nat.le_refl _) (Nat.le_refl _) ?_
    refine rs_here (lEnd b (tp b c) - tp b c) rfl (a := tp b c) hBK (by rw [q4]) (by omega) (by omega) ?_
    refine wp_eqst (st' := [vI (b (tp b c + (lEnd b (tp b c) - tp b c)))]) rfl ?_
    refine wp_callS (pc := 83) (st := []) (nf' := 153) [vI (b (tp b c + (lEnd b (tp b c) - tp b c)))] [some (vI (b (tp b c + (lEnd b (tp b c) - tp b c))))] dX11_token_83 rfl c_X11_175 rfl rfl (Nat.le_of_ble_eq_true rfl) rfl (Nat.le_of_ble_eq_true rfl) (by omega) (Nat.le_refl _) (Nat.le_refl _) ?_
    refine wp_iload_n (pc := 0) 0 dX11_isLetter_0 rfl rfl ?_
    refine wp_bipush (pc := 1) dX11_isLetter_1 (by decide) ?_
    refine wp_icmp_lt (pc := 3) 16 dX11_isLetter_3 (by decide) (by omega) (by decide) (fun h_1 => ?_) (fun h_1 => ?_)
    · refine wp_iconst (pc := 16) dX11_isLetter_16 ?_
      refine wp_zret (pc := 17) dX11_isLetter_17 rfl rfl (by decide) ?_
      refine wp_eqst (st' := [vI 0]) rfl ?_
      refine wp_if_eq (pc := 86) 119 dX11_token_86 (by decide) (by decide) (fun _ => ?_) (fun hh => absurd hh (by decide))
      refine wp_aload_n (pc := 119) 0 dX11_token_119 rfl rfl ?_
      refine wp_iload_n (pc := 120) 2 dX11_token_120 rfl rfl ?_
      refine wp_bipush (pc := 121) dX11_token_121 (by decide) ?_
      refine wp_icmp_le (pc := 123) 130 dX11_token_123 (by decide) (by omega) (by decide) (fun h_2 => ?_) (fun h_2 => ?_)
      · refine wp_iconst (pc := 130) dX11_token_130 ?_
        refine wp_puti (pc := 131) dX11_token_131 rfl f_X11_172 kd_111 la_111 (fun _ h => by cases h; rfl) rfl ?_
        refine wp_goto (pc := 134) 232 dX11_token_134 (by decide) ?_
        have t1 : ts b c = 1 := tk.2.2 (by omega)
        refine lp_tkend (I := I) (k := lEnd b (tp b c) - tp b c) hB hc (hK.up (by decide)) (by rw [up_s, t1]) (by rw [up_j (by decide)]; exact q7) ⟨by rw [up_j (by decide), q8]; decide, fun z => by omega⟩ (by rw [up_j (by decide)]; exact q4) (fun _ => by rw [tk.1]; omega) ⟨by rw [q9]; exact w64_in _, fun z => ?_⟩ (fun J M hJ hM2 hT => hQ J M hJ (hM.trans hM2) hT)
        have z5 := w5_in (g := g) hc (by rw [← hB.1]; exact t1)
        rw [← hB.1] at z5
        have e8 : w8 b c = enc8 b (tp b c) (mn8 (lEnd b (tp b c) - tp b c)) := by unfold w8; rw [tk.1, show mn8 (lEnd b (tp b c) - tp b c) = lEnd b (tp b c) - tp b c from if_pos (by omega)]
        rw [q9, ← e8]; exact w64_of ⟨by omega, by omega⟩
      · refine wp_iconst (pc := 126) dX11_token_126 ?_
        refine wp_goto (pc := 127) 131 dX11_token_127 (by decide) ?_
        refine wp_puti (pc := 131) dX11_token_131 rfl f_X11_172 kd_111 la_111 (fun _ h => by cases h; rfl) rfl ?_
        refine wp_goto (pc := 134) 232 dX11_token_134 (by decide) ?_
        have t1 : ts b c = 3 := tk.2.1 (by omega)
        refine lp_tkend (I := I) (k := lEnd b (tp b c) - tp b c) hB hc (hK.up (by decide)) (by rw [up_s, t1]) (by rw [up_j (by decide)]; exact q7) ⟨by rw [up_j (by decide), q8]; decide, fun z => by omega⟩ (by rw [up_j (by decide)]; exact q4) (fun _ => by rw [tk.1]; omega) ⟨by rw [q9]; exact w64_in _, fun z => ?_⟩ (fun J M hJ hM2 hT => hQ J M hJ (hM.trans hM2) hT)
        omega
    · refine wp_iload_n (pc := 6) 0 dX11_isLetter_6 rfl rfl ?_
      refine wp_bipush (pc := 7) dX11_isLetter_7 (by decide) ?_
      refine wp_icmp_gt (pc := 9) 16 dX11_isLetter_9 (by decide) (by omega) (by decide) (fun h_3 => ?_) (fun h_3 => ?_)
      · refine wp_iconst (pc := 16) dX11_isLetter_16 ?_
        refine wp_zret (pc := 17) dX11_isLetter_17 rfl rfl (by decide) ?_
        refine wp_eqst (st' := [vI 0]) rfl ?_
        refine wp_if_eq (pc := 86) 119 dX11_token_86 (by decide) (by decide) (fun _ => ?_) (fun hh => absurd hh (by decide))
        refine wp_aload_n (pc := 119) 0 dX11_token_119 rfl rfl ?_
        refine wp_iload_n (pc := 120) 2 dX11_token_120 rfl rfl ?_
        refine wp_bipush (pc := 121) dX11_token_121 (by decide) ?_
        refine wp_icmp_le (pc := 123) 130 dX11_token_123 (by decide) (by omega) (by decide) (fun h_4 => ?_) (fun h_4 => ?_)
        · refine wp_iconst (pc := 130) dX11_token_130 ?_
          refine wp_puti (pc := 131) dX11_token_131 rfl f_X11_172 kd_111 la_111 (fun _ h => by cases h; rfl) rfl ?_
          refine wp_goto (pc := 134) 232 dX11_token_134 (by decide) ?_
          have t1 : ts b c = 1 := tk.2.2 (by omega)
          refine lp_tkend (I := I) (k := lEnd b (tp b c) - tp b c) hB hc (hK.up (by decide)) (by rw [up_s, t1]) (by rw [up_j (by decide)]; exact q7) ⟨by rw [up_j (by decide), q8]; decide, fun z => by omega⟩ (by rw [up_j (by decide)]; exact q4) (fun _ => by rw [tk.1]; omega) ⟨by rw [q9]; exact w64_in _, fun z => ?_⟩ (fun J M hJ hM2 hT => hQ J M hJ (hM.trans hM2) hT)
          have z5 := w5_in (g := g) hc (by rw [← hB.1]; exact t1)
          rw [← hB.1] at z5
          have e8 : w8 b c = enc8 b (tp b c) (mn8 (lEnd b (tp b c) - tp b c)) := by unfold w8; rw [tk.1, show mn8 (lEnd b (tp b c) - tp b c) = lEnd b (tp b c) - tp b c from if_pos (by omega)]
          rw [q9, ← e8]; exact w64_of ⟨by omega, by omega⟩
        · refine wp_iconst (pc := 126) dX11_token_126 ?_
          refine wp_goto (pc := 127) 131 dX11_token_127 (by decide) ?_
          refine wp_puti (pc := 131) dX11_token_131 rfl f_X11_172 kd_111 la_111 (fun _ h => by cases h; rfl) rfl ?_
          refine wp_goto (pc := 134) 232 dX11_token_134 (by decide) ?_
          have t1 : ts b c = 3 := tk.2.1 (by omega)
          refine lp_tkend (I := I) (k := lEnd b (tp b c) - tp b c) hB hc (hK.up (by decide)) (by rw [up_s, t1]) (by rw [up_j (by decide)]; exact q7) ⟨by rw [up_j (by decide), q8]; decide, fun z => by omega⟩ (by rw [up_j (by decide)]; exact q4) (fun _ => by rw [tk.1]; omega) ⟨by rw [q9]; exact w64_in _, fun z => ?_⟩ (fun J M hJ hM2 hT => hQ J M hJ (hM.trans hM2) hT)
          omega
      · refine wp_iconst (pc := 12) dX11_isLetter_12 ?_
        refine wp_goto (pc := 13) 17 dX11_isLetter_13 (by decide) ?_
        refine wp_zret (pc := 17) dX11_isLetter_17 rfl rfl (by decide) ?_
        refine wp_eqst (st' := [vI 1]) rfl ?_
        refine wp_if_eq (pc := 86) 119 dX11_token_86 (by decide) (by decide) (fun hh => absurd hh (by decide)) (fun _ => ?_)
        exact absurd (show isLt (b (lEnd b (tp b c))) by rw [show lEnd b (tp b c) = tp b c + (lEnd b (tp b c) - tp b c) by omega]; exact ⟨by omega, by omega⟩) hl.1.2.2
  · intro K L hK hM q4 q7 q8 q9
    have hBK := hK.tb hB
    have bl : isLt (b (tp b c + i)) := hl.1.2.1 _ (by omega) (by omega)
    have bl1 : 97 ≤ b (tp b c + i) ∧ b (tp b c + i) ≤ 122 := bl
    refine wp_aload_n (pc := 78) 0 dX11_token_78 rfl rfl ?_
    refine wp_iload_n (pc := 79) 2 dX11_token_79 rfl rfl ?_
    refine wp_callV (pc := 80) (st := []) (nf' := 153) [vI (i : Int)] [some (vR 111), some (vI (i : Int))] dX11_token_80 rfl c_X11_158 rfl kd_111 (by decide) rfl la_111 rfl (Nat.le_of_ble_eq_true rfl) rfl (Nat.le_of_ble_eq_true rfl) (by omega) (Nat.le_refl _) (Nat.le_refl _) ?_
    refine rs_here i rfl (a := tp b c) hBK (by rw [q4]) (by omega) (by omega) ?_
    refine wp_eqst (st' := [vI (b (tp b c + i))]) rfl ?_
    refine wp_callS (pc := 83) (st := []) (nf' := 153) [vI (b (tp b c + i))] [some (vI (b (tp b c + i)))] dX11_token_83 rfl c_X11_175 rfl rfl (Nat.le_of_ble_eq_true rfl) rfl (Nat.le_of_ble_eq_true rfl) (by omega) (Nat.le_refl _) (Nat.le_refl _) ?_
    refine wp_iload_n (pc := 0) 0 dX11_isLetter_0 rfl rfl ?_
    refine wp_bipush (pc := 1) dX11_isLetter_1 (by decide) ?_
    refine wp_icmp_lt (pc := 3) 16 dX11_isLetter_3 (by decide) (by omega) (by decide) (fun h_1 => ?_) (fun h_1 => ?_)
    · refine wp_iconst (pc := 16) dX11_isLetter_16 ?_
      refine wp_zret (pc := 17) dX11_isLetter_17 rfl rfl (by decide) ?_
      refine wp_eqst (st' := [vI 0]) rfl ?_
      refine wp_if_eq (pc := 86) 119 dX11_token_86 (by decide) (by decide) (fun _ => ?_) (fun hh => absurd hh (by decide))
      exfalso; omega
    · refine wp_iload_n (pc := 6) 0 dX11_isLetter_6 rfl rfl ?_
      refine wp_bipush (pc := 7) dX11_isLetter_7 (by decide) ?_
      refine wp_icmp_gt (pc := 9) 16 dX11_isLetter_9 (by decide) (by omega) (by decide) (fun h_2 => ?_) (fun h_2 => ?_)
      · refine wp_iconst (pc := 16) dX11_isLetter_16 ?_
        refine wp_zret (pc := 17) dX11_isLetter_17 rfl rfl (by decide) ?_
        refine wp_eqst (st' := [vI 0]) rfl ?_
        refine wp_if_eq (pc := 86) 119 dX11_token_86 (by decide) (by decide) (fun _ => ?_) (fun hh => absurd hh (by decide))
        exfalso; omega
      · refine wp_iconst (pc := 12) dX11_isLetter_12 ?_
        refine wp_goto (pc := 13) 17 dX11_isLetter_13 (by decide) ?_
        refine wp_zret (pc := 17) dX11_isLetter_17 rfl rfl (by decide) ?_
        refine wp_eqst (st' := [vI 1]) rfl ?_
        refine wp_if_eq (pc := 86) 119 dX11_token_86 (by decide) (by decide) (fun hh => absurd hh (by decide)) (fun _ => ?_)
        refine wp_iload_n (pc := 89) 2 dX11_token_89 rfl rfl ?_
        refine wp_bipush (pc := 90) dX11_token_90 (by decide) ?_
        refine wp_icmp_ge (pc := 92) 113 dX11_token_92 (by decide) (by omega) (by decide) (fun h_3 => ?_) (fun h_3 => ?_)
        · refine wq_iinc (pc := 113) [some (vR 111), none, some (vI ((i : Int) + 1))] dX11_token_113 rfl rfl (by decide) rfl ?_
          refine wp_goto (pc := 116) 78 dX11_token_116 (by decide) ?_
          exact wp_eqls (ls' := [some (vR 111), none, some (vI (((i + 1) : Nat) : Int))]) rfl (ih K L hK hM q4 q7 q8 (by rw [q9, show mn8 (i + 1) = 8 from if_neg (by omega), show mn8 i = 8 by show (if i ≤ 8 then i else 8) = 8; split <;> omega]))
        · refine wp_aload_n (pc := 95) 0 dX11_token_95 rfl rfl ?_
          refine wp_aload_n (pc := 96) 0 dX11_token_96 rfl rfl ?_
          refine wp_getl (pc := 97) dX11_token_97 rfl f_X11_165 kd_111 la_111 rfl ?_
          refine wp_eqst (st' := [vJ (L 111 9), vR 111]) rfl ?_
          refine wp_bipush (pc := 100) dX11_token_100 (by decide) ?_
          refine wp_lshl (pc := 102) 8 dX11_token_102 rfl (by decide) ?_
          refine wp_aload_n (pc := 103) 0 dX11_token_103 rfl rfl ?_
          refine wp_iload_n (pc := 104) 2 dX11_token_104 rfl rfl ?_
          refine wp_callV (pc := 105) (st := [vJ ((L 111 9) * 2 ^ 8), vR 111]) (nf' := 153) [vI (i : Int)] [some (vR 111), some (vI (i : Int))] dX11_token_105 rfl c_X11_158 rfl kd_111 (by decide) rfl la_111 rfl (Nat.le_of_ble_eq_true rfl) rfl (Nat.le_of_ble_eq_true rfl) (by omega) (Nat.le_refl _) (Nat.le_refl _) ?_
          refine rs_here i rfl (a := tp b c) hBK (by rw [q4]) (by omega) (by omega) ?_
          refine wp_eqst (st' := [vI (b (tp b c + i)), vJ ((L 111 9) * 2 ^ 8), vR 111]) rfl ?_
          refine wp_i2l (pc := 108) dX11_token_108 (by omega) ?_
          refine wp_lor (pc := 109) (L 111 9) 8 dX11_token_109 rfl (by decide) (by omega) (by omega) ?_
          refine wp_w64 ?_
          refine wp_putl (pc := 110) dX11_token_110 rfl f_X11_165 kd_111 la_111 (fun _ h => by cases h; rfl) rfl ?_
          refine wq_iinc (pc := 113) [some (vR 111), none, some (vI ((i : Int) + 1))] dX11_token_113 rfl rfl (by decide) rfl ?_
          refine wp_goto (pc := 116) 78 dX11_token_116 (by decide) ?_
          refine wp_eqls (ls' := [some (vR 111), none, some (vI (((i + 1) : Nat) : Int))]) rfl (ih K (upL L 111 9 (w64 (((L 111 9) * 2 ^ 8) + (b (tp b c + i))))) hK hM.up q4 q7 q8 ?_)
          rw [upL_s, q9, show mn8 (i + 1) = i + 1 from if_pos (by omega), show mn8 i = i from if_pos (by omega), w64_step]; rfl

theorem rl_digits {l : Launch} {G : mG} {d : Nat} {I : mI} {L : Nat → Nat → Int} {D : Nat → Nat} {Q : mQ} {b g : Nat → Int} {n : Nat} {c : Nat} (hB : RBk I b g n) (hc : c ≤ n) (hdg : isDg (b (tp b c))) (h9 : L 111 9 = 0) (hd : 1 ≤ d) (hQ : ∀ J M, Fb I J → Lb L M → TKR J M b c → Q none J (XX M D)) : ∀ i : Nat, i ≤ dEnd b (tp b c) - tp b c → ∀ K : mI, Fb I K → K 111 4 = ((tp b c : Nat) : Int) → K 111 7 = ((tp b c : Nat) : Int) → K 111 8 = encN b (tp b c) (mn4 i) → WP l G m_X11_token d 153 K (XX L D) 144 [some (vR 111), none, some (vI (i : Int))] [] Q := by
  have e3 := hB.2.2.1
  have e4 := hB.2.2.2
  have hp := tp_ok (g := g) hc
  rw [← hB.1] at hp
  have hp1 := hp.1.1
  have hp2 := hp.2
  have hl := dEnd_ok (g := g) (tp b c) hp.2
  rw [← hB.1] at hl
  have hl1 := hl.1.1
  have hl2 := hl.2
  have tk := tk_num hdg
  refine loop_dn (fun i => ∀ K : mI, Fb I K → K 111 4 = ((tp b c : Nat) : Int) → K 111 7 = ((tp b c : Nat) : Int) → K 111 8 = encN b (tp b c) (mn4 i) → WP l G m_X11_token d 153 K (XX L D) 144 [some (vR 111), none, some (vI (i : Int))] [] Q) (dEnd b (tp b c) - tp b c) ?_ (fun i hi ih => ?_)
  · intro K hK q4 q7 q8
    have hBK := hK.tb hB
    have z4 := encN_in (b := b) (q := tp b c) (mn4 (dEnd b (tp b c) - tp b c)) (fun j hj => hl.1.2.1 _ (by omega) (by have : mn4 (dEnd b (tp b c) - tp b c) ≤ dEnd b (tp b c) - tp b c := (by show (if dEnd b (tp b c) - tp b c ≤ 4 then dEnd b (tp b c) - tp b c else 4) ≤ dEnd b (tp b c) - tp b c; split <;> omega); omega))
    have z6 : (10 : Int) ^ (mn4 (dEnd b (tp b c) - tp b c)) ≤ 10 ^ 4 := ipow 10 (by decide) (by show (if dEnd b (tp b c) - tp b c ≤ 4 then dEnd b (tp b c) - tp b c else 4) ≤ 4; split <;> omega)
    have z7 : (10 : Int) ^ 4 = 10000 := by decide
    have bi := bOf_in g n (tp b c + (dEnd b (tp b c) - tp b c))
    rw [← hB.1] at bi
    refine wp_aload_n (pc := 144) 0 dX11_token_144 rfl rfl ?_
    refine wp_iload_n (pc := 145) 2 dX11_token_145 rfl rfl ?_
    refine wp_callV (pc := 146) (st := []) (nf' := 153) [vI (((dEnd b (tp b c) - tp b c) : Nat) : Int)] [some (vR 111), some (vI (((dEnd b (tp b c) - tp b c) : Nat) : Int))] dX11_token_146 rfl c_X11_158 rfl kd_111 (by decide) rfl la_111 rfl (Nat.le_of_ble_eq_true rfl) rfl (Nat.le_of_ble_eq_true rfl) (by omega) (Nat.le_refl _) (Nat.le_refl _) ?_
    refine rs_here (dEnd b (tp b c) - tp b c) rfl (a := tp b c) hBK (by rw [q4]) (by omega) (by omega) ?_
    refine wp_eqst (st' := [vI (b (tp b c + (dEnd b (tp b c) - tp b c)))]) rfl ?_
    refine wp_callS (pc := 149) (st := []) (nf' := 153) [vI (b (tp b c + (dEnd b (tp b c) - tp b c)))] [some (vI (b (tp b c + (dEnd b (tp b c) - tp b c))))] dX11_token_149 rfl c_X11_179 rfl rfl (Nat.le_of_ble_eq_true rfl) rfl (Nat.le_of_ble_eq_true rfl) (by omega) (Nat.le_refl _) (Nat.le_refl _) ?_
    refine wp_iload_n (pc := 0) 0 dX11_isDigit_0 rfl rfl ?_
    refine wp_bipush (pc := 1) dX11_isDigit_1 (by decide) ?_
    refine wp_icmp_lt (pc := 3) 16 dX11_isDigit_3 (by decide) (by omega) (by decide) (fun h_1 => ?_) (fun h_1 => ?_)
    · refine wp_iconst (pc := 16) dX11_isDigit_16 ?_
      refine wp_zret (pc := 17) dX11_isDigit_17 rfl rfl (by decide) ?_
      refine wp_eqst (st' := [vI 0]) rfl ?_
      refine wp_if_eq (pc := 152) 186 dX11_token_152 (by decide) (by decide) (fun _ => ?_) (fun hh => absurd hh (by decide))
      refine wp_aload_n (pc := 186) 0 dX11_token_186 rfl rfl ?_
      refine wp_iload_n (pc := 187) 2 dX11_token_187 rfl rfl ?_
      refine wp_iconst (pc := 188) dX11_token_188 ?_
      refine wp_icmp_gt (pc := 189) 203 dX11_token_189 (by decide) (by omega) (by decide) (fun h_2 => ?_) (fun h_2 => ?_)
      · refine wp_iconst (pc := 203) dX11_token_203 ?_
        refine wp_goto (pc := 204) 208 dX11_token_204 (by decide) ?_
        refine wp_puti (pc := 208) dX11_token_208 rfl f_X11_172 kd_111 la_111 (fun _ h => by cases h; rfl) rfl ?_
        refine wp_goto (pc := 211) 232 dX11_token_211 (by decide) ?_
        have t1 : ts b c = 3 := tk.2.1 (by first | exact Or.inl (by omega) | (refine Or.inr ?_; rw [show dEnd b (tp b c) = tp b c + (dEnd b (tp b c) - tp b c) by omega]; exact ⟨by omega, by omega⟩))
        refine lp_tkend (I := I) (k := dEnd b (tp b c) - tp b c) hB hc (hK.up (by decide)) (by rw [up_s, t1]) (by rw [up_j (by decide)]; exact q7) ⟨by rw [up_j (by decide), q8]; exact ⟨by omega, by omega⟩, fun z => ?_⟩ (by rw [up_j (by decide)]; exact q4) (fun _ => by rw [tk.1]; omega) ⟨by rw [h9]; decide, fun z => by omega⟩ hQ
        omega
      · refine wp_aload_n (pc := 192) 0 dX11_token_192 rfl rfl ?_
        refine wp_iload_n (pc := 193) 2 dX11_token_193 rfl rfl ?_
        refine wp_callV (pc := 194) (st := [vR 111]) (nf' := 153) [vI (((dEnd b (tp b c) - tp b c) : Nat) : Int)] [some (vR 111), some (vI (((dEnd b (tp b c) - tp b c) : Nat) : Int))] dX11_token_194 rfl c_X11_158 rfl kd_111 (by decide) rfl la_111 rfl (Nat.le_of_ble_eq_true rfl) rfl (Nat.le_of_ble_eq_true rfl) (by omega) (Nat.le_refl _) (Nat.le_refl _) ?_
        refine rs_here (dEnd b (tp b c) - tp b c) rfl (a := tp b c) hBK (by rw [q4]) (by omega) (by omega) ?_
        refine wp_eqst (st' := [vI (b (tp b c + (dEnd b (tp b c) - tp b c))), vR 111]) rfl ?_
        refine wp_callS (pc := 197) (st := [vR 111]) (nf' := 153) [vI (b (tp b c + (dEnd b (tp b c) - tp b c)))] [some (vI (b (tp b c + (dEnd b (tp b c) - tp b c))))] dX11_token_197 rfl c_X11_175 rfl rfl (Nat.le_of_ble_eq_true rfl) rfl (Nat.le_of_ble_eq_true rfl) (by omega) (Nat.le_refl _) (Nat.le_refl _) ?_
        refine wp_iload_n (pc := 0) 0 dX11_isLetter_0 rfl rfl ?_
        refine wp_bipush (pc := 1) dX11_isLetter_1 (by decide) ?_
        refine wp_icmp_lt (pc := 3) 16 dX11_isLetter_3 (by decide) (by omega) (by decide) (fun h_3 => ?_) (fun h_3 => ?_)
        · refine wp_iconst (pc := 16) dX11_isLetter_16 ?_
          refine wp_zret (pc := 17) dX11_isLetter_17 rfl rfl (by decide) ?_
          refine wp_eqst (st' := [vI 0, vR 111]) rfl ?_
          refine wp_if_eq (pc := 200) 207 dX11_token_200 (by decide) (by decide) (fun _ => ?_) (fun hh => absurd hh (by decide))
          refine wp_iconst (pc := 207) dX11_token_207 ?_
          refine wp_puti (pc := 208) dX11_token_208 rfl f_X11_172 kd_111 la_111 (fun _ h => by cases h; rfl) rfl ?_
          refine wp_goto (pc := 211) 232 dX11_token_211 (by decide) ?_
          have t1 : ts b c = 2 := tk.2.2 (by intro z; have z2 : 4 < dEnd b (tp b c) - tp b c ∨ (97 ≤ b (dEnd b (tp b c)) ∧ b (dEnd b (tp b c)) ≤ 122) := z; rw [show dEnd b (tp b c) = tp b c + (dEnd b (tp b c) - tp b c) by omega] at z2; omega)
          refine lp_tkend (I := I) (k := dEnd b (tp b c) - tp b c) hB hc (hK.up (by decide)) (by rw [up_s, t1]) (by rw [up_j (by decide)]; exact q7) ⟨by rw [up_j (by decide), q8]; exact ⟨by omega, by omega⟩, fun z => ?_⟩ (by rw [up_j (by decide)]; exact q4) (fun _ => by rw [tk.1]; omega) ⟨by rw [h9]; decide, fun z => by omega⟩ hQ
          rw [up_j (by decide), q8]; unfold tn; rw [tk.1, show mn4 (dEnd b (tp b c) - tp b c) = dEnd b (tp b c) - tp b c from if_pos (by omega)]
        · refine wp_iload_n (pc := 6) 0 dX11_isLetter_6 rfl rfl ?_
          refine wp_bipush (pc := 7) dX11_isLetter_7 (by decide) ?_
          refine wp_icmp_gt (pc := 9) 16 dX11_isLetter_9 (by decide) (by omega) (by decide) (fun h_4 => ?_) (fun h_4 => ?_)
          · refine wp_iconst (pc := 16) dX11_isLetter_16 ?_
            refine wp_zret (pc := 17) dX11_isLetter_17 rfl rfl (by decide) ?_
            refine wp_eqst (st' := [vI 0, vR 111]) rfl ?_
            refine wp_if_eq (pc := 200) 207 dX11_token_200 (by decide) (by decide) (fun _ => ?_) (fun hh => absurd hh (by decide))
            refine wp_iconst (pc := 207) dX11_token_207 ?_
            refine wp_puti (pc := 208) dX11_token_208 rfl f_X11_172 kd_111 la_111 (fun _ h => by cases h; rfl) rfl ?_
            refine wp_goto (pc := 211) 232 dX11_token_211 (by decide) ?_
            have t1 : ts b c = 2 := tk.2.2 (by intro z; have z2 : 4 < dEnd b (tp b c) - tp b c ∨ (97 ≤ b (dEnd b (tp b c)) ∧ b (dEnd b (tp b c)) ≤ 122) := z; rw [show dEnd b (tp b c) = tp b c + (dEnd b (tp b c) - tp b c) by omega] at z2; omega)
            refine lp_tkend (I := I) (k := dEnd b (tp b c) - tp b c) hB hc (hK.up (by decide)) (by rw [up_s, t1]) (by rw [up_j (by decide)]; exact q7) ⟨by rw [up_j (by decide), q8]; exact ⟨by omega, by omega⟩, fun z => ?_⟩ (by rw [up_j (by decide)]; exact q4) (fun _ => by rw [tk.1]; omega) ⟨by rw [h9]; decide, fun z => by omega⟩ hQ
            rw [up_j (by decide), q8]; unfold tn; rw [tk.1, show mn4 (dEnd b (tp b c) - tp b c) = dEnd b (tp b c) - tp b c from if_pos (by omega)]
          · refine wp_iconst (pc := 12) dX11_isLetter_12 ?_
            refine wp_goto (pc := 13) 17 dX11_isLetter_13 (by decide) ?_
            refine wp_zret (pc := 17) dX11_isLetter_17 rfl rfl (by decide) ?_
            refine wp_eqst (st' := [vI 1, vR 111]) rfl ?_
            refine wp_if_eq (pc := 200) 207 dX11_token_200 (by decide) (by decide) (fun hh => absurd hh (by decide)) (fun _ => ?_)
            refine wp_iconst (pc := 203) dX11_token_203 ?_
            refine wp_goto (pc := 204) 208 dX11_token_204 (by decide) ?_
            refine wp_puti (pc := 208) dX11_token_208 rfl f_X11_172 kd_111 la_111 (fun _ h => by cases h; rfl) rfl ?_
            refine wp_goto (pc := 211) 232 dX11_token_211 (by decide) ?_
            have t1 : ts b c = 3 := tk.2.1 (by first | exact Or.inl (by omega) | (refine Or.inr ?_; rw [show dEnd b (tp b c) = tp b c + (dEnd b (tp b c) - tp b c) by omega]; exact ⟨by omega, by omega⟩))
            refine lp_tkend (I := I) (k := dEnd b (tp b c) - tp b c) hB hc (hK.up (by decide)) (by rw [up_s, t1]) (by rw [up_j (by decide)]; exact q7) ⟨by rw [up_j (by decide), q8]; exact ⟨by omega, by omega⟩, fun z => ?_⟩ (by rw [up_j (by decide)]; exact q4) (fun _ => by rw [tk.1]; omega) ⟨by rw [h9]; decide, fun z => by omega⟩ hQ
            omega
    · refine wp_iload_n (pc := 6) 0 dX11_isDigit_6 rfl rfl ?_
      refine wp_bipush (pc := 7) dX11_isDigit_7 (by decide) ?_
      refine wp_icmp_gt (pc := 9) 16 dX11_isDigit_9 (by decide) (by omega) (by decide) (fun h_5 => ?_) (fun h_5 => ?_)
      · refine wp_iconst (pc := 16) dX11_isDigit_16 ?_
        refine wp_zret (pc := 17) dX11_isDigit_17 rfl rfl (by decide) ?_
        refine wp_eqst (st' := [vI 0]) rfl ?_
        refine wp_if_eq (pc := 152) 186 dX11_token_152 (by decide) (by decide) (fun _ => ?_) (fun hh => absurd hh (by decide))
        refine wp_aload_n (pc := 186) 0 dX11_token_186 rfl rfl ?_
        refine wp_iload_n (pc := 187) 2 dX11_token_187 rfl rfl ?_
        refine wp_iconst (pc := 188) dX11_token_188 ?_
        refine wp_icmp_gt (pc := 189) 203 dX11_token_189 (by decide) (by omega) (by decide) (fun h_6 => ?_) (fun h_6 => ?_)
        · refine wp_iconst (pc := 203) dX11_token_203 ?_
          refine wp_goto (pc := 204) 208 dX11_token_204 (by decide) ?_
          refine wp_puti (pc := 208) dX11_token_208 rfl f_X11_172 kd_111 la_111 (fun _ h => by cases h; rfl) rfl ?_
          refine wp_goto (pc := 211) 232 dX11_token_211 (by decide) ?_
          have t1 : ts b c = 3 := tk.2.1 (by first | exact Or.inl (by omega) | (refine Or.inr ?_; rw [show dEnd b (tp b c) = tp b c + (dEnd b (tp b c) - tp b c) by omega]; exact ⟨by omega, by omega⟩))
          refine lp_tkend (I := I) (k := dEnd b (tp b c) - tp b c) hB hc (hK.up (by decide)) (by rw [up_s, t1]) (by rw [up_j (by decide)]; exact q7) ⟨by rw [up_j (by decide), q8]; exact ⟨by omega, by omega⟩, fun z => ?_⟩ (by rw [up_j (by decide)]; exact q4) (fun _ => by rw [tk.1]; omega) ⟨by rw [h9]; decide, fun z => by omega⟩ hQ
          omega
        · refine wp_aload_n (pc := 192) 0 dX11_token_192 rfl rfl ?_
          refine wp_iload_n (pc := 193) 2 dX11_token_193 rfl rfl ?_
          refine wp_callV (pc := 194) (st := [vR 111]) (nf' := 153) [vI (((dEnd b (tp b c) - tp b c) : Nat) : Int)] [some (vR 111), some (vI (((dEnd b (tp b c) - tp b c) : Nat) : Int))] dX11_token_194 rfl c_X11_158 rfl kd_111 (by decide) rfl la_111 rfl (Nat.le_of_ble_eq_true rfl) rfl (Nat.le_of_ble_eq_true rfl) (by omega) (Nat.le_refl _) (Nat.le_refl _) ?_
          refine rs_here (dEnd b (tp b c) - tp b c) rfl (a := tp b c) hBK (by rw [q4]) (by omega) (by omega) ?_
          refine wp_eqst (st' := [vI (b (tp b c + (dEnd b (tp b c) - tp b c))), vR 111]) rfl ?_
          refine wp_callS (pc := 197) (st := [vR 111]) (nf' := 153) [vI (b (tp b c + (dEnd b (tp b c) - tp b c)))] [some (vI (b (tp b c + (dEnd b (tp b c) - tp b c))))] dX11_token_197 rfl c_X11_175 rfl rfl (Nat.le_of_ble_eq_true rfl) rfl (Nat.le_of_ble_eq_true rfl) (by omega) (Nat.le_refl _) (Nat.le_refl _) ?_
          refine wp_iload_n (pc := 0) 0 dX11_isLetter_0 rfl rfl ?_
          refine wp_bipush (pc := 1) dX11_isLetter_1 (by decide) ?_
          refine wp_icmp_lt (pc := 3) 16 dX11_isLetter_3 (by decide) (by omega) (by decide) (fun h_7 => ?_) (fun h_7 => ?_)
          · refine wp_iconst (pc := 16) dX11_isLetter_16 ?_
            refine wp_zret (pc := 17) dX11_isLetter_17 rfl rfl (by decide) ?_
            refine wp_eqst (st' := [vI 0, vR 111]) rfl ?_
            refine wp_if_eq (pc := 200) 207 dX11_token_200 (by decide) (by decide) (fun _ => ?_) (fun hh => absurd hh (by decide))
            refine wp_iconst (pc := 207) dX11_token_207 ?_
            refine wp_puti (pc := 208) dX11_token_208 rfl f_X11_172 kd_111 la_111 (fun _ h => by cases h; rfl) rfl ?_
            refine wp_goto (pc := 211) 232 dX11_token_211 (by decide) ?_
            have t1 : ts b c = 2 := tk.2.2 (by intro z; have z2 : 4 < dEnd b (tp b c) - tp b c ∨ (97 ≤ b (dEnd b (tp b c)) ∧ b (dEnd b (tp b c)) ≤ 122) := z; rw [show dEnd b (tp b c) = tp b c + (dEnd b (tp b c) - tp b c) by omega] at z2; omega)
            refine lp_tkend (I := I) (k := dEnd b (tp b c) - tp b c) hB hc (hK.up (by decide)) (by rw [up_s, t1]) (by rw [up_j (by decide)]; exact q7) ⟨by rw [up_j (by decide), q8]; exact ⟨by omega, by omega⟩, fun z => ?_⟩ (by rw [up_j (by decide)]; exact q4) (fun _ => by rw [tk.1]; omega) ⟨by rw [h9]; decide, fun z => by omega⟩ hQ
            rw [up_j (by decide), q8]; unfold tn; rw [tk.1, show mn4 (dEnd b (tp b c) - tp b c) = dEnd b (tp b c) - tp b c from if_pos (by omega)]
          · refine wp_iload_n (pc := 6) 0 dX11_isLetter_6 rfl rfl ?_
            refine wp_bipush (pc := 7) dX11_isLetter_7 (by decide) ?_
            refine wp_icmp_gt (pc := 9) 16 dX11_isLetter_9 (by decide) (by omega) (by decide) (fun h_8 => ?_) (fun h_8 => ?_)
            · refine wp_iconst (pc := 16) dX11_isLetter_16 ?_
              refine wp_zret (pc := 17) dX11_isLetter_17 rfl rfl (by decide) ?_
              refine wp_eqst (st' := [vI 0, vR 111]) rfl ?_
              refine wp_if_eq (pc := 200) 207 dX11_token_200 (by decide) (by decide) (fun _ => ?_) (fun hh => absurd hh (by decide))
              refine wp_iconst (pc := 207) dX11_token_207 ?_
              refine wp_puti (pc := 208) dX11_token_208 rfl f_X11_172 kd_111 la_111 (fun _ h => by cases h; rfl) rfl ?_
              refine wp_goto (pc := 211) 232 dX11_token_211 (by decide) ?_
              have t1 : ts b c = 2 := tk.2.2 (by intro z; have z2 : 4 < dEnd b (tp b c) - tp b c ∨ (97 ≤ b (dEnd b (tp b c)) ∧ b (dEnd b (tp b c)) ≤ 122) := z; rw [show dEnd b (tp b c) = tp b c + (dEnd b (tp b c) - tp b c) by omega] at z2; omega)
              refine lp_tkend (I := I) (k := dEnd b (tp b c) - tp b c) hB hc (hK.up (by decide)) (by rw [up_s, t1]) (by rw [up_j (by decide)]; exact q7) ⟨by rw [up_j (by decide), q8]; exact ⟨by omega, by omega⟩, fun z => ?_⟩ (by rw [up_j (by decide)]; exact q4) (fun _ => by rw [tk.1]; omega) ⟨by rw [h9]; decide, fun z => by omega⟩ hQ
              rw [up_j (by decide), q8]; unfold tn; rw [tk.1, show mn4 (dEnd b (tp b c) - tp b c) = dEnd b (tp b c) - tp b c from if_pos (by omega)]
            · refine wp_iconst (pc := 12) dX11_isLetter_12 ?_
              refine wp_goto (pc := 13) 17 dX11_isLetter_13 (by decide) ?_
              refine wp_zret (pc := 17) dX11_isLetter_17 rfl rfl (by decide) ?_
              refine wp_eqst (st' := [vI 1, vR 111]) rfl ?_
              refine wp_if_eq (pc := 200) 207 dX11_token_200 (by decide) (by decide) (fun hh => absurd hh (by decide)) (fun _ => ?_)
              refine wp_iconst (pc := 203) dX11_token_203 ?_
              refine wp_goto (pc := 204) 208 dX11_token_204 (by decide) ?_
              refine wp_puti (pc := 208) dX11_token_208 rfl f_X11_172 kd_111 la_111 (fun _ h => by cases h; rfl) rfl ?_
              refine wp_goto (pc := 211) 232 dX11_token_211 (by decide) ?_
              have t1 : ts b c = 3 := tk.2.1 (by first | exact Or.inl (by omega) | (refine Or.inr ?_; rw [show dEnd b (tp b c) = tp b c + (dEnd b (tp b c) - tp b c) by omega]; exact ⟨by omega, by omega⟩))
              refine lp_tkend (I := I) (k := dEnd b (tp b c) - tp b c) hB hc (hK.up (by decide)) (by rw [up_s, t1]) (by rw [up_j (by decide)]; exact q7) ⟨by rw [up_j (by decide), q8]; exact ⟨by omega, by omega⟩, fun z => ?_⟩ (by rw [up_j (by decide)]; exact q4) (fun _ => by rw [tk.1]; omega) ⟨by rw [h9]; decide, fun z => by omega⟩ hQ
              omega
      · refine wp_iconst (pc := 12) dX11_isDigit_12 ?_
        refine wp_goto (pc := 13) 17 dX11_isDigit_13 (by decide) ?_
        refine wp_zret (pc := 17) dX11_isDigit_17 rfl rfl (by decide) ?_
        refine wp_eqst (st' := [vI 1]) rfl ?_
        refine wp_if_eq (pc := 152) 186 dX11_token_152 (by decide) (by decide) (fun hh => absurd hh (by decide)) (fun _ => ?_)
        exact absurd (show isDg (b (dEnd b (tp b c))) by rw [show dEnd b (tp b c) = tp b c + (dEnd b (tp b c) - tp b c) by omega]; exact ⟨by omega, by omega⟩) hl.1.2.2
  · intro K hK q4 q7 q8
    have hBK := hK.tb hB
    have bl : isDg (b (tp b c + i)) := hl.1.2.1 _ (by omega) (by omega)
    have bl1 : 48 ≤ b (tp b c + i) ∧ b (tp b c + i) ≤ 57 := bl
    refine wp_aload_n (pc := 144) 0 dX11_token_144 rfl rfl ?_
    refine wp_iload_n (pc := 145) 2 dX11_token_145 rfl rfl ?_
    refine wp_callV (pc := 146) (st := []) (nf' := 153) [vI (i : Int)] [some (vR 111), some (vI (i : Int))] dX11_token_146 rfl c_X11_158 rfl kd_111 (by decide) rfl la_111 rfl (Nat.le_of_ble_eq_true rfl) rfl (Nat.le_of_ble_eq_true rfl) (by omega) (Nat.le_refl _) (Nat.le_refl _) ?_
    refine rs_here i rfl (a := tp b c) hBK (by rw [q4]) (by omega) (by omega) ?_
    refine wp_eqst (st' := [vI (b (tp b c + i))]) rfl ?_
    refine wp_callS (pc := 149) (st := []) (nf' := 153) [vI (b (tp b c + i))] [some (vI (b (tp b c + i)))] dX11_token_149 rfl c_X11_179 rfl rfl (Nat.le_of_ble_eq_true rfl) rfl (Nat.le_of_ble_eq_true rfl) (by omega) (Nat.le_refl _) (Nat.le_refl _) ?_
    refine wp_iload_n (pc := 0) 0 dX11_isDigit_0 rfl rfl ?_
    refine wp_bipush (pc := 1) dX11_isDigit_1 (by decide) ?_
    refine wp_icmp_lt (pc := 3) 16 dX11_isDigit_3 (by decide) (by omega) (by decide) (fun h_1 => ?_) (fun h_1 => ?_)
    · refine wp_iconst (pc := 16) dX11_isDigit_16 ?_
      refine wp_zret (pc := 17) dX11_isDigit_17 rfl rfl (by decide) ?_
      refine wp_eqst (st' := [vI 0]) rfl ?_
      refine wp_if_eq (pc := 152) 186 dX11_token_152 (by decide) (by decide) (fun _ => ?_) (fun hh => absurd hh (by decide))
      exfalso; omega
    · refine wp_iload_n (pc := 6) 0 dX11_isDigit_6 rfl rfl ?_
      refine wp_bipush (pc := 7) dX11_isDigit_7 (by decide) ?_
      refine wp_icmp_gt (pc := 9) 16 dX11_isDigit_9 (by decide) (by omega) (by decide) (fun h_2 => ?_) (fun h_2 => ?_)
      · refine wp_iconst (pc := 16) dX11_isDigit_16 ?_
        refine wp_zret (pc := 17) dX11_isDigit_17 rfl rfl (by decide) ?_
        refine wp_eqst (st' := [vI 0]) rfl ?_
        refine wp_if_eq (pc := 152) 186 dX11_token_152 (by decide) (by decide) (fun _ => ?_) (fun hh => absurd hh (by decide))
        exfalso; omega
      · refine wp_iconst (pc := 12) dX11_isDigit_12 ?_
        refine wp_goto (pc := 13) 17 dX11_isDigit_13 (by decide) ?_
        refine wp_zret (pc := 17) dX11_isDigit_17 rfl rfl (by decide) ?_
        refine wp_eqst (st' := [vI 1]) rfl ?_
        refine wp_if_eq (pc := 152) 186 dX11_token_152 (by decide) (by decide) (fun hh => absurd hh (by decide)) (fun _ => ?_)
        refine wp_iload_n (pc := 155) 2 dX11_token_155 rfl rfl ?_
        refine wp_iconst (pc := 156) dX11_token_156 ?_
        refine wp_icmp_ge (pc := 157) 180 dX11_token_157 (by decide) (by omega) (by decide) (fun h_3 => ?_) (fun h_3 => ?_)
        · refine wq_iinc (pc := 180) [some (vR 111), none, some (vI ((i : Int) + 1))] dX11_token_180 rfl rfl (by decide) rfl ?_
          refine wp_goto (pc := 183) 144 dX11_token_183 (by decide) ?_
          exact wp_eqls (ls' := [some (vR 111), none, some (vI (((i + 1) : Nat) : Int))]) rfl (ih K hK q4 q7 (by rw [q8, show mn4 (i + 1) = 4 from if_neg (by omega), show mn4 i = 4 by show (if i ≤ 4 then i else 4) = 4; split <;> omega]))
        · refine wp_aload_n (pc := 160) 0 dX11_token_160 rfl rfl ?_
          refine wp_bipush (pc := 161) dX11_token_161 (by decide) ?_
          refine wp_aload_n (pc := 163) 0 dX11_token_163 rfl rfl ?_
          refine wp_geti (pc := 164) dX11_token_164 rfl f_X11_169 kd_111 la_111 (Or.inl rfl) ?_
          refine wp_imul (pc := 167) dX11_token_167 ?_
          refine wp_aload_n (pc := 168) 0 dX11_token_168 rfl rfl ?_
          refine wp_iload_n (pc := 169) 2 dX11_token_169 rfl rfl ?_
          refine wp_callV (pc := 170) (st := [vI (10 * (K 111 8)), vR 111]) (nf' := 153) [vI (i : Int)] [some (vR 111), some (vI (i : Int))] dX11_token_170 rfl c_X11_158 rfl kd_111 (by decide) rfl la_111 rfl (Nat.le_of_ble_eq_true rfl) rfl (Nat.le_of_ble_eq_true rfl) (by omega) (Nat.le_refl _) (Nat.le_refl _) ?_
          refine rs_here i rfl (a := tp b c) hBK (by rw [q4]) (by omega) (by omega) ?_
          refine wp_eqst (st' := [vI (b (tp b c + i)), vI (10 * (K 111 8)), vR 111]) rfl ?_
          refine wp_iadd (pc := 173) dX11_token_173 ?_
          refine wp_bipush (pc := 174) dX11_token_174 (by decide) ?_
          refine wp_isub (pc := 176) dX11_token_176 ?_
          refine wp_puti (pc := 177) dX11_token_177 rfl f_X11_169 kd_111 la_111 (fun _ h => by cases h; rfl) rfl ?_
          refine wq_iinc (pc := 180) [some (vR 111), none, some (vI ((i : Int) + 1))] dX11_token_180 rfl rfl (by decide) rfl ?_
          refine wp_goto (pc := 183) 144 dX11_token_183 (by decide) ?_
          refine wp_eqls (ls' := [some (vR 111), none, some (vI (((i + 1) : Nat) : Int))]) rfl (ih (up K 111 8 (((10 * (K 111 8)) + (b (tp b c + i))) - 48)) (hK.up (by decide)) (by rw [up_j (by decide)]; exact q4) (by rw [up_j (by decide)]; exact q7) ?_)
          rw [up_s, q8, show mn4 (i + 1) = i + 1 from if_pos (by omega), show mn4 i = i from if_pos (by omega), encN]; omega

theorem rl_token {l : Launch} {G : mG} {d : Nat} {I : mI} {L : Nat → Nat → Int} {D : Nat → Nat} {Q : mQ} {b g : Nat → Int} {n : Nat} {c : Nat} (hB : RBk I b g n) (hc : c ≤ n) (hd : 1 ≤ d) (hQ : ∀ J M, Fb I J → Lb L M → TKR J M b c → Q none J (XX M D)) : ∀ i : Nat, c ≤ i → i ≤ tp b c → ∀ K : mI, Fb I K → K 111 4 = ((i : Nat) : Int) → WP l G m_X11_token d 153 K (XX L D) 0 [some (vR 111), none, none] [] Q := by
  have e3 := hB.2.2.1
  have e4 := hB.2.2.2
  have hp := tp_ok (g := g) hc
  rw [← hB.1] at hp
  have hp1 := hp.1.1
  have hp2 := hp.2
  refine loop_ab (fun i => ∀ K : mI, Fb I K → K 111 4 = ((i : Nat) : Int) → WP l G m_X11_token d 153 K (XX L D) 0 [some (vR 111), none, none] [] Q) c (tp b c) ?_ (fun i hi0 hi ih => ?_)
  · intro K hK q4
    have hBK := hK.tb hB
    have bi := bOf_in g n (tp b c)
    rw [← hB.1] at bi
    refine wp_aload_n (pc := 0) 0 dX11_token_0 rfl rfl ?_
    refine wp_iconst (pc := 1) dX11_token_1 ?_
    refine wp_callV (pc := 2) (st := []) (nf' := 153) [vI 0] [some (vR 111), some (vI 0)] dX11_token_2 rfl c_X11_158 rfl kd_111 (by decide) rfl la_111 rfl (Nat.le_of_ble_eq_true rfl) rfl (Nat.le_of_ble_eq_true rfl) (by omega) (Nat.le_refl _) (Nat.le_refl _) ?_
    refine rs_here 0 rfl (a := tp b c) hBK (by rw [q4]) (by omega) (by omega) ?_
    refine wp_eqst (st' := [vI (b (tp b c))]) rfl ?_
    refine wp_bipush (pc := 5) dX11_token_5 (by decide) ?_
    refine wp_icmp_eq (pc := 7) 20 dX11_token_7 (by decide) (by omega) (by decide) (fun h_1 => ?_) (fun h_1 => ?_)
    · exact absurd (show isBl (b (tp b c)) by first | exact Or.inl (by omega) | exact Or.inr (by omega)) hp.1.2.2
    · refine wp_aload_n (pc := 10) 0 dX11_token_10 rfl rfl ?_
      refine wp_iconst (pc := 11) dX11_token_11 ?_
      refine wp_callV (pc := 12) (st := []) (nf' := 153) [vI 0] [some (vR 111), some (vI 0)] dX11_token_12 rfl c_X11_158 rfl kd_111 (by decide) rfl la_111 rfl (Nat.le_of_ble_eq_true rfl) rfl (Nat.le_of_ble_eq_true rfl) (by omega) (Nat.le_refl _) (Nat.le_refl _) ?_
      refine rs_here 0 rfl (a := tp b c) hBK (by rw [q4]) (by omega) (by omega) ?_
      refine wp_eqst (st' := [vI (b (tp b c))]) rfl ?_
      refine wp_bipush (pc := 15) dX11_token_15 (by decide) ?_
      refine wp_icmp_ne (pc := 17) 33 dX11_token_17 (by decide) (by omega) (by decide) (fun h_2 => ?_) (fun h_2 => ?_)
      · refine wp_aload_n (pc := 33) 0 dX11_token_33 rfl rfl ?_
        refine wp_aload_n (pc := 34) 0 dX11_token_34 rfl rfl ?_
        refine wp_geti (pc := 35) dX11_token_35 rfl f_X11_152 kd_111 la_111 (Or.inl rfl) ?_
        refine wp_eqst (st' := [vI ((tp b c : Nat) : Int), vR 111]) (by rw [q4]) ?_
        refine wp_puti (pc := 38) dX11_token_38 rfl f_X11_162 kd_111 la_111 (fun _ h => by cases h; rfl) rfl ?_
        refine wp_aload_n (pc := 41) 0 dX11_token_41 rfl rfl ?_
        refine wp_iconst (pc := 42) dX11_token_42 ?_
        refine wp_callV (pc := 43) (st := []) (nf' := 153) [vI 0] [some (vR 111), some (vI 0)] dX11_token_43 rfl c_X11_158 rfl kd_111 (by decide) rfl la_111 rfl (Nat.le_of_ble_eq_true rfl) rfl (Nat.le_of_ble_eq_true rfl) (by omega) (Nat.le_refl _) (Nat.le_refl _) ?_
        refine rs_here 0 rfl (a := tp b c) ((hK.up (by decide)).tb hB) (by rw [up_j (by omega), q4]) (by omega) (by omega) ?_
        refine wp_eqst (st' := [vI (b (tp b c))]) rfl ?_
        refine wq_istore_n (pc := 46) 1 [some (vR 111), some (vI (b (tp b c))), none] dX11_token_46 rfl rfl (by decide) rfl ?_
        refine wp_iconst (pc := 47) dX11_token_47 ?_
        refine wq_istore_n (pc := 48) 2 [some (vR 111), some (vI (b (tp b c))), some (vI 0)] dX11_token_48 rfl rfl (by decide) rfl ?_
        refine wp_aload_n (pc := 49) 0 dX11_token_49 rfl rfl ?_
        refine wp_lconst (pc := 50) (z := 0) dX11_token_50 rfl ?_
        refine wp_putl (pc := 51) dX11_token_51 rfl f_X11_165 kd_111 la_111 (fun _ h => by cases h; rfl) rfl ?_
        refine wp_aload_n (pc := 54) 0 dX11_token_54 rfl rfl ?_
        refine wp_iconst (pc := 55) dX11_token_55 ?_
        refine wp_puti (pc := 56) dX11_token_56 rfl f_X11_169 kd_111 la_111 (fun _ h => by cases h; rfl) rfl ?_
        refine wp_iload_n (pc := 59) 1 dX11_token_59 rfl rfl ?_
        refine wp_if_ge (pc := 60) 71 dX11_token_60 (by decide) (by omega) (fun h_3 => ?_) (fun h_3 => ?_)
        · refine wp_iload_n (pc := 71) 1 dX11_token_71 rfl rfl ?_
          refine wp_callS (pc := 72) (st := []) (nf' := 153) [vI (b (tp b c))] [some (vI (b (tp b c)))] dX11_token_72 rfl c_X11_175 rfl rfl (Nat.le_of_ble_eq_true rfl) rfl (Nat.le_of_ble_eq_true rfl) (by omega) (Nat.le_refl _) (Nat.le_refl _) ?_
          refine wp_iload_n (pc := 0) 0 dX11_isLetter_0 rfl rfl ?_
          refine wp_bipush (pc := 1) dX11_isLetter_1 (by decide) ?_
          refine wp_icmp_lt (pc := 3) 16 dX11_isLetter_3 (by decide) (by omega) (by decide) (fun h_4 => ?_) (fun h_4 => ?_)
          · refine wp_iconst (pc := 16) dX11_isLetter_16 ?_
            refine wp_zret (pc := 17) dX11_isLetter_17 rfl rfl (by decide) ?_
            refine wp_eqst (st' := [vI 0]) rfl ?_
            refine wp_if_eq (pc := 75) 137 dX11_token_75 (by decide) (by decide) (fun _ => ?_) (fun hh => absurd hh (by decide))
            refine wp_iload_n (pc := 137) 1 dX11_token_137 rfl rfl ?_
            refine wp_callS (pc := 138) (st := []) (nf' := 153) [vI (b (tp b c))] [some (vI (b (tp b c)))] dX11_token_138 rfl c_X11_179 rfl rfl (Nat.le_of_ble_eq_true rfl) rfl (Nat.le_of_ble_eq_true rfl) (by omega) (Nat.le_refl _) (Nat.le_refl _) ?_
            refine wp_iload_n (pc := 0) 0 dX11_isDigit_0 rfl rfl ?_
            refine wp_bipush (pc := 1) dX11_isDigit_1 (by decide) ?_
            refine wp_icmp_lt (pc := 3) 16 dX11_isDigit_3 (by decide) (by omega) (by decide) (fun h_5 => ?_) (fun h_5 => ?_)
            · refine wp_iconst (pc := 16) dX11_isDigit_16 ?_
              refine wp_zret (pc := 17) dX11_isDigit_17 rfl rfl (by decide) ?_
              refine wp_eqst (st' := [vI 0]) rfl ?_
              refine wp_if_eq (pc := 141) 214 dX11_token_141 (by decide) (by decide) (fun _ => ?_) (fun hh => absurd hh (by decide))
              refine wp_iconst (pc := 214) dX11_token_214 ?_
              refine wq_istore_n (pc := 215) 2 [some (vR 111), some (vI (b (tp b c))), some (vI 1)] dX11_token_215 rfl rfl (by decide) rfl ?_
              refine wp_aload_n (pc := 216) 0 dX11_token_216 rfl rfl ?_
              refine wp_iload_n (pc := 217) 1 dX11_token_217 rfl rfl ?_
              refine wp_callS (pc := 218) (st := [vR 111]) (nf' := 153) [vI (b (tp b c))] [some (vI (b (tp b c)))] dX11_token_218 rfl c_X11_182 rfl rfl (Nat.le_of_ble_eq_true rfl) rfl (Nat.le_of_ble_eq_true rfl) (by omega) (Nat.le_refl _) (Nat.le_refl _) ?_
              refine wp_iload_n (pc := 0) 0 dX11_isSign_0 rfl rfl ?_
              refine wp_bipush (pc := 1) dX11_isSign_1 (by decide) ?_
              refine wp_icmp_eq (pc := 3) 66 dX11_isSign_3 (by decide) (by omega) (by decide) (fun h_6 => ?_) (fun h_6 => ?_)
              · refine wp_iconst (pc := 66) dX11_isSign_66 ?_
                refine wp_goto (pc := 67) 71 dX11_isSign_67 (by decide) ?_
                refine wp_zret (pc := 71) dX11_isSign_71 rfl rfl (by decide) ?_
                refine wp_eqst (st' := [vI 1, vR 111]) rfl ?_
                refine wp_if_eq (pc := 221) 228 dX11_token_221 (by decide) (by decide) (fun hh => absurd hh (by decide)) (fun _ => ?_)
                refine wp_iload_n (pc := 224) 1 dX11_token_224 rfl rfl ?_
                refine wp_goto (pc := 225) 229 dX11_token_225 (by decide) ?_
                refine wp_puti (pc := 229) dX11_token_229 rfl f_X11_172 kd_111 la_111 (fun _ h => by cases h; rfl) rfl ?_
                refine wp_none 1 [some (vR 111), none, some (vI 1)] rfl ?_
                have tk := tk_sgn (b := b) (c := c) (by omega) (fun z => by have z1 : 97 ≤ b (tp b c) ∧ b (tp b c) ≤ 122 := z; omega) (fun z => by have z1 : 48 ≤ b (tp b c) ∧ b (tp b c) ≤ 57 := z; omega)
                have t1 : ts b c = (b (tp b c)) := tk.2.1 (by unfold isSg; omega)
                refine lp_tkend (I := I) (k := 1) hB hc (((hK.up (by decide)).up (by decide)).up (by decide)) (by rw [up_s, t1]) (by rw [up_j (by omega), up_j (by omega), up_s]) ⟨by rw [show (up (up (up K 111 7 ((tp b c : Nat) : Int)) 111 8 0) 111 6 (b (tp b c))) 111 8 = 0 from (by rw [up_j (by omega), up_s])]; decide, fun z => by omega⟩ (by rw [up_j (by omega), up_j (by omega), up_j (by omega), q4]) (fun _ => tk.1.symm) ⟨by rw [upL_s]; decide, fun z => by omega⟩ (fun J M hJ hM hT => hQ J M hJ (Lb.refl.up.trans hM) hT)
              · refine wp_iload_n (pc := 6) 0 dX11_isSign_6 rfl rfl ?_
                refine wp_bipush (pc := 7) dX11_isSign_7 (by decide) ?_
                refine wp_icmp_eq (pc := 9) 66 dX11_isSign_9 (by decide) (by omega) (by decide) (fun h_7 => ?_) (fun h_7 => ?_)
                · refine wp_iconst (pc := 66) dX11_isSign_66 ?_
                  refine wp_goto (pc := 67) 71 dX11_isSign_67 (by decide) ?_
                  refine wp_zret (pc := 71) dX11_isSign_71 rfl rfl (by decide) ?_
                  refine wp_eqst (st' := [vI 1, vR 111]) rfl ?_
                  refine wp_if_eq (pc := 221) 228 dX11_token_221 (by decide) (by decide) (fun hh => absurd hh (by decide)) (fun _ => ?_)
                  refine wp_iload_n (pc := 224) 1 dX11_token_224 rfl rfl ?_
                  refine wp_goto (pc := 225) 229 dX11_token_225 (by decide) ?_
                  refine wp_puti (pc := 229) dX11_token_229 rfl f_X11_172 kd_111 la_111 (fun _ h => by cases h; rfl) rfl ?_
                  refine wp_none 1 [some (vR 111), none, some (vI 1)] rfl ?_
                  have tk := tk_sgn (b := b) (c := c) (by omega) (fun z => by have z1 : 97 ≤ b (tp b c) ∧ b (tp b c) ≤ 122 := z; omega) (fun z => by have z1 : 48 ≤ b (tp b c) ∧ b (tp b c) ≤ 57 := z; omega)
                  have t1 : ts b c = (b (tp b c)) := tk.2.1 (by unfold isSg; omega)
                  refine lp_tkend (I := I) (k := 1) hB hc (((hK.up (by decide)).up (by decide)).up (by decide)) (by rw [up_s, t1]) (by rw [up_j (by omega), up_j (by omega), up_s]) ⟨by rw [show (up (up (up K 111 7 ((tp b c : Nat) : Int)) 111 8 0) 111 6 (b (tp b c))) 111 8 = 0 from (by rw [up_j (by omega), up_s])]; decide, fun z => by omega⟩ (by rw [up_j (by omega), up_j (by omega), up_j (by omega), q4]) (fun _ => tk.1.symm) ⟨by rw [upL_s]; decide, fun z => by omega⟩ (fun J M hJ hM hT => hQ J M hJ (Lb.refl.up.trans hM) hT)
                · refine wp_iload_n (pc := 12) 0 dX11_isSign_12 rfl rfl ?_
                  refine wp_bipush (pc := 13) dX11_isSign_13 (by decide) ?_
                  refine wp_icmp_eq (pc := 15) 66 dX11_isSign_15 (by decide) (by omega) (by decide) (fun h_8 => ?_) (fun h_8 => ?_)
                  · refine wp_iconst (pc := 66) dX11_isSign_66 ?_
                    refine wp_goto (pc := 67) 71 dX11_isSign_67 (by decide) ?_
                    refine wp_zret (pc := 71) dX11_isSign_71 rfl rfl (by decide) ?_
                    refine wp_eqst (st' := [vI 1, vR 111]) rfl ?_
                    refine wp_if_eq (pc := 221) 228 dX11_token_221 (by decide) (by decide) (fun hh => absurd hh (by decide)) (fun _ => ?_)
                    refine wp_iload_n (pc := 224) 1 dX11_token_224 rfl rfl ?_
                    refine wp_goto (pc := 225) 229 dX11_token_225 (by decide) ?_
                    refine wp_puti (pc := 229) dX11_token_229 rfl f_X11_172 kd_111 la_111 (fun _ h => by cases h; rfl) rfl ?_
                    refine wp_none 1 [some (vR 111), none, some (vI 1)] rfl ?_
                    have tk := tk_sgn (b := b) (c := c) (by omega) (fun z => by have z1 : 97 ≤ b (tp b c) ∧ b (tp b c) ≤ 122 := z; omega) (fun z => by have z1 : 48 ≤ b (tp b c) ∧ b (tp b c) ≤ 57 := z; omega)
                    have t1 : ts b c = (b (tp b c)) := tk.2.1 (by unfold isSg; omega)
                    refine lp_tkend (I := I) (k := 1) hB hc (((hK.up (by decide)).up (by decide)).up (by decide)) (by rw [up_s, t1]) (by rw [up_j (by omega), up_j (by omega), up_s]) ⟨by rw [show (up (up (up K 111 7 ((tp b c : Nat) : Int)) 111 8 0) 111 6 (b (tp b c))) 111 8 = 0 from (by rw [up_j (by omega), up_s])]; decide, fun z => by omega⟩ (by rw [up_j (by omega), up_j (by omega), up_j (by omega), q4]) (fun _ => tk.1.symm) ⟨by rw [upL_s]; decide, fun z => by omega⟩ (fun J M hJ hM hT => hQ J M hJ (Lb.refl.up.trans hM) hT)
                  · refine wp_iload_n (pc := 18) 0 dX11_isSign_18 rfl rfl ?_
                    refine wp_bipush (pc := 19) dX11_isSign_19 (by decide) ?_
                    refine wp_icmp_eq (pc := 21) 66 dX11_isSign_21 (by decide) (by omega) (by decide) (fun h_9 => ?_) (fun h_9 => ?_)
                    · refine wp_iconst (pc := 66) dX11_isSign_66 ?_
                      refine wp_goto (pc := 67) 71 dX11_isSign_67 (by decide) ?_
                      refine wp_zret (pc := 71) dX11_isSign_71 rfl rfl (by decide) ?_
                      refine wp_eqst (st' := [vI 1, vR 111]) rfl ?_
                      refine wp_if_eq (pc := 221) 228 dX11_token_221 (by decide) (by decide) (fun hh => absurd hh (by decide)) (fun _ => ?_)
                      refine wp_iload_n (pc := 224) 1 dX11_token_224 rfl rfl ?_
                      refine wp_goto (pc := 225) 229 dX11_token_225 (by decide) ?_
                      refine wp_puti (pc := 229) dX11_token_229 rfl f_X11_172 kd_111 la_111 (fun _ h => by cases h; rfl) rfl ?_
                      refine wp_none 1 [some (vR 111), none, some (vI 1)] rfl ?_
                      have tk := tk_sgn (b := b) (c := c) (by omega) (fun z => by have z1 : 97 ≤ b (tp b c) ∧ b (tp b c) ≤ 122 := z; omega) (fun z => by have z1 : 48 ≤ b (tp b c) ∧ b (tp b c) ≤ 57 := z; omega)
                      have t1 : ts b c = (b (tp b c)) := tk.2.1 (by unfold isSg; omega)
                      refine lp_tkend (I := I) (k := 1) hB hc (((hK.up (by decide)).up (by decide)).up (by decide)) (by rw [up_s, t1]) (by rw [up_j (by omega), up_j (by omega), up_s]) ⟨by rw [show (up (up (up K 111 7 ((tp b c : Nat) : Int)) 111 8 0) 111 6 (b (tp b c))) 111 8 = 0 from (by rw [up_j (by omega), up_s])]; decide, fun z => by omega⟩ (by rw [up_j (by omega), up_j (by omega), up_j (by omega), q4]) (fun _ => tk.1.symm) ⟨by rw [upL_s]; decide, fun z => by omega⟩ (fun J M hJ hM hT => hQ J M hJ (Lb.refl.up.trans hM) hT)
                    · refine wp_iload_n (pc := 24) 0 dX11_isSign_24 rfl rfl ?_
                      refine wp_bipush (pc := 25) dX11_isSign_25 (by decide) ?_
                      refine wp_icmp_eq (pc := 27) 66 dX11_isSign_27 (by decide) (by omega) (by decide) (fun h_10 => ?_) (fun h_10 => ?_)
                      · refine wp_iconst (pc := 66) dX11_isSign_66 ?_
                        refine wp_goto (pc := 67) 71 dX11_isSign_67 (by decide) ?_
                        refine wp_zret (pc := 71) dX11_isSign_71 rfl rfl (by decide) ?_
                        refine wp_eqst (st' := [vI 1, vR 111]) rfl ?_
                        refine wp_if_eq (pc := 221) 228 dX11_token_221 (by decide) (by decide) (fun hh => absurd hh (by decide)) (fun _ => ?_)
                        refine wp_iload_n (pc := 224) 1 dX11_token_224 rfl rfl ?_
                        refine wp_goto (pc := 225) 229 dX11_token_225 (by decide) ?_
                        refine wp_puti (pc := 229) dX11_token_229 rfl f_X11_172 kd_111 la_111 (fun _ h => by cases h; rfl) rfl ?_
                        refine wp_none 1 [some (vR 111), none, some (vI 1)] rfl ?_
                        have tk := tk_sgn (b := b) (c := c) (by omega) (fun z => by have z1 : 97 ≤ b (tp b c) ∧ b (tp b c) ≤ 122 := z; omega) (fun z => by have z1 : 48 ≤ b (tp b c) ∧ b (tp b c) ≤ 57 := z; omega)
                        have t1 : ts b c = (b (tp b c)) := tk.2.1 (by unfold isSg; omega)
                        refine lp_tkend (I := I) (k := 1) hB hc (((hK.up (by decide)).up (by decide)).up (by decide)) (by rw [up_s, t1]) (by rw [up_j (by omega), up_j (by omega), up_s]) ⟨by rw [show (up (up (up K 111 7 ((tp b c : Nat) : Int)) 111 8 0) 111 6 (b (tp b c))) 111 8 = 0 from (by rw [up_j (by omega), up_s])]; decide, fun z => by omega⟩ (by rw [up_j (by omega), up_j (by omega), up_j (by omega), q4]) (fun _ => tk.1.symm) ⟨by rw [upL_s]; decide, fun z => by omega⟩ (fun J M hJ hM hT => hQ J M hJ (Lb.refl.up.trans hM) hT)
                      · refine wp_iload_n (pc := 30) 0 dX11_isSign_30 rfl rfl ?_
                        refine wp_bipush (pc := 31) dX11_isSign_31 (by decide) ?_
                        refine wp_icmp_eq (pc := 33) 66 dX11_isSign_33 (by decide) (by omega) (by decide) (fun h_11 => ?_) (fun h_11 => ?_)
                        · refine wp_iconst (pc := 66) dX11_isSign_66 ?_
                          refine wp_goto (pc := 67) 71 dX11_isSign_67 (by decide) ?_
                          refine wp_zret (pc := 71) dX11_isSign_71 rfl rfl (by decide) ?_
                          refine wp_eqst (st' := [vI 1, vR 111]) rfl ?_
                          refine wp_if_eq (pc := 221) 228 dX11_token_221 (by decide) (by decide) (fun hh => absurd hh (by decide)) (fun _ => ?_)
                          refine wp_iload_n (pc := 224) 1 dX11_token_224 rfl rfl ?_
                          refine wp_goto (pc := 225) 229 dX11_token_225 (by decide) ?_
                          refine wp_puti (pc := 229) dX11_token_229 rfl f_X11_172 kd_111 la_111 (fun _ h => by cases h; rfl) rfl ?_
                          refine wp_none 1 [some (vR 111), none, some (vI 1)] rfl ?_
                          have tk := tk_sgn (b := b) (c := c) (by omega) (fun z => by have z1 : 97 ≤ b (tp b c) ∧ b (tp b c) ≤ 122 := z; omega) (fun z => by have z1 : 48 ≤ b (tp b c) ∧ b (tp b c) ≤ 57 := z; omega)
                          have t1 : ts b c = (b (tp b c)) := tk.2.1 (by unfold isSg; omega)
                          refine lp_tkend (I := I) (k := 1) hB hc (((hK.up (by decide)).up (by decide)).up (by decide)) (by rw [up_s, t1]) (by rw [up_j (by omega), up_j (by omega), up_s]) ⟨by rw [show (up (up (up K 111 7 ((tp b c : Nat) : Int)) 111 8 0) 111 6 (b (tp b c))) 111 8 = 0 from (by rw [up_j (by omega), up_s])]; decide, fun z => by omega⟩ (by rw [up_j (by omega), up_j (by omega), up_j (by omega), q4]) (fun _ => tk.1.symm) ⟨by rw [upL_s]; decide, fun z => by omega⟩ (fun J M hJ hM hT => hQ J M hJ (Lb.refl.up.trans hM) hT)
                        · refine wp_iload_n (pc := 36) 0 dX11_isSign_36 rfl rfl ?_
                          refine wp_bipush (pc := 37) dX11_isSign_37 (by decide) ?_
                          refine wp_icmp_eq (pc := 39) 66 dX11_isSign_39 (by decide) (by omega) (by decide) (fun h_12 => ?_) (fun h_12 => ?_)
                          · refine wp_iconst (pc := 66) dX11_isSign_66 ?_
                            refine wp_goto (pc := 67) 71 dX11_isSign_67 (by decide) ?_
                            refine wp_zret (pc := 71) dX11_isSign_71 rfl rfl (by decide) ?_
                            refine wp_eqst (st' := [vI 1, vR 111]) rfl ?_
                            refine wp_if_eq (pc := 221) 228 dX11_token_221 (by decide) (by decide) (fun hh => absurd hh (by decide)) (fun _ => ?_)
                            refine wp_iload_n (pc := 224) 1 dX11_token_224 rfl rfl ?_
                            refine wp_goto (pc := 225) 229 dX11_token_225 (by decide) ?_
                            refine wp_puti (pc := 229) dX11_token_229 rfl f_X11_172 kd_111 la_111 (fun _ h => by cases h; rfl) rfl ?_
                            refine wp_none 1 [some (vR 111), none, some (vI 1)] rfl ?_
                            have tk := tk_sgn (b := b) (c := c) (by omega) (fun z => by have z1 : 97 ≤ b (tp b c) ∧ b (tp b c) ≤ 122 := z; omega) (fun z => by have z1 : 48 ≤ b (tp b c) ∧ b (tp b c) ≤ 57 := z; omega)
                            have t1 : ts b c = (b (tp b c)) := tk.2.1 (by unfold isSg; omega)
                            refine lp_tkend (I := I) (k := 1) hB hc (((hK.up (by decide)).up (by decide)).up (by decide)) (by rw [up_s, t1]) (by rw [up_j (by omega), up_j (by omega), up_s]) ⟨by rw [show (up (up (up K 111 7 ((tp b c : Nat) : Int)) 111 8 0) 111 6 (b (tp b c))) 111 8 = 0 from (by rw [up_j (by omega), up_s])]; decide, fun z => by omega⟩ (by rw [up_j (by omega), up_j (by omega), up_j (by omega), q4]) (fun _ => tk.1.symm) ⟨by rw [upL_s]; decide, fun z => by omega⟩ (fun J M hJ hM hT => hQ J M hJ (Lb.refl.up.trans hM) hT)
                          · refine wp_iload_n (pc := 42) 0 dX11_isSign_42 rfl rfl ?_
                            refine wp_bipush (pc := 43) dX11_isSign_43 (by decide) ?_
                            refine wp_icmp_eq (pc := 45) 66 dX11_isSign_45 (by decide) (by omega) (by decide) (fun h_13 => ?_) (fun h_13 => ?_)
                            · refine wp_iconst (pc := 66) dX11_isSign_66 ?_
                              refine wp_goto (pc := 67) 71 dX11_isSign_67 (by decide) ?_
                              refine wp_zret (pc := 71) dX11_isSign_71 rfl rfl (by decide) ?_
                              refine wp_eqst (st' := [vI 1, vR 111]) rfl ?_
                              refine wp_if_eq (pc := 221) 228 dX11_token_221 (by decide) (by decide) (fun hh => absurd hh (by decide)) (fun _ => ?_)
                              refine wp_iload_n (pc := 224) 1 dX11_token_224 rfl rfl ?_
                              refine wp_goto (pc := 225) 229 dX11_token_225 (by decide) ?_
                              refine wp_puti (pc := 229) dX11_token_229 rfl f_X11_172 kd_111 la_111 (fun _ h => by cases h; rfl) rfl ?_
                              refine wp_none 1 [some (vR 111), none, some (vI 1)] rfl ?_
                              have tk := tk_sgn (b := b) (c := c) (by omega) (fun z => by have z1 : 97 ≤ b (tp b c) ∧ b (tp b c) ≤ 122 := z; omega) (fun z => by have z1 : 48 ≤ b (tp b c) ∧ b (tp b c) ≤ 57 := z; omega)
                              have t1 : ts b c = (b (tp b c)) := tk.2.1 (by unfold isSg; omega)
                              refine lp_tkend (I := I) (k := 1) hB hc (((hK.up (by decide)).up (by decide)).up (by decide)) (by rw [up_s, t1]) (by rw [up_j (by omega), up_j (by omega), up_s]) ⟨by rw [show (up (up (up K 111 7 ((tp b c : Nat) : Int)) 111 8 0) 111 6 (b (tp b c))) 111 8 = 0 from (by rw [up_j (by omega), up_s])]; decide, fun z => by omega⟩ (by rw [up_j (by omega), up_j (by omega), up_j (by omega), q4]) (fun _ => tk.1.symm) ⟨by rw [upL_s]; decide, fun z => by omega⟩ (fun J M hJ hM hT => hQ J M hJ (Lb.refl.up.trans hM) hT)
                            · refine wp_iload_n (pc := 48) 0 dX11_isSign_48 rfl rfl ?_
                              refine wp_bipush (pc := 49) dX11_isSign_49 (by decide) ?_
                              refine wp_icmp_eq (pc := 51) 66 dX11_isSign_51 (by decide) (by omega) (by decide) (fun h_14 => ?_) (fun h_14 => ?_)
                              · refine wp_iconst (pc := 66) dX11_isSign_66 ?_
                                refine wp_goto (pc := 67) 71 dX11_isSign_67 (by decide) ?_
                                refine wp_zret (pc := 71) dX11_isSign_71 rfl rfl (by decide) ?_
                                refine wp_eqst (st' := [vI 1, vR 111]) rfl ?_
                                refine wp_if_eq (pc := 221) 228 dX11_token_221 (by decide) (by decide) (fun hh => absurd hh (by decide)) (fun _ => ?_)
                                refine wp_iload_n (pc := 224) 1 dX11_token_224 rfl rfl ?_
                                refine wp_goto (pc := 225) 229 dX11_token_225 (by decide) ?_
                                refine wp_puti (pc := 229) dX11_token_229 rfl f_X11_172 kd_111 la_111 (fun _ h => by cases h; rfl) rfl ?_
                                refine wp_none 1 [some (vR 111), none, some (vI 1)] rfl ?_
                                have tk := tk_sgn (b := b) (c := c) (by omega) (fun z => by have z1 : 97 ≤ b (tp b c) ∧ b (tp b c) ≤ 122 := z; omega) (fun z => by have z1 : 48 ≤ b (tp b c) ∧ b (tp b c) ≤ 57 := z; omega)
                                have t1 : ts b c = (b (tp b c)) := tk.2.1 (by unfold isSg; omega)
                                refine lp_tkend (I := I) (k := 1) hB hc (((hK.up (by decide)).up (by decide)).up (by decide)) (by rw [up_s, t1]) (by rw [up_j (by omega), up_j (by omega), up_s]) ⟨by rw [show (up (up (up K 111 7 ((tp b c : Nat) : Int)) 111 8 0) 111 6 (b (tp b c))) 111 8 = 0 from (by rw [up_j (by omega), up_s])]; decide, fun z => by omega⟩ (by rw [up_j (by omega), up_j (by omega), up_j (by omega), q4]) (fun _ => tk.1.symm) ⟨by rw [upL_s]; decide, fun z => by omega⟩ (fun J M hJ hM hT => hQ J M hJ (Lb.refl.up.trans hM) hT)
                              · refine wp_iload_n (pc := 54) 0 dX11_isSign_54 rfl rfl ?_
                                refine wp_bipush (pc := 55) dX11_isSign_55 (by decide) ?_
                                refine wp_icmp_eq (pc := 57) 66 dX11_isSign_57 (by decide) (by omega) (by decide) (fun h_15 => ?_) (fun h_15 => ?_)
                                · refine wp_iconst (pc := 66) dX11_isSign_66 ?_
                                  refine wp_goto (pc := 67) 71 dX11_isSign_67 (by decide) ?_
                                  refine wp_zret (pc := 71) dX11_isSign_71 rfl rfl (by decide) ?_
                                  refine wp_eqst (st' := [vI 1, vR 111]) rfl ?_
                                  refine wp_if_eq (pc := 221) 228 dX11_token_221 (by decide) (by decide) (fun hh => absurd hh (by decide)) (fun _ => ?_)
                                  refine wp_iload_n (pc := 224) 1 dX11_token_224 rfl rfl ?_
                                  refine wp_goto (pc := 225) 229 dX11_token_225 (by decide) ?_
                                  refine wp_puti (pc := 229) dX11_token_229 rfl f_X11_172 kd_111 la_111 (fun _ h => by cases h; rfl) rfl ?_
                                  refine wp_none 1 [some (vR 111), none, some (vI 1)] rfl ?_
                                  have tk := tk_sgn (b := b) (c := c) (by omega) (fun z => by have z1 : 97 ≤ b (tp b c) ∧ b (tp b c) ≤ 122 := z; omega) (fun z => by have z1 : 48 ≤ b (tp b c) ∧ b (tp b c) ≤ 57 := z; omega)
                                  have t1 : ts b c = (b (tp b c)) := tk.2.1 (by unfold isSg; omega)
                                  refine lp_tkend (I := I) (k := 1) hB hc (((hK.up (by decide)).up (by decide)).up (by decide)) (by rw [up_s, t1]) (by rw [up_j (by omega), up_j (by omega), up_s]) ⟨by rw [show (up (up (up K 111 7 ((tp b c : Nat) : Int)) 111 8 0) 111 6 (b (tp b c))) 111 8 = 0 from (by rw [up_j (by omega), up_s])]; decide, fun z => by omega⟩ (by rw [up_j (by omega), up_j (by omega), up_j (by omega), q4]) (fun _ => tk.1.symm) ⟨by rw [upL_s]; decide, fun z => by omega⟩ (fun J M hJ hM hT => hQ J M hJ (Lb.refl.up.trans hM) hT)
                                · refine wp_iload_n (pc := 60) 0 dX11_isSign_60 rfl rfl ?_
                                  refine wp_bipush (pc := 61) dX11_isSign_61 (by decide) ?_
                                  refine wp_icmp_ne (pc := 63) 70 dX11_isSign_63 (by decide) (by omega) (by decide) (fun h_16 => ?_) (fun h_16 => ?_)
                                  · refine wp_iconst (pc := 70) dX11_isSign_70 ?_
                                    refine wp_zret (pc := 71) dX11_isSign_71 rfl rfl (by decide) ?_
                                    refine wp_eqst (st' := [vI 0, vR 111]) rfl ?_
                                    refine wp_if_eq (pc := 221) 228 dX11_token_221 (by decide) (by decide) (fun _ => ?_) (fun hh => absurd hh (by decide))
                                    refine wp_iconst (pc := 228) dX11_token_228 ?_
                                    refine wp_puti (pc := 229) dX11_token_229 rfl f_X11_172 kd_111 la_111 (fun _ h => by cases h; rfl) rfl ?_
                                    refine wp_none 1 [some (vR 111), none, some (vI 1)] rfl ?_
                                    have tk := tk_sgn (b := b) (c := c) (by omega) (fun z => by have z1 : 97 ≤ b (tp b c) ∧ b (tp b c) ≤ 122 := z; omega) (fun z => by have z1 : 48 ≤ b (tp b c) ∧ b (tp b c) ≤ 57 := z; omega)
                                    have t1 : ts b c = 3 := tk.2.2 (by unfold isSg; omega)
                                    refine lp_tkend (I := I) (k := 1) hB hc (((hK.up (by decide)).up (by decide)).up (by decide)) (by rw [up_s, t1]) (by rw [up_j (by omega), up_j (by omega), up_s]) ⟨by rw [show (up (up (up K 111 7 ((tp b c : Nat) : Int)) 111 8 0) 111 6 3) 111 8 = 0 from (by rw [up_j (by omega), up_s])]; decide, fun z => by omega⟩ (by rw [up_j (by omega), up_j (by omega), up_j (by omega), q4]) (fun _ => tk.1.symm) ⟨by rw [upL_s]; decide, fun z => by omega⟩ (fun J M hJ hM hT => hQ J M hJ (Lb.refl.up.trans hM) hT)
                                  · refine wp_iconst (pc := 66) dX11_isSign_66 ?_
                                    refine wp_goto (pc := 67) 71 dX11_isSign_67 (by decide) ?_
                                    refine wp_zret (pc := 71) dX11_isSign_71 rfl rfl (by decide) ?_
                                    refine wp_eqst (st' := [vI 1, vR 111]) rfl ?_
                                    refine wp_if_eq (pc := 221) 228 dX11_token_221 (by decide) (by decide) (fun hh => absurd hh (by decide)) (fun _ => ?_)
                                    refine wp_iload_n (pc := 224) 1 dX11_token_224 rfl rfl ?_
                                    refine wp_goto (pc := 225) 229 dX11_token_225 (by decide) ?_
                                    refine wp_puti (pc := 229) dX11_token_229 rfl f_X11_172 kd_111 la_111 (fun _ h => by cases h; rfl) rfl ?_
                                    refine wp_none 1 [some (vR 111), none, some (vI 1)] rfl ?_
                                    have tk := tk_sgn (b := b) (c := c) (by omega) (fun z => by have z1 : 97 ≤ b (tp b c) ∧ b (tp b c) ≤ 122 := z; omega) (fun z => by have z1 : 48 ≤ b (tp b c) ∧ b (tp b c) ≤ 57 := z; omega)
                                    have t1 : ts b c = (b (tp b c)) := tk.2.1 (by unfold isSg; omega)
                                    refine lp_tkend (I := I) (k := 1) hB hc (((hK.up (by decide)).up (by decide)).up (by decide)) (by rw [up_s, t1]) (by rw [up_j (by omega), up_j (by omega), up_s]) ⟨by rw [show (up (up (up K 111 7 ((tp b c : Nat) : Int)) 111 8 0) 111 6 (b (tp b c))) 111 8 = 0 from (by rw [up_j (by omega), up_s])]; decide, fun z => by omega⟩ (by rw [up_j (by omega), up_j (by omega), up_j (by omega), q4]) (fun _ => tk.1.symm) ⟨by rw [upL_s]; decide, fun z => by omega⟩ (fun J M hJ hM hT => hQ J M hJ (Lb.refl.up.trans hM) hT)
            · refine wp_iload_n (pc := 6) 0 dX11_isDigit_6 rfl rfl ?_
              refine wp_bipush (pc := 7) dX11_isDigit_7 (by decide) ?_
              refine wp_icmp_gt (pc := 9) 16 dX11_isDigit_9 (by decide) (by omega) (by decide) (fun h_17 => ?_) (fun h_17 => ?_)
              · refine wp_iconst (pc := 16) dX11_isDigit_16 ?_
                refine wp_zret (pc := 17) dX11_isDigit_17 rfl rfl (by decide) ?_
                refine wp_eqst (st' := [vI 0]) rfl ?_
                refine wp_if_eq (pc := 141) 214 dX11_token_141 (by decide) (by decide) (fun _ => ?_) (fun hh => absurd hh (by decide))
                refine wp_iconst (pc := 214) dX11_token_214 ?_
                refine wq_istore_n (pc := 215) 2 [some (vR 111), some (vI (b (tp b c))), some (vI 1)] dX11_token_215 rfl rfl (by decide) rfl ?_
                refine wp_aload_n (pc := 216) 0 dX11_token_216 rfl rfl ?_
                refine wp_iload_n (pc := 217) 1 dX11_token_217 rfl rfl ?_
                refine wp_callS (pc := 218) (st := [vR 111]) (nf' := 153) [vI (b (tp b c))] [some (vI (b (tp b c)))] dX11_token_218 rfl c_X11_182 rfl rfl (Nat.le_of_ble_eq_true rfl) rfl (Nat.le_of_ble_eq_true rfl) (by omega) (Nat.le_refl _) (Nat.le_refl _) ?_
                refine wp_iload_n (pc := 0) 0 dX11_isSign_0 rfl rfl ?_
                refine wp_bipush (pc := 1) dX11_isSign_1 (by decide) ?_
                refine wp_icmp_eq (pc := 3) 66 dX11_isSign_3 (by decide) (by omega) (by decide) (fun h_18 => ?_) (fun h_18 => ?_)
                · refine wp_iconst (pc := 66) dX11_isSign_66 ?_
                  refine wp_goto (pc := 67) 71 dX11_isSign_67 (by decide) ?_
                  refine wp_zret (pc := 71) dX11_isSign_71 rfl rfl (by decide) ?_
                  refine wp_eqst (st' := [vI 1, vR 111]) rfl ?_
                  refine wp_if_eq (pc := 221) 228 dX11_token_221 (by decide) (by decide) (fun hh => absurd hh (by decide)) (fun _ => ?_)
                  refine wp_iload_n (pc := 224) 1 dX11_token_224 rfl rfl ?_
                  refine wp_goto (pc := 225) 229 dX11_token_225 (by decide) ?_
                  refine wp_puti (pc := 229) dX11_token_229 rfl f_X11_172 kd_111 la_111 (fun _ h => by cases h; rfl) rfl ?_
                  refine wp_none 1 [some (vR 111), none, some (vI 1)] rfl ?_
                  have tk := tk_sgn (b := b) (c := c) (by omega) (fun z => by have z1 : 97 ≤ b (tp b c) ∧ b (tp b c) ≤ 122 := z; omega) (fun z => by have z1 : 48 ≤ b (tp b c) ∧ b (tp b c) ≤ 57 := z; omega)
                  have t1 : ts b c = (b (tp b c)) := tk.2.1 (by unfold isSg; omega)
                  refine lp_tkend (I := I) (k := 1) hB hc (((hK.up (by decide)).up (by decide)).up (by decide)) (by rw [up_s, t1]) (by rw [up_j (by omega), up_j (by omega), up_s]) ⟨by rw [show (up (up (up K 111 7 ((tp b c : Nat) : Int)) 111 8 0) 111 6 (b (tp b c))) 111 8 = 0 from (by rw [up_j (by omega), up_s])]; decide, fun z => by omega⟩ (by rw [up_j (by omega), up_j (by omega), up_j (by omega), q4]) (fun _ => tk.1.symm) ⟨by rw [upL_s]; decide, fun z => by omega⟩ (fun J M hJ hM hT => hQ J M hJ (Lb.refl.up.trans hM) hT)
                · refine wp_iload_n (pc := 6) 0 dX11_isSign_6 rfl rfl ?_
                  refine wp_bipush (pc := 7) dX11_isSign_7 (by decide) ?_
                  refine wp_icmp_eq (pc := 9) 66 dX11_isSign_9 (by decide) (by omega) (by decide) (fun h_19 => ?_) (fun h_19 => ?_)
                  · refine wp_iconst (pc := 66) dX11_isSign_66 ?_
                    refine wp_goto (pc := 67) 71 dX11_isSign_67 (by decide) ?_
                    refine wp_zret (pc := 71) dX11_isSign_71 rfl rfl (by decide) ?_
                    refine wp_eqst (st' := [vI 1, vR 111]) rfl ?_
                    refine wp_if_eq (pc := 221) 228 dX11_token_221 (by decide) (by decide) (fun hh => absurd hh (by decide)) (fun _ => ?_)
                    refine wp_iload_n (pc := 224) 1 dX11_token_224 rfl rfl ?_
                    refine wp_goto (pc := 225) 229 dX11_token_225 (by decide) ?_
                    refine wp_puti (pc := 229) dX11_token_229 rfl f_X11_172 kd_111 la_111 (fun _ h => by cases h; rfl) rfl ?_
                    refine wp_none 1 [some (vR 111), none, some (vI 1)] rfl ?_
                    have tk := tk_sgn (b := b) (c := c) (by omega) (fun z => by have z1 : 97 ≤ b (tp b c) ∧ b (tp b c) ≤ 122 := z; omega) (fun z => by have z1 : 48 ≤ b (tp b c) ∧ b (tp b c) ≤ 57 := z; omega)
                    have t1 : ts b c = (b (tp b c)) := tk.2.1 (by unfold isSg; omega)
                    refine lp_tkend (I := I) (k := 1) hB hc (((hK.up (by decide)).up (by decide)).up (by decide)) (by rw [up_s, t1]) (by rw [up_j (by omega), up_j (by omega), up_s]) ⟨by rw [show (up (up (up K 111 7 ((tp b c : Nat) : Int)) 111 8 0) 111 6 (b (tp b c))) 111 8 = 0 from (by rw [up_j (by omega), up_s])]; decide, fun z => by omega⟩ (by rw [up_j (by omega), up_j (by omega), up_j (by omega), q4]) (fun _ => tk.1.symm) ⟨by rw [upL_s]; decide, fun z => by omega⟩ (fun J M hJ hM hT => hQ J M hJ (Lb.refl.up.trans hM) hT)
                  · refine wp_iload_n (pc := 12) 0 dX11_isSign_12 rfl rfl ?_
                    refine wp_bipush (pc := 13) dX11_isSign_13 (by decide) ?_
                    refine wp_icmp_eq (pc := 15) 66 dX11_isSign_15 (by decide) (by omega) (by decide) (fun h_20 => ?_) (fun h_20 => ?_)
                    · refine wp_iconst (pc := 66) dX11_isSign_66 ?_
                      refine wp_goto (pc := 67) 71 dX11_isSign_67 (by decide) ?_
                      refine wp_zret (pc := 71) dX11_isSign_71 rfl rfl (by decide) ?_
                      refine wp_eqst (st' := [vI 1, vR 111]) rfl ?_
                      refine wp_if_eq (pc := 221) 228 dX11_token_221 (by decide) (by decide) (fun hh => absurd hh (by decide)) (fun _ => ?_)
                      refine wp_iload_n (pc := 224) 1 dX11_token_224 rfl rfl ?_
                      refine wp_goto (pc := 225) 229 dX11_token_225 (by decide) ?_
                      refine wp_puti (pc := 229) dX11_token_229 rfl f_X11_172 kd_111 la_111 (fun _ h => by cases h; rfl) rfl ?_
                      refine wp_none 1 [some (vR 111), none, some (vI 1)] rfl ?_
                      have tk := tk_sgn (b := b) (c := c) (by omega) (fun z => by have z1 : 97 ≤ b (tp b c) ∧ b (tp b c) ≤ 122 := z; omega) (fun z => by have z1 : 48 ≤ b (tp b c) ∧ b (tp b c) ≤ 57 := z; omega)
                      have t1 : ts b c = (b (tp b c)) := tk.2.1 (by unfold isSg; omega)
                      refine lp_tkend (I := I) (k := 1) hB hc (((hK.up (by decide)).up (by decide)).up (by decide)) (by rw [up_s, t1]) (by rw [up_j (by omega), up_j (by omega), up_s]) ⟨by rw [show (up (up (up K 111 7 ((tp b c : Nat) : Int)) 111 8 0) 111 6 (b (tp b c))) 111 8 = 0 from (by rw [up_j (by omega), up_s])]; decide, fun z => by omega⟩ (by rw [up_j (by omega), up_j (by omega), up_j (by omega), q4]) (fun _ => tk.1.symm) ⟨by rw [upL_s]; decide, fun z => by omega⟩ (fun J M hJ hM hT => hQ J M hJ (Lb.refl.up.trans hM) hT)
                    · refine wp_iload_n (pc := 18) 0 dX11_isSign_18 rfl rfl ?_
                      refine wp_bipush (pc := 19) dX11_isSign_19 (by decide) ?_
                      refine wp_icmp_eq (pc := 21) 66 dX11_isSign_21 (by decide) (by omega) (by decide) (fun h_21 => ?_) (fun h_21 => ?_)
                      · refine wp_iconst (pc := 66) dX11_isSign_66 ?_
                        refine wp_goto (pc := 67) 71 dX11_isSign_67 (by decide) ?_
                        refine wp_zret (pc := 71) dX11_isSign_71 rfl rfl (by decide) ?_
                        refine wp_eqst (st' := [vI 1, vR 111]) rfl ?_
                        refine wp_if_eq (pc := 221) 228 dX11_token_221 (by decide) (by decide) (fun hh => absurd hh (by decide)) (fun _ => ?_)
                        refine wp_iload_n (pc := 224) 1 dX11_token_224 rfl rfl ?_
                        refine wp_goto (pc := 225) 229 dX11_token_225 (by decide) ?_
                        refine wp_puti (pc := 229) dX11_token_229 rfl f_X11_172 kd_111 la_111 (fun _ h => by cases h; rfl) rfl ?_
                        refine wp_none 1 [some (vR 111), none, some (vI 1)] rfl ?_
                        have tk := tk_sgn (b := b) (c := c) (by omega) (fun z => by have z1 : 97 ≤ b (tp b c) ∧ b (tp b c) ≤ 122 := z; omega) (fun z => by have z1 : 48 ≤ b (tp b c) ∧ b (tp b c) ≤ 57 := z; omega)
                        have t1 : ts b c = (b (tp b c)) := tk.2.1 (by unfold isSg; omega)
                        refine lp_tkend (I := I) (k := 1) hB hc (((hK.up (by decide)).up (by decide)).up (by decide)) (by rw [up_s, t1]) (by rw [up_j (by omega), up_j (by omega), up_s]) ⟨by rw [show (up (up (up K 111 7 ((tp b c : Nat) : Int)) 111 8 0) 111 6 (b (tp b c))) 111 8 = 0 from (by rw [up_j (by omega), up_s])]; decide, fun z => by omega⟩ (by rw [up_j (by omega), up_j (by omega), up_j (by omega), q4]) (fun _ => tk.1.symm) ⟨by rw [upL_s]; decide, fun z => by omega⟩ (fun J M hJ hM hT => hQ J M hJ (Lb.refl.up.trans hM) hT)
                      · refine wp_iload_n (pc := 24) 0 dX11_isSign_24 rfl rfl ?_
                        refine wp_bipush (pc := 25) dX11_isSign_25 (by decide) ?_
                        refine wp_icmp_eq (pc := 27) 66 dX11_isSign_27 (by decide) (by omega) (by decide) (fun h_22 => ?_) (fun h_22 => ?_)
                        · refine wp_iconst (pc := 66) dX11_isSign_66 ?_
                          refine wp_goto (pc := 67) 71 dX11_isSign_67 (by decide) ?_
                          refine wp_zret (pc := 71) dX11_isSign_71 rfl rfl (by decide) ?_
                          refine wp_eqst (st' := [vI 1, vR 111]) rfl ?_
                          refine wp_if_eq (pc := 221) 228 dX11_token_221 (by decide) (by decide) (fun hh => absurd hh (by decide)) (fun _ => ?_)
                          refine wp_iload_n (pc := 224) 1 dX11_token_224 rfl rfl ?_
                          refine wp_goto (pc := 225) 229 dX11_token_225 (by decide) ?_
                          refine wp_puti (pc := 229) dX11_token_229 rfl f_X11_172 kd_111 la_111 (fun _ h => by cases h; rfl) rfl ?_
                          refine wp_none 1 [some (vR 111), none, some (vI 1)] rfl ?_
                          have tk := tk_sgn (b := b) (c := c) (by omega) (fun z => by have z1 : 97 ≤ b (tp b c) ∧ b (tp b c) ≤ 122 := z; omega) (fun z => by have z1 : 48 ≤ b (tp b c) ∧ b (tp b c) ≤ 57 := z; omega)
                          have t1 : ts b c = (b (tp b c)) := tk.2.1 (by unfold isSg; omega)
                          refine lp_tkend (I := I) (k := 1) hB hc (((hK.up (by decide)).up (by decide)).up (by decide)) (by rw [up_s, t1]) (by rw [up_j (by omega), up_j (by omega), up_s]) ⟨by rw [show (up (up (up K 111 7 ((tp b c : Nat) : Int)) 111 8 0) 111 6 (b (tp b c))) 111 8 = 0 from (by rw [up_j (by omega), up_s])]; decide, fun z => by omega⟩ (by rw [up_j (by omega), up_j (by omega), up_j (by omega), q4]) (fun _ => tk.1.symm) ⟨by rw [upL_s]; decide, fun z => by omega⟩ (fun J M hJ hM hT => hQ J M hJ (Lb.refl.up.trans hM) hT)
                        · refine wp_iload_n (pc := 30) 0 dX11_isSign_30 rfl rfl ?_
                          refine wp_bipush (pc := 31) dX11_isSign_31 (by decide) ?_
                          refine wp_icmp_eq (pc := 33) 66 dX11_isSign_33 (by decide) (by omega) (by decide) (fun h_23 => ?_) (fun h_23 => ?_)
                          · refine wp_iconst (pc := 66) dX11_isSign_66 ?_
                            refine wp_goto (pc := 67) 71 dX11_isSign_67 (by decide) ?_
                            refine wp_zret (pc := 71) dX11_isSign_71 rfl rfl (by decide) ?_
                            refine wp_eqst (st' := [vI 1, vR 111]) rfl ?_
                            refine wp_if_eq (pc := 221) 228 dX11_token_221 (by decide) (by decide) (fun hh => absurd hh (by decide)) (fun _ => ?_)
                            refine wp_iload_n (pc := 224) 1 dX11_token_224 rfl rfl ?_
                            refine wp_goto (pc := 225) 229 dX11_token_225 (by decide) ?_
                            refine wp_puti (pc := 229) dX11_token_229 rfl f_X11_172 kd_111 la_111 (fun _ h => by cases h; rfl) rfl ?_
                            refine wp_none 1 [some (vR 111), none, some (vI 1)] rfl ?_
                            have tk := tk_sgn (b := b) (c := c) (by omega) (fun z => by have z1 : 97 ≤ b (tp b c) ∧ b (tp b c) ≤ 122 := z; omega) (fun z => by have z1 : 48 ≤ b (tp b c) ∧ b (tp b c) ≤ 57 := z; omega)
                            have t1 : ts b c = (b (tp b c)) := tk.2.1 (by unfold isSg; omega)
                            refine lp_tkend (I := I) (k := 1) hB hc (((hK.up (by decide)).up (by decide)).up (by decide)) (by rw [up_s, t1]) (by rw [up_j (by omega), up_j (by omega), up_s]) ⟨by rw [show (up (up (up K 111 7 ((tp b c : Nat) : Int)) 111 8 0) 111 6 (b (tp b c))) 111 8 = 0 from (by rw [up_j (by omega), up_s])]; decide, fun z => by omega⟩ (by rw [up_j (by omega), up_j (by omega), up_j (by omega), q4]) (fun _ => tk.1.symm) ⟨by rw [upL_s]; decide, fun z => by omega⟩ (fun J M hJ hM hT => hQ J M hJ (Lb.refl.up.trans hM) hT)
                          · refine wp_iload_n (pc := 36) 0 dX11_isSign_36 rfl rfl ?_
                            refine wp_bipush (pc := 37) dX11_isSign_37 (by decide) ?_
                            refine wp_icmp_eq (pc := 39) 66 dX11_isSign_39 (by decide) (by omega) (by decide) (fun h_24 => ?_) (fun h_24 => ?_)
                            · refine wp_iconst (pc := 66) dX11_isSign_66 ?_
                              refine wp_goto (pc := 67) 71 dX11_isSign_67 (by decide) ?_
                              refine wp_zret (pc := 71) dX11_isSign_71 rfl rfl (by decide) ?_
                              refine wp_eqst (st' := [vI 1, vR 111]) rfl ?_
                              refine wp_if_eq (pc := 221) 228 dX11_token_221 (by decide) (by decide) (fun hh => absurd hh (by decide)) (fun _ => ?_)
                              refine wp_iload_n (pc := 224) 1 dX11_token_224 rfl rfl ?_
                              refine wp_goto (pc := 225) 229 dX11_token_225 (by decide) ?_
                              refine wp_puti (pc := 229) dX11_token_229 rfl f_X11_172 kd_111 la_111 (fun _ h => by cases h; rfl) rfl ?_
                              refine wp_none 1 [some (vR 111), none, some (vI 1)] rfl ?_
                              have tk := tk_sgn (b := b) (c := c) (by omega) (fun z => by have z1 : 97 ≤ b (tp b c) ∧ b (tp b c) ≤ 122 := z; omega) (fun z => by have z1 : 48 ≤ b (tp b c) ∧ b (tp b c) ≤ 57 := z; omega)
                              have t1 : ts b c = (b (tp b c)) := tk.2.1 (by unfold isSg; omega)
                              refine lp_tkend (I := I) (k := 1) hB hc (((hK.up (by decide)).up (by decide)).up (by decide)) (by rw [up_s, t1]) (by rw [up_j (by omega), up_j (by omega), up_s]) ⟨by rw [show (up (up (up K 111 7 ((tp b c : Nat) : Int)) 111 8 0) 111 6 (b (tp b c))) 111 8 = 0 from (by rw [up_j (by omega), up_s])]; decide, fun z => by omega⟩ (by rw [up_j (by omega), up_j (by omega), up_j (by omega), q4]) (fun _ => tk.1.symm) ⟨by rw [upL_s]; decide, fun z => by omega⟩ (fun J M hJ hM hT => hQ J M hJ (Lb.refl.up.trans hM) hT)
                            · refine wp_iload_n (pc := 42) 0 dX11_isSign_42 rfl rfl ?_
                              refine wp_bipush (pc := 43) dX11_isSign_43 (by decide) ?_
                              refine wp_icmp_eq (pc := 45) 66 dX11_isSign_45 (by decide) (by omega) (by decide) (fun h_25 => ?_) (fun h_25 => ?_)
                              · refine wp_iconst (pc := 66) dX11_isSign_66 ?_
                                refine wp_goto (pc := 67) 71 dX11_isSign_67 (by decide) ?_
                                refine wp_zret (pc := 71) dX11_isSign_71 rfl rfl (by decide) ?_
                                refine wp_eqst (st' := [vI 1, vR 111]) rfl ?_
                                refine wp_if_eq (pc := 221) 228 dX11_token_221 (by decide) (by decide) (fun hh => absurd hh (by decide)) (fun _ => ?_)
                                refine wp_iload_n (pc := 224) 1 dX11_token_224 rfl rfl ?_
                                refine wp_goto (pc := 225) 229 dX11_token_225 (by decide) ?_
                                refine wp_puti (pc := 229) dX11_token_229 rfl f_X11_172 kd_111 la_111 (fun _ h => by cases h; rfl) rfl ?_
                                refine wp_none 1 [some (vR 111), none, some (vI 1)] rfl ?_
                                have tk := tk_sgn (b := b) (c := c) (by omega) (fun z => by have z1 : 97 ≤ b (tp b c) ∧ b (tp b c) ≤ 122 := z; omega) (fun z => by have z1 : 48 ≤ b (tp b c) ∧ b (tp b c) ≤ 57 := z; omega)
                                have t1 : ts b c = (b (tp b c)) := tk.2.1 (by unfold isSg; omega)
                                refine lp_tkend (I := I) (k := 1) hB hc (((hK.up (by decide)).up (by decide)).up (by decide)) (by rw [up_s, t1]) (by rw [up_j (by omega), up_j (by omega), up_s]) ⟨by rw [show (up (up (up K 111 7 ((tp b c : Nat) : Int)) 111 8 0) 111 6 (b (tp b c))) 111 8 = 0 from (by rw [up_j (by omega), up_s])]; decide, fun z => by omega⟩ (by rw [up_j (by omega), up_j (by omega), up_j (by omega), q4]) (fun _ => tk.1.symm) ⟨by rw [upL_s]; decide, fun z => by omega⟩ (fun J M hJ hM hT => hQ J M hJ (Lb.refl.up.trans hM) hT)
                              · refine wp_iload_n (pc := 48) 0 dX11_isSign_48 rfl rfl ?_
                                refine wp_bipush (pc := 49) dX11_isSign_49 (by decide) ?_
                                refine wp_icmp_eq (pc := 51) 66 dX11_isSign_51 (by decide) (by omega) (by decide) (fun h_26 => ?_) (fun h_26 => ?_)
                                · refine wp_iconst (pc := 66) dX11_isSign_66 ?_
                                  refine wp_goto (pc := 67) 71 dX11_isSign_67 (by decide) ?_
                                  refine wp_zret (pc := 71) dX11_isSign_71 rfl rfl (by decide) ?_
                                  refine wp_eqst (st' := [vI 1, vR 111]) rfl ?_
                                  refine wp_if_eq (pc := 221) 228 dX11_token_221 (by decide) (by decide) (fun hh => absurd hh (by decide)) (fun _ => ?_)
                                  refine wp_iload_n (pc := 224) 1 dX11_token_224 rfl rfl ?_
                                  refine wp_goto (pc := 225) 229 dX11_token_225 (by decide) ?_
                                  refine wp_puti (pc := 229) dX11_token_229 rfl f_X11_172 kd_111 la_111 (fun _ h => by cases h; rfl) rfl ?_
                                  refine wp_none 1 [some (vR 111), none, some (vI 1)] rfl ?_
                                  have tk := tk_sgn (b := b) (c := c) (by omega) (fun z => by have z1 : 97 ≤ b (tp b c) ∧ b (tp b c) ≤ 122 := z; omega) (fun z => by have z1 : 48 ≤ b (tp b c) ∧ b (tp b c) ≤ 57 := z; omega)
                                  have t1 : ts b c = (b (tp b c)) := tk.2.1 (by unfold isSg; omega)
                                  refine lp_tkend (I := I) (k := 1) hB hc (((hK.up (by decide)).up (by decide)).up (by decide)) (by rw [up_s, t1]) (by rw [up_j (by omega), up_j (by omega), up_s]) ⟨by rw [show (up (up (up K 111 7 ((tp b c : Nat) : Int)) 111 8 0) 111 6 (b (tp b c))) 111 8 = 0 from (by rw [up_j (by omega), up_s])]; decide, fun z => by omega⟩ (by rw [up_j (by omega), up_j (by omega), up_j (by omega), q4]) (fun _ => tk.1.symm) ⟨by rw [upL_s]; decide, fun z => by omega⟩ (fun J M hJ hM hT => hQ J M hJ (Lb.refl.up.trans hM) hT)
                                · refine wp_iload_n (pc := 54) 0 dX11_isSign_54 rfl rfl ?_
                                  refine wp_bipush (pc := 55) dX11_isSign_55 (by decide) ?_
                                  refine wp_icmp_eq (pc := 57) 66 dX11_isSign_57 (by decide) (by omega) (by decide) (fun h_27 => ?_) (fun h_27 => ?_)
                                  · refine wp_iconst (pc := 66) dX11_isSign_66 ?_
                                    refine wp_goto (pc := 67) 71 dX11_isSign_67 (by decide) ?_
                                    refine wp_zret (pc := 71) dX11_isSign_71 rfl rfl (by decide) ?_
                                    refine wp_eqst (st' := [vI 1, vR 111]) rfl ?_
                                    refine wp_if_eq (pc := 221) 228 dX11_token_221 (by decide) (by decide) (fun hh => absurd hh (by decide)) (fun _ => ?_)
                                    refine wp_iload_n (pc := 224) 1 dX11_token_224 rfl rfl ?_
                                    refine wp_goto (pc := 225) 229 dX11_token_225 (by decide) ?_
                                    refine wp_puti (pc := 229) dX11_token_229 rfl f_X11_172 kd_111 la_111 (fun _ h => by cases h; rfl) rfl ?_
                                    refine wp_none 1 [some (vR 111), none, some (vI 1)] rfl ?_
                                    have tk := tk_sgn (b := b) (c := c) (by omega) (fun z => by have z1 : 97 ≤ b (tp b c) ∧ b (tp b c) ≤ 122 := z; omega) (fun z => by have z1 : 48 ≤ b (tp b c) ∧ b (tp b c) ≤ 57 := z; omega)
                                    have t1 : ts b c = (b (tp b c)) := tk.2.1 (by unfold isSg; omega)
                                    refine lp_tkend (I := I) (k := 1) hB hc (((hK.up (by decide)).up (by decide)).up (by decide)) (by rw [up_s, t1]) (by rw [up_j (by omega), up_j (by omega), up_s]) ⟨by rw [show (up (up (up K 111 7 ((tp b c : Nat) : Int)) 111 8 0) 111 6 (b (tp b c))) 111 8 = 0 from (by rw [up_j (by omega), up_s])]; decide, fun z => by omega⟩ (by rw [up_j (by omega), up_j (by omega), up_j (by omega), q4]) (fun _ => tk.1.symm) ⟨by rw [upL_s]; decide, fun z => by omega⟩ (fun J M hJ hM hT => hQ J M hJ (Lb.refl.up.trans hM) hT)
                                  · refine wp_iload_n (pc := 60) 0 dX11_isSign_60 rfl rfl ?_
                                    refine wp_bipush (pc := 61) dX11_isSign_61 (by decide) ?_
                                    refine wp_icmp_ne (pc := 63) 70 dX11_isSign_63 (by decide) (by omega) (by decide) (fun h_28 => ?_) (fun h_28 => ?_)
                                    · refine wp_iconst (pc := 70) dX11_isSign_70 ?_
                                      refine wp_zret (pc := 71) dX11_isSign_71 rfl rfl (by decide) ?_
                                      refine wp_eqst (st' := [vI 0, vR 111]) rfl ?_
                                      refine wp_if_eq (pc := 221) 228 dX11_token_221 (by decide) (by decide) (fun _ => ?_) (fun hh => absurd hh (by decide))
                                      refine wp_iconst (pc := 228) dX11_token_228 ?_
                                      refine wp_puti (pc := 229) dX11_token_229 rfl f_X11_172 kd_111 la_111 (fun _ h => by cases h; rfl) rfl ?_
                                      refine wp_none 1 [some (vR 111), none, some (vI 1)] rfl ?_
                                      have tk := tk_sgn (b := b) (c := c) (by omega) (fun z => by have z1 : 97 ≤ b (tp b c) ∧ b (tp b c) ≤ 122 := z; omega) (fun z => by have z1 : 48 ≤ b (tp b c) ∧ b (tp b c) ≤ 57 := z; omega)
                                      have t1 : ts b c = 3 := tk.2.2 (by unfold isSg; omega)
                                      refine lp_tkend (I := I) (k := 1) hB hc (((hK.up (by decide)).up (by decide)).up (by decide)) (by rw [up_s, t1]) (by rw [up_j (by omega), up_j (by omega), up_s]) ⟨by rw [show (up (up (up K 111 7 ((tp b c : Nat) : Int)) 111 8 0) 111 6 3) 111 8 = 0 from (by rw [up_j (by omega), up_s])]; decide, fun z => by omega⟩ (by rw [up_j (by omega), up_j (by omega), up_j (by omega), q4]) (fun _ => tk.1.symm) ⟨by rw [upL_s]; decide, fun z => by omega⟩ (fun J M hJ hM hT => hQ J M hJ (Lb.refl.up.trans hM) hT)
                                    · refine wp_iconst (pc := 66) dX11_isSign_66 ?_
                                      refine wp_goto (pc := 67) 71 dX11_isSign_67 (by decide) ?_
                                      refine wp_zret (pc := 71) dX11_isSign_71 rfl rfl (by decide) ?_
                                      refine wp_eqst (st' := [vI 1, vR 111]) rfl ?_
                                      refine wp_if_eq (pc := 221) 228 dX11_token_221 (by decide) (by decide) (fun hh => absurd hh (by decide)) (fun _ => ?_)
                                      refine wp_iload_n (pc := 224) 1 dX11_token_224 rfl rfl ?_
                                      refine wp_goto (pc := 225) 229 dX11_token_225 (by decide) ?_
                                      refine wp_puti (pc := 229) dX11_token_229 rfl f_X11_172 kd_111 la_111 (fun _ h => by cases h; rfl) rfl ?_
                                      refine wp_none 1 [some (vR 111), none, some (vI 1)] rfl ?_
                                      have tk := tk_sgn (b := b) (c := c) (by omega) (fun z => by have z1 : 97 ≤ b (tp b c) ∧ b (tp b c) ≤ 122 := z; omega) (fun z => by have z1 : 48 ≤ b (tp b c) ∧ b (tp b c) ≤ 57 := z; omega)
                                      have t1 : ts b c = (b (tp b c)) := tk.2.1 (by unfold isSg; omega)
                                      refine lp_tkend (I := I) (k := 1) hB hc (((hK.up (by decide)).up (by decide)).up (by decide)) (by rw [up_s, t1]) (by rw [up_j (by omega), up_j (by omega), up_s]) ⟨by rw [show (up (up (up K 111 7 ((tp b c : Nat) : Int)) 111 8 0) 111 6 (b (tp b c))) 111 8 = 0 from (by rw [up_j (by omega), up_s])]; decide, fun z => by omega⟩ (by rw [up_j (by omega), up_j (by omega), up_j (by omega), q4]) (fun _ => tk.1.symm) ⟨by rw [upL_s]; decide, fun z => by omega⟩ (fun J M hJ hM hT => hQ J M hJ (Lb.refl.up.trans hM) hT)
              · refine wp_iconst (pc := 12) dX11_isDigit_12 ?_
                refine wp_goto (pc := 13) 17 dX11_isDigit_13 (by decide) ?_
                refine wp_zret (pc := 17) dX11_isDigit_17 rfl rfl (by decide) ?_
                refine wp_eqst (st' := [vI 1]) rfl ?_
                refine wp_if_eq (pc := 141) 214 dX11_token_141 (by decide) (by decide) (fun hh => absurd hh (by decide)) (fun _ => ?_)
                refine wp_none 1 [some (vR 111), none, some (vI 0)] rfl ?_
                exact rl_digits (I := I) hB hc ⟨by omega, by omega⟩ upL_s hd (fun J M hJ hM hT => hQ J M hJ (Lb.refl.up.trans hM) hT) 0 (Nat.zero_le _) (up (up K 111 7 ((tp b c : Nat) : Int)) 111 8 0) ((hK.up (by decide)).up (by decide)) (by rw [up_j (by omega), up_j (by omega), q4]) (by rw [up_j (by omega), up_s]) (by rw [show (up (up K 111 7 ((tp b c : Nat) : Int)) 111 8 0) 111 8 = 0 from (by rw [up_s])]; rfl)
          · refine wp_iload_n (pc := 6) 0 dX11_isLetter_6 rfl rfl ?_
            refine wp_bipush (pc := 7) dX11_isLetter_7 (by decide) ?_
            refine wp_icmp_gt (pc := 9) 16 dX11_isLetter_9 (by decide) (by omega) (by decide) (fun h_29 => ?_) (fun h_29 => ?_)
            · refine wp_iconst (pc := 16) dX11_isLetter_16 ?_
              refine wp_zret (pc := 17) dX11_isLetter_17 rfl rfl (by decide) ?_
              refine wp_eqst (st' := [vI 0]) rfl ?_
              refine wp_if_eq (pc := 75) 137 dX11_token_75 (by decide) (by decide) (fun _ => ?_) (fun hh => absurd hh (by decide))
              refine wp_iload_n (pc := 137) 1 dX11_token_137 rfl rfl ?_
              refine wp_callS (pc := 138) (st := []) (nf' := 153) [vI (b (tp b c))] [some (vI (b (tp b c)))] dX11_token_138 rfl c_X11_179 rfl rfl (Nat.le_of_ble_eq_true rfl) rfl (Nat.le_of_ble_eq_true rfl) (by omega) (Nat.le_refl _) (Nat.le_refl _) ?_
              refine wp_iload_n (pc := 0) 0 dX11_isDigit_0 rfl rfl ?_
              refine wp_bipush (pc := 1) dX11_isDigit_1 (by decide) ?_
              refine wp_icmp_lt (pc := 3) 16 dX11_isDigit_3 (by decide) (by omega) (by decide) (fun h_30 => ?_) (fun h_30 => ?_)
              · refine wp_iconst (pc := 16) dX11_isDigit_16 ?_
                refine wp_zret (pc := 17) dX11_isDigit_17 rfl rfl (by decide) ?_
                refine wp_eqst (st' := [vI 0]) rfl ?_
                refine wp_if_eq (pc := 141) 214 dX11_token_141 (by decide) (by decide) (fun _ => ?_) (fun hh => absurd hh (by decide))
                refine wp_iconst (pc := 214) dX11_token_214 ?_
                refine wq_istore_n (pc := 215) 2 [some (vR 111), some (vI (b (tp b c))), some (vI 1)] dX11_token_215 rfl rfl (by decide) rfl ?_
                refine wp_aload_n (pc := 216) 0 dX11_token_216 rfl rfl ?_
                refine wp_iload_n (pc := 217) 1 dX11_token_217 rfl rfl ?_
                refine wp_callS (pc := 218) (st := [vR 111]) (nf' := 153) [vI (b (tp b c))] [some (vI (b (tp b c)))] dX11_token_218 rfl c_X11_182 rfl rfl (Nat.le_of_ble_eq_true rfl) rfl (Nat.le_of_ble_eq_true rfl) (by omega) (Nat.le_refl _) (Nat.le_refl _) ?_
                refine wp_iload_n (pc := 0) 0 dX11_isSign_0 rfl rfl ?_
                refine wp_bipush (pc := 1) dX11_isSign_1 (by decide) ?_
                refine wp_icmp_eq (pc := 3) 66 dX11_isSign_3 (by decide) (by omega) (by decide) (fun h_31 => ?_) (fun h_31 => ?_)
                · refine wp_iconst (pc := 66) dX11_isSign_66 ?_
                  refine wp_goto (pc := 67) 71 dX11_isSign_67 (by decide) ?_
                  refine wp_zret (pc := 71) dX11_isSign_71 rfl rfl (by decide) ?_
                  refine wp_eqst (st' := [vI 1, vR 111]) rfl ?_
                  refine wp_if_eq (pc := 221) 228 dX11_token_221 (by decide) (by decide) (fun hh => absurd hh (by decide)) (fun _ => ?_)
                  refine wp_iload_n (pc := 224) 1 dX11_token_224 rfl rfl ?_
                  refine wp_goto (pc := 225) 229 dX11_token_225 (by decide) ?_
                  refine wp_puti (pc := 229) dX11_token_229 rfl f_X11_172 kd_111 la_111 (fun _ h => by cases h; rfl) rfl ?_
                  refine wp_none 1 [some (vR 111), none, some (vI 1)] rfl ?_
                  have tk := tk_sgn (b := b) (c := c) (by omega) (fun z => by have z1 : 97 ≤ b (tp b c) ∧ b (tp b c) ≤ 122 := z; omega) (fun z => by have z1 : 48 ≤ b (tp b c) ∧ b (tp b c) ≤ 57 := z; omega)
                  have t1 : ts b c = (b (tp b c)) := tk.2.1 (by unfold isSg; omega)
                  refine lp_tkend (I := I) (k := 1) hB hc (((hK.up (by decide)).up (by decide)).up (by decide)) (by rw [up_s, t1]) (by rw [up_j (by omega), up_j (by omega), up_s]) ⟨by rw [show (up (up (up K 111 7 ((tp b c : Nat) : Int)) 111 8 0) 111 6 (b (tp b c))) 111 8 = 0 from (by rw [up_j (by omega), up_s])]; decide, fun z => by omega⟩ (by rw [up_j (by omega), up_j (by omega), up_j (by omega), q4]) (fun _ => tk.1.symm) ⟨by rw [upL_s]; decide, fun z => by omega⟩ (fun J M hJ hM hT => hQ J M hJ (Lb.refl.up.trans hM) hT)
                · refine wp_iload_n (pc := 6) 0 dX11_isSign_6 rfl rfl ?_
                  refine wp_bipush (pc := 7) dX11_isSign_7 (by decide) ?_
                  refine wp_icmp_eq (pc := 9) 66 dX11_isSign_9 (by decide) (by omega) (by decide) (fun h_32 => ?_) (fun h_32 => ?_)
                  · refine wp_iconst (pc := 66) dX11_isSign_66 ?_
                    refine wp_goto (pc := 67) 71 dX11_isSign_67 (by decide) ?_
                    refine wp_zret (pc := 71) dX11_isSign_71 rfl rfl (by decide) ?_
                    refine wp_eqst (st' := [vI 1, vR 111]) rfl ?_
                    refine wp_if_eq (pc := 221) 228 dX11_token_221 (by decide) (by decide) (fun hh => absurd hh (by decide)) (fun _ => ?_)
                    refine wp_iload_n (pc := 224) 1 dX11_token_224 rfl rfl ?_
                    refine wp_goto (pc := 225) 229 dX11_token_225 (by decide) ?_
                    refine wp_puti (pc := 229) dX11_token_229 rfl f_X11_172 kd_111 la_111 (fun _ h => by cases h; rfl) rfl ?_
                    refine wp_none 1 [some (vR 111), none, some (vI 1)] rfl ?_
                    have tk := tk_sgn (b := b) (c := c) (by omega) (fun z => by have z1 : 97 ≤ b (tp b c) ∧ b (tp b c) ≤ 122 := z; omega) (fun z => by have z1 : 48 ≤ b (tp b c) ∧ b (tp b c) ≤ 57 := z; omega)
                    have t1 : ts b c = (b (tp b c)) := tk.2.1 (by unfold isSg; omega)
                    refine lp_tkend (I := I) (k := 1) hB hc (((hK.up (by decide)).up (by decide)).up (by decide)) (by rw [up_s, t1]) (by rw [up_j (by omega), up_j (by omega), up_s]) ⟨by rw [show (up (up (up K 111 7 ((tp b c : Nat) : Int)) 111 8 0) 111 6 (b (tp b c))) 111 8 = 0 from (by rw [up_j (by omega), up_s])]; decide, fun z => by omega⟩ (by rw [up_j (by omega), up_j (by omega), up_j (by omega), q4]) (fun _ => tk.1.symm) ⟨by rw [upL_s]; decide, fun z => by omega⟩ (fun J M hJ hM hT => hQ J M hJ (Lb.refl.up.trans hM) hT)
                  · refine wp_iload_n (pc := 12) 0 dX11_isSign_12 rfl rfl ?_
                    refine wp_bipush (pc := 13) dX11_isSign_13 (by decide) ?_
                    refine wp_icmp_eq (pc := 15) 66 dX11_isSign_15 (by decide) (by omega) (by decide) (fun h_33 => ?_) (fun h_33 => ?_)
                    · refine wp_iconst (pc := 66) dX11_isSign_66 ?_
                      refine wp_goto (pc := 67) 71 dX11_isSign_67 (by decide) ?_
                      refine wp_zret (pc := 71) dX11_isSign_71 rfl rfl (by decide) ?_
                      refine wp_eqst (st' := [vI 1, vR 111]) rfl ?_
                      refine wp_if_eq (pc := 221) 228 dX11_token_221 (by decide) (by decide) (fun hh => absurd hh (by decide)) (fun _ => ?_)
                      refine wp_iload_n (pc := 224) 1 dX11_token_224 rfl rfl ?_
                      refine wp_goto (pc := 225) 229 dX11_token_225 (by decide) ?_
                      refine wp_puti (pc := 229) dX11_token_229 rfl f_X11_172 kd_111 la_111 (fun _ h => by cases h; rfl) rfl ?_
                      refine wp_none 1 [some (vR 111), none, some (vI 1)] rfl ?_
                      have tk := tk_sgn (b := b) (c := c) (by omega) (fun z => by have z1 : 97 ≤ b (tp b c) ∧ b (tp b c) ≤ 122 := z; omega) (fun z => by have z1 : 48 ≤ b (tp b c) ∧ b (tp b c) ≤ 57 := z; omega)
                      have t1 : ts b c = (b (tp b c)) := tk.2.1 (by unfold isSg; omega)
                      refine lp_tkend (I := I) (k := 1) hB hc (((hK.up (by decide)).up (by decide)).up (by decide)) (by rw [up_s, t1]) (by rw [up_j (by omega), up_j (by omega), up_s]) ⟨by rw [show (up (up (up K 111 7 ((tp b c : Nat) : Int)) 111 8 0) 111 6 (b (tp b c))) 111 8 = 0 from (by rw [up_j (by omega), up_s])]; decide, fun z => by omega⟩ (by rw [up_j (by omega), up_j (by omega), up_j (by omega), q4]) (fun _ => tk.1.symm) ⟨by rw [upL_s]; decide, fun z => by omega⟩ (fun J M hJ hM hT => hQ J M hJ (Lb.refl.up.trans hM) hT)
                    · refine wp_iload_n (pc := 18) 0 dX11_isSign_18 rfl rfl ?_
                      refine wp_bipush (pc := 19) dX11_isSign_19 (by decide) ?_
                      refine wp_icmp_eq (pc := 21) 66 dX11_isSign_21 (by decide) (by omega) (by decide) (fun h_34 => ?_) (fun h_34 => ?_)
                      · refine wp_iconst (pc := 66) dX11_isSign_66 ?_
                        refine wp_goto (pc := 67) 71 dX11_isSign_67 (by decide) ?_
                        refine wp_zret (pc := 71) dX11_isSign_71 rfl rfl (by decide) ?_
                        refine wp_eqst (st' := [vI 1, vR 111]) rfl ?_
                        refine wp_if_eq (pc := 221) 228 dX11_token_221 (by decide) (by decide) (fun hh => absurd hh (by decide)) (fun _ => ?_)
                        refine wp_iload_n (pc := 224) 1 dX11_token_224 rfl rfl ?_
                        refine wp_goto (pc := 225) 229 dX11_token_225 (by decide) ?_
                        refine wp_puti (pc := 229) dX11_token_229 rfl f_X11_172 kd_111 la_111 (fun _ h => by cases h; rfl) rfl ?_
                        refine wp_none 1 [some (vR 111), none, some (vI 1)] rfl ?_
                        have tk := tk_sgn (b := b) (c := c) (by omega) (fun z => by have z1 : 97 ≤ b (tp b c) ∧ b (tp b c) ≤ 122 := z; omega) (fun z => by have z1 : 48 ≤ b (tp b c) ∧ b (tp b c) ≤ 57 := z; omega)
                        have t1 : ts b c = (b (tp b c)) := tk.2.1 (by unfold isSg; omega)
                        refine lp_tkend (I := I) (k := 1) hB hc (((hK.up (by decide)).up (by decide)).up (by decide)) (by rw [up_s, t1]) (by rw [up_j (by omega), up_j (by omega), up_s]) ⟨by rw [show (up (up (up K 111 7 ((tp b c : Nat) : Int)) 111 8 0) 111 6 (b (tp b c))) 111 8 = 0 from (by rw [up_j (by omega), up_s])]; decide, fun z => by omega⟩ (by rw [up_j (by omega), up_j (by omega), up_j (by omega), q4]) (fun _ => tk.1.symm) ⟨by rw [upL_s]; decide, fun z => by omega⟩ (fun J M hJ hM hT => hQ J M hJ (Lb.refl.up.trans hM) hT)
                      · refine wp_iload_n (pc := 24) 0 dX11_isSign_24 rfl rfl ?_
                        refine wp_bipush (pc := 25) dX11_isSign_25 (by decide) ?_
                        refine wp_icmp_eq (pc := 27) 66 dX11_isSign_27 (by decide) (by omega) (by decide) (fun h_35 => ?_) (fun h_35 => ?_)
                        · refine wp_iconst (pc := 66) dX11_isSign_66 ?_
                          refine wp_goto (pc := 67) 71 dX11_isSign_67 (by decide) ?_
                          refine wp_zret (pc := 71) dX11_isSign_71 rfl rfl (by decide) ?_
                          refine wp_eqst (st' := [vI 1, vR 111]) rfl ?_
                          refine wp_if_eq (pc := 221) 228 dX11_token_221 (by decide) (by decide) (fun hh => absurd hh (by decide)) (fun _ => ?_)
                          refine wp_iload_n (pc := 224) 1 dX11_token_224 rfl rfl ?_
                          refine wp_goto (pc := 225) 229 dX11_token_225 (by decide) ?_
                          refine wp_puti (pc := 229) dX11_token_229 rfl f_X11_172 kd_111 la_111 (fun _ h => by cases h; rfl) rfl ?_
                          refine wp_none 1 [some (vR 111), none, some (vI 1)] rfl ?_
                          have tk := tk_sgn (b := b) (c := c) (by omega) (fun z => by have z1 : 97 ≤ b (tp b c) ∧ b (tp b c) ≤ 122 := z; omega) (fun z => by have z1 : 48 ≤ b (tp b c) ∧ b (tp b c) ≤ 57 := z; omega)
                          have t1 : ts b c = (b (tp b c)) := tk.2.1 (by unfold isSg; omega)
                          refine lp_tkend (I := I) (k := 1) hB hc (((hK.up (by decide)).up (by decide)).up (by decide)) (by rw [up_s, t1]) (by rw [up_j (by omega), up_j (by omega), up_s]) ⟨by rw [show (up (up (up K 111 7 ((tp b c : Nat) : Int)) 111 8 0) 111 6 (b (tp b c))) 111 8 = 0 from (by rw [up_j (by omega), up_s])]; decide, fun z => by omega⟩ (by rw [up_j (by omega), up_j (by omega), up_j (by omega), q4]) (fun _ => tk.1.symm) ⟨by rw [upL_s]; decide, fun z => by omega⟩ (fun J M hJ hM hT => hQ J M hJ (Lb.refl.up.trans hM) hT)
                        · refine wp_iload_n (pc := 30) 0 dX11_isSign_30 rfl rfl ?_
                          refine wp_bipush (pc := 31) dX11_isSign_31 (by decide) ?_
                          refine wp_icmp_eq (pc := 33) 66 dX11_isSign_33 (by decide) (by omega) (by decide) (fun h_36 => ?_) (fun h_36 => ?_)
                          · refine wp_iconst (pc := 66) dX11_isSign_66 ?_
                            refine wp_goto (pc := 67) 71 dX11_isSign_67 (by decide) ?_
                            refine wp_zret (pc := 71) dX11_isSign_71 rfl rfl (by decide) ?_
                            refine wp_eqst (st' := [vI 1, vR 111]) rfl ?_
                            refine wp_if_eq (pc := 221) 228 dX11_token_221 (by decide) (by decide) (fun hh => absurd hh (by decide)) (fun _ => ?_)
                            refine wp_iload_n (pc := 224) 1 dX11_token_224 rfl rfl ?_
                            refine wp_goto (pc := 225) 229 dX11_token_225 (by decide) ?_
                            refine wp_puti (pc := 229) dX11_token_229 rfl f_X11_172 kd_111 la_111 (fun _ h => by cases h; rfl) rfl ?_
                            refine wp_none 1 [some (vR 111), none, some (vI 1)] rfl ?_
                            have tk := tk_sgn (b := b) (c := c) (by omega) (fun z => by have z1 : 97 ≤ b (tp b c) ∧ b (tp b c) ≤ 122 := z; omega) (fun z => by have z1 : 48 ≤ b (tp b c) ∧ b (tp b c) ≤ 57 := z; omega)
                            have t1 : ts b c = (b (tp b c)) := tk.2.1 (by unfold isSg; omega)
                            refine lp_tkend (I := I) (k := 1) hB hc (((hK.up (by decide)).up (by decide)).up (by decide)) (by rw [up_s, t1]) (by rw [up_j (by omega), up_j (by omega), up_s]) ⟨by rw [show (up (up (up K 111 7 ((tp b c : Nat) : Int)) 111 8 0) 111 6 (b (tp b c))) 111 8 = 0 from (by rw [up_j (by omega), up_s])]; decide, fun z => by omega⟩ (by rw [up_j (by omega), up_j (by omega), up_j (by omega), q4]) (fun _ => tk.1.symm) ⟨by rw [upL_s]; decide, fun z => by omega⟩ (fun J M hJ hM hT => hQ J M hJ (Lb.refl.up.trans hM) hT)
                          · refine wp_iload_n (pc := 36) 0 dX11_isSign_36 rfl rfl ?_
                            refine wp_bipush (pc := 37) dX11_isSign_37 (by decide) ?_
                            refine wp_icmp_eq (pc := 39) 66 dX11_isSign_39 (by decide) (by omega) (by decide) (fun h_37 => ?_) (fun h_37 => ?_)
                            · refine wp_iconst (pc := 66) dX11_isSign_66 ?_
                              refine wp_goto (pc := 67) 71 dX11_isSign_67 (by decide) ?_
                              refine wp_zret (pc := 71) dX11_isSign_71 rfl rfl (by decide) ?_
                              refine wp_eqst (st' := [vI 1, vR 111]) rfl ?_
                              refine wp_if_eq (pc := 221) 228 dX11_token_221 (by decide) (by decide) (fun hh => absurd hh (by decide)) (fun _ => ?_)
                              refine wp_iload_n (pc := 224) 1 dX11_token_224 rfl rfl ?_
                              refine wp_goto (pc := 225) 229 dX11_token_225 (by decide) ?_
                              refine wp_puti (pc := 229) dX11_token_229 rfl f_X11_172 kd_111 la_111 (fun _ h => by cases h; rfl) rfl ?_
                              refine wp_none 1 [some (vR 111), none, some (vI 1)] rfl ?_
                              have tk := tk_sgn (b := b) (c := c) (by omega) (fun z => by have z1 : 97 ≤ b (tp b c) ∧ b (tp b c) ≤ 122 := z; omega) (fun z => by have z1 : 48 ≤ b (tp b c) ∧ b (tp b c) ≤ 57 := z; omega)
                              have t1 : ts b c = (b (tp b c)) := tk.2.1 (by unfold isSg; omega)
                              refine lp_tkend (I := I) (k := 1) hB hc (((hK.up (by decide)).up (by decide)).up (by decide)) (by rw [up_s, t1]) (by rw [up_j (by omega), up_j (by omega), up_s]) ⟨by rw [show (up (up (up K 111 7 ((tp b c : Nat) : Int)) 111 8 0) 111 6 (b (tp b c))) 111 8 = 0 from (by rw [up_j (by omega), up_s])]; decide, fun z => by omega⟩ (by rw [up_j (by omega), up_j (by omega), up_j (by omega), q4]) (fun _ => tk.1.symm) ⟨by rw [upL_s]; decide, fun z => by omega⟩ (fun J M hJ hM hT => hQ J M hJ (Lb.refl.up.trans hM) hT)
                            · refine wp_iload_n (pc := 42) 0 dX11_isSign_42 rfl rfl ?_
                              refine wp_bipush (pc := 43) dX11_isSign_43 (by decide) ?_
                              refine wp_icmp_eq (pc := 45) 66 dX11_isSign_45 (by decide) (by omega) (by decide) (fun h_38 => ?_) (fun h_38 => ?_)
                              · refine wp_iconst (pc := 66) dX11_isSign_66 ?_
                                refine wp_goto (pc := 67) 71 dX11_isSign_67 (by decide) ?_
                                refine wp_zret (pc := 71) dX11_isSign_71 rfl rfl (by decide) ?_
                                refine wp_eqst (st' := [vI 1, vR 111]) rfl ?_
                                refine wp_if_eq (pc := 221) 228 dX11_token_221 (by decide) (by decide) (fun hh => absurd hh (by decide)) (fun _ => ?_)
                                refine wp_iload_n (pc := 224) 1 dX11_token_224 rfl rfl ?_
                                refine wp_goto (pc := 225) 229 dX11_token_225 (by decide) ?_
                                refine wp_puti (pc := 229) dX11_token_229 rfl f_X11_172 kd_111 la_111 (fun _ h => by cases h; rfl) rfl ?_
                                refine wp_none 1 [some (vR 111), none, some (vI 1)] rfl ?_
                                have tk := tk_sgn (b := b) (c := c) (by omega) (fun z => by have z1 : 97 ≤ b (tp b c) ∧ b (tp b c) ≤ 122 := z; omega) (fun z => by have z1 : 48 ≤ b (tp b c) ∧ b (tp b c) ≤ 57 := z; omega)
                                have t1 : ts b c = (b (tp b c)) := tk.2.1 (by unfold isSg; omega)
                                refine lp_tkend (I := I) (k := 1) hB hc (((hK.up (by decide)).up (by decide)).up (by decide)) (by rw [up_s, t1]) (by rw [up_j (by omega), up_j (by omega), up_s]) ⟨by rw [show (up (up (up K 111 7 ((tp b c : Nat) : Int)) 111 8 0) 111 6 (b (tp b c))) 111 8 = 0 from (by rw [up_j (by omega), up_s])]; decide, fun z => by omega⟩ (by rw [up_j (by omega), up_j (by omega), up_j (by omega), q4]) (fun _ => tk.1.symm) ⟨by rw [upL_s]; decide, fun z => by omega⟩ (fun J M hJ hM hT => hQ J M hJ (Lb.refl.up.trans hM) hT)
                              · refine wp_iload_n (pc := 48) 0 dX11_isSign_48 rfl rfl ?_
                                refine wp_bipush (pc := 49) dX11_isSign_49 (by decide) ?_
                                refine wp_icmp_eq (pc := 51) 66 dX11_isSign_51 (by decide) (by omega) (by decide) (fun h_39 => ?_) (fun h_39 => ?_)
                                · refine wp_iconst (pc := 66) dX11_isSign_66 ?_
                                  refine wp_goto (pc := 67) 71 dX11_isSign_67 (by decide) ?_
                                  refine wp_zret (pc := 71) dX11_isSign_71 rfl rfl (by decide) ?_
                                  refine wp_eqst (st' := [vI 1, vR 111]) rfl ?_
                                  refine wp_if_eq (pc := 221) 228 dX11_token_221 (by decide) (by decide) (fun hh => absurd hh (by decide)) (fun _ => ?_)
                                  refine wp_iload_n (pc := 224) 1 dX11_token_224 rfl rfl ?_
                                  refine wp_goto (pc := 225) 229 dX11_token_225 (by decide) ?_
                                  refine wp_puti (pc := 229) dX11_token_229 rfl f_X11_172 kd_111 la_111 (fun _ h => by cases h; rfl) rfl ?_
                                  refine wp_none 1 [some (vR 111), none, some (vI 1)] rfl ?_
                                  have tk := tk_sgn (b := b) (c := c) (by omega) (fun z => by have z1 : 97 ≤ b (tp b c) ∧ b (tp b c) ≤ 122 := z; omega) (fun z => by have z1 : 48 ≤ b (tp b c) ∧ b (tp b c) ≤ 57 := z; omega)
                                  have t1 : ts b c = (b (tp b c)) := tk.2.1 (by unfold isSg; omega)
                                  refine lp_tkend (I := I) (k := 1) hB hc (((hK.up (by decide)).up (by decide)).up (by decide)) (by rw [up_s, t1]) (by rw [up_j (by omega), up_j (by omega), up_s]) ⟨by rw [show (up (up (up K 111 7 ((tp b c : Nat) : Int)) 111 8 0) 111 6 (b (tp b c))) 111 8 = 0 from (by rw [up_j (by omega), up_s])]; decide, fun z => by omega⟩ (by rw [up_j (by omega), up_j (by omega), up_j (by omega), q4]) (fun _ => tk.1.symm) ⟨by rw [upL_s]; decide, fun z => by omega⟩ (fun J M hJ hM hT => hQ J M hJ (Lb.refl.up.trans hM) hT)
                                · refine wp_iload_n (pc := 54) 0 dX11_isSign_54 rfl rfl ?_
                                  refine wp_bipush (pc := 55) dX11_isSign_55 (by decide) ?_
                                  refine wp_icmp_eq (pc := 57) 66 dX11_isSign_57 (by decide) (by omega) (by decide) (fun h_40 => ?_) (fun h_40 => ?_)
                                  · refine wp_iconst (pc := 66) dX11_isSign_66 ?_
                                    refine wp_goto (pc := 67) 71 dX11_isSign_67 (by decide) ?_
                                    refine wp_zret (pc := 71) dX11_isSign_71 rfl rfl (by decide) ?_
                                    refine wp_eqst (st' := [vI 1, vR 111]) rfl ?_
                                    refine wp_if_eq (pc := 221) 228 dX11_token_221 (by decide) (by decide) (fun hh => absurd hh (by decide)) (fun _ => ?_)
                                    refine wp_iload_n (pc := 224) 1 dX11_token_224 rfl rfl ?_
                                    refine wp_goto (pc := 225) 229 dX11_token_225 (by decide) ?_
                                    refine wp_puti (pc := 229) dX11_token_229 rfl f_X11_172 kd_111 la_111 (fun _ h => by cases h; rfl) rfl ?_
                                    refine wp_none 1 [some (vR 111), none, some (vI 1)] rfl ?_
                                    have tk := tk_sgn (b := b) (c := c) (by omega) (fun z => by have z1 : 97 ≤ b (tp b c) ∧ b (tp b c) ≤ 122 := z; omega) (fun z => by have z1 : 48 ≤ b (tp b c) ∧ b (tp b c) ≤ 57 := z; omega)
                                    have t1 : ts b c = (b (tp b c)) := tk.2.1 (by unfold isSg; omega)
                                    refine lp_tkend (I := I) (k := 1) hB hc (((hK.up (by decide)).up (by decide)).up (by decide)) (by rw [up_s, t1]) (by rw [up_j (by omega), up_j (by omega), up_s]) ⟨by rw [show (up (up (up K 111 7 ((tp b c : Nat) : Int)) 111 8 0) 111 6 (b (tp b c))) 111 8 = 0 from (by rw [up_j (by omega), up_s])]; decide, fun z => by omega⟩ (by rw [up_j (by omega), up_j (by omega), up_j (by omega), q4]) (fun _ => tk.1.symm) ⟨by rw [upL_s]; decide, fun z => by omega⟩ (fun J M hJ hM hT => hQ J M hJ (Lb.refl.up.trans hM) hT)
                                  · refine wp_iload_n (pc := 60) 0 dX11_isSign_60 rfl rfl ?_
                                    refine wp_bipush (pc := 61) dX11_isSign_61 (by decide) ?_
                                    refine wp_icmp_ne (pc := 63) 70 dX11_isSign_63 (by decide) (by omega) (by decide) (fun h_41 => ?_) (fun h_41 => ?_)
                                    · refine wp_iconst (pc := 70) dX11_isSign_70 ?_
                                      refine wp_zret (pc := 71) dX11_isSign_71 rfl rfl (by decide) ?_
                                      refine wp_eqst (st' := [vI 0, vR 111]) rfl ?_
                                      refine wp_if_eq (pc := 221) 228 dX11_token_221 (by decide) (by decide) (fun _ => ?_) (fun hh => absurd hh (by decide))
                                      refine wp_iconst (pc := 228) dX11_token_228 ?_
                                      refine wp_puti (pc := 229) dX11_token_229 rfl f_X11_172 kd_111 la_111 (fun _ h => by cases h; rfl) rfl ?_
                                      refine wp_none 1 [some (vR 111), none, some (vI 1)] rfl ?_
                                      have tk := tk_sgn (b := b) (c := c) (by omega) (fun z => by have z1 : 97 ≤ b (tp b c) ∧ b (tp b c) ≤ 122 := z; omega) (fun z => by have z1 : 48 ≤ b (tp b c) ∧ b (tp b c) ≤ 57 := z; omega)
                                      have t1 : ts b c = 3 := tk.2.2 (by unfold isSg; omega)
                                      refine lp_tkend (I := I) (k := 1) hB hc (((hK.up (by decide)).up (by decide)).up (by decide)) (by rw [up_s, t1]) (by rw [up_j (by omega), up_j (by omega), up_s]) ⟨by rw [show (up (up (up K 111 7 ((tp b c : Nat) : Int)) 111 8 0) 111 6 3) 111 8 = 0 from (by rw [up_j (by omega), up_s])]; decide, fun z => by omega⟩ (by rw [up_j (by omega), up_j (by omega), up_j (by omega), q4]) (fun _ => tk.1.symm) ⟨by rw [upL_s]; decide, fun z => by omega⟩ (fun J M hJ hM hT => hQ J M hJ (Lb.refl.up.trans hM) hT)
                                    · refine wp_iconst (pc := 66) dX11_isSign_66 ?_
                                      refine wp_goto (pc := 67) 71 dX11_isSign_67 (by decide) ?_
                                      refine wp_zret (pc := 71) dX11_isSign_71 rfl rfl (by decide) ?_
                                      refine wp_eqst (st' := [vI 1, vR 111]) rfl ?_
                                      refine wp_if_eq (pc := 221) 228 dX11_token_221 (by decide) (by decide) (fun hh => absurd hh (by decide)) (fun _ => ?_)
                                      refine wp_iload_n (pc := 224) 1 dX11_token_224 rfl rfl ?_
                                      refine wp_goto (pc := 225) 229 dX11_token_225 (by decide) ?_
                                      refine wp_puti (pc := 229) dX11_token_229 rfl f_X11_172 kd_111 la_111 (fun _ h => by cases h; rfl) rfl ?_
                                      refine wp_none 1 [some (vR 111), none, some (vI 1)] rfl ?_
                                      have tk := tk_sgn (b := b) (c := c) (by omega) (fun z => by have z1 : 97 ≤ b (tp b c) ∧ b (tp b c) ≤ 122 := z; omega) (fun z => by have z1 : 48 ≤ b (tp b c) ∧ b (tp b c) ≤ 57 := z; omega)
                                      have t1 : ts b c = (b (tp b c)) := tk.2.1 (by unfold isSg; omega)
                                      refine lp_tkend (I := I) (k := 1) hB hc (((hK.up (by decide)).up (by decide)).up (by decide)) (by rw [up_s, t1]) (by rw [up_j (by omega), up_j (by omega), up_s]) ⟨by rw [show (up (up (up K 111 7 ((tp b c : Nat) : Int)) 111 8 0) 111 6 (b (tp b c))) 111 8 = 0 from (by rw [up_j (by omega), up_s])]; decide, fun z => by omega⟩ (by rw [up_j (by omega), up_j (by omega), up_j (by omega), q4]) (fun _ => tk.1.symm) ⟨by rw [upL_s]; decide, fun z => by omega⟩ (fun J M hJ hM hT => hQ J M hJ (Lb.refl.up.trans hM) hT)
              · refine wp_iload_n (pc := 6) 0 dX11_isDigit_6 rfl rfl ?_
                refine wp_bipush (pc := 7) dX11_isDigit_7 (by decide) ?_
                refine wp_icmp_gt (pc := 9) 16 dX11_isDigit_9 (by decide) (by omega) (by decide) (fun h_42 => ?_) (fun h_42 => ?_)
                · refine wp_iconst (pc := 16) dX11_isDigit_16 ?_
                  refine wp_zret (pc := 17) dX11_isDigit_17 rfl rfl (by decide) ?_
                  refine wp_eqst (st' := [vI 0]) rfl ?_
                  refine wp_if_eq (pc := 141) 214 dX11_token_141 (by decide) (by decide) (fun _ => ?_) (fun hh => absurd hh (by decide))
                  refine wp_iconst (pc := 214) dX11_token_214 ?_
                  refine wq_istore_n (pc := 215) 2 [some (vR 111), some (vI (b (tp b c))), some (vI 1)] dX11_token_215 rfl rfl (by decide) rfl ?_
                  refine wp_aload_n (pc := 216) 0 dX11_token_216 rfl rfl ?_
                  refine wp_iload_n (pc := 217) 1 dX11_token_217 rfl rfl ?_
                  refine wp_callS (pc := 218) (st := [vR 111]) (nf' := 153) [vI (b (tp b c))] [some (vI (b (tp b c)))] dX11_token_218 rfl c_X11_182 rfl rfl (Nat.le_of_ble_eq_true rfl) rfl (Nat.le_of_ble_eq_true rfl) (by omega) (Nat.le_refl _) (Nat.le_refl _) ?_
                  refine wp_iload_n (pc := 0) 0 dX11_isSign_0 rfl rfl ?_
                  refine wp_bipush (pc := 1) dX11_isSign_1 (by decide) ?_
                  refine wp_icmp_eq (pc := 3) 66 dX11_isSign_3 (by decide) (by omega) (by decide) (fun h_43 => ?_) (fun h_43 => ?_)
                  · refine wp_iconst (pc := 66) dX11_isSign_66 ?_
                    refine wp_goto (pc := 67) 71 dX11_isSign_67 (by decide) ?_
                    refine wp_zret (pc := 71) dX11_isSign_71 rfl rfl (by decide) ?_
                    refine wp_eqst (st' := [vI 1, vR 111]) rfl ?_
                    refine wp_if_eq (pc := 221) 228 dX11_token_221 (by decide) (by decide) (fun hh => absurd hh (by decide)) (fun _ => ?_)
                    refine wp_iload_n (pc := 224) 1 dX11_token_224 rfl rfl ?_
                    refine wp_goto (pc := 225) 229 dX11_token_225 (by decide) ?_
                    refine wp_puti (pc := 229) dX11_token_229 rfl f_X11_172 kd_111 la_111 (fun _ h => by cases h; rfl) rfl ?_
                    refine wp_none 1 [some (vR 111), none, some (vI 1)] rfl ?_
                    have tk := tk_sgn (b := b) (c := c) (by omega) (fun z => by have z1 : 97 ≤ b (tp b c) ∧ b (tp b c) ≤ 122 := z; omega) (fun z => by have z1 : 48 ≤ b (tp b c) ∧ b (tp b c) ≤ 57 := z; omega)
                    have t1 : ts b c = (b (tp b c)) := tk.2.1 (by unfold isSg; omega)
                    refine lp_tkend (I := I) (k := 1) hB hc (((hK.up (by decide)).up (by decide)).up (by decide)) (by rw [up_s, t1]) (by rw [up_j (by omega), up_j (by omega), up_s]) ⟨by rw [show (up (up (up K 111 7 ((tp b c : Nat) : Int)) 111 8 0) 111 6 (b (tp b c))) 111 8 = 0 from (by rw [up_j (by omega), up_s])]; decide, fun z => by omega⟩ (by rw [up_j (by omega), up_j (by omega), up_j (by omega), q4]) (fun _ => tk.1.symm) ⟨by rw [upL_s]; decide, fun z => by omega⟩ (fun J M hJ hM hT => hQ J M hJ (Lb.refl.up.trans hM) hT)
                  · refine wp_iload_n (pc := 6) 0 dX11_isSign_6 rfl rfl ?_
                    refine wp_bipush (pc := 7) dX11_isSign_7 (by decide) ?_
                    refine wp_icmp_eq (pc := 9) 66 dX11_isSign_9 (by decide) (by omega) (by decide) (fun h_44 => ?_) (fun h_44 => ?_)
                    · refine wp_iconst (pc := 66) dX11_isSign_66 ?_
                      refine wp_goto (pc := 67) 71 dX11_isSign_67 (by decide) ?_
                      refine wp_zret (pc := 71) dX11_isSign_71 rfl rfl (by decide) ?_
                      refine wp_eqst (st' := [vI 1, vR 111]) rfl ?_
                      refine wp_if_eq (pc := 221) 228 dX11_token_221 (by decide) (by decide) (fun hh => absurd hh (by decide)) (fun _ => ?_)
                      refine wp_iload_n (pc := 224) 1 dX11_token_224 rfl rfl ?_
                      refine wp_goto (pc := 225) 229 dX11_token_225 (by decide) ?_
                      refine wp_puti (pc := 229) dX11_token_229 rfl f_X11_172 kd_111 la_111 (fun _ h => by cases h; rfl) rfl ?_
                      refine wp_none 1 [some (vR 111), none, some (vI 1)] rfl ?_
                      have tk := tk_sgn (b := b) (c := c) (by omega) (fun z => by have z1 : 97 ≤ b (tp b c) ∧ b (tp b c) ≤ 122 := z; omega) (fun z => by have z1 : 48 ≤ b (tp b c) ∧ b (tp b c) ≤ 57 := z; omega)
                      have t1 : ts b c = (b (tp b c)) := tk.2.1 (by unfold isSg; omega)
                      refine lp_tkend (I := I) (k := 1) hB hc (((hK.up (by decide)).up (by decide)).up (by decide)) (by rw [up_s, t1]) (by rw [up_j (by omega), up_j (by omega), up_s]) ⟨by rw [show (up (up (up K 111 7 ((tp b c : Nat) : Int)) 111 8 0) 111 6 (b (tp b c))) 111 8 = 0 from (by rw [up_j (by omega), up_s])]; decide, fun z => by omega⟩ (by rw [up_j (by omega), up_j (by omega), up_j (by omega), q4]) (fun _ => tk.1.symm) ⟨by rw [upL_s]; decide, fun z => by omega⟩ (fun J M hJ hM hT => hQ J M hJ (Lb.refl.up.trans hM) hT)
                    · refine wp_iload_n (pc := 12) 0 dX11_isSign_12 rfl rfl ?_
                      refine wp_bipush (pc := 13) dX11_isSign_13 (by decide) ?_
                      refine wp_icmp_eq (pc := 15) 66 dX11_isSign_15 (by decide) (by omega) (by decide) (fun h_45 => ?_) (fun h_45 => ?_)
                      · refine wp_iconst (pc := 66) dX11_isSign_66 ?_
                        refine wp_goto (pc := 67) 71 dX11_isSign_67 (by decide) ?_
                        refine wp_zret (pc := 71) dX11_isSign_71 rfl rfl (by decide) ?_
                        refine wp_eqst (st' := [vI 1, vR 111]) rfl ?_
                        refine wp_if_eq (pc := 221) 228 dX11_token_221 (by decide) (by decide) (fun hh => absurd hh (by decide)) (fun _ => ?_)
                        refine wp_iload_n (pc := 224) 1 dX11_token_224 rfl rfl ?_
                        refine wp_goto (pc := 225) 229 dX11_token_225 (by decide) ?_
                        refine wp_puti (pc := 229) dX11_token_229 rfl f_X11_172 kd_111 la_111 (fun _ h => by cases h; rfl) rfl ?_
                        refine wp_none 1 [some (vR 111), none, some (vI 1)] rfl ?_
                        have tk := tk_sgn (b := b) (c := c) (by omega) (fun z => by have z1 : 97 ≤ b (tp b c) ∧ b (tp b c) ≤ 122 := z; omega) (fun z => by have z1 : 48 ≤ b (tp b c) ∧ b (tp b c) ≤ 57 := z; omega)
                        have t1 : ts b c = (b (tp b c)) := tk.2.1 (by unfold isSg; omega)
                        refine lp_tkend (I := I) (k := 1) hB hc (((hK.up (by decide)).up (by decide)).up (by decide)) (by rw [up_s, t1]) (by rw [up_j (by omega), up_j (by omega), up_s]) ⟨by rw [show (up (up (up K 111 7 ((tp b c : Nat) : Int)) 111 8 0) 111 6 (b (tp b c))) 111 8 = 0 from (by rw [up_j (by omega), up_s])]; decide, fun z => by omega⟩ (by rw [up_j (by omega), up_j (by omega), up_j (by omega), q4]) (fun _ => tk.1.symm) ⟨by rw [upL_s]; decide, fun z => by omega⟩ (fun J M hJ hM hT => hQ J M hJ (Lb.refl.up.trans hM) hT)
                      · refine wp_iload_n (pc := 18) 0 dX11_isSign_18 rfl rfl ?_
                        refine wp_bipush (pc := 19) dX11_isSign_19 (by decide) ?_
                        refine wp_icmp_eq (pc := 21) 66 dX11_isSign_21 (by decide) (by omega) (by decide) (fun h_46 => ?_) (fun h_46 => ?_)
                        · refine wp_iconst (pc := 66) dX11_isSign_66 ?_
                          refine wp_goto (pc := 67) 71 dX11_isSign_67 (by decide) ?_
                          refine wp_zret (pc := 71) dX11_isSign_71 rfl rfl (by decide) ?_
                          refine wp_eqst (st' := [vI 1, vR 111]) rfl ?_
                          refine wp_if_eq (pc := 221) 228 dX11_token_221 (by decide) (by decide) (fun hh => absurd hh (by decide)) (fun _ => ?_)
                          refine wp_iload_n (pc := 224) 1 dX11_token_224 rfl rfl ?_
                          refine wp_goto (pc := 225) 229 dX11_token_225 (by decide) ?_
                          refine wp_puti (pc := 229) dX11_token_229 rfl f_X11_172 kd_111 la_111 (fun _ h => by cases h; rfl) rfl ?_
                          refine wp_none 1 [some (vR 111), none, some (vI 1)] rfl ?_
                          have tk := tk_sgn (b := b) (c := c) (by omega) (fun z => by have z1 : 97 ≤ b (tp b c) ∧ b (tp b c) ≤ 122 := z; omega) (fun z => by have z1 : 48 ≤ b (tp b c) ∧ b (tp b c) ≤ 57 := z; omega)
                          have t1 : ts b c = (b (tp b c)) := tk.2.1 (by unfold isSg; omega)
                          refine lp_tkend (I := I) (k := 1) hB hc (((hK.up (by decide)).up (by decide)).up (by decide)) (by rw [up_s, t1]) (by rw [up_j (by omega), up_j (by omega), up_s]) ⟨by rw [show (up (up (up K 111 7 ((tp b c : Nat) : Int)) 111 8 0) 111 6 (b (tp b c))) 111 8 = 0 from (by rw [up_j (by omega), up_s])]; decide, fun z => by omega⟩ (by rw [up_j (by omega), up_j (by omega), up_j (by omega), q4]) (fun _ => tk.1.symm) ⟨by rw [upL_s]; decide, fun z => by omega⟩ (fun J M hJ hM hT => hQ J M hJ (Lb.refl.up.trans hM) hT)
                        · refine wp_iload_n (pc := 24) 0 dX11_isSign_24 rfl rfl ?_
                          refine wp_bipush (pc := 25) dX11_isSign_25 (by decide) ?_
                          refine wp_icmp_eq (pc := 27) 66 dX11_isSign_27 (by decide) (by omega) (by decide) (fun h_47 => ?_) (fun h_47 => ?_)
                          · refine wp_iconst (pc := 66) dX11_isSign_66 ?_
                            refine wp_goto (pc := 67) 71 dX11_isSign_67 (by decide) ?_
                            refine wp_zret (pc := 71) dX11_isSign_71 rfl rfl (by decide) ?_
                            refine wp_eqst (st' := [vI 1, vR 111]) rfl ?_
                            refine wp_if_eq (pc := 221) 228 dX11_token_221 (by decide) (by decide) (fun hh => absurd hh (by decide)) (fun _ => ?_)
                            refine wp_iload_n (pc := 224) 1 dX11_token_224 rfl rfl ?_
                            refine wp_goto (pc := 225) 229 dX11_token_225 (by decide) ?_
                            refine wp_puti (pc := 229) dX11_token_229 rfl f_X11_172 kd_111 la_111 (fun _ h => by cases h; rfl) rfl ?_
                            refine wp_none 1 [some (vR 111), none, some (vI 1)] rfl ?_
                            have tk := tk_sgn (b := b) (c := c) (by omega) (fun z => by have z1 : 97 ≤ b (tp b c) ∧ b (tp b c) ≤ 122 := z; omega) (fun z => by have z1 : 48 ≤ b (tp b c) ∧ b (tp b c) ≤ 57 := z; omega)
                            have t1 : ts b c = (b (tp b c)) := tk.2.1 (by unfold isSg; omega)
                            refine lp_tkend (I := I) (k := 1) hB hc (((hK.up (by decide)).up (by decide)).up (by decide)) (by rw [up_s, t1]) (by rw [up_j (by omega), up_j (by omega), up_s]) ⟨by rw [show (up (up (up K 111 7 ((tp b c : Nat) : Int)) 111 8 0) 111 6 (b (tp b c))) 111 8 = 0 from (by rw [up_j (by omega), up_s])]; decide, fun z => by omega⟩ (by rw [up_j (by omega), up_j (by omega), up_j (by omega), q4]) (fun _ => tk.1.symm) ⟨by rw [upL_s]; decide, fun z => by omega⟩ (fun J M hJ hM hT => hQ J M hJ (Lb.refl.up.trans hM) hT)
                          · refine wp_iload_n (pc := 30) 0 dX11_isSign_30 rfl rfl ?_
                            refine wp_bipush (pc := 31) dX11_isSign_31 (by decide) ?_
                            refine wp_icmp_eq (pc := 33) 66 dX11_isSign_33 (by decide) (by omega) (by decide) (fun h_48 => ?_) (fun h_48 => ?_)
                            · refine wp_iconst (pc := 66) dX11_isSign_66 ?_
                              refine wp_goto (pc := 67) 71 dX11_isSign_67 (by decide) ?_
                              refine wp_zret (pc := 71) dX11_isSign_71 rfl rfl (by decide) ?_
                              refine wp_eqst (st' := [vI 1, vR 111]) rfl ?_
                              refine wp_if_eq (pc := 221) 228 dX11_token_221 (by decide) (by decide) (fun hh => absurd hh (by decide)) (fun _ => ?_)
                              refine wp_iload_n (pc := 224) 1 dX11_token_224 rfl rfl ?_
                              refine wp_goto (pc := 225) 229 dX11_token_225 (by decide) ?_
                              refine wp_puti (pc := 229) dX11_token_229 rfl f_X11_172 kd_111 la_111 (fun _ h => by cases h; rfl) rfl ?_
                              refine wp_none 1 [some (vR 111), none, some (vI 1)] rfl ?_
                              have tk := tk_sgn (b := b) (c := c) (by omega) (fun z => by have z1 : 97 ≤ b (tp b c) ∧ b (tp b c) ≤ 122 := z; omega) (fun z => by have z1 : 48 ≤ b (tp b c) ∧ b (tp b c) ≤ 57 := z; omega)
                              have t1 : ts b c = (b (tp b c)) := tk.2.1 (by unfold isSg; omega)
                              refine lp_tkend (I := I) (k := 1) hB hc (((hK.up (by decide)).up (by decide)).up (by decide)) (by rw [up_s, t1]) (by rw [up_j (by omega), up_j (by omega), up_s]) ⟨by rw [show (up (up (up K 111 7 ((tp b c : Nat) : Int)) 111 8 0) 111 6 (b (tp b c))) 111 8 = 0 from (by rw [up_j (by omega), up_s])]; decide, fun z => by omega⟩ (by rw [up_j (by omega), up_j (by omega), up_j (by omega), q4]) (fun _ => tk.1.symm) ⟨by rw [upL_s]; decide, fun z => by omega⟩ (fun J M hJ hM hT => hQ J M hJ (Lb.refl.up.trans hM) hT)
                            · refine wp_iload_n (pc := 36) 0 dX11_isSign_36 rfl rfl ?_
                              refine wp_bipush (pc := 37) dX11_isSign_37 (by decide) ?_
                              refine wp_icmp_eq (pc := 39) 66 dX11_isSign_39 (by decide) (by omega) (by decide) (fun h_49 => ?_) (fun h_49 => ?_)
                              · refine wp_iconst (pc := 66) dX11_isSign_66 ?_
                                refine wp_goto (pc := 67) 71 dX11_isSign_67 (by decide) ?_
                                refine wp_zret (pc := 71) dX11_isSign_71 rfl rfl (by decide) ?_
                                refine wp_eqst (st' := [vI 1, vR 111]) rfl ?_
                                refine wp_if_eq (pc := 221) 228 dX11_token_221 (by decide) (by decide) (fun hh => absurd hh (by decide)) (fun _ => ?_)
                                refine wp_iload_n (pc := 224) 1 dX11_token_224 rfl rfl ?_
                                refine wp_goto (pc := 225) 229 dX11_token_225 (by decide) ?_
                                refine wp_puti (pc := 229) dX11_token_229 rfl f_X11_172 kd_111 la_111 (fun _ h => by cases h; rfl) rfl ?_
                                refine wp_none 1 [some (vR 111), none, some (vI 1)] rfl ?_
                                have tk := tk_sgn (b := b) (c := c) (by omega) (fun z => by have z1 : 97 ≤ b (tp b c) ∧ b (tp b c) ≤ 122 := z; omega) (fun z => by have z1 : 48 ≤ b (tp b c) ∧ b (tp b c) ≤ 57 := z; omega)
                                have t1 : ts b c = (b (tp b c)) := tk.2.1 (by unfold isSg; omega)
                                refine lp_tkend (I := I) (k := 1) hB hc (((hK.up (by decide)).up (by decide)).up (by decide)) (by rw [up_s, t1]) (by rw [up_j (by omega), up_j (by omega), up_s]) ⟨by rw [show (up (up (up K 111 7 ((tp b c : Nat) : Int)) 111 8 0) 111 6 (b (tp b c))) 111 8 = 0 from (by rw [up_j (by omega), up_s])]; decide, fun z => by omega⟩ (by rw [up_j (by omega), up_j (by omega), up_j (by omega), q4]) (fun _ => tk.1.symm) ⟨by rw [upL_s]; decide, fun z => by omega⟩ (fun J M hJ hM hT => hQ J M hJ (Lb.refl.up.trans hM) hT)
                              · refine wp_iload_n (pc := 42) 0 dX11_isSign_42 rfl rfl ?_
                                refine wp_bipush (pc := 43) dX11_isSign_43 (by decide) ?_
                                refine wp_icmp_eq (pc := 45) 66 dX11_isSign_45 (by decide) (by omega) (by decide) (fun h_50 => ?_) (fun h_50 => ?_)
                                · refine wp_iconst (pc := 66) dX11_isSign_66 ?_
                                  refine wp_goto (pc := 67) 71 dX11_isSign_67 (by decide) ?_
                                  refine wp_zret (pc := 71) dX11_isSign_71 rfl rfl (by decide) ?_
                                  refine wp_eqst (st' := [vI 1, vR 111]) rfl ?_
                                  refine wp_if_eq (pc := 221) 228 dX11_token_221 (by decide) (by decide) (fun hh => absurd hh (by decide)) (fun _ => ?_)
                                  refine wp_iload_n (pc := 224) 1 dX11_token_224 rfl rfl ?_
                                  refine wp_goto (pc := 225) 229 dX11_token_225 (by decide) ?_
                                  refine wp_puti (pc := 229) dX11_token_229 rfl f_X11_172 kd_111 la_111 (fun _ h => by cases h; rfl) rfl ?_
                                  refine wp_none 1 [some (vR 111), none, some (vI 1)] rfl ?_
                                  have tk := tk_sgn (b := b) (c := c) (by omega) (fun z => by have z1 : 97 ≤ b (tp b c) ∧ b (tp b c) ≤ 122 := z; omega) (fun z => by have z1 : 48 ≤ b (tp b c) ∧ b (tp b c) ≤ 57 := z; omega)
                                  have t1 : ts b c = (b (tp b c)) := tk.2.1 (by unfold isSg; omega)
                                  refine lp_tkend (I := I) (k := 1) hB hc (((hK.up (by decide)).up (by decide)).up (by decide)) (by rw [up_s, t1]) (by rw [up_j (by omega), up_j (by omega), up_s]) ⟨by rw [show (up (up (up K 111 7 ((tp b c : Nat) : Int)) 111 8 0) 111 6 (b (tp b c))) 111 8 = 0 from (by rw [up_j (by omega), up_s])]; decide, fun z => by omega⟩ (by rw [up_j (by omega), up_j (by omega), up_j (by omega), q4]) (fun _ => tk.1.symm) ⟨by rw [upL_s]; decide, fun z => by omega⟩ (fun J M hJ hM hT => hQ J M hJ (Lb.refl.up.trans hM) hT)
                                · refine wp_iload_n (pc := 48) 0 dX11_isSign_48 rfl rfl ?_
                                  refine wp_bipush (pc := 49) dX11_isSign_49 (by decide) ?_
                                  refine wp_icmp_eq (pc := 51) 66 dX11_isSign_51 (by decide) (by omega) (by decide) (fun h_51 => ?_) (fun h_51 => ?_)
                                  · refine wp_iconst (pc := 66) dX11_isSign_66 ?_
                                    refine wp_goto (pc := 67) 71 dX11_isSign_67 (by decide) ?_
                                    refine wp_zret (pc := 71) dX11_isSign_71 rfl rfl (by decide) ?_
                                    refine wp_eqst (st' := [vI 1, vR 111]) rfl ?_
                                    refine wp_if_eq (pc := 221) 228 dX11_token_221 (by decide) (by decide) (fun hh => absurd hh (by decide)) (fun _ => ?_)
                                    refine wp_iload_n (pc := 224) 1 dX11_token_224 rfl rfl ?_
                                    refine wp_goto (pc := 225) 229 dX11_token_225 (by decide) ?_
                                    refine wp_puti (pc := 229) dX11_token_229 rfl f_X11_172 kd_111 la_111 (fun _ h => by cases h; rfl) rfl ?_
                                    refine wp_none 1 [some (vR 111), none, some (vI 1)] rfl ?_
                                    have tk := tk_sgn (b := b) (c := c) (by omega) (fun z => by have z1 : 97 ≤ b (tp b c) ∧ b (tp b c) ≤ 122 := z; omega) (fun z => by have z1 : 48 ≤ b (tp b c) ∧ b (tp b c) ≤ 57 := z; omega)
                                    have t1 : ts b c = (b (tp b c)) := tk.2.1 (by unfold isSg; omega)
                                    refine lp_tkend (I := I) (k := 1) hB hc (((hK.up (by decide)).up (by decide)).up (by decide)) (by rw [up_s, t1]) (by rw [up_j (by omega), up_j (by omega), up_s]) ⟨by rw [show (up (up (up K 111 7 ((tp b c : Nat) : Int)) 111 8 0) 111 6 (b (tp b c))) 111 8 = 0 from (by rw [up_j (by omega), up_s])]; decide, fun z => by omega⟩ (by rw [up_j (by omega), up_j (by omega), up_j (by omega), q4]) (fun _ => tk.1.symm) ⟨by rw [upL_s]; decide, fun z => by omega⟩ (fun J M hJ hM hT => hQ J M hJ (Lb.refl.up.trans hM) hT)
                                  · refine wp_iload_n (pc := 54) 0 dX11_isSign_54 rfl rfl ?_
                                    refine wp_bipush (pc := 55) dX11_isSign_55 (by decide) ?_
                                    refine wp_icmp_eq (pc := 57) 66 dX11_isSign_57 (by decide) (by omega) (by decide) (fun h_52 => ?_) (fun h_52 => ?_)
                                    · refine wp_iconst (pc := 66) dX11_isSign_66 ?_
                                      refine wp_goto (pc := 67) 71 dX11_isSign_67 (by decide) ?_
                                      refine wp_zret (pc := 71) dX11_isSign_71 rfl rfl (by decide) ?_
                                      refine wp_eqst (st' := [vI 1, vR 111]) rfl ?_
                                      refine wp_if_eq (pc := 221) 228 dX11_token_221 (by decide) (by decide) (fun hh => absurd hh (by decide)) (fun _ => ?_)
                                      refine wp_iload_n (pc := 224) 1 dX11_token_224 rfl rfl ?_
                                      refine wp_goto (pc := 225) 229 dX11_token_225 (by decide) ?_
                                      refine wp_puti (pc := 229) dX11_token_229 rfl f_X11_172 kd_111 la_111 (fun _ h => by cases h; rfl) rfl ?_
                                      refine wp_none 1 [some (vR 111), none, some (vI 1)] rfl ?_
                                      have tk := tk_sgn (b := b) (c := c) (by omega) (fun z => by have z1 : 97 ≤ b (tp b c) ∧ b (tp b c) ≤ 122 := z; omega) (fun z => by have z1 : 48 ≤ b (tp b c) ∧ b (tp b c) ≤ 57 := z; omega)
                                      have t1 : ts b c = (b (tp b c)) := tk.2.1 (by unfold isSg; omega)
                                      refine lp_tkend (I := I) (k := 1) hB hc (((hK.up (by decide)).up (by decide)).up (by decide)) (by rw [up_s, t1]) (by rw [up_j (by omega), up_j (by omega), up_s]) ⟨by rw [show (up (up (up K 111 7 ((tp b c : Nat) : Int)) 111 8 0) 111 6 (b (tp b c))) 111 8 = 0 from (by rw [up_j (by omega), up_s])]; decide, fun z => by omega⟩ (by rw [up_j (by omega), up_j (by omega), up_j (by omega), q4]) (fun _ => tk.1.symm) ⟨by rw [upL_s]; decide, fun z => by omega⟩ (fun J M hJ hM hT => hQ J M hJ (Lb.refl.up.trans hM) hT)
                                    · refine wp_iload_n (pc := 60) 0 dX11_isSign_60 rfl rfl ?_
                                      refine wp_bipush (pc := 61) dX11_isSign_61 (by decide) ?_
                                      refine wp_icmp_ne (pc := 63) 70 dX11_isSign_63 (by decide) (by omega) (by decide) (fun h_53 => ?_) (fun h_53 => ?_)
                                      · refine wp_iconst (pc := 70) dX11_isSign_70 ?_
                                        refine wp_zret (pc := 71) dX11_isSign_71 rfl rfl (by decide) ?_
                                        refine wp_eqst (st' := [vI 0, vR 111]) rfl ?_
                                        refine wp_if_eq (pc := 221) 228 dX11_token_221 (by decide) (by decide) (fun _ => ?_) (fun hh => absurd hh (by decide))
                                        refine wp_iconst (pc := 228) dX11_token_228 ?_
                                        refine wp_puti (pc := 229) dX11_token_229 rfl f_X11_172 kd_111 la_111 (fun _ h => by cases h; rfl) rfl ?_
                                        refine wp_none 1 [some (vR 111), none, some (vI 1)] rfl ?_
                                        have tk := tk_sgn (b := b) (c := c) (by omega) (fun z => by have z1 : 97 ≤ b (tp b c) ∧ b (tp b c) ≤ 122 := z; omega) (fun z => by have z1 : 48 ≤ b (tp b c) ∧ b (tp b c) ≤ 57 := z; omega)
                                        have t1 : ts b c = 3 := tk.2.2 (by unfold isSg; omega)
                                        refine lp_tkend (I := I) (k := 1) hB hc (((hK.up (by decide)).up (by decide)).up (by decide)) (by rw [up_s, t1]) (by rw [up_j (by omega), up_j (by omega), up_s]) ⟨by rw [show (up (up (up K 111 7 ((tp b c : Nat) : Int)) 111 8 0) 111 6 3) 111 8 = 0 from (by rw [up_j (by omega), up_s])]; decide, fun z => by omega⟩ (by rw [up_j (by omega), up_j (by omega), up_j (by omega), q4]) (fun _ => tk.1.symm) ⟨by rw [upL_s]; decide, fun z => by omega⟩ (fun J M hJ hM hT => hQ J M hJ (Lb.refl.up.trans hM) hT)
                                      · refine wp_iconst (pc := 66) dX11_isSign_66 ?_
                                        refine wp_goto (pc := 67) 71 dX11_isSign_67 (by decide) ?_
                                        refine wp_zret (pc := 71) dX11_isSign_71 rfl rfl (by decide) ?_
                                        refine wp_eqst (st' := [vI 1, vR 111]) rfl ?_
                                        refine wp_if_eq (pc := 221) 228 dX11_token_221 (by decide) (by decide) (fun hh => absurd hh (by decide)) (fun _ => ?_)
                                        refine wp_iload_n (pc := 224) 1 dX11_token_224 rfl rfl ?_
                                        refine wp_goto (pc := 225) 229 dX11_token_225 (by decide) ?_
                                        refine wp_puti (pc := 229) dX11_token_229 rfl f_X11_172 kd_111 la_111 (fun _ h => by cases h; rfl) rfl ?_
                                        refine wp_none 1 [some (vR 111), none, some (vI 1)] rfl ?_
                                        have tk := tk_sgn (b := b) (c := c) (by omega) (fun z => by have z1 : 97 ≤ b (tp b c) ∧ b (tp b c) ≤ 122 := z; omega) (fun z => by have z1 : 48 ≤ b (tp b c) ∧ b (tp b c) ≤ 57 := z; omega)
                                        have t1 : ts b c = (b (tp b c)) := tk.2.1 (by unfold isSg; omega)
                                        refine lp_tkend (I := I) (k := 1) hB hc (((hK.up (by decide)).up (by decide)).up (by decide)) (by rw [up_s, t1]) (by rw [up_j (by omega), up_j (by omega), up_s]) ⟨by rw [show (up (up (up K 111 7 ((tp b c : Nat) : Int)) 111 8 0) 111 6 (b (tp b c))) 111 8 = 0 from (by rw [up_j (by omega), up_s])]; decide, fun z => by omega⟩ (by rw [up_j (by omega), up_j (by omega), up_j (by omega), q4]) (fun _ => tk.1.symm) ⟨by rw [upL_s]; decide, fun z => by omega⟩ (fun J M hJ hM hT => hQ J M hJ (Lb.refl.up.trans hM) hT)
                · refine wp_iconst (pc := 12) dX11_isDigit_12 ?_
                  refine wp_goto (pc := 13) 17 dX11_isDigit_13 (by decide) ?_
                  refine wp_zret (pc := 17) dX11_isDigit_17 rfl rfl (by decide) ?_
                  refine wp_eqst (st' := [vI 1]) rfl ?_
                  refine wp_if_eq (pc := 141) 214 dX11_token_141 (by decide) (by decide) (fun hh => absurd hh (by decide)) (fun _ => ?_)
                  refine wp_none 1 [some (vR 111), none, some (vI 0)] rfl ?_
                  exact rl_digits (I := I) hB hc ⟨by omega, by omega⟩ upL_s hd (fun J M hJ hM hT => hQ J M hJ (Lb.refl.up.trans hM) hT) 0 (Nat.zero_le _) (up (up K 111 7 ((tp b c : Nat) : Int)) 111 8 0) ((hK.up (by decide)).up (by decide)) (by rw [up_j (by omega), up_j (by omega), q4]) (by rw [up_j (by omega), up_s]) (by rw [show (up (up K 111 7 ((tp b c : Nat) : Int)) 111 8 0) 111 8 = 0 from (by rw [up_s])]; rfl)
            · refine wp_iconst (pc := 12) dX11_isLetter_12 ?_
              refine wp_goto (pc := 13) 17 dX11_isLetter_13 (by decide) ?_
              refine wp_zret (pc := 17) dX11_isLetter_17 rfl rfl (by decide) ?_
              refine wp_eqst (st' := [vI 1]) rfl ?_
              refine wp_if_eq (pc := 75) 137 dX11_token_75 (by decide) (by decide) (fun hh => absurd hh (by decide)) (fun _ => ?_)
              refine wp_none 1 [some (vR 111), none, some (vI 0)] rfl ?_
              exact rl_letters (I := I) hB hc ⟨by omega, by omega⟩ hd (fun J M hJ hM hT => hQ J M hJ (Lb.refl.up.trans hM) hT) 0 (Nat.zero_le _) (up (up K 111 7 ((tp b c : Nat) : Int)) 111 8 0) (upL L 111 9 0) ((hK.up (by decide)).up (by decide)) Lb.refl (by rw [up_j (by omega), up_j (by omega), q4]) (by rw [up_j (by omega), up_s]) (by rw [up_s]) (by rw [upL_s]; rfl)
        · refine wp_aload_n (pc := 63) 0 dX11_token_63 rfl rfl ?_
          refine wp_iconst (pc := 64) dX11_token_64 ?_
          refine wp_puti (pc := 65) dX11_token_65 rfl f_X11_172 kd_111 la_111 (fun _ h => by cases h; rfl) rfl ?_
          refine wp_goto (pc := 68) 232 dX11_token_68 (by decide) ?_
          refine wp_none 1 [some (vR 111), none, some (vI 0)] rfl ?_
          have tk := tk_end (b := b) (c := c) (by omega)
          have t1 : ts b c = 0 := tk.1
          refine lp_tkend (I := I) (k := 0) hB hc (((hK.up (by decide)).up (by decide)).up (by decide)) (by rw [up_s, t1]) (by rw [up_j (by omega), up_j (by omega), up_s]) ⟨by rw [show (up (up (up K 111 7 ((tp b c : Nat) : Int)) 111 8 0) 111 6 0) 111 8 = 0 from (by rw [up_j (by omega), up_s])]; decide, fun z => by omega⟩ (by rw [up_j (by omega), up_j (by omega), up_j (by omega), q4]) (fun _ => by rw [tk.2, Nat.add_zero]) ⟨by rw [upL_s]; decide, fun z => by omega⟩ (fun J M hJ hM hT => hQ J M hJ (Lb.refl.up.trans hM) hT)
      · exact absurd (show isBl (b (tp b c)) by first | exact Or.inl (by omega) | exact Or.inr (by omega)) hp.1.2.2
  · intro K hK q4
    have hBK := hK.tb hB
    have bl : isBl (b i) := hp.1.2.1 i hi0 hi
    have bl1 : b i = 32 ∨ b i = 10 := bl
    refine wp_aload_n (pc := 0) 0 dX11_token_0 rfl rfl ?_
    refine wp_iconst (pc := 1) dX11_token_1 ?_
    refine wp_callV (pc := 2) (st := []) (nf' := 153) [vI 0] [some (vR 111), some (vI 0)] dX11_token_2 rfl c_X11_158 rfl kd_111 (by decide) rfl la_111 rfl (Nat.le_of_ble_eq_true rfl) rfl (Nat.le_of_ble_eq_true rfl) (by omega) (Nat.le_refl _) (Nat.le_refl _) ?_
    refine rs_here 0 rfl (a := i) hBK (by rw [q4]) (by omega) (by omega) ?_
    refine wp_eqst (st' := [vI (b i)]) rfl ?_
    refine wp_bipush (pc := 5) dX11_token_5 (by decide) ?_
    refine wp_icmp_eq (pc := 7) 20 dX11_token_7 (by decide) (by omega) (by decide) (fun h_1 => ?_) (fun h_1 => ?_)
    · refine wp_aload_n (pc := 20) 0 dX11_token_20 rfl rfl ?_
      refine wp_dup (pc := 21) dX11_token_21 rfl ?_
      refine wp_geti (pc := 22) dX11_token_22 rfl f_X11_152 kd_111 la_111 (Or.inl rfl) ?_
      refine wp_eqst (st' := [vI ((i : Nat) : Int), vR 111]) (by rw [q4]) ?_
      refine wp_iconst (pc := 25) dX11_token_25 ?_
      refine wp_iadd (pc := 26) dX11_token_26 ?_
      refine wp_puti (pc := 27) dX11_token_27 rfl f_X11_152 kd_111 la_111 (fun _ h => by cases h; rfl) rfl ?_
      refine wp_goto (pc := 30) 0 dX11_token_30 (by decide) ?_
      exact ih (up K 111 4 (((i : Nat) : Int) + 1)) (hK.up (by decide)) (by rw [up_s]; rfl)
    · refine wp_aload_n (pc := 10) 0 dX11_token_10 rfl rfl ?_
      refine wp_iconst (pc := 11) dX11_token_11 ?_
      refine wp_callV (pc := 12) (st := []) (nf' := 153) [vI 0] [some (vR 111), some (vI 0)] dX11_token_12 rfl c_X11_158 rfl kd_111 (by decide) rfl la_111 rfl (Nat.le_of_ble_eq_true rfl) rfl (Nat.le_of_ble_eq_true rfl) (by omega) (Nat.le_refl _) (Nat.le_refl _) ?_
      refine rs_here 0 rfl (a := i) hBK (by rw [q4]) (by omega) (by omega) ?_
      refine wp_eqst (st' := [vI (b i)]) rfl ?_
      refine wp_bipush (pc := 15) dX11_token_15 (by decide) ?_
      refine wp_icmp_ne (pc := 17) 33 dX11_token_17 (by decide) (by omega) (by decide) (fun h_2 => ?_) (fun h_2 => ?_)
      · exfalso; omega
      · refine wp_aload_n (pc := 20) 0 dX11_token_20 rfl rfl ?_
        refine wp_dup (pc := 21) dX11_token_21 rfl ?_
        refine wp_geti (pc := 22) dX11_token_22 rfl f_X11_152 kd_111 la_111 (Or.inl rfl) ?_
        refine wp_eqst (st' := [vI ((i : Nat) : Int), vR 111]) (by rw [q4]) ?_
        refine wp_iconst (pc := 25) dX11_token_25 ?_
        refine wp_iadd (pc := 26) dX11_token_26 ?_
        refine wp_puti (pc := 27) dX11_token_27 rfl f_X11_152 kd_111 la_111 (fun _ h => by cases h; rfl) rfl ?_
        refine wp_goto (pc := 30) 0 dX11_token_30 (by decide) ?_
        exact ih (up K 111 4 (((i : Nat) : Int) + 1)) (hK.up (by decide)) (by rw [up_s]; rfl)

theorem rs_token {l : Launch} {G : mG} {d : Nat} {I : mI} {L : Nat → Nat → Int} {D : Nat → Nat} {Q : mQ} {b g : Nat → Int} {n : Nat} {c : Nat} (hB : RBk I b g n) (hc : c ≤ n) (q4 : I 111 4 = (c : Int)) (hd : 1 ≤ d) (hQ : ∀ J M, Fb I J → Lb L M → TKR J M b c → Q none J (XX M D)) : WP l G m_X11_token d 153 I (XX L D) 0 [some (vR 111), none, none] [] Q := by
  have hp := (tp_ok (g := g) hc).1.1
  rw [← hB.1] at hp
  exact rl_token hB hc hd hQ c (Nat.le_refl c) hp I Fb.refl q4

theorem rs_isWord {l : Launch} {G : mG} {d : Nat} {I : mI} {L : Nat → Nat → Int} {D : Nat → Nat} {Q : mQ} {b g : Nat → Int} {n c : Nat} {w : Int} {k : Nat}  (hb : b = bOf g n) (hc : c ≤ n) (hT : TKR I L b c) (hk : k < 21) (hw : w = W8 k) (hd : 0 ≤ d) (h1 : wi b c = (k : Int) → Q (some (vI 1)) I (XX L D)) (h0 : ¬ (wi b c = (k : Int)) → Q (some (vI 0)) I (XX L D)) : WP l G m_X11_isWord d 153 I (XX L D) 0 [some (vR 111), some (vJ w), none] [] Q := by
  have k6 := hT.1
  have kr := ts_rng b c
  have k9 := hT.2.2.2.2.1
  have bw := W_in k hk
  have bc := cmpL_in (L 111 9) w
  have bx : inL w := by rw [hw]; omega
  have f1 : ts b c = 1 → (L 111 9 = w ↔ wi b c = (k : Int)) := fun z => by rw [hT.2.2.2.2.2 z, hw, hb]; exact w8_iff hc (by rw [← hb]; exact z) hk
  refine wp_aload_n (pc := 0) 0 dX11_isWord_0 rfl rfl ?_
  refine wp_geti (pc := 1) dX11_isWord_1 rfl f_X11_172 kd_111 la_111 (Or.inl rfl) ?_
  refine wp_eqst (st' := [vI (ts b c)]) (by rw [k6]) ?_
  refine wp_iconst (pc := 4) dX11_isWord_4 ?_
  refine wp_icmp_ne (pc := 5) 21 dX11_isWord_5 (by decide) (by omega) (by decide) (fun h_1 => ?_) (fun h_1 => ?_)
  · refine wp_iconst (pc := 21) dX11_isWord_21 ?_
    refine wp_zret (pc := 22) dX11_isWord_22 rfl rfl (by decide) ?_
    exact h0 (fun z => by have z1 := @wi_ts b c (by omega); omega)
  · refine wp_aload_n (pc := 8) 0 dX11_isWord_8 rfl rfl ?_
    refine wp_getl (pc := 9) dX11_isWord_9 rfl f_X11_165 kd_111 la_111 rfl ?_
    refine wp_eqst (st' := [vJ (L 111 9)]) rfl ?_
    refine wp_lload_n (pc := 12) 1 dX11_isWord_12 rfl rfl ?_
    refine wq_lcmp (pc := 13) dX11_isWord_13 (by omega) (by omega) ?_
    refine wp_if_ne (pc := 14) 21 dX11_isWord_14 (by decide) (by omega) (fun h_2 => ?_) (fun h_2 => ?_)
    · refine wp_iconst (pc := 21) dX11_isWord_21 ?_
      refine wp_zret (pc := 22) dX11_isWord_22 rfl rfl (by decide) ?_
      exact h0 (fun z => h_2 (cmpL_0.mpr ((f1 (by omega)).mpr z)))
    · refine wp_iconst (pc := 17) dX11_isWord_17 ?_
      refine wp_goto (pc := 18) 22 dX11_isWord_18 (by decide) ?_
      refine wp_zret (pc := 22) dX11_isWord_22 rfl rfl (by decide) ?_
      exact h1 ((f1 (by omega)).mp (cmpL_0.mp h_2))

theorem cmpR (x y : Int) : inR (cmpL x y) := by have := cmpL_in x y; omega
theorem rs_isOwn {l : Launch} {G : mG} {d : Nat} {I : mI} {L : Nat → Nat → Int} {D : Nat → Nat} {Q : mQ} {b g : Nat → Int} {n c : Nat}  (hb : b = bOf g n) (hc : c ≤ n) (hT : TKR I L b c) (ht : ts b c = 1) (hd : 0 ≤ d) (h1 : ¬ wi b c = -1 → Q (some (vI 1)) I (XX L D)) (h0 : ¬ (¬ wi b c = -1) → Q (some (vI 0)) I (XX L D)) : WP l G m_X11_isOwn d 153 I (XX L D) 0 [some (vR 111)] [] Q := by
  have k9 := hT.2.2.2.2.2 ht
  have kw := wi_in b c
  have z5 := w5_in (g := g) hc (by rw [← hb]; exact ht)
  rw [← hb] at z5
  have kk : ∀ k, k < 21 → (w8 b c = W8 k ↔ wi b c = (k : Int)) := fun k hk => by rw [hb]; exact w8_iff hc (by rw [← hb]; exact ht) hk
  have bl : inL (w8 b c) := ⟨by omega, by omega⟩
  refine wp_aload_n (pc := 0) 0 dX11_isOwn_0 rfl rfl ?_
  refine wp_getl (pc := 1) dX11_isOwn_1 rfl f_X11_165 kd_111 la_111 rfl ?_
  refine wp_eqst (st' := [vJ (w8 b c)]) (by show [vJ (L 111 9)] ++ _ = _; rw [k9]; rfl) ?_
  refine wp_ldc2 (pc := 4) (z := 109300298179432) dX11_isOwn_4 rfl k_X11_188 rfl ?_
  refine wq_lcmp (pc := 7) dX11_isOwn_7 (by first | exact cmpR _ _ | omega) (by first | exact cmpR _ _ | omega) ?_
  refine wp_if_eq (pc := 8) 231 dX11_isOwn_8 (by decide) (by first | exact cmpR _ _ | omega) (fun h_1 => ?_) (fun h_1 => ?_)
  · refine wp_iconst (pc := 231) dX11_isOwn_231 ?_
    refine wp_goto (pc := 232) 236 dX11_isOwn_232 (by decide) ?_
    refine wp_zret (pc := 236) dX11_isOwn_236 rfl rfl (by decide) ?_
    exact h1 (by have z := (kk 0 (by decide)).mp (cmpL_0.mp h_1); omega)
  · refine wp_aload_n (pc := 11) 0 dX11_isOwn_11 rfl rfl ?_
    refine wp_getl (pc := 12) dX11_isOwn_12 rfl f_X11_165 kd_111 la_111 rfl ?_
    refine wp_eqst (st' := [vJ (w8 b c)]) (by show [vJ (L 111 9)] ++ _ = _; rw [k9]; rfl) ?_
    refine wp_ldc2 (pc := 15) (z := 123581014175598) dX11_isOwn_15 rfl k_X11_190 rfl ?_
    refine wq_lcmp (pc := 18) dX11_isOwn_18 (by first | exact cmpR _ _ | omega) (by first | exact cmpR _ _ | omega) ?_
    refine wp_if_eq (pc := 19) 231 dX11_isOwn_19 (by decide) (by first | exact cmpR _ _ | omega) (fun h_2 => ?_) (fun h_2 => ?_)
    · refine wp_iconst (pc := 231) dX11_isOwn_231 ?_
      refine wp_goto (pc := 232) 236 dX11_isOwn_232 (by decide) ?_
      refine wp_zret (pc := 236) dX11_isOwn_236 rfl rfl (by decide) ?_
      exact h1 (by have z := (kk 1 (by decide)).mp (cmpL_0.mp h_2); omega)
    · refine wp_aload_n (pc := 22) 0 dX11_isOwn_22 rfl rfl ?_
      refine wp_getl (pc := 23) dX11_isOwn_23 rfl f_X11_165 kd_111 la_111 rfl ?_
      refine wp_eqst (st' := [vJ (w8 b c)]) (by show [vJ (L 111 9)] ++ _ = _; rw [k9]; rfl) ?_
      refine wp_ldc2 (pc := 26) (z := 26990) dX11_isOwn_26 rfl k_X11_192 rfl ?_
      refine wq_lcmp (pc := 29) dX11_isOwn_29 (by first | exact cmpR _ _ | omega) (by first | exact cmpR _ _ | omega) ?_
      refine wp_if_eq (pc := 30) 231 dX11_isOwn_30 (by decide) (by first | exact cmpR _ _ | omega) (fun h_3 => ?_) (fun h_3 => ?_)
      · refine wp_iconst (pc := 231) dX11_isOwn_231 ?_
        refine wp_goto (pc := 232) 236 dX11_isOwn_232 (by decide) ?_
        refine wp_zret (pc := 236) dX11_isOwn_236 rfl rfl (by decide) ?_
        exact h1 (by have z := (kk 2 (by decide)).mp (cmpL_0.mp h_3); omega)
      · refine wp_aload_n (pc := 33) 0 dX11_isOwn_33 rfl rfl ?_
        refine wp_getl (pc := 34) dX11_isOwn_34 rfl f_X11_165 kd_111 la_111 rfl ?_
        refine wp_eqst (st' := [vJ (w8 b c)]) (by show [vJ (L 111 9)] ++ _ = _; rw [k9]; rfl) ?_
        refine wp_ldc2 (pc := 37) (z := 28518) dX11_isOwn_37 rfl k_X11_194 rfl ?_
        refine wq_lcmp (pc := 40) dX11_isOwn_40 (by first | exact cmpR _ _ | omega) (by first | exact cmpR _ _ | omega) ?_
        refine wp_if_eq (pc := 41) 231 dX11_isOwn_41 (by decide) (by first | exact cmpR _ _ | omega) (fun h_4 => ?_) (fun h_4 => ?_)
        · refine wp_iconst (pc := 231) dX11_isOwn_231 ?_
          refine wp_goto (pc := 232) 236 dX11_isOwn_232 (by decide) ?_
          refine wp_zret (pc := 236) dX11_isOwn_236 rfl rfl (by decide) ?_
          exact h1 (by have z := (kk 3 (by decide)).mp (cmpL_0.mp h_4); omega)
        · refine wp_aload_n (pc := 44) 0 dX11_isOwn_44 rfl rfl ?_
          refine wp_getl (pc := 45) dX11_isOwn_45 rfl f_X11_165 kd_111 la_111 rfl ?_
          refine wp_eqst (st' := [vJ (w8 b c)]) (by show [vJ (L 111 9)] ++ _ = _; rw [k9]; rfl) ?_
          refine wp_ldc2 (pc := 48) (z := 6385252) dX11_isOwn_48 rfl k_X11_196 rfl ?_
          refine wq_lcmp (pc := 51) dX11_isOwn_51 (by first | exact cmpR _ _ | omega) (by first | exact cmpR _ _ | omega) ?_
          refine wp_if_eq (pc := 52) 231 dX11_isOwn_52 (by decide) (by first | exact cmpR _ _ | omega) (fun h_5 => ?_) (fun h_5 => ?_)
          · refine wp_iconst (pc := 231) dX11_isOwn_231 ?_
            refine wp_goto (pc := 232) 236 dX11_isOwn_232 (by decide) ?_
            refine wp_zret (pc := 236) dX11_isOwn_236 rfl rfl (by decide) ?_
            exact h1 (by have z := (kk 4 (by decide)).mp (cmpL_0.mp h_5); omega)
          · refine wp_aload_n (pc := 55) 0 dX11_isOwn_55 rfl rfl ?_
            refine wp_getl (pc := 56) dX11_isOwn_56 rfl f_X11_165 kd_111 la_111 rfl ?_
            refine wp_eqst (st' := [vJ (w8 b c)]) (by show [vJ (L 111 9)] ++ _ = _; rw [k9]; rfl) ?_
            refine wp_ldc2 (pc := 59) (z := 7761783) dX11_isOwn_59 rfl k_X11_198 rfl ?_
            refine wq_lcmp (pc := 62) dX11_isOwn_62 (by first | exact cmpR _ _ | omega) (by first | exact cmpR _ _ | omega) ?_
            refine wp_if_eq (pc := 63) 231 dX11_isOwn_63 (by decide) (by first | exact cmpR _ _ | omega) (fun h_6 => ?_) (fun h_6 => ?_)
            · refine wp_iconst (pc := 231) dX11_isOwn_231 ?_
              refine wp_goto (pc := 232) 236 dX11_isOwn_232 (by decide) ?_
              refine wp_zret (pc := 236) dX11_isOwn_236 rfl rfl (by decide) ?_
              exact h1 (by have z := (kk 5 (by decide)).mp (cmpL_0.mp h_6); omega)
            · refine wp_aload_n (pc := 66) 0 dX11_isOwn_66 rfl rfl ?_
              refine wp_getl (pc := 67) dX11_isOwn_67 rfl f_X11_165 kd_111 la_111 rfl ?_
              refine wp_eqst (st' := [vJ (w8 b c)]) (by show [vJ (L 111 9)] ++ _ = _; rw [k9]; rfl) ?_
              refine wp_ldc2 (pc := 70) (z := 495555538035) dX11_isOwn_70 rfl k_X11_200 rfl ?_
              refine wq_lcmp (pc := 73) dX11_isOwn_73 (by first | exact cmpR _ _ | omega) (by first | exact cmpR _ _ | omega) ?_
              refine wp_if_eq (pc := 74) 231 dX11_isOwn_74 (by decide) (by first | exact cmpR _ _ | omega) (fun h_7 => ?_) (fun h_7 => ?_)
              · refine wp_iconst (pc := 231) dX11_isOwn_231 ?_
                refine wp_goto (pc := 232) 236 dX11_isOwn_232 (by decide) ?_
                refine wp_zret (pc := 236) dX11_isOwn_236 rfl rfl (by decide) ?_
                exact h1 (by have z := (kk 6 (by decide)).mp (cmpL_0.mp h_7); omega)
              · refine wp_aload_n (pc := 77) 0 dX11_isOwn_77 rfl rfl ?_
                refine wp_getl (pc := 78) dX11_isOwn_78 rfl f_X11_165 kd_111 la_111 rfl ?_
                refine wp_eqst (st' := [vJ (w8 b c)]) (by show [vJ (L 111 9)] ++ _ = _; rw [k9]; rfl) ?_
                refine wp_ldc2 (pc := 81) (z := 461414299507) dX11_isOwn_81 rfl k_X11_202 rfl ?_
                refine wq_lcmp (pc := 84) dX11_isOwn_84 (by first | exact cmpR _ _ | omega) (by first | exact cmpR _ _ | omega) ?_
                refine wp_if_eq (pc := 85) 231 dX11_isOwn_85 (by decide) (by first | exact cmpR _ _ | omega) (fun h_8 => ?_) (fun h_8 => ?_)
                · refine wp_iconst (pc := 231) dX11_isOwn_231 ?_
                  refine wp_goto (pc := 232) 236 dX11_isOwn_232 (by decide) ?_
                  refine wp_zret (pc := 236) dX11_isOwn_236 rfl rfl (by decide) ?_
                  exact h1 (by have z := (kk 7 (by decide)).mp (cmpL_0.mp h_8); omega)
                · refine wp_aload_n (pc := 88) 0 dX11_isOwn_88 rfl rfl ?_
                  refine wp_getl (pc := 89) dX11_isOwn_89 rfl f_X11_165 kd_111 la_111 rfl ?_
                  refine wp_eqst (st' := [vJ (w8 b c)]) (by show [vJ (L 111 9)] ++ _ = _; rw [k9]; rfl) ?_
                  refine wp_ldc2 (pc := 92) (z := 126926642767219) dX11_isOwn_92 rfl k_X11_204 rfl ?_
                  refine wq_lcmp (pc := 95) dX11_isOwn_95 (by first | exact cmpR _ _ | omega) (by first | exact cmpR _ _ | omega) ?_
                  refine wp_if_eq (pc := 96) 231 dX11_isOwn_96 (by decide) (by first | exact cmpR _ _ | omega) (fun h_9 => ?_) (fun h_9 => ?_)
                  · refine wp_iconst (pc := 231) dX11_isOwn_231 ?_
                    refine wp_goto (pc := 232) 236 dX11_isOwn_232 (by decide) ?_
                    refine wp_zret (pc := 236) dX11_isOwn_236 rfl rfl (by decide) ?_
                    exact h1 (by have z := (kk 8 (by decide)).mp (cmpL_0.mp h_9); omega)
                  · refine wp_aload_n (pc := 99) 0 dX11_isOwn_99 rfl rfl ?_
                    refine wp_getl (pc := 100) dX11_isOwn_100 rfl f_X11_165 kd_111 la_111 rfl ?_
                    refine wp_eqst (st' := [vJ (w8 b c)]) (by show [vJ (L 111 9)] ++ _ = _; rw [k9]; rfl) ?_
                    refine wp_ldc2 (pc := 103) (z := 1885432178) dX11_isOwn_103 rfl k_X11_206 rfl ?_
                    refine wq_lcmp (pc := 106) dX11_isOwn_106 (by first | exact cmpR _ _ | omega) (by first | exact cmpR _ _ | omega) ?_
                    refine wp_if_eq (pc := 107) 231 dX11_isOwn_107 (by decide) (by first | exact cmpR _ _ | omega) (fun h_10 => ?_) (fun h_10 => ?_)
                    · refine wp_iconst (pc := 231) dX11_isOwn_231 ?_
                      refine wp_goto (pc := 232) 236 dX11_isOwn_232 (by decide) ?_
                      refine wp_zret (pc := 236) dX11_isOwn_236 rfl rfl (by decide) ?_
                      exact h1 (by have z := (kk 9 (by decide)).mp (cmpL_0.mp h_10); omega)
                    · refine wp_aload_n (pc := 110) 0 dX11_isOwn_110 rfl rfl ?_
                      refine wp_getl (pc := 111) dX11_isOwn_111 rfl f_X11_165 kd_111 la_111 rfl ?_
                      refine wp_eqst (st' := [vJ (w8 b c)]) (by show [vJ (L 111 9)] ++ _ = _; rw [k9]; rfl) ?_
                      refine wp_ldc2 (pc := 114) (z := 24948) dX11_isOwn_114 rfl k_X11_208 rfl ?_
                      refine wq_lcmp (pc := 117) dX11_isOwn_117 (by first | exact cmpR _ _ | omega) (by first | exact cmpR _ _ | omega) ?_
                      refine wp_if_eq (pc := 118) 231 dX11_isOwn_118 (by decide) (by first | exact cmpR _ _ | omega) (fun h_11 => ?_) (fun h_11 => ?_)
                      · refine wp_iconst (pc := 231) dX11_isOwn_231 ?_
                        refine wp_goto (pc := 232) 236 dX11_isOwn_232 (by decide) ?_
                        refine wp_zret (pc := 236) dX11_isOwn_236 rfl rfl (by decide) ?_
                        exact h1 (by have z := (kk 10 (by decide)).mp (cmpL_0.mp h_11); omega)
                      · refine wp_aload_n (pc := 121) 0 dX11_isOwn_121 rfl rfl ?_
                        refine wp_getl (pc := 122) dX11_isOwn_122 rfl f_X11_165 kd_111 la_111 rfl ?_
                        refine wp_eqst (st' := [vJ (w8 b c)]) (by show [vJ (L 111 9)] ++ _ = _; rw [k9]; rfl) ?_
                        refine wp_ldc2 (pc := 125) (z := 448377483891) dX11_isOwn_125 rfl k_X11_210 rfl ?_
                        refine wq_lcmp (pc := 128) dX11_isOwn_128 (by first | exact cmpR _ _ | omega) (by first | exact cmpR _ _ | omega) ?_
                        refine wp_if_eq (pc := 129) 231 dX11_isOwn_129 (by decide) (by first | exact cmpR _ _ | omega) (fun h_12 => ?_) (fun h_12 => ?_)
                        · refine wp_iconst (pc := 231) dX11_isOwn_231 ?_
                          refine wp_goto (pc := 232) 236 dX11_isOwn_232 (by decide) ?_
                          refine wp_zret (pc := 236) dX11_isOwn_236 rfl rfl (by decide) ?_
                          exact h1 (by have z := (kk 11 (by decide)).mp (cmpL_0.mp h_12); omega)
                        · refine wp_aload_n (pc := 132) 0 dX11_isOwn_132 rfl rfl ?_
                          refine wp_getl (pc := 133) dX11_isOwn_133 rfl f_X11_165 kd_111 la_111 rfl ?_
                          refine wp_eqst (st' := [vJ (w8 b c)]) (by show [vJ (L 111 9)] ++ _ = _; rw [k9]; rfl) ?_
                          refine wp_ldc2 (pc := 136) (z := 110386690024805) dX11_isOwn_136 rfl k_X11_212 rfl ?_
                          refine wq_lcmp (pc := 139) dX11_isOwn_139 (by first | exact cmpR _ _ | omega) (by first | exact cmpR _ _ | omega) ?_
                          refine wp_if_eq (pc := 140) 231 dX11_isOwn_140 (by decide) (by first | exact cmpR _ _ | omega) (fun h_13 => ?_) (fun h_13 => ?_)
                          · refine wp_iconst (pc := 231) dX11_isOwn_231 ?_
                            refine wp_goto (pc := 232) 236 dX11_isOwn_232 (by decide) ?_
                            refine wp_zret (pc := 236) dX11_isOwn_236 rfl rfl (by decide) ?_
                            exact h1 (by have z := (kk 12 (by decide)).mp (cmpL_0.mp h_13); omega)
                          · refine wp_aload_n (pc := 143) 0 dX11_isOwn_143 rfl rfl ?_
                            refine wp_getl (pc := 144) dX11_isOwn_144 rfl f_X11_165 kd_111 la_111 rfl ?_
                            refine wp_eqst (st' := [vJ (w8 b c)]) (by show [vJ (L 111 9)] ++ _ = _; rw [k9]; rfl) ?_
                            refine wp_ldc2 (pc := 147) (z := 426836257907) dX11_isOwn_147 rfl k_X11_214 rfl ?_
                            refine wq_lcmp (pc := 150) dX11_isOwn_150 (by first | exact cmpR _ _ | omega) (by first | exact cmpR _ _ | omega) ?_
                            refine wp_if_eq (pc := 151) 231 dX11_isOwn_151 (by decide) (by first | exact cmpR _ _ | omega) (fun h_14 => ?_) (fun h_14 => ?_)
                            · refine wp_iconst (pc := 231) dX11_isOwn_231 ?_
                              refine wp_goto (pc := 232) 236 dX11_isOwn_232 (by decide) ?_
                              refine wp_zret (pc := 236) dX11_isOwn_236 rfl rfl (by decide) ?_
                              exact h1 (by have z := (kk 13 (by decide)).mp (cmpL_0.mp h_14); omega)
                            · refine wp_aload_n (pc := 154) 0 dX11_isOwn_154 rfl rfl ?_
                              refine wp_getl (pc := 155) dX11_isOwn_155 rfl f_X11_165 kd_111 la_111 rfl ?_
                              refine wp_eqst (st' := [vJ (w8 b c)]) (by show [vJ (L 111 9)] ++ _ = _; rw [k9]; rfl) ?_
                              refine wp_ldc2 (pc := 158) (z := 1685217655) dX11_isOwn_158 rfl k_X11_216 rfl ?_
                              refine wq_lcmp (pc := 161) dX11_isOwn_161 (by first | exact cmpR _ _ | omega) (by first | exact cmpR _ _ | omega) ?_
                              refine wp_if_eq (pc := 162) 231 dX11_isOwn_162 (by decide) (by first | exact cmpR _ _ | omega) (fun h_15 => ?_) (fun h_15 => ?_)
                              · refine wp_iconst (pc := 231) dX11_isOwn_231 ?_
                                refine wp_goto (pc := 232) 236 dX11_isOwn_232 (by decide) ?_
                                refine wp_zret (pc := 236) dX11_isOwn_236 rfl rfl (by decide) ?_
                                exact h1 (by have z := (kk 14 (by decide)).mp (cmpL_0.mp h_15); omega)
                              · refine wp_aload_n (pc := 165) 0 dX11_isOwn_165 rfl rfl ?_
                                refine wp_getl (pc := 166) dX11_isOwn_166 rfl f_X11_165 kd_111 la_111 rfl ?_
                                refine wp_eqst (st' := [vJ (w8 b c)]) (by show [vJ (L 111 9)] ++ _ = _; rw [k9]; rfl) ?_
                                refine wp_ldc2 (pc := 169) (z := 126948200440185) dX11_isOwn_169 rfl k_X11_218 rfl ?_
                                refine wq_lcmp (pc := 172) dX11_isOwn_172 (by first | exact cmpR _ _ | omega) (by first | exact cmpR _ _ | omega) ?_
                                refine wp_if_eq (pc := 173) 231 dX11_isOwn_173 (by decide) (by first | exact cmpR _ _ | omega) (fun h_16 => ?_) (fun h_16 => ?_)
                                · refine wp_iconst (pc := 231) dX11_isOwn_231 ?_
                                  refine wp_goto (pc := 232) 236 dX11_isOwn_232 (by decide) ?_
                                  refine wp_zret (pc := 236) dX11_isOwn_236 rfl rfl (by decide) ?_
                                  exact h1 (by have z := (kk 17 (by decide)).mp (cmpL_0.mp h_16); omega)
                                · refine wp_aload_n (pc := 176) 0 dX11_isOwn_176 rfl rfl ?_
                                  refine wp_getl (pc := 177) dX11_isOwn_177 rfl f_X11_165 kd_111 la_111 rfl ?_
                                  refine wp_eqst (st' := [vJ (w8 b c)]) (by show [vJ (L 111 9)] ++ _ = _; rw [k9]; rfl) ?_
                                  refine wp_ldc2 (pc := 180) (z := 1919246692) dX11_isOwn_180 rfl k_X11_220 rfl ?_
                                  refine wq_lcmp (pc := 183) dX11_isOwn_183 (by first | exact cmpR _ _ | omega) (by first | exact cmpR _ _ | omega) ?_
                                  refine wp_if_eq (pc := 184) 231 dX11_isOwn_184 (by decide) (by first | exact cmpR _ _ | omega) (fun h_17 => ?_) (fun h_17 => ?_)
                                  · refine wp_iconst (pc := 231) dX11_isOwn_231 ?_
                                    refine wp_goto (pc := 232) 236 dX11_isOwn_232 (by decide) ?_
                                    refine wp_zret (pc := 236) dX11_isOwn_236 rfl rfl (by decide) ?_
                                    exact h1 (by have z := (kk 18 (by decide)).mp (cmpL_0.mp h_17); omega)
                                  · refine wp_aload_n (pc := 187) 0 dX11_isOwn_187 rfl rfl ?_
                                    refine wp_getl (pc := 188) dX11_isOwn_188 rfl f_X11_165 kd_111 la_111 rfl ?_
                                    refine wp_eqst (st' := [vJ (w8 b c)]) (by show [vJ (L 111 9)] ++ _ = _; rw [k9]; rfl) ?_
                                    refine wp_ldc2 (pc := 191) (z := 126879263909220) dX11_isOwn_191 rfl k_X11_222 rfl ?_
                                    refine wq_lcmp (pc := 194) dX11_isOwn_194 (by first | exact cmpR _ _ | omega) (by first | exact cmpR _ _ | omega) ?_
                                    refine wp_if_eq (pc := 195) 231 dX11_isOwn_195 (by decide) (by first | exact cmpR _ _ | omega) (fun h_18 => ?_) (fun h_18 => ?_)
                                    · refine wp_iconst (pc := 231) dX11_isOwn_231 ?_
                                      refine wp_goto (pc := 232) 236 dX11_isOwn_232 (by decide) ?_
                                      refine wp_zret (pc := 236) dX11_isOwn_236 rfl rfl (by decide) ?_
                                      exact h1 (by have z := (kk 19 (by decide)).mp (cmpL_0.mp h_18); omega)
                                    · refine wp_aload_n (pc := 198) 0 dX11_isOwn_198 rfl rfl ?_
                                      refine wp_getl (pc := 199) dX11_isOwn_199 rfl f_X11_165 kd_111 la_111 rfl ?_
                                      refine wp_eqst (st' := [vJ (w8 b c)]) (by show [vJ (L 111 9)] ++ _ = _; rw [k9]; rfl) ?_
                                      refine wp_ldc2 (pc := 202) (z := 7305070) dX11_isOwn_202 rfl k_X11_224 rfl ?_
                                      refine wq_lcmp (pc := 205) dX11_isOwn_205 (by first | exact cmpR _ _ | omega) (by first | exact cmpR _ _ | omega) ?_
                                      refine wp_if_eq (pc := 206) 231 dX11_isOwn_206 (by decide) (by first | exact cmpR _ _ | omega) (fun h_19 => ?_) (fun h_19 => ?_)
                                      · refine wp_iconst (pc := 231) dX11_isOwn_231 ?_
                                        refine wp_goto (pc := 232) 236 dX11_isOwn_232 (by decide) ?_
                                        refine wp_zret (pc := 236) dX11_isOwn_236 rfl rfl (by decide) ?_
                                        exact h1 (by have z := (kk 20 (by decide)).mp (cmpL_0.mp h_19); omega)
                                      · refine wp_aload_n (pc := 209) 0 dX11_isOwn_209 rfl rfl ?_
                                        refine wp_getl (pc := 210) dX11_isOwn_210 rfl f_X11_165 kd_111 la_111 rfl ?_
                                        refine wp_eqst (st' := [vJ (w8 b c)]) (by show [vJ (L 111 9)] ++ _ = _; rw [k9]; rfl) ?_
                                        refine wp_ldc2 (pc := 213) (z := 28530) dX11_isOwn_213 rfl k_X11_226 rfl ?_
                                        refine wq_lcmp (pc := 216) dX11_isOwn_216 (by first | exact cmpR _ _ | omega) (by first | exact cmpR _ _ | omega) ?_
                                        refine wp_if_eq (pc := 217) 231 dX11_isOwn_217 (by decide) (by first | exact cmpR _ _ | omega) (fun h_20 => ?_) (fun h_20 => ?_)
                                        · refine wp_iconst (pc := 231) dX11_isOwn_231 ?_
                                          refine wp_goto (pc := 232) 236 dX11_isOwn_232 (by decide) ?_
                                          refine wp_zret (pc := 236) dX11_isOwn_236 rfl rfl (by decide) ?_
                                          exact h1 (by have z := (kk 15 (by decide)).mp (cmpL_0.mp h_20); omega)
                                        · refine wp_aload_n (pc := 220) 0 dX11_isOwn_220 rfl rfl ?_
                                          refine wp_getl (pc := 221) dX11_isOwn_221 rfl f_X11_165 kd_111 la_111 rfl ?_
                                          refine wp_eqst (st' := [vJ (w8 b c)]) (by show [vJ (L 111 9)] ++ _ = _; rw [k9]; rfl) ?_
                                          refine wp_ldc2 (pc := 224) (z := 7237492) dX11_isOwn_224 rfl k_X11_228 rfl ?_
                                          refine wq_lcmp (pc := 227) dX11_isOwn_227 (by first | exact cmpR _ _ | omega) (by first | exact cmpR _ _ | omega) ?_
                                          refine wp_if_ne (pc := 228) 235 dX11_isOwn_228 (by decide) (by first | exact cmpR _ _ | omega) (fun h_21 => ?_) (fun h_21 => ?_)
                                          · refine wp_iconst (pc := 235) dX11_isOwn_235 ?_
                                            refine wp_zret (pc := 236) dX11_isOwn_236 rfl rfl (by decide) ?_
                                            refine h0 (fun hne => hne ?_)
                                            refine Classical.byContradiction (fun y => ?_)
                                            have hk : (wi b c).toNat < 21 := by omega
                                            have hw := (kk (wi b c).toNat hk).mpr (by omega)
                                            revert hk hw
                                            generalize (wi b c).toNat = k
                                            intro hk hw
                                            match k, hk, hw with
                                            | 0, _, z => exact h_1 (cmpL_0.mpr z)
                                            | 1, _, z => exact h_2 (cmpL_0.mpr z)
                                            | 2, _, z => exact h_3 (cmpL_0.mpr z)
                                            | 3, _, z => exact h_4 (cmpL_0.mpr z)
                                            | 4, _, z => exact h_5 (cmpL_0.mpr z)
                                            | 5, _, z => exact h_6 (cmpL_0.mpr z)
                                            | 6, _, z => exact h_7 (cmpL_0.mpr z)
                                            | 7, _, z => exact h_8 (cmpL_0.mpr z)
                                            | 8, _, z => exact h_9 (cmpL_0.mpr z)
                                            | 9, _, z => exact h_10 (cmpL_0.mpr z)
                                            | 10, _, z => exact h_11 (cmpL_0.mpr z)
                                            | 11, _, z => exact h_12 (cmpL_0.mpr z)
                                            | 12, _, z => exact h_13 (cmpL_0.mpr z)
                                            | 13, _, z => exact h_14 (cmpL_0.mpr z)
                                            | 14, _, z => exact h_15 (cmpL_0.mpr z)
                                            | 15, _, z => exact h_20 (cmpL_0.mpr z)
                                            | 16, _, z => exact h_21 (cmpL_0.mpr z)
                                            | 17, _, z => exact h_16 (cmpL_0.mpr z)
                                            | 18, _, z => exact h_17 (cmpL_0.mpr z)
                                            | 19, _, z => exact h_18 (cmpL_0.mpr z)
                                            | 20, _, z => exact h_19 (cmpL_0.mpr z)
                                            | k + 21, z, _ => omega
                                          · refine wp_iconst (pc := 231) dX11_isOwn_231 ?_
                                            refine wp_goto (pc := 232) 236 dX11_isOwn_232 (by decide) ?_
                                            refine wp_zret (pc := 236) dX11_isOwn_236 rfl rfl (by decide) ?_
                                            exact h1 (by have z := (kk 16 (by decide)).mp (cmpL_0.mp h_21); omega)

theorem rs_isName {l : Launch} {G : mG} {d : Nat} {I : mI} {L : Nat → Nat → Int} {D : Nat → Nat} {Q : mQ} {b g : Nat → Int} {n c : Nat}  (hb : b = bOf g n) (hc : c ≤ n) (hT : TKR I L b c) (hd : 1 ≤ d) (h1 : kC b c = 2 → Q (some (vI 1)) I (XX L D)) (h0 : ¬ (kC b c = 2) → Q (some (vI 0)) I (XX L D)) : WP l G m_X11_isName d 153 I (XX L D) 0 [some (vR 111)] [] Q := by
  have k6 := hT.1
  have kr := ts_rng b c
  have kt := kC_ts b c
  refine wp_aload_n (pc := 0) 0 dX11_isName_0 rfl rfl ?_
  refine wp_geti (pc := 1) dX11_isName_1 rfl f_X11_172 kd_111 la_111 (Or.inl rfl) ?_
  refine wp_eqst (st' := [vI (ts b c)]) (by rw [k6]) ?_
  refine wp_iconst (pc := 4) dX11_isName_4 ?_
  refine wp_icmp_ne (pc := 5) 19 dX11_isName_5 (by decide) (by omega) (by decide) (fun h_1 => ?_) (fun h_1 => ?_)
  · refine wp_iconst (pc := 19) dX11_isName_19 ?_
    refine wp_zret (pc := 20) dX11_isName_20 rfl rfl (by decide) ?_
    exact h0 (by omega)
  · refine wp_aload_n (pc := 8) 0 dX11_isName_8 rfl rfl ?_
    refine wp_callV (pc := 9) (st := []) (nf' := 153) [] [some (vR 111)] dX11_isName_9 rfl c_X11_230 rfl kd_111 (by decide) rfl la_111 rfl (Nat.le_of_ble_eq_true rfl) rfl (Nat.le_of_ble_eq_true rfl) (by omega) (Nat.le_refl _) (Nat.le_refl _) ?_
    refine rs_isOwn hb hc hT (by omega) (by omega) (fun h_2 => ?_) (fun h_2 => ?_)
    · refine wp_eqst (st' := [vI 1]) rfl ?_
      refine wp_if_ne (pc := 12) 19 dX11_isName_12 (by decide) (by decide) (fun _ => ?_) (fun hh => absurd hh (by decide))
      refine wp_iconst (pc := 19) dX11_isName_19 ?_
      refine wp_zret (pc := 20) dX11_isName_20 rfl rfl (by decide) ?_
      exact h0 (by omega)
    · refine wp_eqst (st' := [vI 0]) rfl ?_
      refine wp_if_ne (pc := 12) 19 dX11_isName_12 (by decide) (by decide) (fun hh => absurd hh (by decide)) (fun _ => ?_)
      refine wp_iconst (pc := 15) dX11_isName_15 ?_
      refine wp_goto (pc := 16) 20 dX11_isName_16 (by decide) ?_
      refine wp_zret (pc := 20) dX11_isName_20 rfl rfl (by decide) ?_
      exact h1 (by omega)
