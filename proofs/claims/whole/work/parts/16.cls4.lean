set_option maxRecDepth 100000 in
theorem c_X10_297 : Cond.methodLink "ThreeSundays" 297 Lib.Math.max.name ∈ gw := gw_of (in_5 (List.mem_of_getElem? (i := 238) rfl)) rfl
set_option maxRecDepth 100000 in
theorem c_X3_137 : Cond.methodLink "ThreeSundays$Parish" 137 Lib.Math.min.name ∈ gw := gw_of (in_4 (List.mem_of_getElem? (i := 196) rfl)) rfl
set_option maxRecDepth 100000 in
theorem c_X3_143 : Cond.methodLink "ThreeSundays$Parish" 143 Lib.Math.max.name ∈ gw := gw_of (in_4 (List.mem_of_getElem? (i := 197) rfl)) rfl
set_option maxRecDepth 100000 in
theorem c_X6_82 : Cond.methodLink "ThreeSundays$Season" 82 Lib.Math.max.name ∈ gw := gw_of (in_5 (List.mem_of_getElem? (i := 123) rfl)) rfl
set_option maxRecDepth 100000 in
theorem c_J1_38 : Cond.methodLink "java/lang/StringLatin1" 38 Lib.Math.min.name ∈ gw := gw_of (in_3 (List.mem_of_getElem? (i := 67) rfl)) rfl
set_option maxRecDepth 100000 in
theorem c_J1_92 : Cond.methodLink "java/lang/StringLatin1" 92 Lib.Math.max.name ∈ gw := gw_of (in_3 (List.mem_of_getElem? (i := 64) rfl)) rfl
set_option maxRecDepth 100000 in
theorem c_J2_183 : Cond.methodLink "java/lang/StringUTF16" 183 Lib.Math.min.name ∈ gw := gw_of (in_3 (List.mem_of_getElem? (i := 77) rfl)) rfl
set_option maxRecDepth 100000 in
theorem c_J2_224 : Cond.methodLink "java/lang/StringUTF16" 224 Lib.Math.max.name ∈ gw := gw_of (in_3 (List.mem_of_getElem? (i := 76) rfl)) rfl
theorem set_lt8 (f : Nat → Bool) {n : Nat} (h : n ≤ 8) : setOf f n < 256 := Nat.lt_of_lt_of_le (setOf_lt f n) (Nat.pow_le_pow_right (n := 2) (j := 8) (by decide) h)
theorem nP_le {T : mT} (h : tw T) : nP T ≤ 8 := by have := tw_p h; show (T 0 12).toNat ≤ 8; omega
theorem nQ_le {T : mT} (h : tw T) : nQ T ≤ 5 := by have := tw_q h; show (T 0 13).toNat ≤ 5; omega
theorem nC_le {T : mT} (h : tw T) : nC T ≤ 4 := by have := tw_c h; show (T 0 11).toNat ≤ 4; omega
theorem present_lt {T : mT} (h : tw T) (S : mS) (c e : Int) : present T S c e < 256 := set_lt8 _ (nP_le h)
theorem readIn_lt {T : mT} (h : tw T) (S : mS) (c : Int) (e : Nat) : readIn T S c e < 256 := set_lt8 _ (by have := nQ_le h; omega)
theorem risers_lt {T : mT} (h : tw T) (S : mS) (q : Nat) : risers T S q < 256 := dif_lt (n := 8) (set_lt8 _ (nP_le h))
theorem called_lt {T : mT} (h : tw T) (S : mS) : called T S < 256 := Nat.lt_of_lt_of_le (calledN_lt T S _) (Nat.pow_le_pow_right (n := 2) (j := 8) (by decide) (by have := nQ_le h; omega))

theorem sp_valueFor {l : Launch} {G : mG} {d : Nat} {I : mI} {L : Nat → Nat → Int} {D : Nat → Nat} {Q : mQ} {t : Nat} {T : mT} {a b e f : Int}  (ht : isT t) (hT : TT I t = T) (hw : tw T) (ha : inR a) (hb : inR b) (he : inR e) (hf : inR f) (hcd : ∀ j, inR (T 18 j)) (hd : 2 ≤ d) (hQ : ∀ g, Q (some (vI (evV (T 18) (T 17 2).toNat (envF a b e f)))) (upc I (t + 19) g) (XX L D)) : WP l G m_X1_valueFor d 153 I (XX L D) 0 [some (vR (t + 17)), some (vI a), some (vI b), some (vI e), some (vI f), none, none, none] [] Q := by
  refine wp_iconst (pc := 0) dX1_valueFor_0 ?_
  refine wq_istore (pc := 1) [some (vR (t + 17)), some (vI a), some (vI b), some (vI e), some (vI f), some (vI 0), none, none] dX1_valueFor_1 rfl (by decide) rfl ?_
  refine wp_iconst (pc := 3) dX1_valueFor_3 ?_
  refine wq_istore (pc := 4) [some (vR (t + 17)), some (vI a), some (vI b), some (vI e), some (vI f), some (vI 0), some (vI 0), none] dX1_valueFor_4 rfl (by decide) rfl ?_
  refine wp_eqI (I' := upc I (t + 19) (I (t + 19))) upc_id.symm ?_
  exact lp_valueFor ht hT hw ha hb he hf hcd hd hQ 0 (Nat.zero_le _)

def bcE (m : Nat) : Nat := (((((((m - (m / 2 ^ 1 &&& 1431655765)) &&& 858993459) + ((m - (m / 2 ^ 1 &&& 1431655765)) / 2 ^ 2 &&& 858993459)) + ((((m - (m / 2 ^ 1 &&& 1431655765)) &&& 858993459) + ((m - (m / 2 ^ 1 &&& 1431655765)) / 2 ^ 2 &&& 858993459)) / 2 ^ 4)) &&& 252645135) + ((((((m - (m / 2 ^ 1 &&& 1431655765)) &&& 858993459) + ((m - (m / 2 ^ 1 &&& 1431655765)) / 2 ^ 2 &&& 858993459)) + ((((m - (m / 2 ^ 1 &&& 1431655765)) &&& 858993459) + ((m - (m / 2 ^ 1 &&& 1431655765)) / 2 ^ 2 &&& 858993459)) / 2 ^ 4)) &&& 252645135) / 2 ^ 8)) + (((((((m - (m / 2 ^ 1 &&& 1431655765)) &&& 858993459) + ((m - (m / 2 ^ 1 &&& 1431655765)) / 2 ^ 2 &&& 858993459)) + ((((m - (m / 2 ^ 1 &&& 1431655765)) &&& 858993459) + ((m - (m / 2 ^ 1 &&& 1431655765)) / 2 ^ 2 &&& 858993459)) / 2 ^ 4)) &&& 252645135) + ((((((m - (m / 2 ^ 1 &&& 1431655765)) &&& 858993459) + ((m - (m / 2 ^ 1 &&& 1431655765)) / 2 ^ 2 &&& 858993459)) + ((((m - (m / 2 ^ 1 &&& 1431655765)) &&& 858993459) + ((m - (m / 2 ^ 1 &&& 1431655765)) / 2 ^ 2 &&& 858993459)) / 2 ^ 4)) &&& 252645135) / 2 ^ 8)) / 2 ^ 16)) % 2 ^ 6
theorem bc_all : ∀ m, m < 256 → bcE m = pc8 m := by decide +kernel

theorem sp_bitCount {l : Launch} {G : mG} {d : Nat} {I : mI} {L : Nat → Nat → Int} {D : Nat → Nat} {Q : mQ}  (m : Nat) {m_ : Int} (hm_ : m_ = (m : Int)) (hm : m < 256) (hd : 0 ≤ d) (hQ : Q (some (vI ((pc8 m : Int)))) I (XX L D)) : WP l G m_J6_bitCount_0f7a4 d 153 I (XX L D) 0 [some (vI m_)] [] Q := by
  subst hm_
  have g1 : (m / 2 ^ 1 &&& 1431655765) ≤ m / 2 ^ 1 := Nat.and_le_left
  have g2 : ((m - (m / 2 ^ 1 &&& 1431655765)) &&& 858993459) ≤ (m - (m / 2 ^ 1 &&& 1431655765)) := Nat.and_le_left
  have g3 : ((m - (m / 2 ^ 1 &&& 1431655765)) / 2 ^ 2 &&& 858993459) ≤ (m - (m / 2 ^ 1 &&& 1431655765)) / 2 ^ 2 := Nat.and_le_left
  have g4 : (((((m - (m / 2 ^ 1 &&& 1431655765)) &&& 858993459) + ((m - (m / 2 ^ 1 &&& 1431655765)) / 2 ^ 2 &&& 858993459)) + ((((m - (m / 2 ^ 1 &&& 1431655765)) &&& 858993459) + ((m - (m / 2 ^ 1 &&& 1431655765)) / 2 ^ 2 &&& 858993459)) / 2 ^ 4)) &&& 252645135) ≤ (((m - (m / 2 ^ 1 &&& 1431655765)) &&& 858993459) + ((m - (m / 2 ^ 1 &&& 1431655765)) / 2 ^ 2 &&& 858993459)) + ((((m - (m / 2 ^ 1 &&& 1431655765)) &&& 858993459) + ((m - (m / 2 ^ 1 &&& 1431655765)) / 2 ^ 2 &&& 858993459)) / 2 ^ 4) := Nat.and_le_left
  refine wp_iload_n (pc := 0) 0 dJ6_bitCount_0f7a4_0 rfl rfl ?_
  refine wp_iload_n (pc := 1) 0 dJ6_bitCount_0f7a4_1 rfl rfl ?_
  refine wp_iconst (pc := 2) dJ6_bitCount_0f7a4_2 ?_
  refine wn_ushr (pc := 3) m 1 dJ6_bitCount_0f7a4_3 rfl rfl (by omega) (by omega) ?_
  refine wp_ldcw (pc := 4) (z := 1431655765) dJ6_bitCount_0f7a4_4 rfl k_J6_265 rfl ?_
  refine wn_and (pc := 7) (m / 2 ^ 1) 1431655765 dJ6_bitCount_0f7a4_7 rfl rfl ?_
  refine wp_isub (pc := 8) dJ6_bitCount_0f7a4_8 ?_
  refine wq_istore_n (pc := 9) 0 [some (vI ((m : Int) - (((m / 2 ^ 1) &&& 1431655765 : Nat) : Int)))] dJ6_bitCount_0f7a4_9 rfl rfl (by decide) rfl ?_
  refine wp_iload_n (pc := 10) 0 dJ6_bitCount_0f7a4_10 rfl rfl ?_
  refine wp_ldcw (pc := 11) (z := 858993459) dJ6_bitCount_0f7a4_11 rfl k_J6_266 rfl ?_
  refine wn_and (pc := 14) (m - ((m / 2 ^ 1) &&& 1431655765)) 858993459 dJ6_bitCount_0f7a4_14 (by omega) rfl ?_
  refine wp_iload_n (pc := 15) 0 dJ6_bitCount_0f7a4_15 rfl rfl ?_
  refine wp_iconst (pc := 16) dJ6_bitCount_0f7a4_16 ?_
  refine wn_ushr (pc := 17) (m - ((m / 2 ^ 1) &&& 1431655765)) 2 dJ6_bitCount_0f7a4_17 (by omega) rfl (by omega) (by omega) ?_
  refine wp_ldcw (pc := 18) (z := 858993459) dJ6_bitCount_0f7a4_18 rfl k_J6_266 rfl ?_
  refine wn_and (pc := 21) ((m - ((m / 2 ^ 1) &&& 1431655765)) / 2 ^ 2) 858993459 dJ6_bitCount_0f7a4_21 rfl rfl ?_
  refine wp_iadd (pc := 22) dJ6_bitCount_0f7a4_22 ?_
  refine wq_istore_n (pc := 23) 0 [some (vI ((((m - ((m / 2 ^ 1) &&& 1431655765)) &&& 858993459 : Nat) : Int) + ((((m - ((m / 2 ^ 1) &&& 1431655765)) / 2 ^ 2) &&& 858993459 : Nat) : Int)))] dJ6_bitCount_0f7a4_23 rfl rfl (by decide) rfl ?_
  refine wp_iload_n (pc := 24) 0 dJ6_bitCount_0f7a4_24 rfl rfl ?_
  refine wp_iload_n (pc := 25) 0 dJ6_bitCount_0f7a4_25 rfl rfl ?_
  refine wp_iconst (pc := 26) dJ6_bitCount_0f7a4_26 ?_
  refine wn_ushr (pc := 27) (((m - ((m / 2 ^ 1) &&& 1431655765)) &&& 858993459) + (((m - ((m / 2 ^ 1) &&& 1431655765)) / 2 ^ 2) &&& 858993459)) 4 dJ6_bitCount_0f7a4_27 (by omega) rfl (by omega) (by omega) ?_
  refine wp_iadd (pc := 28) dJ6_bitCount_0f7a4_28 ?_
  refine wp_ldcw (pc := 29) (z := 252645135) dJ6_bitCount_0f7a4_29 rfl k_J6_267 rfl ?_
  refine wn_and (pc := 32) ((((m - ((m / 2 ^ 1) &&& 1431655765)) &&& 858993459) + (((m - ((m / 2 ^ 1) &&& 1431655765)) / 2 ^ 2) &&& 858993459)) + ((((m - ((m / 2 ^ 1) &&& 1431655765)) &&& 858993459) + (((m - ((m / 2 ^ 1) &&& 1431655765)) / 2 ^ 2) &&& 858993459)) / 2 ^ 4)) 252645135 dJ6_bitCount_0f7a4_32 (by omega) rfl ?_
  refine wq_istore_n (pc := 33) 0 [some (vI ((((((m - ((m / 2 ^ 1) &&& 1431655765)) &&& 858993459) + (((m - ((m / 2 ^ 1) &&& 1431655765)) / 2 ^ 2) &&& 858993459)) + ((((m - ((m / 2 ^ 1) &&& 1431655765)) &&& 858993459) + (((m - ((m / 2 ^ 1) &&& 1431655765)) / 2 ^ 2) &&& 858993459)) / 2 ^ 4)) &&& 252645135 : Nat) : Int))] dJ6_bitCount_0f7a4_33 rfl rfl (by decide) rfl ?_
  refine wp_iload_n (pc := 34) 0 dJ6_bitCount_0f7a4_34 rfl rfl ?_
  refine wp_iload_n (pc := 35) 0 dJ6_bitCount_0f7a4_35 rfl rfl ?_
  refine wp_bipush (pc := 36) dJ6_bitCount_0f7a4_36 (by decide) ?_
  refine wn_ushr (pc := 38) (((((m - ((m / 2 ^ 1) &&& 1431655765)) &&& 858993459) + (((m - ((m / 2 ^ 1) &&& 1431655765)) / 2 ^ 2) &&& 858993459)) + ((((m - ((m / 2 ^ 1) &&& 1431655765)) &&& 858993459) + (((m - ((m / 2 ^ 1) &&& 1431655765)) / 2 ^ 2) &&& 858993459)) / 2 ^ 4)) &&& 252645135) 8 dJ6_bitCount_0f7a4_38 rfl rfl (by omega) (by omega) ?_
  refine wp_iadd (pc := 39) dJ6_bitCount_0f7a4_39 ?_
  refine wq_istore_n (pc := 40) 0 [some (vI (((((((m - ((m / 2 ^ 1) &&& 1431655765)) &&& 858993459) + (((m - ((m / 2 ^ 1) &&& 1431655765)) / 2 ^ 2) &&& 858993459)) + ((((m - ((m / 2 ^ 1) &&& 1431655765)) &&& 858993459) + (((m - ((m / 2 ^ 1) &&& 1431655765)) / 2 ^ 2) &&& 858993459)) / 2 ^ 4)) &&& 252645135 : Nat) : Int) + (((((((m - ((m / 2 ^ 1) &&& 1431655765)) &&& 858993459) + (((m - ((m / 2 ^ 1) &&& 1431655765)) / 2 ^ 2) &&& 858993459)) + ((((m - ((m / 2 ^ 1) &&& 1431655765)) &&& 858993459) + (((m - ((m / 2 ^ 1) &&& 1431655765)) / 2 ^ 2) &&& 858993459)) / 2 ^ 4)) &&& 252645135) / 2 ^ 8 : Nat) : Int)))] dJ6_bitCount_0f7a4_40 rfl rfl (by decide) rfl ?_
  refine wp_iload_n (pc := 41) 0 dJ6_bitCount_0f7a4_41 rfl rfl ?_
  refine wp_iload_n (pc := 42) 0 dJ6_bitCount_0f7a4_42 rfl rfl ?_
  refine wp_bipush (pc := 43) dJ6_bitCount_0f7a4_43 (by decide) ?_
  refine wn_ushr (pc := 45) ((((((m - ((m / 2 ^ 1) &&& 1431655765)) &&& 858993459) + (((m - ((m / 2 ^ 1) &&& 1431655765)) / 2 ^ 2) &&& 858993459)) + ((((m - ((m / 2 ^ 1) &&& 1431655765)) &&& 858993459) + (((m - ((m / 2 ^ 1) &&& 1431655765)) / 2 ^ 2) &&& 858993459)) / 2 ^ 4)) &&& 252645135) + ((((((m - ((m / 2 ^ 1) &&& 1431655765)) &&& 858993459) + (((m - ((m / 2 ^ 1) &&& 1431655765)) / 2 ^ 2) &&& 858993459)) + ((((m - ((m / 2 ^ 1) &&& 1431655765)) &&& 858993459) + (((m - ((m / 2 ^ 1) &&& 1431655765)) / 2 ^ 2) &&& 858993459)) / 2 ^ 4)) &&& 252645135) / 2 ^ 8)) 16 dJ6_bitCount_0f7a4_45 (by omega) rfl (by omega) (by omega) ?_
  refine wp_iadd (pc := 46) dJ6_bitCount_0f7a4_46 ?_
  refine wq_istore_n (pc := 47) 0 [some (vI ((((((((m - ((m / 2 ^ 1) &&& 1431655765)) &&& 858993459) + (((m - ((m / 2 ^ 1) &&& 1431655765)) / 2 ^ 2) &&& 858993459)) + ((((m - ((m / 2 ^ 1) &&& 1431655765)) &&& 858993459) + (((m - ((m / 2 ^ 1) &&& 1431655765)) / 2 ^ 2) &&& 858993459)) / 2 ^ 4)) &&& 252645135 : Nat) : Int) + (((((((m - ((m / 2 ^ 1) &&& 1431655765)) &&& 858993459) + (((m - ((m / 2 ^ 1) &&& 1431655765)) / 2 ^ 2) &&& 858993459)) + ((((m - ((m / 2 ^ 1) &&& 1431655765)) &&& 858993459) + (((m - ((m / 2 ^ 1) &&& 1431655765)) / 2 ^ 2) &&& 858993459)) / 2 ^ 4)) &&& 252645135) / 2 ^ 8 : Nat) : Int)) + ((((((((m - ((m / 2 ^ 1) &&& 1431655765)) &&& 858993459) + (((m - ((m / 2 ^ 1) &&& 1431655765)) / 2 ^ 2) &&& 858993459)) + ((((m - ((m / 2 ^ 1) &&& 1431655765)) &&& 858993459) + (((m - ((m / 2 ^ 1) &&& 1431655765)) / 2 ^ 2) &&& 858993459)) / 2 ^ 4)) &&& 252645135) + ((((((m - ((m / 2 ^ 1) &&& 1431655765)) &&& 858993459) + (((m - ((m / 2 ^ 1) &&& 1431655765)) / 2 ^ 2) &&& 858993459)) + ((((m - ((m / 2 ^ 1) &&& 1431655765)) &&& 858993459) + (((m - ((m / 2 ^ 1) &&& 1431655765)) / 2 ^ 2) &&& 858993459)) / 2 ^ 4)) &&& 252645135) / 2 ^ 8)) / 2 ^ 16 : Nat) : Int)))] dJ6_bitCount_0f7a4_47 rfl rfl (by decide) rfl ?_
  refine wp_iload_n (pc := 48) 0 dJ6_bitCount_0f7a4_48 rfl rfl ?_
  refine wp_bipush (pc := 49) dJ6_bitCount_0f7a4_49 (by decide) ?_
  refine wn_mask (pc := 51) (((((((m - ((m / 2 ^ 1) &&& 1431655765)) &&& 858993459) + (((m - ((m / 2 ^ 1) &&& 1431655765)) / 2 ^ 2) &&& 858993459)) + ((((m - ((m / 2 ^ 1) &&& 1431655765)) &&& 858993459) + (((m - ((m / 2 ^ 1) &&& 1431655765)) / 2 ^ 2) &&& 858993459)) / 2 ^ 4)) &&& 252645135) + ((((((m - ((m / 2 ^ 1) &&& 1431655765)) &&& 858993459) + (((m - ((m / 2 ^ 1) &&& 1431655765)) / 2 ^ 2) &&& 858993459)) + ((((m - ((m / 2 ^ 1) &&& 1431655765)) &&& 858993459) + (((m - ((m / 2 ^ 1) &&& 1431655765)) / 2 ^ 2) &&& 858993459)) / 2 ^ 4)) &&& 252645135) / 2 ^ 8)) + (((((((m - ((m / 2 ^ 1) &&& 1431655765)) &&& 858993459) + (((m - ((m / 2 ^ 1) &&& 1431655765)) / 2 ^ 2) &&& 858993459)) + ((((m - ((m / 2 ^ 1) &&& 1431655765)) &&& 858993459) + (((m - ((m / 2 ^ 1) &&& 1431655765)) / 2 ^ 2) &&& 858993459)) / 2 ^ 4)) &&& 252645135) + ((((((m - ((m / 2 ^ 1) &&& 1431655765)) &&& 858993459) + (((m - ((m / 2 ^ 1) &&& 1431655765)) / 2 ^ 2) &&& 858993459)) + ((((m - ((m / 2 ^ 1) &&& 1431655765)) &&& 858993459) + (((m - ((m / 2 ^ 1) &&& 1431655765)) / 2 ^ 2) &&& 858993459)) / 2 ^ 4)) &&& 252645135) / 2 ^ 8)) / 2 ^ 16)) 6 dJ6_bitCount_0f7a4_51 (by omega) rfl (by decide) ?_
  refine wp_iret (pc := 52) dJ6_bitCount_0f7a4_52 rfl rfl ?_
  rw [← bc_all m hm] at hQ
  exact hQ

theorem sp_earOf {l : Launch} {G : mG} {d : Nat} {I : mI} {L : Nat → Nat → Int} {D : Nat → Nat} {Q : mQ} {s : Nat} {T : mT} {S : mS} {B : Int} (p : Nat) {p_ : Int} (hp_ : p_ = (p : Int)) (cl : Nat) {cl_ : Int} (hcl_ : cl_ = (cl : Int)) (h3 : isT (D 3)) (hs : isS s) (hT : TT I (D 3) = T) (hS : SS I s = S) (hw : tw T) (hv : sw S B) (hB : B ≤ 100000) (hcd : ∀ j, inR (T 18 j)) (hp : p < nP T) (hcl : cl < 256) (hd : 3 ≤ d) (hQ : ∀ J, Sc I J (D 3) → Q (some (vI (ear T S p cl))) J (XX L D)) : WP l G m_X3_earOf d 153 I (XX L D) 0 [some (vR 45), some (vR s), some (vI p_), some (vI cl_), none, none, none, none, none] [] Q := by
  subst hp_
  subst hcl_
  have b0 := tw_p hw
  have eN : nP T = (T 0 12).toNat := rfl
  have b1 := tw_len hw
  have b2 := sw_seat hv (j := p) (by omega)
  have b3 := tw_home hw p
  have b4 := sw_sun hv
  have b5 := readIn_lt hw S (S p) cl
  have b6 := present_lt hw S (S p) (S p)
  have b7 : pc8 (readIn T S (S p) cl) ≤ 8 := cnt_le _ 8
  have b8 : pc8 (present T S (S p) (S p)) ≤ 8 := cnt_le _ 8
  refine wp_aload_n (pc := 0) 0 dX3_earOf_0 rfl rfl ?_
  refine wp_getr (pc := 1) dX3_earOf_1 rfl f_X3_15 kd_45 la_45 rfl (r_45_1 D) ?_
  refine wp_getr (pc := 4) dX3_earOf_4 rfl f_X3_108 (tk_0 h3) (tl_0 h3) rfl (tr_0_10 D h3) ?_
  refine wp_callV (pc := 7) (st := []) (nf' := 153) [] [some (vR ((D 3) + 17))] dX3_earOf_7 rfl c_X3_112 rfl (tk_17 h3) (by decide) rfl (tl_17 h3) rfl (Nat.le_of_ble_eq_true rfl) rfl (Nat.le_of_ble_eq_true rfl) (by omega) (Nat.le_refl _) (Nat.le_refl _) ?_
  refine wp_aload_n (pc := 0) 0 dX1_isTold_0 rfl rfl ?_
  refine wp_geti (pc := 1) dX1_isTold_1 rfl f_X1_16 (tk_17 h3) (tl_17 h3) (Or.inl rfl) ?_
  refine wp_eqst (st' := [vI (T 17 2)]) (by rw [← hT] <;> rfl) ?_
  refine wp_if_le (pc := 4) 11 dX1_isTold_4 (by decide) (by omega) (fun h_1 => ?_) (fun h_1 => ?_)
  · refine wp_iconst (pc := 11) dX1_isTold_11 ?_
    refine wp_zret (pc := 12) dX1_isTold_12 rfl rfl (by decide) ?_
    refine wp_eqst (st' := [vI 0]) rfl ?_
    refine wp_if_ne (pc := 10) 16 dX3_earOf_10 (by decide) (by decide) (fun hh => absurd hh (by decide)) (fun _ => ?_)
    refine wp_bipush (pc := 13) dX3_earOf_13 (by decide) ?_
    refine wp_iret (pc := 15) dX3_earOf_15 rfl rfl ?_
    have e1 : ear T S p cl = 10 := if_pos (by omega)
    have hq := hQ I Sc.refl
    rw [e1] at hq; exact hq
  · refine wp_iconst (pc := 7) dX1_isTold_7 ?_
    refine wp_goto (pc := 8) 12 dX1_isTold_8 (by decide) ?_
    refine wp_zret (pc := 12) dX1_isTold_12 rfl rfl (by decide) ?_
    refine wp_eqst (st' := [vI 1]) rfl ?_
    refine wp_if_ne (pc := 10) 16 dX3_earOf_10 (by decide) (by decide) (fun _ => ?_) (fun hh => absurd hh (by decide))
    refine wp_aload_n (pc := 16) 1 dX3_earOf_16 rfl rfl ?_
    refine wp_iload_n (pc := 17) 2 dX3_earOf_17 rfl rfl ?_
    refine wp_callV (pc := 18) (st := []) (nf' := 153) [vI (p : Int)] [some (vR s), some (vI (p : Int))] dX3_earOf_18 rfl c_X3_73 rfl (sk_0 hs) (by decide) rfl (sl_0 hs) rfl (Nat.le_of_ble_eq_true rfl) rfl (Nat.le_of_ble_eq_true rfl) (by omega) (Nat.le_refl _) (Nat.le_refl _) ?_
    refine wp_aload_n (pc := 0) 0 dX7_seat_0 rfl rfl ?_
    refine wp_getr (pc := 1) dX7_seat_1 rfl f_X7_11 (sk_0 hs) (sl_0 hs) rfl (sr_0_0 D hs) ?_
    refine wp_iconst (pc := 4) dX7_seat_4 ?_
    refine wp_iload_n (pc := 5) 1 dX7_seat_5 rfl rfl ?_
    refine wp_iadd (pc := 6) dX7_seat_6 ?_
    refine wq_iald (pc := 7) p dX7_seat_7 (sk_1 hs) (sl_1 hs) (by omega) (by omega) ?_
    refine wp_eqst (st' := [vI (S p)]) (by rw [← hS] <;> rfl) ?_
    refine wp_iret (pc := 8) dX7_seat_8 rfl rfl ?_
    refine wp_eqst (st' := [vI (S p)]) rfl ?_
    refine wq_istore (pc := 21) [some (vR 45), some (vR s), some (vI (p : Int)), some (vI (cl : Int)), some (vI (S p)), none, none, none, none] dX3_earOf_21 rfl (by decide) rfl ?_
    refine wp_aload_n (pc := 23) 0 dX3_earOf_23 rfl rfl ?_
    refine wp_aload_n (pc := 24) 1 dX3_earOf_24 rfl rfl ?_
    refine wp_iload (pc := 25) dX3_earOf_25 rfl ?_
    refine wp_iload_n (pc := 27) 3 dX3_earOf_27 rfl rfl ?_
    refine wp_callV (pc := 28) (st := []) (nf' := 153) [vR s, vI (S p), vI (cl : Int)] [some (vR 45), some (vR s), some (vI (S p)), some (vI (cl : Int)), none, none] dX3_earOf_28 rfl c_X3_118 rfl kd_45 (by decide) rfl la_45 rfl (Nat.le_of_ble_eq_true rfl) rfl (Nat.le_of_ble_eq_true rfl) (by omega) (Nat.le_refl _) (Nat.le_refl _) ?_
    refine sp_readIn cl rfl h3 hs hT hS hw hv (by omega) (by omega) (by omega) ?_
    refine wp_eqst (st' := [vI ((readIn T S (S p) cl : Nat) : Int)]) rfl ?_
    refine wp_callS (pc := 31) (st := []) (nf' := 153) [vI ((readIn T S (S p) cl : Nat) : Int)] [some (vI ((readIn T S (S p) cl : Nat) : Int))] dX3_earOf_31 rfl c_X3_122 rfl rfl (Nat.le_of_ble_eq_true rfl) rfl (Nat.le_of_ble_eq_true rfl) (by omega) (Nat.le_refl _) (Nat.le_refl _) ?_
    refine sp_bitCount (readIn T S (S p) cl) rfl (by omega) (by omega) ?_
    refine wp_eqst (st' := [vI ((pc8 (readIn T S (S p) cl) : Nat) : Int)]) rfl ?_
    refine wq_istore (pc := 34) [some (vR 45), some (vR s), some (vI (p : Int)), some (vI (cl : Int)), some (vI (S p)), some (vI ((pc8 (readIn T S (S p) cl) : Nat) : Int)), none, none, none] dX3_earOf_34 rfl (by decide) rfl ?_
    refine wp_aload_n (pc := 36) 0 dX3_earOf_36 rfl rfl ?_
    refine wp_aload_n (pc := 37) 1 dX3_earOf_37 rfl rfl ?_
    refine wp_iload (pc := 38) dX3_earOf_38 rfl ?_
    refine wp_iload (pc := 40) dX3_earOf_40 rfl ?_
    refine wp_callV (pc := 42) (st := []) (nf' := 153) [vR s, vI (S p), vI (S p)] [some (vR 45), some (vR s), some (vI (S p)), some (vI (S p)), none, none, none] dX3_earOf_42 rfl c_X3_127 rfl kd_45 (by decide) rfl la_45 rfl (Nat.le_of_ble_eq_true rfl) rfl (Nat.le_of_ble_eq_true rfl) (by omega) (Nat.le_refl _) (Nat.le_refl _) ?_
    refine sp_presentIn h3 hs hT hS hw hv (by omega) (by omega) (by omega) (by omega) ?_
    refine wp_eqst (st' := [vI ((present T S (S p) (S p) : Nat) : Int)]) rfl ?_
    refine wp_callS (pc := 45) (st := []) (nf' := 153) [vI ((present T S (S p) (S p) : Nat) : Int)] [some (vI ((present T S (S p) (S p) : Nat) : Int))] dX3_earOf_45 rfl c_X3_122 rfl rfl (Nat.le_of_ble_eq_true rfl) rfl (Nat.le_of_ble_eq_true rfl) (by omega) (Nat.le_refl _) (Nat.le_refl _) ?_
    refine sp_bitCount (present T S (S p) (S p)) rfl (by omega) (by omega) ?_
    refine wp_eqst (st' := [vI ((pc8 (present T S (S p) (S p)) : Nat) : Int)]) rfl ?_
    refine wq_istore (pc := 48) [some (vR 45), some (vR s), some (vI (p : Int)), some (vI (cl : Int)), some (vI (S p)), some (vI ((pc8 (readIn T S (S p) cl) : Nat) : Int)), some (vI ((pc8 (present T S (S p) (S p)) : Nat) : Int)), none, none] dX3_earOf_48 rfl (by decide) rfl ?_
    refine wp_iload (pc := 50) dX3_earOf_50 rfl ?_
    refine wp_aload_n (pc := 52) 0 dX3_earOf_52 rfl rfl ?_
    refine wp_getr (pc := 53) dX3_earOf_53 rfl f_X3_15 kd_45 la_45 rfl (r_45_1 D) ?_
    refine wp_getr (pc := 56) dX3_earOf_56 rfl f_X3_130 (tk_0 h3) (tl_0 h3) rfl (tr_0_2 D h3) ?_
    refine wp_iload_n (pc := 59) 2 dX3_earOf_59 rfl rfl ?_
    refine wq_iald (pc := 60) p dX3_earOf_60 (tk_3 h3) (tl_3 h3) rfl (by omega) ?_
    refine wp_eqst (st' := [vI (T 3 p), vI (S p)]) (by rw [← hT] <;> rfl) ?_
    refine wp_icmp_ne (pc := 61) 68 dX3_earOf_61 (by decide) (by omega) (by omega) (fun h_2 => ?_) (fun h_2 => ?_)
    · refine wp_iconst (pc := 68) dX3_earOf_68 ?_
      refine wq_istore (pc := 69) [some (vR 45), some (vR s), some (vI (p : Int)), some (vI (cl : Int)), some (vI (S p)), some (vI ((pc8 (readIn T S (S p) cl) : Nat) : Int)), some (vI ((pc8 (present T S (S p) (S p)) : Nat) : Int)), some (vI 0), none] dX3_earOf_69 rfl (by decide) rfl ?_
      refine wp_aload_n (pc := 71) 0 dX3_earOf_71 rfl rfl ?_
      refine wp_getr (pc := 72) dX3_earOf_72 rfl f_X3_15 kd_45 la_45 rfl (r_45_1 D) ?_
      refine wp_getr (pc := 75) dX3_earOf_75 rfl f_X3_108 (tk_0 h3) (tl_0 h3) rfl (tr_0_10 D h3) ?_
      refine wp_aload_n (pc := 78) 1 dX3_earOf_78 rfl rfl ?_
      refine wp_callV (pc := 79) (st := [vR ((D 3) + 17)]) (nf' := 153) [] [some (vR s)] dX3_earOf_79 rfl c_X3_76 rfl (sk_0 hs) (by decide) rfl (sl_0 hs) rfl (Nat.le_of_ble_eq_true rfl) rfl (Nat.le_of_ble_eq_true rfl) (by omega) (Nat.le_refl _) (Nat.le_refl _) ?_
      refine wp_aload_n (pc := 0) 0 dX7_nextSunday_0 rfl rfl ?_
      refine wp_getr (pc := 1) dX7_nextSunday_1 rfl f_X7_11 (sk_0 hs) (sl_0 hs) rfl (sr_0_0 D hs) ?_
      refine wp_bipush (pc := 4) dX7_nextSunday_4 (by decide) ?_
      refine wq_iald (pc := 6) 28 dX7_nextSunday_6 (sk_1 hs) (sl_1 hs) rfl (by decide) ?_
      refine wp_eqst (st' := [vI (S 28)]) (by rw [← hS] <;> rfl) ?_
      refine wp_iconst (pc := 7) dX7_nextSunday_7 ?_
      refine wp_iadd (pc := 8) dX7_nextSunday_8 ?_
      refine wp_iret (pc := 9) dX7_nextSunday_9 rfl rfl ?_
      refine wp_eqst (st' := [vI ((S 28) + 1), vR ((D 3) + 17)]) rfl ?_
      refine wp_iload (pc := 82) dX3_earOf_82 rfl ?_
      refine wp_iload (pc := 84) dX3_earOf_84 rfl ?_
      refine wp_iload (pc := 86) dX3_earOf_86 rfl ?_
      refine wp_callV (pc := 88) (st := []) (nf' := 153) [vI ((S 28) + 1), vI ((pc8 (readIn T S (S p) cl) : Nat) : Int), vI ((pc8 (present T S (S p) (S p)) : Nat) : Int), vI 0] [some (vR ((D 3) + 17)), some (vI ((S 28) + 1)), some (vI ((pc8 (readIn T S (S p) cl) : Nat) : Int)), some (vI ((pc8 (present T S (S p) (S p)) : Nat) : Int)), some (vI 0), none, none, none] dX3_earOf_88 rfl c_X3_133 rfl (tk_17 h3) (by decide) rfl (tl_17 h3) rfl (Nat.le_of_ble_eq_true rfl) rfl (Nat.le_of_ble_eq_true rfl) (by omega) (Nat.le_refl _) (Nat.le_refl _) ?_
      refine sp_valueFor h3 hT hw (by omega) (by omega) (by omega) (by omega) hcd (by omega) (fun g1 => ?_)
      have bv : inR (evV (T 18) (T 17 2).toNat (envF ((S 28) + 1) ((pc8 (readIn T S (S p) cl) : Nat) : Int) ((pc8 (present T S (S p) (S p)) : Nat) : Int) 0)) := evV_in hcd (envF_in (by omega) (by omega) (by omega) (by omega)) _
      refine wp_eqst (st' := [vI (evV (T 18) (T 17 2).toNat (envF ((S 28) + 1) ((pc8 (readIn T S (S p) cl) : Nat) : Int) ((pc8 (present T S (S p) (S p)) : Nat) : Int) 0))]) rfl ?_
      refine wq_istore (pc := 91) [some (vR 45), some (vR s), some (vI (p : Int)), some (vI (cl : Int)), some (vI (S p)), some (vI ((pc8 (readIn T S (S p) cl) : Nat) : Int)), some (vI ((pc8 (present T S (S p) (S p)) : Nat) : Int)), some (vI 0), some (vI (evV (T 18) (T 17 2).toNat (envF ((S 28) + 1) ((pc8 (readIn T S (S p) cl) : Nat) : Int) ((pc8 (present T S (S p) (S p)) : Nat) : Int) 0)))] dX3_earOf_91 rfl (by decide) rfl ?_
      refine wp_iconst (pc := 93) dX3_earOf_93 ?_
      refine wp_bipush (pc := 94) dX3_earOf_94 (by decide) ?_
      refine wp_iload (pc := 96) dX3_earOf_96 rfl ?_
      refine wp_min (pc := 98) dX3_earOf_98 rfl c_X3_137 (by omega) (by omega) (Nat.le_of_ble_eq_true rfl) (by omega) ?_
      refine wp_max (pc := 101) dX3_earOf_101 rfl c_X3_143 (by omega) (by omega) (Nat.le_of_ble_eq_true rfl) (by omega) ?_
      refine wp_iret (pc := 104) dX3_earOf_104 rfl rfl ?_
      have e0 : truthF (S p = T 3 p) = 0 := if_neg h_2
      have e1 : ear T S p cl = clamp10 (evV (T 18) (T 17 2).toNat (envF (S 28 + 1) (pc8 (readIn T S (S p) cl)) (pc8 (present T S (S p) (S p))) 0)) := by
        unfold ear; rw [if_neg (by omega), e0]
      have hq := hQ _ (fun b _ h2 => funext fun j => upc_c h2 : Sc I (upc I (D 3 + 19) g1) (D 3))
      rw [e1] at hq
      refine cast (congrArg (fun z => Q (some (vI z)) (upc I (D 3 + 19) g1) (XX L D)) ?_) hq
      unfold clamp10
      repeat' split
      all_goals omega
    · refine wp_iconst (pc := 64) dX3_earOf_64 ?_
      refine wp_goto (pc := 65) 69 dX3_earOf_65 (by decide) ?_
      refine wq_istore (pc := 69) [some (vR 45), some (vR s), some (vI (p : Int)), some (vI (cl : Int)), some (vI (S p)), some (vI ((pc8 (readIn T S (S p) cl) : Nat) : Int)), some (vI ((pc8 (present T S (S p) (S p)) : Nat) : Int)), some (vI 1), none] dX3_earOf_69 rfl (by decide) rfl ?_
      refine wp_aload_n (pc := 71) 0 dX3_earOf_71 rfl rfl ?_
      refine wp_getr (pc := 72) dX3_earOf_72 rfl f_X3_15 kd_45 la_45 rfl (r_45_1 D) ?_
      refine wp_getr (pc := 75) dX3_earOf_75 rfl f_X3_108 (tk_0 h3) (tl_0 h3) rfl (tr_0_10 D h3) ?_
      refine wp_aload_n (pc := 78) 1 dX3_earOf_78 rfl rfl ?_
      refine wp_callV (pc := 79) (st := [vR ((D 3) + 17)]) (nf' := 153) [] [some (vR s)] dX3_earOf_79 rfl c_X3_76 rfl (sk_0 hs) (by decide) rfl (sl_0 hs) rfl (Nat.le_of_ble_eq_true rfl) rfl (Nat.le_of_ble_eq_true rfl) (by omega) (Nat.le_refl _) (Nat.le_refl _) ?_
      refine wp_aload_n (pc := 0) 0 dX7_nextSunday_0 rfl rfl ?_
      refine wp_getr (pc := 1) dX7_nextSunday_1 rfl f_X7_11 (sk_0 hs) (sl_0 hs) rfl (sr_0_0 D hs) ?_
      refine wp_bipush (pc := 4) dX7_nextSunday_4 (by decide) ?_
      refine wq_iald (pc := 6) 28 dX7_nextSunday_6 (sk_1 hs) (sl_1 hs) rfl (by decide) ?_
      refine wp_eqst (st' := [vI (S 28)]) (by rw [← hS] <;> rfl) ?_
      refine wp_iconst (pc := 7) dX7_nextSunday_7 ?_
      refine wp_iadd (pc := 8) dX7_nextSunday_8 ?_
      refine wp_iret (pc := 9) dX7_nextSunday_9 rfl rfl ?_
      refine wp_eqst (st' := [vI ((S 28) + 1), vR ((D 3) + 17)]) rfl ?_
      refine wp_iload (pc := 82) dX3_earOf_82 rfl ?_
      refine wp_iload (pc := 84) dX3_earOf_84 rfl ?_
      refine wp_iload (pc := 86) dX3_earOf_86 rfl ?_
      refine wp_callV (pc := 88) (st := []) (nf' := 153) [vI ((S 28) + 1), vI ((pc8 (readIn T S (S p) cl) : Nat) : Int), vI ((pc8 (present T S (S p) (S p)) : Nat) : Int), vI 1] [some (vR ((D 3) + 17)), some (vI ((S 28) + 1)), some (vI ((pc8 (readIn T S (S p) cl) : Nat) : Int)), some (vI ((pc8 (present T S (S p) (S p)) : Nat) : Int)), some (vI 1), none, none, none] dX3_earOf_88 rfl c_X3_133 rfl (tk_17 h3) (by decide) rfl (tl_17 h3) rfl (Nat.le_of_ble_eq_true rfl) rfl (Nat.le_of_ble_eq_true rfl) (by omega) (Nat.le_refl _) (Nat.le_refl _) ?_
      refine sp_valueFor h3 hT hw (by omega) (by omega) (by omega) (by omega) hcd (by omega) (fun g2 => ?_)
      have bv : inR (evV (T 18) (T 17 2).toNat (envF ((S 28) + 1) ((pc8 (readIn T S (S p) cl) : Nat) : Int) ((pc8 (present T S (S p) (S p)) : Nat) : Int) 1)) := evV_in hcd (envF_in (by omega) (by omega) (by omega) (by omega)) _
      refine wp_eqst (st' := [vI (evV (T 18) (T 17 2).toNat (envF ((S 28) + 1) ((pc8 (readIn T S (S p) cl) : Nat) : Int) ((pc8 (present T S (S p) (S p)) : Nat) : Int) 1))]) rfl ?_
      refine wq_istore (pc := 91) [some (vR 45), some (vR s), some (vI (p : Int)), some (vI (cl : Int)), some (vI (S p)), some (vI ((pc8 (readIn T S (S p) cl) : Nat) : Int)), some (vI ((pc8 (present T S (S p) (S p)) : Nat) : Int)), some (vI 1), some (vI (evV (T 18) (T 17 2).toNat (envF ((S 28) + 1) ((pc8 (readIn T S (S p) cl) : Nat) : Int) ((pc8 (present T S (S p) (S p)) : Nat) : Int) 1)))] dX3_earOf_91 rfl (by decide) rfl ?_
      refine wp_iconst (pc := 93) dX3_earOf_93 ?_
      refine wp_bipush (pc := 94) dX3_earOf_94 (by decide) ?_
      refine wp_iload (pc := 96) dX3_earOf_96 rfl ?_
      refine wp_min (pc := 98) dX3_earOf_98 rfl c_X3_137 (by omega) (by omega) (Nat.le_of_ble_eq_true rfl) (by omega) ?_
      refine wp_max (pc := 101) dX3_earOf_101 rfl c_X3_143 (by omega) (by omega) (Nat.le_of_ble_eq_true rfl) (by omega) ?_
      refine wp_iret (pc := 104) dX3_earOf_104 rfl rfl ?_
      have e0 : truthF (S p = T 3 p) = 1 := if_pos h_2
      have e1 : ear T S p cl = clamp10 (evV (T 18) (T 17 2).toNat (envF (S 28 + 1) (pc8 (readIn T S (S p) cl)) (pc8 (present T S (S p) (S p))) 1)) := by
        unfold ear; rw [if_neg (by omega), e0]
      have hq := hQ _ (fun b _ h2 => funext fun j => upc_c h2 : Sc I (upc I (D 3 + 19) g2) (D 3))
      rw [e1] at hq
      refine cast (congrArg (fun z => Q (some (vI z)) (upc I (D 3 + 19) g2) (XX L D)) ?_) hq
      unfold clamp10
      repeat' split
      all_goals omega

def hearers (T : mT) (S : mS) (q : Nat) : Nat := setOf (fun p => (risers T S q &&& present T S (S (13 + q)) (S (18 + q))).testBit p && decide (0 < ear T S p (called T S))) (nP T)
theorem hearers_lt {T : mT} (h : tw T) (S : mS) (q : Nat) : hearers T S q < 256 := set_lt8 _ (nP_le h)
theorem lp_hearersOf {l : Launch} {G : mG} {d : Nat} {I : mI} {L : Nat → Nat → Int} {D : Nat → Nat} {Q : mQ} {s : Nat} {T : mT} {S : mS} {B : Int} {q : Nat} (h3 : isT (D 3)) (hs : isS s) (hT : TT I (D 3) = T) (hS : SS I s = S) (hw : tw T) (hv : sw S B) (hB : B ≤ 100000) (hcd : ∀ j, inR (T 18 j)) (hq : q < 5) (hd : 4 ≤ d) (hQ : ∀ J, Sc I J (D 3) → Q (some (vI ((hearers T S q : Int)))) J (XX L D)) : ∀ i : Nat, i ≤ nP T → ∀ J, Sc I J (D 3) → WP l G m_X3_hearersOf d 153 J (XX L D) 36 [some (vR 45), some (vR s), some (vI (q : Int)), some (vI ((risers T S q &&& present T S (S (13 + q)) (S (18 + q)) : Nat) : Int)), some (vI ((called T S : Nat) : Int)), some (vI ((setOf (fun p => (risers T S q &&& present T S (S (13 + q)) (S (18 + q))).testBit p && decide (0 < ear T S p (called T S))) i : Nat) : Int)), some (vI (i : Int))] [] Q := by
  have b0 := tw_p hw
  have eN : nP T = (T 0 12).toNat := rfl
  have b1 : (risers T S q &&& present T S (S (13 + q)) (S (18 + q))) < 256 := Nat.lt_of_le_of_lt Nat.and_le_left (risers_lt hw S q)
  have b2 := called_lt hw S
  refine loop_dn (fun i => ∀ J, Sc I J (D 3) → WP l G m_X3_hearersOf d 153 J (XX L D) 36 [some (vR 45), some (vR s), some (vI (q : Int)), some (vI ((risers T S q &&& present T S (S (13 + q)) (S (18 + q)) : Nat) : Int)), some (vI ((called T S : Nat) : Int)), some (vI ((setOf (fun p => (risers T S q &&& present T S (S (13 + q)) (S (18 + q))).testBit p && decide (0 < ear T S p (called T S))) i : Nat) : Int)), some (vI (i : Int))] [] Q) (nP T) ?_ (fun i hi ih => ?_)
  · intro J hJ
    have hT0 := hJ.tt h3 hT
    have hS0 := hJ.ss h3 hs hS
    refine wp_iload (pc := 36) dX3_hearersOf_36 rfl ?_
    refine wp_aload_n (pc := 38) 0 dX3_hearersOf_38 rfl rfl ?_
    refine wp_getr (pc := 39) dX3_hearersOf_39 rfl f_X3_15 kd_45 la_45 rfl (r_45_1 D) ?_
    refine wp_geti (pc := 42) dX3_hearersOf_42 rfl f_X3_64 (tk_0 h3) (tl_0 h3) (Or.inl rfl) ?_
    refine wp_eqst (st' := [vI (T 0 12), vI (((nP T) : Nat) : Int)]) (by rw [← hT0] <;> rfl) ?_
    refine wp_icmp_ge (pc := 45) 85 dX3_hearersOf_45 (by decide) (by omega) (by omega) (fun h_1 => ?_) (fun h_1 => ?_)
    · refine wp_iload (pc := 85) dX3_hearersOf_85 rfl ?_
      refine wp_iret (pc := 87) dX3_hearersOf_87 rfl rfl ?_
      exact hQ _ hJ
    · exfalso; omega
  · intro J hJ
    have hT0 := hJ.tt h3 hT
    have hS0 := hJ.ss h3 hs hS
    have b9 := bit_lt (risers T S q &&& present T S (S (13 + q)) (S (18 + q))) i
    have b8 := ear_in T S i (called T S)
    refine wp_iload (pc := 36) dX3_hearersOf_36 rfl ?_
    refine wp_aload_n (pc := 38) 0 dX3_hearersOf_38 rfl rfl ?_
    refine wp_getr (pc := 39) dX3_hearersOf_39 rfl f_X3_15 kd_45 la_45 rfl (r_45_1 D) ?_
    refine wp_geti (pc := 42) dX3_hearersOf_42 rfl f_X3_64 (tk_0 h3) (tl_0 h3) (Or.inl rfl) ?_
    refine wp_eqst (st' := [vI (T 0 12), vI (i : Int)]) (by rw [← hT0] <;> rfl) ?_
    refine wp_icmp_ge (pc := 45) 85 dX3_hearersOf_45 (by decide) (by omega) (by omega) (fun h_1 => ?_) (fun h_1 => ?_)
    · exfalso; omega
    · refine wp_iload_n (pc := 48) 3 dX3_hearersOf_48 rfl rfl ?_
      refine wp_iload (pc := 49) dX3_hearersOf_49 rfl ?_
      refine wn_shr (pc := 51) (risers T S q &&& present T S (S (13 + q)) (S (18 + q))) i dX3_hearersOf_51 rfl rfl (by omega) (by omega) ?_
      refine wp_iconst (pc := 52) dX3_hearersOf_52 ?_
      refine wn_mask (pc := 53) ((risers T S q &&& present T S (S (13 + q)) (S (18 + q))) / 2 ^ i) 1 dX3_hearersOf_53 rfl rfl (by decide) ?_
      refine wp_iconst (pc := 54) dX3_hearersOf_54 ?_
      refine wp_icmp_ne (pc := 55) 79 dX3_hearersOf_55 (by decide) (by omega) (by decide) (fun h_2 => ?_) (fun h_2 => ?_)
      · refine wq_iinc (pc := 79) [some (vR 45), some (vR s), some (vI (q : Int)), some (vI ((risers T S q &&& present T S (S (13 + q)) (S (18 + q)) : Nat) : Int)), some (vI ((called T S : Nat) : Int)), some (vI ((setOf (fun p => (risers T S q &&& present T S (S (13 + q)) (S (18 + q))).testBit p && decide (0 < ear T S p (called T S))) i : Nat) : Int)), some (vI ((i : Int) + 1))] dX3_hearersOf_79 rfl rfl (by decide) rfl ?_
        refine wp_goto (pc := 82) 36 dX3_hearersOf_82 (by decide) ?_
        refine wp_eqls (ls' := [some (vR 45), some (vR s), some (vI (q : Int)), some (vI ((risers T S q &&& present T S (S (13 + q)) (S (18 + q)) : Nat) : Int)), some (vI ((called T S : Nat) : Int)), some (vI ((setOf (fun p => (risers T S q &&& present T S (S (13 + q)) (S (18 + q))).testBit p && decide (0 < ear T S p (called T S))) (i + 1) : Nat) : Int)), some (vI (((i + 1) : Nat) : Int))]) (by rw [setOf_n (f := (fun p => (risers T S q &&& present T S (S (13 + q)) (S (18 + q))).testBit p && decide (0 < ear T S p (called T S)))) (n := i) (by first | (rw [decide_eq_false (by omega), Bool.and_false]) | (rw [show Nat.testBit _ i = false from by rw [← Bool.not_eq_true, ← bit_iff]; assumption]; rfl))]; rfl) (ih _ hJ)
      · refine wp_aload_n (pc := 58) 0 dX3_hearersOf_58 rfl rfl ?_
        refine wp_aload_n (pc := 59) 1 dX3_hearersOf_59 rfl rfl ?_
        refine wp_iload (pc := 60) dX3_hearersOf_60 rfl ?_
        refine wp_iload (pc := 62) dX3_hearersOf_62 rfl ?_
        refine wp_callV (pc := 64) (st := []) (nf' := 153) [vR s, vI (i : Int), vI ((called T S : Nat) : Int)] [some (vR 45), some (vR s), some (vI (i : Int)), some (vI ((called T S : Nat) : Int)), none, none, none, none, none] dX3_hearersOf_64 rfl c_X3_153 rfl kd_45 (by decide) rfl la_45 rfl (Nat.le_of_ble_eq_true rfl) rfl (Nat.le_of_ble_eq_true rfl) (by omega) (Nat.le_refl _) (Nat.le_refl _) ?_
        refine sp_earOf i rfl (called T S) rfl h3 hs hT0 hS0 hw hv (by omega) hcd (by omega) (by omega) (by omega) (fun J1 hJ1 => ?_)
        have hT01 := hJ1.tt h3 hT0
        have hS01 := hJ1.ss h3 hs hS0
        refine wp_eqst (st' := [vI (ear T S i (called T S))]) rfl ?_
        refine wp_if_le (pc := 67) 79 dX3_hearersOf_67 (by decide) (by omega) (fun h_3 => ?_) (fun h_3 => ?_)
        · refine wq_iinc (pc := 79) [some (vR 45), some (vR s), some (vI (q : Int)), some (vI ((risers T S q &&& present T S (S (13 + q)) (S (18 + q)) : Nat) : Int)), some (vI ((called T S : Nat) : Int)), some (vI ((setOf (fun p => (risers T S q &&& present T S (S (13 + q)) (S (18 + q))).testBit p && decide (0 < ear T S p (called T S))) i : Nat) : Int)), some (vI ((i : Int) + 1))] dX3_hearersOf_79 rfl rfl (by decide) rfl ?_
          refine wp_goto (pc := 82) 36 dX3_hearersOf_82 (by decide) ?_
          refine wp_eqls (ls' := [some (vR 45), some (vR s), some (vI (q : Int)), some (vI ((risers T S q &&& present T S (S (13 + q)) (S (18 + q)) : Nat) : Int)), some (vI ((called T S : Nat) : Int)), some (vI ((setOf (fun p => (risers T S q &&& present T S (S (13 + q)) (S (18 + q))).testBit p && decide (0 < ear T S p (called T S))) (i + 1) : Nat) : Int)), some (vI (((i + 1) : Nat) : Int))]) (by rw [setOf_n (f := (fun p => (risers T S q &&& present T S (S (13 + q)) (S (18 + q))).testBit p && decide (0 < ear T S p (called T S)))) (n := i) (by first | (rw [decide_eq_false (by omega), Bool.and_false]) | (rw [show Nat.testBit _ i = false from by rw [← Bool.not_eq_true, ← bit_iff]; assumption]; rfl))]; rfl) (ih _ (hJ.trans hJ1))
        · refine wp_iload (pc := 70) dX3_hearersOf_70 rfl ?_
          refine wp_iconst (pc := 72) dX3_hearersOf_72 ?_
          refine wp_iload (pc := 73) dX3_hearersOf_73 rfl ?_
          refine wn_shl1 (pc := 75) i dX3_hearersOf_75 rfl (by omega) ?_
          refine wn_or (pc := 76) (setOf (fun p => (risers T S q &&& present T S (S (13 + q)) (S (18 + q))).testBit p && decide (0 < ear T S p (called T S))) i) (2 ^ i) dX3_hearersOf_76 rfl rfl ?_
          refine wq_istore (pc := 77) [some (vR 45), some (vR s), some (vI (q : Int)), some (vI ((risers T S q &&& present T S (S (13 + q)) (S (18 + q)) : Nat) : Int)), some (vI ((called T S : Nat) : Int)), some (vI (((setOf (fun p => (risers T S q &&& present T S (S (13 + q)) (S (18 + q))).testBit p && decide (0 < ear T S p (called T S))) i) ||| (2 ^ i) : Nat) : Int)), some (vI (i : Int))] dX3_hearersOf_77 rfl (by decide) rfl ?_
          refine wq_iinc (pc := 79) [some (vR 45), some (vR s), some (vI (q : Int)), some (vI ((risers T S q &&& present T S (S (13 + q)) (S (18 + q)) : Nat) : Int)), some (vI ((called T S : Nat) : Int)), some (vI (((setOf (fun p => (risers T S q &&& present T S (S (13 + q)) (S (18 + q))).testBit p && decide (0 < ear T S p (called T S))) i) ||| (2 ^ i) : Nat) : Int)), some (vI ((i : Int) + 1))] dX3_hearersOf_79 rfl rfl (by decide) rfl ?_
          refine wp_goto (pc := 82) 36 dX3_hearersOf_82 (by decide) ?_
          refine wp_eqls (ls' := [some (vR 45), some (vR s), some (vI (q : Int)), some (vI ((risers T S q &&& present T S (S (13 + q)) (S (18 + q)) : Nat) : Int)), some (vI ((called T S : Nat) : Int)), some (vI ((setOf (fun p => (risers T S q &&& present T S (S (13 + q)) (S (18 + q))).testBit p && decide (0 < ear T S p (called T S))) (i + 1) : Nat) : Int)), some (vI (((i + 1) : Nat) : Int))]) (by rw [setOf_y (f := (fun p => (risers T S q &&& present T S (S (13 + q)) (S (18 + q))).testBit p && decide (0 < ear T S p (called T S)))) (n := i) (by rw [(bit_iff _ i).mp h_2, decide_eq_true (by omega)]; rfl)]; rfl) (ih _ (hJ.trans hJ1))

theorem sp_hearersOf {l : Launch} {G : mG} {d : Nat} {I : mI} {L : Nat → Nat → Int} {D : Nat → Nat} {Q : mQ} {s : Nat} {T : mT} {S : mS} {B : Int} (q : Nat) {q_ : Int} (hq_ : q_ = (q : Int)) (h3 : isT (D 3)) (hs : isS s) (hT : TT I (D 3) = T) (hS : SS I s = S) (hw : tw T) (hv : sw S B) (hB : B ≤ 100000) (hcd : ∀ j, inR (T 18 j)) (hq : q < 5) (hd : 4 ≤ d) (hQ : ∀ J, Sc I J (D 3) → Q (some (vI ((hearers T S q : Int)))) J (XX L D)) : WP l G m_X3_hearersOf d 153 I (XX L D) 0 [some (vR 45), some (vR s), some (vI q_), none, none, none, none] [] Q := by
  subst hq_
  have b5 := sw_c1 hv hq
  have b6 := sw_c2 hv hq
  refine wp_aload_n (pc := 0) 0 dX3_hearersOf_0 rfl rfl ?_
  refine wp_aload_n (pc := 1) 1 dX3_hearersOf_1 rfl rfl ?_
  refine wp_iload_n (pc := 2) 2 dX3_hearersOf_2 rfl rfl ?_
  refine wp_callV (pc := 3) (st := []) (nf' := 153) [vR s, vI (q : Int)] [some (vR 45), some (vR s), some (vI (q : Int)), none, none, none, none, none, none] dX3_hearersOf_3 rfl c_X3_146 rfl kd_45 (by decide) rfl la_45 rfl (Nat.le_of_ble_eq_true rfl) rfl (Nat.le_of_ble_eq_true rfl) (by omega) (Nat.le_refl _) (Nat.le_refl _) ?_
  refine sp_risersOf q rfl h3 hs hT hS hw hv (by omega) (by omega) ?_
  refine wp_eqst (st' := [vI ((risers T S q : Nat) : Int)]) rfl ?_
  refine wp_aload_n (pc := 6) 0 dX3_hearersOf_6 rfl rfl ?_
  refine wp_aload_n (pc := 7) 1 dX3_hearersOf_7 rfl rfl ?_
  refine wp_aload_n (pc := 8) 1 dX3_hearersOf_8 rfl rfl ?_
  refine wp_iload_n (pc := 9) 2 dX3_hearersOf_9 rfl rfl ?_
  refine wp_callV (pc := 10) (st := [vR s, vR 45, vI ((risers T S q : Nat) : Int)]) (nf' := 153) [vI (q : Int)] [some (vR s), some (vI (q : Int))] dX3_hearersOf_10 rfl c_X3_93 rfl (sk_0 hs) (by decide) rfl (sl_0 hs) rfl (Nat.le_of_ble_eq_true rfl) rfl (Nat.le_of_ble_eq_true rfl) (by omega) (Nat.le_refl _) (Nat.le_refl _) ?_
  refine wp_aload_n (pc := 0) 0 dX7_churchOne_0 rfl rfl ?_
  refine wp_getr (pc := 1) dX7_churchOne_1 rfl f_X7_11 (sk_0 hs) (sl_0 hs) rfl (sr_0_0 D hs) ?_
  refine wp_bipush (pc := 4) dX7_churchOne_4 (by decide) ?_
  refine wp_iload_n (pc := 6) 1 dX7_churchOne_6 rfl rfl ?_
  refine wp_iadd (pc := 7) dX7_churchOne_7 ?_
  refine wq_iald (pc := 8) (13 + q) dX7_churchOne_8 (sk_1 hs) (sl_1 hs) (by omega) (by omega) ?_
  refine wp_eqst (st' := [vI (S (13 + q))]) (by rw [← hS] <;> rfl) ?_
  refine wp_iret (pc := 9) dX7_churchOne_9 rfl rfl ?_
  refine wp_eqst (st' := [vI (S (13 + q)), vR s, vR 45, vI ((risers T S q : Nat) : Int)]) rfl ?_
  refine wp_aload_n (pc := 13) 1 dX3_hearersOf_13 rfl rfl ?_
  refine wp_iload_n (pc := 14) 2 dX3_hearersOf_14 rfl rfl ?_
  refine wp_callV (pc := 15) (st := [vI (S (13 + q)), vR s, vR 45, vI ((risers T S q : Nat) : Int)]) (nf' := 153) [vI (q : Int)] [some (vR s), some (vI (q : Int))] dX3_hearersOf_15 rfl c_X3_96 rfl (sk_0 hs) (by decide) rfl (sl_0 hs) rfl (Nat.le_of_ble_eq_true rfl) rfl (Nat.le_of_ble_eq_true rfl) (by omega) (Nat.le_refl _) (Nat.le_refl _) ?_
  refine wp_aload_n (pc := 0) 0 dX7_churchOther_0 rfl rfl ?_
  refine wp_getr (pc := 1) dX7_churchOther_1 rfl f_X7_11 (sk_0 hs) (sl_0 hs) rfl (sr_0_0 D hs) ?_
  refine wp_bipush (pc := 4) dX7_churchOther_4 (by decide) ?_
  refine wp_iload_n (pc := 6) 1 dX7_churchOther_6 rfl rfl ?_
  refine wp_iadd (pc := 7) dX7_churchOther_7 ?_
  refine wq_iald (pc := 8) (18 + q) dX7_churchOther_8 (sk_1 hs) (sl_1 hs) (by omega) (by omega) ?_
  refine wp_eqst (st' := [vI (S (18 + q))]) (by rw [← hS] <;> rfl) ?_
  refine wp_iret (pc := 9) dX7_churchOther_9 rfl rfl ?_
  refine wp_eqst (st' := [vI (S (18 + q)), vI (S (13 + q)), vR s, vR 45, vI ((risers T S q : Nat) : Int)]) rfl ?_
  refine wp_callV (pc := 18) (st := [vI ((risers T S q : Nat) : Int)]) (nf' := 153) [vR s, vI (S (13 + q)), vI (S (18 + q))] [some (vR 45), some (vR s), some (vI (S (13 + q))), some (vI (S (18 + q))), none, none, none] dX3_hearersOf_18 rfl c_X3_127 rfl kd_45 (by decide) rfl la_45 rfl (Nat.le_of_ble_eq_true rfl) rfl (Nat.le_of_ble_eq_true rfl) (by omega) (Nat.le_refl _) (Nat.le_refl _) ?_
  refine sp_presentIn h3 hs hT hS hw hv (by omega) (by omega) (by omega) (by omega) ?_
  refine wp_eqst (st' := [vI ((present T S (S (13 + q)) (S (18 + q)) : Nat) : Int), vI ((risers T S q : Nat) : Int)]) rfl ?_
  refine wn_and (pc := 21) (risers T S q) (present T S (S (13 + q)) (S (18 + q))) dX3_hearersOf_21 rfl rfl ?_
  refine wq_istore_n (pc := 22) 3 [some (vR 45), some (vR s), some (vI (q : Int)), some (vI (((risers T S q) &&& (present T S (S (13 + q)) (S (18 + q))) : Nat) : Int)), none, none, none] dX3_hearersOf_22 rfl rfl (by decide) rfl ?_
  refine wp_aload_n (pc := 23) 0 dX3_hearersOf_23 rfl rfl ?_
  refine wp_aload_n (pc := 24) 1 dX3_hearersOf_24 rfl rfl ?_
  refine wp_callV (pc := 25) (st := []) (nf' := 153) [vR s] [some (vR 45), some (vR s), none, none] dX3_hearersOf_25 rfl c_X3_149 rfl kd_45 (by decide) rfl la_45 rfl (Nat.le_of_ble_eq_true rfl) rfl (Nat.le_of_ble_eq_true rfl) (by omega) (Nat.le_refl _) (Nat.le_refl _) ?_
  refine sp_calledNext h3 hs hT hS hw hv (by omega) (by omega) (fun J1 hJ1 => ?_)
  have hT1 := hJ1.tt h3 hT
  have hS1 := hJ1.ss h3 hs hS
  refine wp_eqst (st' := [vI ((called T S : Nat) : Int)]) rfl ?_
  refine wq_istore (pc := 28) [some (vR 45), some (vR s), some (vI (q : Int)), some (vI (((risers T S q) &&& (present T S (S (13 + q)) (S (18 + q))) : Nat) : Int)), some (vI ((called T S : Nat) : Int)), none, none] dX3_hearersOf_28 rfl (by decide) rfl ?_
  refine wp_iconst (pc := 30) dX3_hearersOf_30 ?_
  refine wq_istore (pc := 31) [some (vR 45), some (vR s), some (vI (q : Int)), some (vI (((risers T S q) &&& (present T S (S (13 + q)) (S (18 + q))) : Nat) : Int)), some (vI ((called T S : Nat) : Int)), some (vI 0), none] dX3_hearersOf_31 rfl (by decide) rfl ?_
  refine wp_iconst (pc := 33) dX3_hearersOf_33 ?_
  refine wq_istore (pc := 34) [some (vR 45), some (vR s), some (vI (q : Int)), some (vI (((risers T S q) &&& (present T S (S (13 + q)) (S (18 + q))) : Nat) : Int)), some (vI ((called T S : Nat) : Int)), some (vI 0), some (vI 0)] dX3_hearersOf_34 rfl (by decide) rfl ?_
  exact lp_hearersOf h3 hs hT hS hw hv hB hcd hq hd hQ 0 (Nat.zero_le _) _ hJ1

def oddsN (T : mT) (S : mS) (ls cl : Nat) : Nat → Int
  | 0 => 100000000
  | n + 1 => if ls.testBit n then (oddsN T S ls cl n).tdiv 10 * (10 - ear T S n cl) else oddsN T S ls cl n
theorem oddsN_in (T : mT) (S : mS) (ls cl : Nat) : ∀ n, 0 ≤ oddsN T S ls cl n ∧ oddsN T S ls cl n ≤ 100000000
  | 0 => (by decide : (0 : Int) ≤ 100000000 ∧ (100000000 : Int) ≤ 100000000)
  | n + 1 => by
    have ih := oddsN_in T S ls cl n
    have h := ear_in T S n cl
    rw [oddsN]
    split
    · rw [Int.tdiv_eq_ediv_of_nonneg ih.1]
      have h1 : 0 ≤ oddsN T S ls cl n / 10 := by omega
      have h2 : oddsN T S ls cl n / 10 ≤ 10000000 := by omega
      constructor
      · exact Int.mul_nonneg h1 (by omega)
      · have h3 := Int.mul_le_mul h2 (show 10 - ear T S n cl ≤ 10 by omega) (by omega) (by decide)
        omega
    · exact ih
def odds (T : mT) (S : mS) (q : Nat) (c e : Int) : Int := oddsN T S (risers T S q &&& present T S c e) (called T S) (nP T)

theorem lp_quietOf {l : Launch} {G : mG} {d : Nat} {I : mI} {L : Nat → Nat → Int} {D : Nat → Nat} {Q : mQ} {s : Nat} {T : mT} {S : mS} {B : Int} {q : Nat} {c e : Int} (h3 : isT (D 3)) (hs : isS s) (hT : TT I (D 3) = T) (hS : SS I s = S) (hw : tw T) (hv : sw S B) (hB : B ≤ 100000) (hcd : ∀ j, inR (T 18 j)) (hq : q < 5) (hc : inR c) (he : inR e) (hd : 4 ≤ d) (hQ : ∀ J, Sc I J (D 3) → Q (some (vI (odds T S q c e))) J (XX L D)) : ∀ i : Nat, i ≤ nP T → ∀ J, Sc I J (D 3) → WP l G m_X3_quietOf d 153 J (XX L D) 31 [some (vR 45), some (vR s), some (vI (q : Int)), some (vI c), some (vI e), some (vI ((risers T S q &&& present T S c e : Nat) : Int)), some (vI ((called T S : Nat) : Int)), some (vI (oddsN T S (risers T S q &&& present T S c e) (called T S) i)), some (vI (i : Int))] [] Q := by
  have b0 := tw_p hw
  have eN : nP T = (T 0 12).toNat := rfl
  have b1 : (risers T S q &&& present T S c e) < 256 := Nat.lt_of_le_of_lt Nat.and_le_left (risers_lt hw S q)
  have b2 := called_lt hw S
  refine loop_dn (fun i => ∀ J, Sc I J (D 3) → WP l G m_X3_quietOf d 153 J (XX L D) 31 [some (vR 45), some (vR s), some (vI (q : Int)), some (vI c), some (vI e), some (vI ((risers T S q &&& present T S c e : Nat) : Int)), some (vI ((called T S : Nat) : Int)), some (vI (oddsN T S (risers T S q &&& present T S c e) (called T S) i)), some (vI (i : Int))] [] Q) (nP T) ?_ (fun i hi ih => ?_)
  · intro J hJ
    have hT0 := hJ.tt h3 hT
    have hS0 := hJ.ss h3 hs hS
    refine wp_iload (pc := 31) dX3_quietOf_31 rfl ?_
    refine wp_aload_n (pc := 33) 0 dX3_quietOf_33 rfl rfl ?_
    refine wp_getr (pc := 34) dX3_quietOf_34 rfl f_X3_15 kd_45 la_45 rfl (r_45_1 D) ?_
    refine wp_geti (pc := 37) dX3_quietOf_37 rfl f_X3_64 (tk_0 h3) (tl_0 h3) (Or.inl rfl) ?_
    refine wp_eqst (st' := [vI (T 0 12), vI (((nP T) : Nat) : Int)]) (by rw [← hT0] <;> rfl) ?_
    refine wp_icmp_ge (pc := 40) 80 dX3_quietOf_40 (by decide) (by omega) (by omega) (fun h_1 => ?_) (fun h_1 => ?_)
    · refine wp_iload (pc := 80) dX3_quietOf_80 rfl ?_
      refine wp_iret (pc := 82) dX3_quietOf_82 rfl rfl ?_
      exact hQ _ hJ
    · exfalso; omega
  · intro J hJ
    have hT0 := hJ.tt h3 hT
    have hS0 := hJ.ss h3 hs hS
    have b9 := bit_lt (risers T S q &&& present T S c e) i
    have b8 := ear_in T S i (called T S)
    have b7 := oddsN_in T S (risers T S q &&& present T S c e) (called T S) i
    refine wp_iload (pc := 31) dX3_quietOf_31 rfl ?_
    refine wp_aload_n (pc := 33) 0 dX3_quietOf_33 rfl rfl ?_
    refine wp_getr (pc := 34) dX3_quietOf_34 rfl f_X3_15 kd_45 la_45 rfl (r_45_1 D) ?_
    refine wp_geti (pc := 37) dX3_quietOf_37 rfl f_X3_64 (tk_0 h3) (tl_0 h3) (Or.inl rfl) ?_
    refine wp_eqst (st' := [vI (T 0 12), vI (i : Int)]) (by rw [← hT0] <;> rfl) ?_
    refine wp_icmp_ge (pc := 40) 80 dX3_quietOf_40 (by decide) (by omega) (by omega) (fun h_1 => ?_) (fun h_1 => ?_)
    · exfalso; omega
    · refine wp_iload (pc := 43) dX3_quietOf_43 rfl ?_
      refine wp_iload (pc := 45) dX3_quietOf_45 rfl ?_
      refine wn_shr (pc := 47) (risers T S q &&& present T S c e) i dX3_quietOf_47 rfl rfl (by omega) (by omega) ?_
      refine wp_iconst (pc := 48) dX3_quietOf_48 ?_
      refine wn_mask (pc := 49) ((risers T S q &&& present T S c e) / 2 ^ i) 1 dX3_quietOf_49 rfl rfl (by decide) ?_
      refine wp_iconst (pc := 50) dX3_quietOf_50 ?_
      refine wp_icmp_ne (pc := 51) 74 dX3_quietOf_51 (by decide) (by omega) (by decide) (fun h_2 => ?_) (fun h_2 => ?_)
      · refine wq_iinc (pc := 74) [some (vR 45), some (vR s), some (vI (q : Int)), some (vI c), some (vI e), some (vI ((risers T S q &&& present T S c e : Nat) : Int)), some (vI ((called T S : Nat) : Int)), some (vI (oddsN T S (risers T S q &&& present T S c e) (called T S) i)), some (vI ((i : Int) + 1))] dX3_quietOf_74 rfl rfl (by decide) rfl ?_
        refine wp_goto (pc := 77) 31 dX3_quietOf_77 (by decide) ?_
        refine wp_eqls (ls' := [some (vR 45), some (vR s), some (vI (q : Int)), some (vI c), some (vI e), some (vI ((risers T S q &&& present T S c e : Nat) : Int)), some (vI ((called T S : Nat) : Int)), some (vI (oddsN T S (risers T S q &&& present T S c e) (called T S) (i + 1))), some (vI (((i + 1) : Nat) : Int))]) (by rw [oddsN, if_neg (fun z => absurd ((bit_iff _ i).mpr z) (by assumption))]; rfl) (ih _ hJ)
      · refine wp_iload (pc := 54) dX3_quietOf_54 rfl ?_
        refine wp_bipush (pc := 56) dX3_quietOf_56 (by decide) ?_
        refine wp_idiv (pc := 58) dX3_quietOf_58 (by omega) (by omega) (by omega) ?_
        refine wp_bipush (pc := 59) dX3_quietOf_59 (by decide) ?_
        refine wp_aload_n (pc := 61) 0 dX3_quietOf_61 rfl rfl ?_
        refine wp_aload_n (pc := 62) 1 dX3_quietOf_62 rfl rfl ?_
        refine wp_iload (pc := 63) dX3_quietOf_63 rfl ?_
        refine wp_iload (pc := 65) dX3_quietOf_65 rfl ?_
        refine wp_callV (pc := 67) (st := [vI 10, vI (Int.tdiv (oddsN T S (risers T S q &&& present T S c e) (called T S) i) 10)]) (nf' := 153) [vR s, vI (i : Int), vI ((called T S : Nat) : Int)] [some (vR 45), some (vR s), some (vI (i : Int)), some (vI ((called T S : Nat) : Int)), none, none, none, none, none] dX3_quietOf_67 rfl c_X3_153 rfl kd_45 (by decide) rfl la_45 rfl (Nat.le_of_ble_eq_true rfl) rfl (Nat.le_of_ble_eq_true rfl) (by omega) (Nat.le_refl _) (Nat.le_refl _) ?_
        refine sp_earOf i rfl (called T S) rfl h3 hs hT0 hS0 hw hv (by omega) hcd (by omega) (by omega) (by omega) (fun J1 hJ1 => ?_)
        have hT01 := hJ1.tt h3 hT0
        have hS01 := hJ1.ss h3 hs hS0
        refine wp_eqst (st' := [vI (ear T S i (called T S)), vI 10, vI (Int.tdiv (oddsN T S (risers T S q &&& present T S c e) (called T S) i) 10)]) rfl ?_
        refine wp_isub (pc := 70) dX3_quietOf_70 ?_
        refine wp_imul (pc := 71) dX3_quietOf_71 ?_
        refine wq_istore (pc := 72) [some (vR 45), some (vR s), some (vI (q : Int)), some (vI c), some (vI e), some (vI ((risers T S q &&& present T S c e : Nat) : Int)), some (vI ((called T S : Nat) : Int)), some (vI ((Int.tdiv (oddsN T S (risers T S q &&& present T S c e) (called T S) i) 10) * (10 - (ear T S i (called T S))))), some (vI (i : Int))] dX3_quietOf_72 rfl (by decide) rfl ?_
        refine wq_iinc (pc := 74) [some (vR 45), some (vR s), some (vI (q : Int)), some (vI c), some (vI e), some (vI ((risers T S q &&& present T S c e : Nat) : Int)), some (vI ((called T S : Nat) : Int)), some (vI ((Int.tdiv (oddsN T S (risers T S q &&& present T S c e) (called T S) i) 10) * (10 - (ear T S i (called T S))))), some (vI ((i : Int) + 1))] dX3_quietOf_74 rfl rfl (by decide) rfl ?_
        refine wp_goto (pc := 77) 31 dX3_quietOf_77 (by decide) ?_
        refine wp_eqls (ls' := [some (vR 45), some (vR s), some (vI (q : Int)), some (vI c), some (vI e), some (vI ((risers T S q &&& present T S c e : Nat) : Int)), some (vI ((called T S : Nat) : Int)), some (vI (oddsN T S (risers T S q &&& present T S c e) (called T S) (i + 1))), some (vI (((i + 1) : Nat) : Int))]) (by rw [oddsN, if_pos ((bit_iff _ i).mp (by assumption))]; rfl) (ih _ (hJ.trans hJ1))

theorem sp_quietOf {l : Launch} {G : mG} {d : Nat} {I : mI} {L : Nat → Nat → Int} {D : Nat → Nat} {Q : mQ} {s : Nat} {T : mT} {S : mS} {B : Int} {c e : Int} (q : Nat) {q_ : Int} (hq_ : q_ = (q : Int)) (h3 : isT (D 3)) (hs : isS s) (hT : TT I (D 3) = T) (hS : SS I s = S) (hw : tw T) (hv : sw S B) (hB : B ≤ 100000) (hcd : ∀ j, inR (T 18 j)) (hq : q < 5) (hc : inR c) (he : inR e) (hd : 4 ≤ d) (hQ : ∀ J, Sc I J (D 3) → Q (some (vI (odds T S q c e))) J (XX L D)) : WP l G m_X3_quietOf d 153 I (XX L D) 0 [some (vR 45), some (vR s), some (vI q_), some (vI c), some (vI e), none, none, none, none] [] Q := by
  subst hq_
  refine wp_aload_n (pc := 0) 0 dX3_quietOf_0 rfl rfl ?_
  refine wp_aload_n (pc := 1) 1 dX3_quietOf_1 rfl rfl ?_
  refine wp_iload_n (pc := 2) 2 dX3_quietOf_2 rfl rfl ?_
  refine wp_callV (pc := 3) (st := []) (nf' := 153) [vR s, vI (q : Int)] [some (vR 45), some (vR s), some (vI (q : Int)), none, none, none, none, none, none] dX3_quietOf_3 rfl c_X3_146 rfl kd_45 (by decide) rfl la_45 rfl (Nat.le_of_ble_eq_true rfl) rfl (Nat.le_of_ble_eq_true rfl) (by omega) (Nat.le_refl _) (Nat.le_refl _) ?_
  refine sp_risersOf q rfl h3 hs hT hS hw hv (by omega) (by omega) ?_
  refine wp_eqst (st' := [vI ((risers T S q : Nat) : Int)]) rfl ?_
  refine wp_aload_n (pc := 6) 0 dX3_quietOf_6 rfl rfl ?_
  refine wp_aload_n (pc := 7) 1 dX3_quietOf_7 rfl rfl ?_
  refine wp_iload_n (pc := 8) 3 dX3_quietOf_8 rfl rfl ?_
  refine wp_iload (pc := 9) dX3_quietOf_9 rfl ?_
  refine wp_callV (pc := 11) (st := [vI ((risers T S q : Nat) : Int)]) (nf' := 153) [vR s, vI c, vI e] [some (vR 45), some (vR s), some (vI c), some (vI e), none, none, none] dX3_quietOf_11 rfl c_X3_127 rfl kd_45 (by decide) rfl la_45 rfl (Nat.le_of_ble_eq_true rfl) rfl (Nat.le_of_ble_eq_true rfl) (by omega) (Nat.le_refl _) (Nat.le_refl _) ?_
  refine sp_presentIn h3 hs hT hS hw hv (by omega) (by omega) (by omega) (by omega) ?_
  refine wp_eqst (st' := [vI ((present T S c e : Nat) : Int), vI ((risers T S q : Nat) : Int)]) rfl ?_
  refine wn_and (pc := 14) (risers T S q) (present T S c e) dX3_quietOf_14 rfl rfl ?_
  refine wq_istore (pc := 15) [some (vR 45), some (vR s), some (vI (q : Int)), some (vI c), some (vI e), some (vI (((risers T S q) &&& (present T S c e) : Nat) : Int)), none, none, none] dX3_quietOf_15 rfl (by decide) rfl ?_
  refine wp_aload_n (pc := 17) 0 dX3_quietOf_17 rfl rfl ?_
  refine wp_aload_n (pc := 18) 1 dX3_quietOf_18 rfl rfl ?_
  refine wp_callV (pc := 19) (st := []) (nf' := 153) [vR s] [some (vR 45), some (vR s), none, none] dX3_quietOf_19 rfl c_X3_149 rfl kd_45 (by decide) rfl la_45 rfl (Nat.le_of_ble_eq_true rfl) rfl (Nat.le_of_ble_eq_true rfl) (by omega) (Nat.le_refl _) (Nat.le_refl _) ?_
  refine sp_calledNext h3 hs hT hS hw hv (by omega) (by omega) (fun J1 hJ1 => ?_)
  have hT1 := hJ1.tt h3 hT
  have hS1 := hJ1.ss h3 hs hS
  refine wp_eqst (st' := [vI ((called T S : Nat) : Int)]) rfl ?_
  refine wq_istore (pc := 22) [some (vR 45), some (vR s), some (vI (q : Int)), some (vI c), some (vI e), some (vI (((risers T S q) &&& (present T S c e) : Nat) : Int)), some (vI ((called T S : Nat) : Int)), none, none] dX3_quietOf_22 rfl (by decide) rfl ?_
  refine wp_ldc (pc := 24) (z := 100000000) dX3_quietOf_24 rfl k_X3_156 rfl ?_
  refine wq_istore (pc := 26) [some (vR 45), some (vR s), some (vI (q : Int)), some (vI c), some (vI e), some (vI (((risers T S q) &&& (present T S c e) : Nat) : Int)), some (vI ((called T S : Nat) : Int)), some (vI 100000000), none] dX3_quietOf_26 rfl (by decide) rfl ?_
  refine wp_iconst (pc := 28) dX3_quietOf_28 ?_
  refine wq_istore (pc := 29) [some (vR 45), some (vR s), some (vI (q : Int)), some (vI c), some (vI e), some (vI (((risers T S q) &&& (present T S c e) : Nat) : Int)), some (vI ((called T S : Nat) : Int)), some (vI 100000000), some (vI 0)] dX3_quietOf_29 rfl (by decide) rfl ?_
  exact lp_quietOf h3 hs hT hS hw hv hB hcd hq hc he hd hQ 0 (Nat.zero_le _) _ hJ1
