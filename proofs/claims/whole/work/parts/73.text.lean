/-! texts: the cells 1001, 1002 are the two Strings, 1003, 1004 their bytes -/
set_option maxRecDepth 100000 in
theorem fk_9 : Cond.fieldLink "java/lang/String" 9 "java/lang/String" "value" "[B" ∈ gw := gw_of (in_9 (List.mem_of_getElem? (i := 58) rfl)) rfl
set_option maxRecDepth 100000 in
theorem fk_15 : Cond.fieldLink "java/lang/String" 15 "java/lang/String" "coder" "B" ∈ gw := gw_of (in_9 (List.mem_of_getElem? (i := 59) rfl)) rfl
set_option maxRecDepth 100000 in
theorem fk_38 : Cond.fieldLink "java/lang/String" 38 "java/lang/String" "COMPACT_STRINGS" "Z" ∈ gw := gw_of (in_1 (List.mem_of_getElem? (i := 203) rfl)) rfl
def txL (x : Nat) : List Int := ((strL.getD x (0, "")).2.toList.map (fun ch => ((ch.toNat : Nat) : Int)))
def txC (x j : Nat) : Int := (txL x).getD j 0
abbrev txN (x : Nat) : Nat := if x = 0 then 108 else 11
theorem tx_len : ∀ x, x < 2 → ([(strB 0).length, (strB 1).length] : List Nat).getD x 0 = txN x := by decide +kernel
theorem tx_at : ∀ x, x < 2 → ∀ j, j < 120 → (([strB 0, strB 1] : List (List Int32)).getD x []).getD j 0 = Int32.ofInt (txC x j) := by decide +kernel
theorem tx_in : ∀ x, x < 2 → ∀ j, j < 120 → 0 ≤ txC x j ∧ txC x j ≤ 127 := by decide +kernel
section TEXT
variable {l : Launch} {G : mG} {μ : mM} {d nf : Nat} {I : mI} {X : mX} {pc : Nat} {ls : List (Option mV)} {st : List mV} {Q : mQ}
theorem wp_i2c {x : Int} (hd : decode μ.2.1 pc = .ok (.i2c, 1)) (hx : 0 ≤ x ∧ x < 65536) (k : WP l G μ d nf I X (pc + 1) ls (vI x :: st) Q) : WP l G μ d nf I X pc ls (vI x :: st) Q :=
  wp_pure (fun p e R s m args below meth c H locs cells slots cl Qw hF hL w => lv_i2c (x := Int32.ofInt x) (v := Int32.ofInt x) hF.1 hF.2.1 hd (by
    obtain ⟨n, rfl⟩ := Int.eq_ofNat_of_zero_le hx.1
    have hn : n < 65536 := by omega
    rw [oi_nat]
    apply Int32.toBitVec.inj
    apply BitVec.eq_of_toNat_eq
    show ((nI n).toUInt32.toBitVec % 65536).toNat = (nI n).toBitVec.toNat
    rw [BitVec.toNat_umod]
    show (nI n).toBitVec.toNat % _ = _
    rw [pk_tn (show n < 2 ^ 32 by omega)]
    exact Nat.mod_eq_of_lt hn) w) k
theorem ol_smod : ∀ n, n < 64 → ((nI n).toInt64 &&& 63) = lN n := by decide +kernel
theorem ol_shl (x : Int) (n : Nat) (hn : n < 64) : Int64.ofInt x <<< ((Int32.ofInt (n : Int)).toInt64 &&& 63) = Int64.ofInt (x * 2 ^ n) := by
  rw [oi_nat, ol_smod n hn]
  apply Int64.toBitVec.inj
  rw [Int64.toBitVec_shiftLeft]
  have e1 : ((lN n).toBitVec.smod 64) = BitVec.ofNat 64 n := (by decide +kernel : ∀ n, n < 64 → ((lN n).toBitVec.smod 64) = BitVec.ofNat 64 n) n hn
  rw [e1]
  apply BitVec.eq_of_toNat_eq
  rw [BitVec.shiftLeft_eq', BitVec.toNat_ofNat, Nat.mod_eq_of_lt (show n < 2 ^ 64 from Nat.lt_trans hn (by decide)), Int64.ofInt_mul, Int64.toBitVec_mul, BitVec.toNat_mul, BitVec.toNat_shiftLeft, Nat.shiftLeft_eq]
  have e2 : (Int64.ofInt (2 ^ n)).toBitVec.toNat = 2 ^ n := by
    rw [show ((2:Int) ^ n) = ((2 ^ n : Nat) : Int) by push_cast; rfl, ol_nat]
    show (BitVec.ofNat 64 (2 ^ n)).toNat = 2 ^ n
    rw [BitVec.toNat_ofNat, Nat.mod_eq_of_lt (Nat.pow_lt_pow_right (by decide) hn)]
  rw [e2]
theorem wp_lshl {x y : Int} (n : Nat) (hd : decode μ.2.1 pc = .ok (.lshl, 1)) (hy : y = (n : Int)) (hn : n < 64) (k : WP l G μ d nf I X (pc + 1) ls (vJ (x * 2 ^ n) :: st) Q) : WP l G μ d nf I X pc ls (vI y :: vJ x :: st) Q :=
  wp_pure (fun p e R s m args below meth c H locs cells slots cl Qw hF hL w => lv_lshl (x := Int64.ofInt x) (y := Int32.ofInt y) hF.1 hF.2.1 hd (by rw [hy]; exact ol_shl x n hn) w) k
theorem ol_or (z : Int) (n : Nat) (hn : n < 64) (y : Int) (h0 : 0 ≤ y) (h1 : y < 2 ^ n) : Int64.ofInt (z * 2 ^ n) ||| Int64.ofInt y = Int64.ofInt (z * 2 ^ n + y) := by
  obtain ⟨b, rfl⟩ := Int.eq_ofNat_of_zero_le h0
  have hb : b < 2 ^ n := by
    have : ((b : Nat) : Int) < ((2 ^ n : Nat) : Int) := by push_cast; exact h1
    omega
  have hb64 : b < 2 ^ 64 := Nat.lt_of_lt_of_le hb (Nat.pow_le_pow_right (by decide) (by omega))
  rw [Int64.ofInt_add]
  apply Int64.toBitVec.inj
  rw [Int64.toBitVec_or, Int64.toBitVec_add]
  refine (BitVec.add_eq_or_of_and_eq_zero _ _ ?_).symm
  have e1 : Int64.ofInt (z * 2 ^ n) = Int64.ofInt z <<< ((Int32.ofInt (n : Int)).toInt64 &&& 63) := (ol_shl z n hn).symm
  rw [e1, oi_nat, ol_smod n hn, Int64.toBitVec_shiftLeft, (by decide +kernel : ∀ n, n < 64 → ((lN n).toBitVec.smod 64) = BitVec.ofNat 64 n) n hn, ol_nat]
  apply BitVec.eq_of_getLsbD_eq
  intro i hi
  rw [BitVec.getLsbD_and, BitVec.shiftLeft_eq', BitVec.toNat_ofNat, Nat.mod_eq_of_lt (show n < 2 ^ 64 from Nat.lt_trans hn (by decide)), BitVec.getLsbD_shiftLeft]
  by_cases h : i < n
  · simp [h]
  · have e2 : (lN b).toBitVec.getLsbD i = false := by
      show (BitVec.ofNat 64 b).getLsbD i = false
      rw [BitVec.getLsbD_ofNat, Nat.testBit_lt_two_pow (Nat.lt_of_lt_of_le hb (Nat.pow_le_pow_right (by decide) (by omega)))]
      simp
    rw [e2]
    simp
theorem wp_lor {x y : Int} (z : Int) (n : Nat) (hd : decode μ.2.1 pc = .ok (.lor, 1)) (hx : x = z * 2 ^ n) (hn : n < 64) (h0 : 0 ≤ y) (h1 : y < 2 ^ n) (k : WP l G μ d nf I X (pc + 1) ls (vJ (x + y) :: st) Q) : WP l G μ d nf I X pc ls (vJ y :: vJ x :: st) Q :=
  wp_pure (fun p e R s m args below meth c H locs cells slots cl Qw hF hL w => lv_lor (x := Int64.ofInt x) (y := Int64.ofInt y) hF.1 hF.2.1 hd (by rw [hx, ol_or z n hn y h0 h1, ← hx]; exact w)) k
theorem wp_nret {x : Int} {ty : FieldType} (hd : decode μ.2.1 pc = .ok (.ireturn, 1)) (hr : μ.2.2.2 = some ty) (hn : X.2.2 = nf) (hx : narrow ty (.int (Int32.ofInt x)) = .int (Int32.ofInt x)) (hq : Q (some (vI x)) I X) : WP l G μ d nf I X pc ls [vI x] Q := by
  intro p e R s m args below meth c H locs cells slots n0 cl hF hR hH hL
  obtain ⟨r1, r2, r3, r4, r5, r6, r7, r8, r9⟩ := hR
  subst hn; subst r8; subst r9
  exact W.zret (v := Int32.ofInt x) (ty := ty) hF.1 hF.2.1 (hF.2.2.1.trans hr) hx (fun t ht _ => ⟨some (vI x), I, X, hq, rfl, rfl, by rw [ht]; exact hH.1, fun q hq => by rw [ht]; exact hH.2.1 q hq⟩) hH.2.2.1 hd hF.2.2.2.1
theorem wp_ldcS0 (hd : decode μ.2.1 pc = .ok (.ldc 19, 2)) (ho : μ.1.cls = "ThreeSundays$Tape") (k : WP l G μ d nf I X (pc + 2) ls (vR 1001 :: st) Q) : WP l G μ d nf I X pc ls st Q :=
  wp_pure (fun p e R s m args below meth c H locs cells slots cl Qw hF hL w => va_ldcS hF.1 hF.2.1 (by rw [← ho]; exact hF.2.2.2.2.2.1) hF.2.2.2.2.2.2.2.2.1.2.2.2.2.1 hd w) k
theorem wp_ldcS1 (hd : decode μ.2.1 pc = .ok (.ldc 81, 2)) (ho : μ.1.cls = "ThreeSundays$Tape") (k : WP l G μ d nf I X (pc + 2) ls (vR 1002 :: st) Q) : WP l G μ d nf I X pc ls st Q :=
  wp_pure (fun p e R s m args below meth c H locs cells slots cl Qw hF hL w => va_ldcS hF.1 hF.2.1 (by rw [← ho]; exact hF.2.2.2.2.2.1) hF.2.2.2.2.2.2.2.2.1.2.2.2.2.2 hd w) k
theorem wp_kval (x : Nat) (hx : x < 2) (hd : decode μ.2.1 pc = .ok (.getfield 9, 3)) (ho : μ.1.cls = "java/lang/String") (k : WP l G μ d nf I X (pc + 3) ls (vR (1003 + x) :: st) Q) : WP l G μ d nf I X pc ls (vR (1001 + x) :: st) Q := by
  intro p e R s m args below meth c H locs cells slots n0 cl hF hR hH hL
  exact vk_getf (A := fun q => G.1 ≤ q) hF.1 hF.2.1 (hF.2.2.2.2.2.2.2.2.2.1.2.1.1 x hx).2.2.1 (hp_S hH) (by rw [← ho]; exact hF.2.2.2.2.2.1) (hF.2.2.2.2.2.2.2.1 _ fk_9) (fun _ h => h) hd (k p e R s m args below meth c H locs cells slots n0 cl hF hR hH hL)
theorem wp_kcod (x : Nat) (hx : x < 2) (hd : decode μ.2.1 pc = .ok (.getfield 15, 3)) (ho : μ.1.cls = "java/lang/String") (k : WP l G μ d nf I X (pc + 3) ls (vI 0 :: st) Q) : WP l G μ d nf I X pc ls (vR (1001 + x) :: st) Q := by
  intro p e R s m args below meth c H locs cells slots n0 cl hF hR hH hL
  exact vk_getf (A := fun q => G.1 ≤ q) hF.1 hF.2.1 (hF.2.2.2.2.2.2.2.2.2.1.2.1.1 x hx).2.1 (hp_S hH) (by rw [← ho]; exact hF.2.2.2.2.2.1) (hF.2.2.2.2.2.2.2.1 _ fk_15) (fun _ h => h) hd (k p e R s m args below meth c H locs cells slots n0 cl hF hR hH hL)
theorem wp_kcs (hd : decode μ.2.1 pc = .ok (.getstatic 38, 3)) (ho : μ.1.cls = "java/lang/String") (k : WP l G μ d nf I X (pc + 3) ls (vI 1 :: st) Q) : WP l G μ d nf I X pc ls st Q := by
  intro p e R s m args below meth c H locs cells slots n0 cl hF hR hH hL
  exact va_gets (A := fun q => G.1 ≤ q) hF.1 hF.2.1 hF.2.2.2.2.2.2.2.2.2.1.2.2.1 (hp_S hH) (by rw [← ho]; exact hF.2.2.2.2.2.1) (hF.2.2.2.2.2.2.2.1 _ fk_38) (fun _ h => h) hd (k p e R s m args below meth c H locs cells slots n0 cl hF hR hH hL)
theorem txN_le (x : Nat) : txN x ≤ 120 := by unfold txN; split <;> decide
theorem wp_kald (x : Nat) {i : Int} (kk : Nat) (hx : x < 2) (hd : decode μ.2.1 pc = .ok (.baload, 1)) (hi : i = (kk : Int)) (h1 : kk < txN x) (k : WP l G μ d nf I X (pc + 1) ls (vI (txC x kk) :: st) Q) : WP l G μ d nf I X pc ls (vI i :: vR (1003 + x) :: st) Q := by
  intro p e R s m args below meth c H locs cells slots n0 cl hF hR hH hL
  subst hi
  have hn := txN_le x
  have hT := (hF.2.2.2.2.2.2.2.2.2.1.2.1.1 x hx).2.2.2
  rw [tx_len x hx] at hT
  refine va_tb (A := fun q => G.1 ≤ q) (i := Int32.ofInt (kk : Int)) (v := .int (Int32.ofInt (txC x kk))) hF.1 hF.2.1 hT (hp_S hH) (oi_in (by omega) (by omega) (by omega)) ?_ hd (k p e R s m args below meth c H locs cells slots n0 cl hF hR hH hL)
  rw [oi_clamp (by omega) (by omega), Int.toNat_natCast, tx_at x hx kk (by omega)]
theorem wp_klen (x : Nat) (hx : x < 2) (hd : decode μ.2.1 pc = .ok (.arraylength, 1)) (k : WP l G μ d nf I X (pc + 1) ls (vI ((txN x : Nat) : Int) :: st) Q) : WP l G μ d nf I X pc ls (vR (1003 + x) :: st) Q := by
  intro p e R s m args below meth c H locs cells slots n0 cl hF hR hH hL
  have hT := (hF.2.2.2.2.2.2.2.2.2.1.2.1.1 x hx).2.2.2
  rw [tx_len x hx] at hT
  exact va_tlen (A := fun q => G.1 ≤ q) (v := Int32.ofInt ((txN x : Nat) : Int)) hF.1 hF.2.1 hT (hp_S hH) (oi_nat _).symm hd (k p e R s m args below meth c H locs cells slots n0 cl hF hR hH hL)
/-- a call of a text's method -/
theorem wp_callK {own : String} {idx n nf' : Nat} {y : mM} (x : Nat) (hx : x < 2) (vs : List mV) (ls0 : List (Option mV)) {st1 : List mV} (hd : decode μ.2.1 pc = .ok (.invokevirtual idx, 3)) (ho : μ.1.cls = own) (hc : mCv own idx y n) (hvn : vs.length = n) (hcl : y.1.cls = "java/lang/String")
    (hent : entL y.2.2.1 (vR (1001 + x) :: vs) = ls0) (hel : (entS (vR (1001 + x) :: vs)).length ≤ y.2.2.1) (hst1 : st1 = vs.reverse ++ vR (1001 + x) :: st) (hcat : (st.map mcat).sum ≤ 8) (hdp : 0 < d) (hn1 : X.2.2 ≤ nf') (hn2 : nf' ≤ nf)
    (k : WP l G y (d - 1) nf' I X 0 ls0 [] (fun v I' X' => WP l G μ d nf I' X' (pc + 3) ls (v.toList ++ st) Q)) : WP l G μ d nf I X pc ls st1 Q := by
  intro p e R s m args below meth c H locs cells slots n0 cl hF hR hH hL
  obtain ⟨g1, g2, g3, g4, g5, g6, g7, g8, g9, g10⟩ := hc
  have hts := hF.2.2.2.2.2.2.2.1
  have hnT : nf' ≤ NT := Nat.le_trans hn2 hR.2.2.2.2.2.2.1
  subst hent
  have hM := met_of (vs := vR (1001 + x) :: vs) g6 hel hn1 hnT k
  have hrecv : ∃ cellB : Cell, H[ad G (1001 + x)]? = some cellB ∧ cellB.vm.isStatics = false ∧ s.vm.findClass y.1.cls = some cellB.cls := by
    rw [hcl]
    exact vk_recv (adK := fun i => ad G (1001 + i)) (i := x) hF.2.2.2.2.2.2.2.2.2.1.2.1 hx (hp_S hH)
  subst hst1
  obtain ⟨r1, r2, r3, r4, r5, r6, r7, r8, r9⟩ := hR
  have hsl := sl_mono X.2.2 nf' hn1 hnT
  have hsl0 := sl_mono n0 X.2.2 r5 (by omega)
  have hsl1 := sl_mono nf' nf hn2 r7
  refine wp_back (Q' := fun v I' X' => WP l G μ d nf I' X' (pc + 3) ls (v.toList ++ st) Q) (y := y) hF ⟨r1, r2, r3, r4, r5, r6, r7, r8, r9⟩ hH hL hn1 hn2 (va_runV (As := vs.map (cv G)) (b := ad G (1001 + x)) (n := n) (C := y.1.cls) (index := idx) (own := own) (Ts := gw) (cc := μ.2.1) (nL := μ.2.2.1) ⟨hF.1, hF.2.1, hF.2.2.2.2.1, by rw [← ho]; exact hF.2.2.2.2.2.1, hts⟩ hM
    ⟨callB_of n hts (good_cd g5) rfl rfl rfl (hts _ g4) (hts _ g1) ⟨g7, g8, g9⟩ ⟨?_, ?_⟩, hts _ g2, hts _ g3⟩ ⟨PcM_blind G I X _, hrecv, fun U hU hW => ⟨rfl, by rw [hU]; exact hH.1, KK.warm hW hF.2.2.2.2.2.2.2.2.1, ?_⟩⟩ rfl (by simpa using hvn) hL.1 ?_ ?_ hd ⟨?_, ?_⟩) (fun v I' X' h _ => h)
  · show d - 1 + 1 ≤ R.frames
    omega
  · show 8 + (y.2.2.1 + 11) + 64 * (d - 1) ≤ R.locals
    omega
  · rw [hU]
    exact KH.moved hW.alike (hF.2.2.2.2.2.2.2.2.2.1.kept (fun q hq => hH.2.1 q hq))
  · show (vs.reverse ++ vR (1001 + x) :: st).map (cv G) = _
    simp [cv]
  · exact lv_room (by rw [cat_map]; exact hcat)
  · show cells + (nf' - X.2.2) ≤ R.cells
    omega
  · show slots + (sl nf' - sl X.2.2) ≤ R.slots
    omega
def cmpL (x y : Int) : Int := if y < x then 1 else if x = y then 0 else -1
theorem cmpL_0 {x y : Int} : cmpL x y = 0 ↔ x = y := by
  unfold cmpL
  split
  · omega
  · split
    · next h => exact ⟨fun _ => h, fun _ => rfl⟩
    · next h => exact ⟨fun z => absurd z (by decide), fun z => absurd z h⟩
theorem cmpL_in (x y : Int) : -1 ≤ cmpL x y ∧ cmpL x y ≤ 1 := by
  unfold cmpL
  repeat' split
  all_goals decide
theorem wq_lcmp {x y : Int} (hd : decode μ.2.1 pc = .ok (.lcmp, 1)) (hx : inL x) (hy : inL y) (k : WP l G μ d nf I X (pc + 1) ls (vI (cmpL x y) :: st) Q) : WP l G μ d nf I X pc ls (vJ y :: vJ x :: st) Q := wp_lcmp hd hx hy k
end TEXT

/-- is it one of the signs? -/
def isSg (c : Int) : Prop := c = 59 ∨ c = 40 ∨ c = 41 ∨ c = 60 ∨ c = 62 ∨ c = 61 ∨ c = 43 ∨ c = 45 ∨ c = 42 ∨ c = 47 ∨ c = 37
theorem sg_tx {c : Int} : isSg c ↔ ∃ j, j < 11 ∧ txC 1 j = c := by
  constructor
  · rintro (rfl | rfl | rfl | rfl | rfl | rfl | rfl | rfl | rfl | rfl | rfl)
    · exact ⟨0, by decide, by decide +kernel⟩
    · exact ⟨1, by decide, by decide +kernel⟩
    · exact ⟨2, by decide, by decide +kernel⟩
    · exact ⟨3, by decide, by decide +kernel⟩
    · exact ⟨4, by decide, by decide +kernel⟩
    · exact ⟨5, by decide, by decide +kernel⟩
    · exact ⟨6, by decide, by decide +kernel⟩
    · exact ⟨7, by decide, by decide +kernel⟩
    · exact ⟨8, by decide, by decide +kernel⟩
    · exact ⟨9, by decide, by decide +kernel⟩
    · exact ⟨10, by decide, by decide +kernel⟩
  · rintro ⟨j, hj, rfl⟩
    have : j = 0 ∨ j = 1 ∨ j = 2 ∨ j = 3 ∨ j = 4 ∨ j = 5 ∨ j = 6 ∨ j = 7 ∨ j = 8 ∨ j = 9 ∨ j = 10 := by omega
    unfold isSg
    rcases this with rfl | rfl | rfl | rfl | rfl | rfl | rfl | rfl | rfl | rfl | rfl <;> decide +kernel

theorem lp_idx {l : Launch} {G : mG} {d : Nat} {I : mI} {L : Nat → Nat → Int} {D : Nat → Nat} {Q : mQ} {c : Int} (hc : 0 ≤ c ∧ c ≤ 255) (h1 : isSg c → ∀ z : Nat, z < 11 → Q (some (vI (z : Int))) I (XX L D)) (h0 : ¬ isSg c → Q (some (vI (-1))) I (XX L D)) : ∀ i : Nat, i ≤ 11 → (∀ j, j < i → txC 1 j ≠ c) → WP l G m_J1_indexOfChar_4cfef d 153 I (XX L D) 7 [some (vR 1004), some (vI c), some (vI 0), some (vI 11), some (vI (Int.bmod c 256)), some (vI (i : Int))] [] Q := by
  have bm : Int.bmod c 256 = if c < 128 then c else c - 256 := by unfold Int.bmod; simp only []; split <;> split <;> omega
  refine loop_dn (fun i => (∀ j, j < i → txC 1 j ≠ c) → WP l G m_J1_indexOfChar_4cfef d 153 I (XX L D) 7 [some (vR 1004), some (vI c), some (vI 0), some (vI 11), some (vI (Int.bmod c 256)), some (vI (i : Int))] [] Q) 11 ?_ (fun i hi ih => ?_)
  · intro ha
    refine wp_iload (pc := 7) dJ1_indexOfChar_4cfef_7 rfl ?_
    refine wp_iload_n (pc := 9) 3 dJ1_indexOfChar_4cfef_9 rfl rfl ?_
    refine wp_icmp_ge (pc := 10) 31 dJ1_indexOfChar_4cfef_10 (by decide) (by decide) (by decide) (fun _ => ?_) (fun hh => absurd hh (by decide))
    refine wp_iconst (pc := 31) dJ1_indexOfChar_4cfef_31 ?_
    refine wp_iret (pc := 32) dJ1_indexOfChar_4cfef_32 rfl rfl ?_
    exact h0 (fun x => by obtain ⟨j, hj, e⟩ := sg_tx.mp x; exact ha j hj e)
  · intro ha
    have bt := tx_in 1 (by decide) i (by omega)
    have bi : inR (Int.bmod c 256) := by split at bm <;> omega
    have bN : txN 1 = 11 := rfl
    refine wp_iload (pc := 7) dJ1_indexOfChar_4cfef_7 rfl ?_
    refine wp_iload_n (pc := 9) 3 dJ1_indexOfChar_4cfef_9 rfl rfl ?_
    refine wp_icmp_ge (pc := 10) 31 dJ1_indexOfChar_4cfef_10 (by decide) (by omega) (by decide) (fun h_1 => ?_) (fun h_1 => ?_)
    · exfalso; omega
    · refine wp_aload_n (pc := 13) 0 dJ1_indexOfChar_4cfef_13 rfl rfl ?_
      refine wp_iload (pc := 14) dJ1_indexOfChar_4cfef_14 rfl ?_
      refine wp_kald (pc := 16) 1 i (by decide) dJ1_indexOfChar_4cfef_16 rfl (by omega) ?_
      refine wp_iload (pc := 17) dJ1_indexOfChar_4cfef_17 rfl ?_
      refine wp_icmp_ne (pc := 19) 25 dJ1_indexOfChar_4cfef_19 (by decide) (by omega) (by omega) (fun h_2 => ?_) (fun h_2 => ?_)
      · refine wq_iinc (pc := 25) [some (vR 1004), some (vI c), some (vI 0), some (vI 11), some (vI (Int.bmod c 256)), some (vI ((i : Int) + 1))] dJ1_indexOfChar_4cfef_25 rfl rfl (by decide) rfl ?_
        refine wp_goto (pc := 28) 7 dJ1_indexOfChar_4cfef_28 (by decide) ?_
        refine wp_eqls (ls' := [some (vR 1004), some (vI c), some (vI 0), some (vI 11), some (vI (Int.bmod c 256)), some (vI (((i + 1) : Nat) : Int))]) rfl (ih (fun j hj => ?_))
        by_cases e : j = i
        · rw [e]; split at bm <;> omega
        · exact ha j (by omega)
      · refine wp_iload (pc := 22) dJ1_indexOfChar_4cfef_22 rfl ?_
        refine wp_iret (pc := 24) dJ1_indexOfChar_4cfef_24 rfl rfl ?_
        exact h1 (sg_tx.mpr ⟨i, hi, by split at bm <;> omega⟩) i hi

theorem sp_idxChar {l : Launch} {G : mG} {d : Nat} {I : mI} {L : Nat → Nat → Int} {D : Nat → Nat} {Q : mQ} {c : Int}  (hc : 0 ≤ c ∧ c ≤ 255) (hd : 0 ≤ d) (h1 : isSg c → ∀ z : Nat, z < 11 → Q (some (vI (z : Int))) I (XX L D)) (h0 : ¬ isSg c → Q (some (vI (-1))) I (XX L D)) : WP l G m_J1_indexOfChar_4cfef d 153 I (XX L D) 0 [some (vR 1004), some (vI c), some (vI 0), some (vI 11), none, none] [] Q := by
  refine wp_iload_n (pc := 0) 1 dJ1_indexOfChar_4cfef_0 rfl rfl ?_
  refine wp_i2b (pc := 1) dJ1_indexOfChar_4cfef_1 ?_
  refine wq_istore (pc := 2) [some (vR 1004), some (vI c), some (vI 0), some (vI 11), some (vI (Int.bmod c 256)), none] dJ1_indexOfChar_4cfef_2 rfl (by decide) rfl ?_
  refine wp_iload_n (pc := 4) 2 dJ1_indexOfChar_4cfef_4 rfl rfl ?_
  refine wq_istore (pc := 5) [some (vR 1004), some (vI c), some (vI 0), some (vI 11), some (vI (Int.bmod c 256)), some (vI 0)] dJ1_indexOfChar_4cfef_5 rfl (by decide) rfl ?_
  exact lp_idx hc h1 h0 0 (Nat.zero_le _) (fun j h => absurd h (Nat.not_lt_zero j))

theorem sp_indexOf {l : Launch} {G : mG} {d : Nat} {I : mI} {L : Nat → Nat → Int} {D : Nat → Nat} {Q : mQ} {c : Int}  (hc : 0 ≤ c ∧ c ≤ 255) (hd : 4 ≤ d) (h1 : isSg c → ∀ z : Nat, z < 11 → Q (some (vI (z : Int))) I (XX L D)) (h0 : ¬ isSg c → Q (some (vI (-1))) I (XX L D)) : WP l G m_J0_indexOf_0f7a4 d 153 I (XX L D) 0 [some (vR 1002), some (vI c)] [] Q := by
  refine wp_aload_n (pc := 0) 0 dJ0_indexOf_0f7a4_0 rfl rfl ?_
  refine wp_iload_n (pc := 1) 1 dJ0_indexOf_0f7a4_1 rfl rfl ?_
  refine wp_iconst (pc := 2) dJ0_indexOf_0f7a4_2 ?_
  refine wp_callK (pc := 3) (st := []) (nf' := 153) 1 (by decide) [vI c, vI 0] [some (vR 1002), some (vI c), some (vI 0)] dJ0_indexOf_0f7a4_3 rfl c_J0_633 rfl rfl rfl (Nat.le_of_ble_eq_true rfl) rfl (Nat.le_of_ble_eq_true rfl) (by omega) (Nat.le_refl _) (Nat.le_refl _) ?_
  refine wp_aload_n (pc := 0) 0 dJ0_indexOf_7cf53_0 rfl rfl ?_
  refine wp_callK (pc := 1) (st := []) (nf' := 153) 1 (by decide) [] [some (vR 1002)] dJ0_indexOf_7cf53_1 rfl c_J0_492 rfl rfl rfl (Nat.le_of_ble_eq_true rfl) rfl (Nat.le_of_ble_eq_true rfl) (by omega) (Nat.le_refl _) (Nat.le_refl _) ?_
  refine wp_kcs (pc := 0) dJ0_isLatin1_aae02_0 rfl ?_
  refine wp_if_eq (pc := 3) 17 dJ0_isLatin1_aae02_3 (by decide) (by decide) (fun hh => absurd hh (by decide)) (fun _ => ?_)
  refine wp_aload_n (pc := 6) 0 dJ0_isLatin1_aae02_6 rfl rfl ?_
  refine wp_kcod (pc := 7) 1 (by decide) dJ0_isLatin1_aae02_7 rfl ?_
  refine wp_if_ne (pc := 10) 17 dJ0_isLatin1_aae02_10 (by decide) (by decide) (fun hh => absurd hh (by decide)) (fun _ => ?_)
  refine wp_iconst (pc := 13) dJ0_isLatin1_aae02_13 ?_
  refine wp_goto (pc := 14) 18 dJ0_isLatin1_aae02_14 (by decide) ?_
  refine wp_zret (pc := 18) dJ0_isLatin1_aae02_18 rfl rfl (by decide) ?_
  refine wp_eqst (st' := [vI 1]) rfl ?_
  refine wp_if_eq (pc := 4) 23 dJ0_indexOf_7cf53_4 (by decide) (by decide) (fun hh => absurd hh (by decide)) (fun _ => ?_)
  refine wp_aload_n (pc := 7) 0 dJ0_indexOf_7cf53_7 rfl rfl ?_
  refine wp_kval (pc := 8) 1 (by decide) dJ0_indexOf_7cf53_8 rfl ?_
  refine wp_iload_n (pc := 11) 1 dJ0_indexOf_7cf53_11 rfl rfl ?_
  refine wp_iload_n (pc := 12) 2 dJ0_indexOf_7cf53_12 rfl rfl ?_
  refine wp_aload_n (pc := 13) 0 dJ0_indexOf_7cf53_13 rfl rfl ?_
  refine wp_callK (pc := 14) (st := [vI 0, vI c, vR 1004]) (nf' := 153) 1 (by decide) [] [some (vR 1002)] dJ0_indexOf_7cf53_14 rfl c_J0_505 rfl rfl rfl (Nat.le_of_ble_eq_true rfl) rfl (Nat.le_of_ble_eq_true rfl) (by omega) (Nat.le_refl _) (Nat.le_refl _) ?_
  refine wp_aload_n (pc := 0) 0 dJ0_length_8abf5_0 rfl rfl ?_
  refine wp_kval (pc := 1) 1 (by decide) dJ0_length_8abf5_1 rfl ?_
  refine wp_klen (pc := 4) 1 (by decide) dJ0_length_8abf5_4 ?_
  refine wp_eqst (st' := [vI 11]) rfl ?_
  refine wp_aload_n (pc := 5) 0 dJ0_length_8abf5_5 rfl rfl ?_
  refine wp_callK (pc := 6) (st := [vI 11]) (nf' := 153) 1 (by decide) [] [some (vR 1002)] dJ0_length_8abf5_6 rfl c_J0_335 rfl rfl rfl (Nat.le_of_ble_eq_true rfl) rfl (Nat.le_of_ble_eq_true rfl) (by omega) (Nat.le_refl _) (Nat.le_refl _) ?_
  refine wp_kcs (pc := 0) dJ0_coder_7d493_0 rfl ?_
  refine wp_if_eq (pc := 3) 13 dJ0_coder_7d493_3 (by decide) (by decide) (fun hh => absurd hh (by decide)) (fun _ => ?_)
  refine wp_aload_n (pc := 6) 0 dJ0_coder_7d493_6 rfl rfl ?_
  refine wp_kcod (pc := 7) 1 (by decide) dJ0_coder_7d493_7 rfl ?_
  refine wp_goto (pc := 10) 14 dJ0_coder_7d493_10 (by decide) ?_
  refine wp_nret (pc := 14) dJ0_coder_7d493_14 rfl rfl rfl ?_
  refine wp_eqst (st' := [vI 0, vI 11]) rfl ?_
  refine wn_shr (pc := 9) 11 0 dJ0_length_8abf5_9 rfl rfl (by omega) (by omega) ?_
  refine wp_iret (pc := 10) dJ0_length_8abf5_10 rfl rfl ?_
  refine wp_eqst (st' := [vI ((11 / 2 ^ 0 : Nat) : Int), vI 0, vI c, vR 1004]) rfl ?_
  refine wp_callS (pc := 17) (st := []) (nf' := 153) [vR 1004, vI c, vI 0, vI ((11 / 2 ^ 0 : Nat) : Int)] [some (vR 1004), some (vI c), some (vI 0), some (vI ((11 / 2 ^ 0 : Nat) : Int))] dJ0_indexOf_7cf53_17 rfl c_J0_637 rfl rfl (Nat.le_of_ble_eq_true rfl) rfl (Nat.le_of_ble_eq_true rfl) (by omega) (Nat.le_refl _) (Nat.le_refl _) ?_
  refine wp_iload_n (pc := 0) 1 dJ1_indexOf_4cfef_0 rfl rfl ?_
  refine wp_callS (pc := 1) (st := []) (nf' := 153) [vI c] [some (vI c)] dJ1_indexOf_4cfef_1 rfl c_J1_88 rfl rfl (Nat.le_of_ble_eq_true rfl) rfl (Nat.le_of_ble_eq_true rfl) (by omega) (Nat.le_refl _) (Nat.le_refl _) ?_
  refine wp_iload_n (pc := 0) 0 dJ1_canEncode_9a6ad_0 rfl rfl ?_
  refine wp_if_lt (pc := 1) 15 dJ1_canEncode_9a6ad_1 (by decide) (by omega) (fun h_1 => ?_) (fun h_1 => ?_)
  · refine wp_iconst (pc := 15) dJ1_canEncode_9a6ad_15 ?_
    refine wp_zret (pc := 16) dJ1_canEncode_9a6ad_16 rfl rfl (by decide) ?_
    refine wp_eqst (st' := [vI 0]) rfl ?_
    refine wp_if_ne (pc := 4) 9 dJ1_indexOf_4cfef_4 (by decide) (by decide) (fun hh => absurd hh (by decide)) (fun _ => ?_)
    refine wp_iconst (pc := 7) dJ1_indexOf_4cfef_7 ?_
    refine wp_iret (pc := 8) dJ1_indexOf_4cfef_8 rfl rfl ?_
    refine wp_eqst (st' := [vI (-1)]) rfl ?_
    refine wp_goto (pc := 20) 36 dJ0_indexOf_7cf53_20 (by decide) ?_
    refine wp_iret (pc := 36) dJ0_indexOf_7cf53_36 rfl rfl ?_
    refine wp_eqst (st' := [vI (-1)]) rfl ?_
    refine wp_iret (pc := 6) dJ0_indexOf_0f7a4_6 rfl rfl ?_
    exfalso; omega
  · refine wp_iload_n (pc := 4) 0 dJ1_canEncode_9a6ad_4 rfl rfl ?_
    refine wp_sipush (pc := 5) dJ1_canEncode_9a6ad_5 (by decide) ?_
    refine wp_icmp_gt (pc := 8) 15 dJ1_canEncode_9a6ad_8 (by decide) (by omega) (by decide) (fun h_2 => ?_) (fun h_2 => ?_)
    · refine wp_iconst (pc := 15) dJ1_canEncode_9a6ad_15 ?_
      refine wp_zret (pc := 16) dJ1_canEncode_9a6ad_16 rfl rfl (by decide) ?_
      refine wp_eqst (st' := [vI 0]) rfl ?_
      refine wp_if_ne (pc := 4) 9 dJ1_indexOf_4cfef_4 (by decide) (by decide) (fun hh => absurd hh (by decide)) (fun _ => ?_)
      refine wp_iconst (pc := 7) dJ1_indexOf_4cfef_7 ?_
      refine wp_iret (pc := 8) dJ1_indexOf_4cfef_8 rfl rfl ?_
      refine wp_eqst (st' := [vI (-1)]) rfl ?_
      refine wp_goto (pc := 20) 36 dJ0_indexOf_7cf53_20 (by decide) ?_
      refine wp_iret (pc := 36) dJ0_indexOf_7cf53_36 rfl rfl ?_
      refine wp_eqst (st' := [vI (-1)]) rfl ?_
      refine wp_iret (pc := 6) dJ0_indexOf_0f7a4_6 rfl rfl ?_
      exfalso; omega
    · refine wp_iconst (pc := 11) dJ1_canEncode_9a6ad_11 ?_
      refine wp_goto (pc := 12) 16 dJ1_canEncode_9a6ad_12 (by decide) ?_
      refine wp_zret (pc := 16) dJ1_canEncode_9a6ad_16 rfl rfl (by decide) ?_
      refine wp_eqst (st' := [vI 1]) rfl ?_
      refine wp_if_ne (pc := 4) 9 dJ1_indexOf_4cfef_4 (by decide) (by decide) (fun _ => ?_) (fun hh => absurd hh (by decide))
      refine wp_iload_n (pc := 9) 2 dJ1_indexOf_4cfef_9 rfl rfl ?_
      refine wp_iconst (pc := 10) dJ1_indexOf_4cfef_10 ?_
      refine wp_max (pc := 11) dJ1_indexOf_4cfef_11 rfl c_J1_92 (by omega) (by omega) (Nat.le_of_ble_eq_true rfl) (by omega) ?_
      refine wq_istore_n (pc := 14) 2 [some (vR 1004), some (vI c), some (vI (if 0 < 0 then 0 else 0)), some (vI ((11 / 2 ^ 0 : Nat) : Int))] dJ1_indexOf_4cfef_14 rfl rfl (by decide) rfl ?_
      refine wp_iload_n (pc := 15) 3 dJ1_indexOf_4cfef_15 rfl rfl ?_
      refine wp_aload_n (pc := 16) 0 dJ1_indexOf_4cfef_16 rfl rfl ?_
      refine wp_klen (pc := 17) 1 (by decide) dJ1_indexOf_4cfef_17 ?_
      refine wp_eqst (st' := [vI 11, vI ((11 / 2 ^ 0 : Nat) : Int)]) rfl ?_
      refine wp_min (pc := 18) dJ1_indexOf_4cfef_18 rfl c_J1_38 (by omega) (by omega) (Nat.le_of_ble_eq_true rfl) (by omega) ?_
      refine wq_istore_n (pc := 21) 3 [some (vR 1004), some (vI c), some (vI (if 0 < 0 then 0 else 0)), some (vI (if 11 < ((11 / 2 ^ 0 : Nat) : Int) then 11 else ((11 / 2 ^ 0 : Nat) : Int)))] dJ1_indexOf_4cfef_21 rfl rfl (by decide) rfl ?_
      refine wp_iload_n (pc := 22) 2 dJ1_indexOf_4cfef_22 rfl rfl ?_
      refine wp_iload_n (pc := 23) 3 dJ1_indexOf_4cfef_23 rfl rfl ?_
      refine wp_icmp_lt (pc := 24) 29 dJ1_indexOf_4cfef_24 (by decide) (by omega) (by omega) (fun h_3 => ?_) (fun h_3 => ?_)
      · refine wp_aload_n (pc := 29) 0 dJ1_indexOf_4cfef_29 rfl rfl ?_
        refine wp_iload_n (pc := 30) 1 dJ1_indexOf_4cfef_30 rfl rfl ?_
        refine wp_iload_n (pc := 31) 2 dJ1_indexOf_4cfef_31 rfl rfl ?_
        refine wp_iload_n (pc := 32) 3 dJ1_indexOf_4cfef_32 rfl rfl ?_
        refine wp_callS (pc := 33) (st := []) (nf' := 153) [vR 1004, vI c, vI (if 0 < 0 then 0 else 0), vI (if 11 < ((11 / 2 ^ 0 : Nat) : Int) then 11 else ((11 / 2 ^ 0 : Nat) : Int))] [some (vR 1004), some (vI c), some (vI (if 0 < 0 then 0 else 0)), some (vI (if 11 < ((11 / 2 ^ 0 : Nat) : Int) then 11 else ((11 / 2 ^ 0 : Nat) : Int))), none, none] dJ1_indexOf_4cfef_33 rfl c_J1_95 rfl rfl (Nat.le_of_ble_eq_true rfl) rfl (Nat.le_of_ble_eq_true rfl) (by omega) (Nat.le_refl _) (Nat.le_refl _) ?_
        refine sp_idxChar hc (by omega) (fun h_4 z hz => ?_) (fun h_4 => ?_)
        · refine wp_eqst (st' := [vI (z : Int)]) rfl ?_
          refine wp_iret (pc := 36) dJ1_indexOf_4cfef_36 rfl rfl ?_
          refine wp_eqst (st' := [vI (z : Int)]) rfl ?_
          refine wp_goto (pc := 20) 36 dJ0_indexOf_7cf53_20 (by decide) ?_
          refine wp_iret (pc := 36) dJ0_indexOf_7cf53_36 rfl rfl ?_
          refine wp_eqst (st' := [vI (z : Int)]) rfl ?_
          refine wp_iret (pc := 6) dJ0_indexOf_0f7a4_6 rfl rfl ?_
          exact h1 h_4 z hz
        · refine wp_eqst (st' := [vI (-1)]) rfl ?_
          refine wp_iret (pc := 36) dJ1_indexOf_4cfef_36 rfl rfl ?_
          refine wp_eqst (st' := [vI (-1)]) rfl ?_
          refine wp_goto (pc := 20) 36 dJ0_indexOf_7cf53_20 (by decide) ?_
          refine wp_iret (pc := 36) dJ0_indexOf_7cf53_36 rfl rfl ?_
          refine wp_eqst (st' := [vI (-1)]) rfl ?_
          refine wp_iret (pc := 6) dJ0_indexOf_0f7a4_6 rfl rfl ?_
          exact h0 h_4
      · refine wp_iconst (pc := 27) dJ1_indexOf_4cfef_27 ?_
        refine wp_iret (pc := 28) dJ1_indexOf_4cfef_28 rfl rfl ?_
        refine wp_eqst (st' := [vI (-1)]) rfl ?_
        refine wp_goto (pc := 20) 36 dJ0_indexOf_7cf53_20 (by decide) ?_
        refine wp_iret (pc := 36) dJ0_indexOf_7cf53_36 rfl rfl ?_
        refine wp_eqst (st' := [vI (-1)]) rfl ?_
        refine wp_iret (pc := 6) dJ0_indexOf_0f7a4_6 rfl rfl ?_
        exfalso; omega
