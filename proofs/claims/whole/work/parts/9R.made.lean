/-! WHAT IS MADE -/
/-- references as they were written, the last one ahead -/
def lk : List (Nat × Nat × Nat) → Nat → Nat → Option Nat
  | [] => fun _ _ => none
  | w :: ws => upR (lk ws) w.1 w.2.1 (some w.2.2)
theorem lk_no : ∀ {ws : List (Nat × Nat × Nat)} {a : Nat}, ws.all (fun w => w.1 != a) = true → ∀ j, lk ws a j = none
  | [], _, _, _ => rfl
  | w :: ws, a, h, j => by
    rw [List.all_cons, Bool.and_eq_true] at h
    have h1 : a ≠ w.1 := by
      have := h.1
      simp only [bne_iff_ne, ne_eq] at this
      exact fun z => this z.symm
    show upR (lk ws) w.1 w.2.1 (some w.2.2) a j = none
    unfold upR
    rw [if_neg (fun z => h1 z.1)]
    exact lk_no h.2 j
theorem lk_app {rs ws : List (Nat × Nat × Nat)} {b : Nat} : (∀ w ∈ rs, w.1 ≠ b) → lk (rs ++ ws) b = lk ws b := by
  induction rs with
  | nil => exact fun _ => rfl
  | cons w rs ih =>
    intro h
    funext j
    show upR (lk (rs ++ ws)) w.1 w.2.1 (some w.2.2) b j = _
    unfold upR
    rw [if_neg (fun z => h w List.mem_cons_self z.1.symm)]
    exact congrFun (ih (fun v hv => h v (List.mem_cons_of_mem _ hv))) j
theorem up_same {I : mI} {a j : Nat} {v : Int} (h : I a j = v) : up I a j v = I := by
  funext b k
  unfold up
  by_cases z : b = a ∧ k = j
  · rw [if_pos z, z.1, z.2, h]
  · rw [if_neg z]
theorem upR_same {R : Nat → Nat → Option Nat} {a j : Nat} {v : Option Nat} (h : R a j = v) : upR R a j v = R := by
  funext b k
  unfold upR
  by_cases z : b = a ∧ k = j
  · rw [if_pos z, z.1, z.2, h]
  · rw [if_neg z]
theorem ext_cpy {I : mI} {a0 a sp dp n : Nat} (h0 : ∀ j, I a0 j = 0) (h1 : ∀ j, I a j = 0) : ∀ b j, j < (kd b).2 → I b j = cpy I a0 a sp dp n b j := by
  intro b j _
  unfold cpy
  split
  · next h => rw [h.1, h1, h0]
  · rfl
theorem ext_upc {I : mI} {a : Nat} {f : Nat → Int} (h1 : ∀ j, I a j = 0) (hf : ∀ j, f j = 0) : ∀ b j, j < (kd b).2 → I b j = upc I a f b j := by
  intro b j _
  unfold upc
  split
  · next h => rw [h, h1, hf]
  · rfl
def lz : Nat → Nat → Int := fun _ _ => 0
def lT (f : Nat → Int) : Nat → Nat → Int := fun a j => if a = 43 then f j else 0
/-- the words are spelt: behind k letters -/
def tpS : Nat → Nat × (Nat → Int)
  | 0 => (0, fun _ => 0)
  | k + 1 => if txC 0 k = 32 then ((tpS k).1 + 1, (tpS k).2) else if (tpS k).1 < 21 then ((tpS k).1, setF (tpS k).2 (tpS k).1 ((tpS k).2 (tpS k).1 * 2 ^ 5 + (txC 0 k - 97 + 1))) else tpS k
def lF : Nat → Nat → Int := lT (tpS 108).2
def wk_0 : List (Nat × Nat × Nat) := []
def ik_0 : mI := fun _ _ => 0
def wk_1 : List (Nat × Nat × Nat) := (1, 0, 2) :: wk_0
def wk_2 : List (Nat × Nat × Nat) := (1, 1, 3) :: wk_1
def wk_3 : List (Nat × Nat × Nat) := (1, 2, 4) :: wk_2
def wk_4 : List (Nat × Nat × Nat) := (1, 3, 5) :: wk_3
def wk_5 : List (Nat × Nat × Nat) := (1, 4, 6) :: wk_4
def wk_6 : List (Nat × Nat × Nat) := (1, 5, 7) :: wk_5
def wk_7 : List (Nat × Nat × Nat) := (1, 6, 8) :: wk_6
def wk_8 : List (Nat × Nat × Nat) := (1, 7, 9) :: wk_7
def wk_9 : List (Nat × Nat × Nat) := (1, 8, 10) :: wk_8
def wk_10 : List (Nat × Nat × Nat) := (11, 0, 12) :: wk_9
def wk_11 : List (Nat × Nat × Nat) := (11, 1, 13) :: wk_10
def wk_12 : List (Nat × Nat × Nat) := (11, 2, 14) :: wk_11
def wk_13 : List (Nat × Nat × Nat) := (11, 3, 15) :: wk_12
def wk_14 : List (Nat × Nat × Nat) := (11, 4, 16) :: wk_13
def wk_15 : List (Nat × Nat × Nat) := (11, 5, 17) :: wk_14
def wk_16 : List (Nat × Nat × Nat) := (1, 9, 11) :: wk_15
def wk_17 : List (Nat × Nat × Nat) := (18, 0, 19) :: wk_16
def wk_18 : List (Nat × Nat × Nat) := (18, 1, 20) :: wk_17
def wk_19 : List (Nat × Nat × Nat) := (1, 10, 18) :: wk_18
def ik_1 : mI := up ik_0 1 15 (4)
def ik_2 : mI := up ik_1 1 16 (2)
def wk_20 : List (Nat × Nat × Nat) := (0, 0, 1) :: wk_19
def wk_21 : List (Nat × Nat × Nat) := (21, 0, 22) :: wk_20
def wk_22 : List (Nat × Nat × Nat) := (21, 1, 23) :: wk_21
def wk_23 : List (Nat × Nat × Nat) := (21, 2, 24) :: wk_22
def wk_24 : List (Nat × Nat × Nat) := (21, 3, 25) :: wk_23
def wk_25 : List (Nat × Nat × Nat) := (21, 4, 26) :: wk_24
def wk_26 : List (Nat × Nat × Nat) := (21, 5, 27) :: wk_25
def wk_27 : List (Nat × Nat × Nat) := (21, 6, 28) :: wk_26
def wk_28 : List (Nat × Nat × Nat) := (21, 7, 29) :: wk_27
def wk_29 : List (Nat × Nat × Nat) := (21, 8, 30) :: wk_28
def wk_30 : List (Nat × Nat × Nat) := (31, 0, 32) :: wk_29
def wk_31 : List (Nat × Nat × Nat) := (31, 1, 33) :: wk_30
def wk_32 : List (Nat × Nat × Nat) := (31, 2, 34) :: wk_31
def wk_33 : List (Nat × Nat × Nat) := (31, 3, 35) :: wk_32
def wk_34 : List (Nat × Nat × Nat) := (31, 4, 36) :: wk_33
def wk_35 : List (Nat × Nat × Nat) := (31, 5, 37) :: wk_34
def wk_36 : List (Nat × Nat × Nat) := (21, 9, 31) :: wk_35
def wk_37 : List (Nat × Nat × Nat) := (38, 0, 39) :: wk_36
def wk_38 : List (Nat × Nat × Nat) := (38, 1, 40) :: wk_37
def wk_39 : List (Nat × Nat × Nat) := (21, 10, 38) :: wk_38
def ik_3 : mI := up ik_2 21 15 (4)
def ik_4 : mI := up ik_3 21 16 (2)
def wk_40 : List (Nat × Nat × Nat) := (0, 1, 21) :: wk_39
def wk_41 : List (Nat × Nat × Nat) := (41, 0, 42) :: wk_40
def wk_42 : List (Nat × Nat × Nat) := (41, 1, 43) :: wk_41
def wk_43 : List (Nat × Nat × Nat) := (0, 2, 41) :: wk_42
def ik_5 : mI := up ik_4 44 4 (-1)
def wk_44 : List (Nat × Nat × Nat) := (44, 0, 41) :: wk_43
def wk_45 : List (Nat × Nat × Nat) := (44, 1, 21) :: wk_44
def wk_46 : List (Nat × Nat × Nat) := (0, 3, 44) :: wk_45
def wk_47 : List (Nat × Nat × Nat) := (45, 0, 46) :: wk_46
def wk_48 : List (Nat × Nat × Nat) := (45, 1, 1) :: wk_47
def wk_49 : List (Nat × Nat × Nat) := (0, 4, 45) :: wk_48
def wk_50 : List (Nat × Nat × Nat) := (47, 0, 48) :: wk_49
def wk_51 : List (Nat × Nat × Nat) := (0, 5, 47) :: wk_50
def wk_52 : List (Nat × Nat × Nat) := (49, 0, 50) :: wk_51
def wk_53 : List (Nat × Nat × Nat) := (0, 6, 49) :: wk_52
def wk_54 : List (Nat × Nat × Nat) := (List.range 41).map (fun j => (52, j, 53 + j)) ++ wk_53
def wk_55 : List (Nat × Nat × Nat) := (51, 0, 52) :: wk_54
def wk_56 : List (Nat × Nat × Nat) := (0, 7, 51) :: wk_55
def wk_57 : List (Nat × Nat × Nat) := (95, 0, 96) :: wk_56
def wk_58 : List (Nat × Nat × Nat) := (94, 0, 95) :: wk_57
def wk_59 : List (Nat × Nat × Nat) := (97, 0, 98) :: wk_58
def wk_60 : List (Nat × Nat × Nat) := (94, 1, 97) :: wk_59
def wk_61 : List (Nat × Nat × Nat) := (99, 0, 100) :: wk_60
def wk_62 : List (Nat × Nat × Nat) := (94, 2, 99) :: wk_61
def wk_63 : List (Nat × Nat × Nat) := (0, 8, 94) :: wk_62
def wk_64 : List (Nat × Nat × Nat) := (101, 0, 102) :: wk_63
def wk_65 : List (Nat × Nat × Nat) := (101, 1, 103) :: wk_64
def wk_66 : List (Nat × Nat × Nat) := (0, 9, 101) :: wk_65
def wk_67 : List (Nat × Nat × Nat) := (104, 0, 105) :: wk_66
def wk_68 : List (Nat × Nat × Nat) := (104, 1, 106) :: wk_67
def wk_69 : List (Nat × Nat × Nat) := (104, 2, 107) :: wk_68
def wk_70 : List (Nat × Nat × Nat) := (104, 3, 108) :: wk_69
def wk_71 : List (Nat × Nat × Nat) := (104, 4, 109) :: wk_70
def wk_72 : List (Nat × Nat × Nat) := (104, 5, 110) :: wk_71
def wk_73 : List (Nat × Nat × Nat) := (0, 10, 104) :: wk_72
def wk_74 : List (Nat × Nat × Nat) := (111, 0, 112) :: wk_73
def ik_6 : mI := up ik_5 111 3 (-1)
def wk_75 : List (Nat × Nat × Nat) := (111, 10, 113) :: wk_74
def wk_76 : List (Nat × Nat × Nat) := (111, 11, 114) :: wk_75
def wk_77 : List (Nat × Nat × Nat) := (111, 12, 115) :: wk_76
def wk_78 : List (Nat × Nat × Nat) := (111, 13, 116) :: wk_77
def wk_79 : List (Nat × Nat × Nat) := (111, 14, 117) :: wk_78
def wk_80 : List (Nat × Nat × Nat) := (111, 15, 118) :: wk_79
def wk_81 : List (Nat × Nat × Nat) := (111, 16, 119) :: wk_80
def wk_82 : List (Nat × Nat × Nat) := (111, 24, 120) :: wk_81
def wk_83 : List (Nat × Nat × Nat) := (111, 25, 121) :: wk_82
def wk_84 : List (Nat × Nat × Nat) := (111, 26, 122) :: wk_83
def wk_85 : List (Nat × Nat × Nat) := (111, 27, 123) :: wk_84
def wk_86 : List (Nat × Nat × Nat) := (111, 28, 124) :: wk_85
def wk_87 : List (Nat × Nat × Nat) := (111, 29, 125) :: wk_86
def wk_88 : List (Nat × Nat × Nat) := (111, 30, 126) :: wk_87
def wk_89 : List (Nat × Nat × Nat) := (111, 31, 127) :: wk_88
def wk_90 : List (Nat × Nat × Nat) := (111, 32, 128) :: wk_89
def wk_91 : List (Nat × Nat × Nat) := (111, 33, 129) :: wk_90
def wk_92 : List (Nat × Nat × Nat) := (111, 34, 130) :: wk_91
def wk_93 : List (Nat × Nat × Nat) := (111, 35, 131) :: wk_92
def wk_94 : List (Nat × Nat × Nat) := (111, 36, 132) :: wk_93
def wk_95 : List (Nat × Nat × Nat) := (111, 37, 133) :: wk_94
def wk_96 : List (Nat × Nat × Nat) := (111, 38, 134) :: wk_95
def wk_97 : List (Nat × Nat × Nat) := (111, 39, 135) :: wk_96
def wk_98 : List (Nat × Nat × Nat) := (111, 40, 136) :: wk_97
def wk_99 : List (Nat × Nat × Nat) := (111, 41, 137) :: wk_98
def ik_7 : mI := up ik_6 111 53 (4)
def ik_8 : mI := up ik_7 111 54 (2)
def wk_100 : List (Nat × Nat × Nat) := (111, 59, 138) :: wk_99
def wk_101 : List (Nat × Nat × Nat) := (111, 60, 139) :: wk_100
def wk_102 : List (Nat × Nat × Nat) := (111, 61, 140) :: wk_101
def wk_103 : List (Nat × Nat × Nat) := (111, 62, 141) :: wk_102
def wk_104 : List (Nat × Nat × Nat) := (111, 64, 142) :: wk_103
def wk_105 : List (Nat × Nat × Nat) := (111, 69, 143) :: wk_104
def wk_106 : List (Nat × Nat × Nat) := (111, 70, 144) :: wk_105
def wk_107 : List (Nat × Nat × Nat) := (111, 71, 145) :: wk_106
def wk_108 : List (Nat × Nat × Nat) := (111, 72, 146) :: wk_107
def wk_109 : List (Nat × Nat × Nat) := (111, 73, 147) :: wk_108
def wk_110 : List (Nat × Nat × Nat) := (111, 74, 148) :: wk_109
def wk_111 : List (Nat × Nat × Nat) := (111, 75, 149) :: wk_110
def wk_112 : List (Nat × Nat × Nat) := (111, 76, 150) :: wk_111
def wk_113 : List (Nat × Nat × Nat) := (111, 79, 151) :: wk_112
def wk_114 : List (Nat × Nat × Nat) := (111, 80, 152) :: wk_113
theorem lT_up (f : Nat → Int) (w : Nat) (v : Int) : upL (lT f) 43 w v = lT (setF f w v) := by
  funext b k
  unfold upL lT setF
  by_cases h : b = 43
  · by_cases h2 : k = w
    · simp [h, h2]
    · simp [h, h2]
  · simp [h]
theorem tx0_in : ∀ k, k < 108 → txC 0 k = 32 ∨ (97 ≤ txC 0 k ∧ txC 0 k ≤ 122) := by decide +kernel
theorem tp_le : ∀ k, (tpS k).1 ≤ k
  | 0 => Nat.le_refl 0
  | k + 1 => by
    have ih := tp_le k
    rw [tpS]
    split
    · show (tpS k).1 + 1 ≤ k + 1
      omega
    · split
      · show (tpS k).1 ≤ k + 1
        omega
      · omega
theorem tp_words : ∀ k, k < 21 → (tpS 108).2 k = W5 k := by decide +kernel
theorem sp_charAt0 {l : Launch} {G : mG} {d nf : Nat} {I : mI} {X : mX} {Q : mQ} {k : Nat} (hnf : X.2.2 = nf) (hk : k < 108) (hd : 4 ≤ d) (hQ : Q (some (vI (txC 0 k))) I X) : WP l G m_J0_charAt_5068e d nf I X 0 [some (vR 1001), some (vI (k : Int))] [] Q := by
  have bt := tx_in 0 (by decide) k (by omega)
  have bn : txN 0 = 108 := rfl
  refine wp_aload_n (pc := 0) 0 dJ0_charAt_5068e_0 rfl rfl ?_
  refine wp_callK (pc := 1) (st := []) (nf' := nf) 0 (by decide) [] [some (vR 1001)] dJ0_charAt_5068e_1 rfl c_J0_492 rfl rfl rfl (Nat.le_of_ble_eq_true rfl) rfl (Nat.le_of_ble_eq_true rfl) (by omega) (by omega) (Nat.le_refl _) ?_
  refine wp_kcs (pc := 0) dJ0_isLatin1_aae02_0 rfl ?_
  refine wp_if_eq (pc := 3) 17 dJ0_isLatin1_aae02_3 (by decide) (by decide) (fun hh => absurd hh (by decide)) (fun _ => ?_)
  refine wp_aload_n (pc := 6) 0 dJ0_isLatin1_aae02_6 rfl rfl ?_
  refine wp_kcod (pc := 7) 0 (by decide) dJ0_isLatin1_aae02_7 rfl ?_
  refine wp_if_ne (pc := 10) 17 dJ0_isLatin1_aae02_10 (by decide) (by decide) (fun hh => absurd hh (by decide)) (fun _ => ?_)
  refine wp_iconst (pc := 13) dJ0_isLatin1_aae02_13 ?_
  refine wp_goto (pc := 14) 18 dJ0_isLatin1_aae02_14 (by decide) ?_
  refine wp_zret (pc := 18) dJ0_isLatin1_aae02_18 rfl hnf (by decide) ?_
  refine wp_eqst (st' := [vI 1]) rfl ?_
  refine wp_if_eq (pc := 4) 16 dJ0_charAt_5068e_4 (by decide) (by decide) (fun hh => absurd hh (by decide)) (fun _ => ?_)
  refine wp_aload_n (pc := 7) 0 dJ0_charAt_5068e_7 rfl rfl ?_
  refine wp_kval (pc := 8) 0 (by decide) dJ0_charAt_5068e_8 rfl ?_
  refine wp_iload_n (pc := 11) 1 dJ0_charAt_5068e_11 rfl rfl ?_
  refine wp_callS (pc := 12) (st := []) (nf' := nf) [vR 1003, vI (k : Int)] [some (vR 1003), some (vI (k : Int))] dJ0_charAt_5068e_12 rfl c_J0_495 rfl rfl (Nat.le_of_ble_eq_true rfl) rfl (Nat.le_of_ble_eq_true rfl) (by omega) (by omega) (Nat.le_refl _) ?_
  refine wp_iload_n (pc := 0) 1 dJ1_charAt_3b067_0 rfl rfl ?_
  refine wp_aload_n (pc := 1) 0 dJ1_charAt_3b067_1 rfl rfl ?_
  refine wp_klen (pc := 2) 0 (by decide) dJ1_charAt_3b067_2 ?_
  refine wp_eqst (st' := [vI 108, vI (k : Int)]) rfl ?_
  refine wp_callS (pc := 3) (st := []) (nf' := nf) [vI (k : Int), vI 108] [some (vI (k : Int)), some (vI 108)] dJ1_charAt_3b067_3 rfl c_J1_9 rfl rfl (Nat.le_of_ble_eq_true rfl) rfl (Nat.le_of_ble_eq_true rfl) (by omega) (by omega) (Nat.le_refl _) ?_
  refine wp_iload_n (pc := 0) 0 dJ0_checkIndex_df160_0 rfl rfl ?_
  refine wp_iload_n (pc := 1) 1 dJ0_checkIndex_df160_1 rfl rfl ?_
  refine wp_chk (pc := 2) dJ0_checkIndex_df160_2 dJ0_checkIndex_df160_5 rfl (by omega) (by decide) (Nat.le_of_ble_eq_true rfl) (by omega) ?_
  refine wp_pop (pc := 8) dJ0_checkIndex_df160_8 rfl ?_
  refine wp_vret (pc := 9) dJ0_checkIndex_df160_9 rfl hnf ?_
  refine wp_eqst (st' := []) rfl ?_
  refine wp_aload_n (pc := 6) 0 dJ1_charAt_3b067_6 rfl rfl ?_
  refine wp_iload_n (pc := 7) 1 dJ1_charAt_3b067_7 rfl rfl ?_
  refine wp_kald (pc := 8) 0 k (by decide) dJ1_charAt_3b067_8 rfl (by omega) ?_
  refine wp_sipush (pc := 9) dJ1_charAt_3b067_9 (by decide) ?_
  refine wp_imask (pc := 12) 8 dJ1_charAt_3b067_12 rfl (by decide) ?_
  refine wp_eqst (st' := [vI (txC 0 k)]) (by rw [show txC 0 k % ((2 ^ 8 : Nat) : Int) = txC 0 k from Int.emod_eq_of_lt bt.1 (by omega)]) ?_
  refine wp_i2c (pc := 13) dJ1_charAt_3b067_13 (by omega) ?_
  have hnr : narrow .char (.int (Int32.ofInt (txC 0 k))) = .int (Int32.ofInt (txC 0 k)) := (by decide +kernel : ∀ k, k < 108 → narrow .char (.int (Int32.ofInt (txC 0 k))) = .int (Int32.ofInt (txC 0 k))) k hk
  refine wp_nret (pc := 14) dJ1_charAt_3b067_14 rfl hnf hnr ?_
  refine wp_eqst (st' := [vI (txC 0 k)]) rfl ?_
  exact wp_nret (pc := 15) dJ0_charAt_5068e_15 rfl hnf hnr hQ
theorem sp_length0 {l : Launch} {G : mG} {d nf : Nat} {I : mI} {X : mX} {Q : mQ} (hnf : X.2.2 = nf) (hd : 2 ≤ d) (hQ : Q (some (vI 108)) I X) : WP l G m_J0_length_8abf5 d nf I X 0 [some (vR 1001)] [] Q := by
  refine wp_aload_n (pc := 0) 0 dJ0_length_8abf5_0 rfl rfl ?_
  refine wp_kval (pc := 1) 0 (by decide) dJ0_length_8abf5_1 rfl ?_
  refine wp_klen (pc := 4) 0 (by decide) dJ0_length_8abf5_4 ?_
  refine wp_eqst (st' := [vI 108]) rfl ?_
  refine wp_aload_n (pc := 5) 0 dJ0_length_8abf5_5 rfl rfl ?_
  refine wp_callK (pc := 6) (st := [vI 108]) (nf' := nf) 0 (by decide) [] [some (vR 1001)] dJ0_length_8abf5_6 rfl c_J0_335 rfl rfl rfl (Nat.le_of_ble_eq_true rfl) rfl (Nat.le_of_ble_eq_true rfl) (by omega) (by omega) (Nat.le_refl _) ?_
  refine wp_kcs (pc := 0) dJ0_coder_7d493_0 rfl ?_
  refine wp_if_eq (pc := 3) 13 dJ0_coder_7d493_3 (by decide) (by decide) (fun hh => absurd hh (by decide)) (fun _ => ?_)
  refine wp_aload_n (pc := 6) 0 dJ0_coder_7d493_6 rfl rfl ?_
  refine wp_kcod (pc := 7) 0 (by decide) dJ0_coder_7d493_7 rfl ?_
  refine wp_goto (pc := 10) 14 dJ0_coder_7d493_10 (by decide) ?_
  refine wp_nret (pc := 14) dJ0_coder_7d493_14 rfl hnf rfl ?_
  refine wp_eqst (st' := [vI 0, vI 108]) rfl ?_
  refine wn_shr (pc := 9) 108 0 dJ0_length_8abf5_9 rfl rfl (by omega) (by omega) ?_
  refine wp_eqst (st' := [vI 108]) rfl ?_
  exact wp_iret (pc := 10) dJ0_length_8abf5_10 rfl hnf hQ
theorem mk_X8_41_loop {l : Launch} {G : mG} {d : Nat} {Q : mQ} (hd : 6 ≤ d) (hQ : Q none ik_4 (lF, lk wk_42, 44)) : WP l G m_X8_init d 44 ik_4 (lz, lk wk_42, 44) 21 [some (vR 41), none, none, none] [] Q := by
  have go : ∀ i : Nat, i ≤ 108 → ∀ c : Option mV, WP l G m_X8_init d 44 ik_4 (lT (tpS i).2, lk wk_42, 44) 25 [some (vR 41), some (vI ((tpS i).1 : Int)), some (vI (i : Int)), c] [] Q := by
    refine loop_dn (fun i => ∀ c : Option mV, WP l G m_X8_init d 44 ik_4 (lT (tpS i).2, lk wk_42, 44) 25 [some (vR 41), some (vI ((tpS i).1 : Int)), some (vI (i : Int)), c] [] Q) 108 ?_ (fun i hi ih => ?_)
    · intro c
      refine wp_iload_n (pc := 25) 2 dX8_init_25 rfl rfl ?_
      refine wp_ldcS0 (pc := 26) dX8_init_26 rfl ?_
      refine wp_callK (pc := 28) (st := [vI ((108 : Nat) : Int)]) (nf' := 44) 0 (by decide) [] [some (vR 1001)] dX8_init_28 rfl c_X8_21 rfl rfl rfl (Nat.le_of_ble_eq_true rfl) rfl (Nat.le_of_ble_eq_true rfl) (by omega) (Nat.le_refl _) (Nat.le_refl _) ?_
      refine sp_length0 rfl (by omega) ?_
      refine wp_eqst (st' := [vI 108, vI ((108 : Nat) : Int)]) rfl ?_
      refine wp_icmp_ge (pc := 31) 81 dX8_init_31 (by decide) (by decide) (by decide) (fun _ => ?_) (fun hh => absurd hh (by decide))
      exact wp_vret (pc := 81) dX8_init_81 rfl rfl hQ
    · intro c
      have hb := tp_le i
      have ht := tx0_in i hi
      refine wp_iload_n (pc := 25) 2 dX8_init_25 rfl rfl ?_
      refine wp_ldcS0 (pc := 26) dX8_init_26 rfl ?_
      refine wp_callK (pc := 28) (st := [vI (i : Int)]) (nf' := 44) 0 (by decide) [] [some (vR 1001)] dX8_init_28 rfl c_X8_21 rfl rfl rfl (Nat.le_of_ble_eq_true rfl) rfl (Nat.le_of_ble_eq_true rfl) (by omega) (Nat.le_refl _) (Nat.le_refl _) ?_
      refine sp_length0 rfl (by omega) ?_
      refine wp_eqst (st' := [vI 108, vI (i : Int)]) rfl ?_
      refine wp_icmp_ge (pc := 31) 81 dX8_init_31 (by decide) (by omega) (by decide) (fun hh => absurd hh (by omega)) (fun _ => ?_)
      refine wp_ldcS0 (pc := 34) dX8_init_34 rfl ?_
      refine wp_iload_n (pc := 36) 2 dX8_init_36 rfl rfl ?_
      refine wp_callK (pc := 37) (st := []) (nf' := 44) 0 (by decide) [vI (i : Int)] [some (vR 1001), some (vI (i : Int))] dX8_init_37 rfl c_X8_27 rfl rfl rfl (Nat.le_of_ble_eq_true rfl) rfl (Nat.le_of_ble_eq_true rfl) (by omega) (Nat.le_refl _) (Nat.le_refl _) ?_
      refine sp_charAt0 rfl hi (by omega) ?_
      refine wp_eqst (st' := [vI (txC 0 i)]) rfl ?_
      refine wq_istore_n (pc := 40) 3 [some (vR 41), some (vI ((tpS i).1 : Int)), some (vI (i : Int)), some (vI (txC 0 i))] dX8_init_40 rfl rfl (by decide) rfl ?_
      refine wp_iload_n (pc := 41) 3 dX8_init_41 rfl rfl ?_
      refine wp_bipush (pc := 42) dX8_init_42 (by decide) ?_
      refine wp_icmp_ne (pc := 44) 53 dX8_init_44 (by decide) (by omega) (by decide) (fun h1 => ?_) (fun h1 => ?_)
      · refine wp_iload_n (pc := 53) 1 dX8_init_53 rfl rfl ?_
        refine wp_bipush (pc := 54) dX8_init_54 (by decide) ?_
        refine wp_icmp_ge (pc := 56) 75 dX8_init_56 (by decide) (by omega) (by decide) (fun h2 => ?_) (fun h2 => ?_)
        · have e : tpS (i + 1) = tpS i := by rw [tpS, if_neg h1, if_neg (by omega)]
          refine wq_iinc (pc := 75) [some (vR 41), some (vI ((tpS i).1 : Int)), some (vI ((i : Int) + 1)), some (vI (txC 0 i))] dX8_init_75 rfl rfl (by decide) rfl ?_
          refine wp_goto (pc := 78) 25 dX8_init_78 (by decide) ?_
          have k := ih (some (vI (txC 0 i)))
          rw [e] at k
          exact k
        · have e : tpS (i + 1) = ((tpS i).1, setF (tpS i).2 (tpS i).1 ((tpS i).2 (tpS i).1 * 2 ^ 5 + (txC 0 i - 97 + 1))) := by rw [tpS, if_neg h1, if_pos (by omega)]
          have h3 : 97 ≤ txC 0 i ∧ txC 0 i ≤ 122 := by rcases ht with z | z <;> omega
          refine wp_aload_n (pc := 59) 0 dX8_init_59 rfl rfl ?_
          refine wp_getr (pc := 60) (r := 43) dX8_init_60 rfl f_X8_15 kd_41 (Nat.le_of_ble_eq_true rfl) rfl rfl ?_
          refine wp_iload_n (pc := 63) 1 dX8_init_63 rfl rfl ?_
          refine wp_aload_n (pc := 64) 0 dX8_init_64 rfl rfl ?_
          refine wp_getr (pc := 65) (r := 43) dX8_init_65 rfl f_X8_15 kd_41 (Nat.le_of_ble_eq_true rfl) rfl rfl ?_
          refine wp_iload_n (pc := 68) 1 dX8_init_68 rfl rfl ?_
          refine wq_lald (pc := 69) (tpS i).1 dX8_init_69 kd_43 (Nat.le_of_ble_eq_true rfl) rfl (by omega) ?_
          refine wp_eqst (st' := [vJ ((tpS i).2 (tpS i).1), vI ((tpS i).1 : Int), vR 43]) rfl ?_
          refine wp_iload_n (pc := 70) 3 dX8_init_70 rfl rfl ?_
          refine wp_callS (pc := 71) (st := [vI ((tpS i).1 : Int), vR 43]) (nf' := 44) [vJ ((tpS i).2 (tpS i).1), vI (txC 0 i)] [some (vJ ((tpS i).2 (tpS i).1)), none, some (vI (txC 0 i))] dX8_init_71 rfl c_X8_31 rfl rfl (Nat.le_of_ble_eq_true rfl) rfl (Nat.le_of_ble_eq_true rfl) (by omega) (Nat.le_refl _) (Nat.le_refl _) ?_
          refine wp_lload_n (pc := 0) 0 dX8_withLetter_0 rfl rfl ?_
          refine wp_iconst (pc := 1) dX8_withLetter_1 ?_
          refine wp_lshl (pc := 2) 5 dX8_withLetter_2 rfl (by decide) ?_
          refine wp_iload_n (pc := 3) 2 dX8_withLetter_3 rfl rfl ?_
          refine wp_bipush (pc := 4) dX8_withLetter_4 (by decide) ?_
          refine wp_isub (pc := 6) dX8_withLetter_6 ?_
          refine wp_iconst (pc := 7) dX8_withLetter_7 ?_
          refine wp_iadd (pc := 8) dX8_withLetter_8 ?_
          refine wp_i2l (pc := 9) dX8_withLetter_9 (by omega) ?_
          refine wp_lor (pc := 10) ((tpS i).2 (tpS i).1) 5 dX8_withLetter_10 rfl (by decide) (by omega) (by omega) ?_
          refine wp_lret (pc := 11) dX8_withLetter_11 rfl rfl ?_
          refine wp_eqst (st' := [vJ ((tpS i).2 (tpS i).1 * 2 ^ 5 + (txC 0 i - 97 + 1)), vI ((tpS i).1 : Int), vR 43]) rfl ?_
          refine wq_last (pc := 74) (tpS i).1 dX8_init_74 kd_43 (Nat.le_of_ble_eq_true rfl) rfl (by omega) ?_
          refine wp_eqX (X' := (lT (setF (tpS i).2 (tpS i).1 ((tpS i).2 (tpS i).1 * 2 ^ 5 + (txC 0 i - 97 + 1))), lk wk_42, 44)) (by rw [← lT_up]) ?_
          refine wq_iinc (pc := 75) [some (vR 41), some (vI ((tpS i).1 : Int)), some (vI ((i : Int) + 1)), some (vI (txC 0 i))] dX8_init_75 rfl rfl (by decide) rfl ?_
          refine wp_goto (pc := 78) 25 dX8_init_78 (by decide) ?_
          have k := ih (some (vI (txC 0 i)))
          rw [e] at k
          exact k
      · have e : tpS (i + 1) = ((tpS i).1 + 1, (tpS i).2) := by rw [tpS, if_pos h1]
        refine wq_iinc (pc := 47) [some (vR 41), some (vI (((tpS i).1 : Int) + 1)), some (vI (i : Int)), some (vI (txC 0 i))] dX8_init_47 rfl rfl (by decide) rfl ?_
        refine wp_goto (pc := 50) 75 dX8_init_50 (by decide) ?_
        refine wq_iinc (pc := 75) [some (vR 41), some (vI (((tpS i).1 : Int) + 1)), some (vI ((i : Int) + 1)), some (vI (txC 0 i))] dX8_init_75 rfl rfl (by decide) rfl ?_
        refine wp_goto (pc := 78) 25 dX8_init_78 (by decide) ?_
        have k := ih (some (vI (txC 0 i)))
        rw [e] at k
        exact k
  refine wp_iconst (pc := 21) dX8_init_21 ?_
  refine wq_istore_n (pc := 22) 1 [some (vR 41), some (vI 0), none, none] dX8_init_22 rfl rfl (by decide) rfl ?_
  refine wp_iconst (pc := 23) dX8_init_23 ?_
  refine wq_istore_n (pc := 24) 2 [some (vR 41), some (vI 0), some (vI 0), none] dX8_init_24 rfl rfl (by decide) rfl ?_
  refine wp_eqX (X' := (lT (tpS 0).2, lk wk_42, 44)) (congrArg (fun L => (L, lk wk_42, 44)) (funext fun a => funext fun j => ?_)) (go 0 (by decide) none)
  show (0 : Int) = if a = 43 then 0 else 0
  rw [ite_self]
theorem fillX {l : Launch} {G : mG} {d nf : Nat} {I : mI} {X : mX} {Q : mQ} {a n : Nat} {v : Int} (hk : kd a = (20, n)) (ha : a < X.2.2) (hnf : X.2.2 = nf) (hn : n ≤ 1600) (hQ : Q none (upc I a (fun j => if j < n then v else I a j)) X) : WP l G m_J7_fill_53178 d nf I X 0 [some (vR a), some (vI v), none, none] [] Q := by
  have go : ∀ i : Nat, i ≤ n → WP l G m_J7_fill_53178 d nf (upc I a (fun j => if j < i then v else I a j)) X 5 [some (vR a), some (vI v), some (vI (i : Int)), some (vI (n : Int))] [] Q := by
    refine loop_dn (fun i => WP l G m_J7_fill_53178 d nf (upc I a (fun j => if j < i then v else I a j)) X 5 [some (vR a), some (vI v), some (vI (i : Int)), some (vI (n : Int))] [] Q) n ?_ (fun i hi ih => ?_)
    · refine wp_iload_n (pc := 5) 2 dJ7_fill_53178_5 rfl rfl ?_
      refine wp_iload_n (pc := 6) 3 dJ7_fill_53178_6 rfl rfl ?_
      refine wp_icmp_ge (pc := 7) 20 dJ7_fill_53178_7 (by decide) (by omega) (by omega) (fun _ => ?_) (fun hh => absurd hh (by omega))
      exact wp_vret (pc := 20) dJ7_fill_53178_20 rfl hnf hQ
    · refine wp_iload_n (pc := 5) 2 dJ7_fill_53178_5 rfl rfl ?_
      refine wp_iload_n (pc := 6) 3 dJ7_fill_53178_6 rfl rfl ?_
      refine wp_icmp_ge (pc := 7) 20 dJ7_fill_53178_7 (by decide) (by omega) (by omega) (fun hh => absurd hh (by omega)) (fun _ => ?_)
      refine wp_aload_n (pc := 10) 0 dJ7_fill_53178_10 rfl rfl ?_
      refine wp_iload_n (pc := 11) 2 dJ7_fill_53178_11 rfl rfl ?_
      refine wp_iload_n (pc := 12) 1 dJ7_fill_53178_12 rfl rfl ?_
      refine wq_iast (pc := 13) i dJ7_fill_53178_13 hk ha rfl hi ?_
      refine wq_iinc (pc := 14) [some (vR a), some (vI v), some (vI ((i : Int) + 1)), some (vI (n : Int))] dJ7_fill_53178_14 rfl rfl (by decide) rfl ?_
      refine wp_goto (pc := 17) 5 dJ7_fill_53178_17 (by decide) ?_
      refine wp_eqI (I' := upc I a (fun j => if j < i + 1 then v else I a j)) ?_ ih
      rw [up_upc]
      congr 1
      funext j
      by_cases e : j = i
      · rw [if_pos e, if_pos (by omega)]
      · rw [if_neg e]
        by_cases e2 : j < i
        · rw [if_pos e2, if_pos (by omega)]
        · rw [if_neg e2, if_neg (by omega)]
  refine wp_iconst (pc := 0) dJ7_fill_53178_0 ?_
  refine wq_istore_n (pc := 1) 2 [some (vR a), some (vI v), some (vI 0), none] dJ7_fill_53178_1 rfl rfl (by decide) rfl ?_
  refine wp_aload_n (pc := 2) 0 dJ7_fill_53178_2 rfl rfl ?_
  refine wp_alen (pc := 3) dJ7_fill_53178_3 hk (by decide) ha ?_
  refine wq_istore_n (pc := 4) 3 [some (vR a), some (vI v), some (vI 0), some (vI (n : Int))] dJ7_fill_53178_4 rfl rfl (by decide) rfl ?_
  refine wp_eqI (I' := upc I a (fun j => if j < 0 then v else I a j)) ?_ (go 0 (Nat.zero_le _))
  have e : (fun j => if j < 0 then v else I a j) = I a := funext fun j => if_neg (Nat.not_lt_zero j)
  rw [e, upc_id]
set_option maxRecDepth 100000 in
theorem mk_X0_11 {l : Launch} {G : mG} {d : Nat} {Q : mQ} (hd : 1 ≤ d) (hQ : Q none ik_0 (lz, lk wk_15, 18)) : WP l G m_X0_init d 18 ik_0 (lz, lk wk_9, 12) 0 [some (vR 11)] [] Q := by
  refine wp_aload_n (pc := 0) 0 dX0_init_0 rfl rfl ?_
  refine wp_oinit (pc := 1) dX0_init_1 rfl oi_X0_3 oi_inst oi_code (Nat.le_of_ble_eq_true rfl) (by omega) ?_
  refine wp_aload_n (pc := 4) 0 dX0_init_4 rfl rfl ?_
  refine wp_bipush (pc := 5) dX0_init_5 (by decide) ?_
  refine wp_newI (pc := 7) (a := 12) dX0_init_7 rfl rfl rfl rfl (Nat.le_of_ble_eq_true rfl) (fun _ => rfl) (fun _ => rfl) ?_
  refine wp_eqX (X' := (lz, lk wk_9, 13)) rfl ?_
  refine wp_putfr (pc := 9) dX0_init_9 rfl f_X0_9 rfl (Nat.le_of_ble_eq_true rfl) rfl (fun _ h => by cases h; exact ⟨rfl, rfl⟩) rfl ?_
  refine wp_eqX (X' := (lz, lk wk_10, 13)) rfl ?_
  refine wp_aload_n (pc := 12) 0 dX0_init_12 rfl rfl ?_
  refine wp_bipush (pc := 13) dX0_init_13 (by decide) ?_
  refine wp_newI (pc := 15) (a := 13) dX0_init_15 rfl rfl rfl rfl (Nat.le_of_ble_eq_true rfl) (fun _ => rfl) (fun _ => rfl) ?_
  refine wp_eqX (X' := (lz, lk wk_10, 14)) rfl ?_
  refine wp_putfr (pc := 17) dX0_init_17 rfl f_X0_15 rfl (Nat.le_of_ble_eq_true rfl) rfl (fun _ h => by cases h; exact ⟨rfl, rfl⟩) rfl ?_
  refine wp_eqX (X' := (lz, lk wk_11, 14)) rfl ?_
  refine wp_aload_n (pc := 20) 0 dX0_init_20 rfl rfl ?_
  refine wp_bipush (pc := 21) dX0_init_21 (by decide) ?_
  refine wp_newI (pc := 23) (a := 14) dX0_init_23 rfl rfl rfl rfl (Nat.le_of_ble_eq_true rfl) (fun _ => rfl) (fun _ => rfl) ?_
  refine wp_eqX (X' := (lz, lk wk_11, 15)) rfl ?_
  refine wp_putfr (pc := 25) dX0_init_25 rfl f_X0_18 rfl (Nat.le_of_ble_eq_true rfl) rfl (fun _ h => by cases h; exact ⟨rfl, rfl⟩) rfl ?_
  refine wp_eqX (X' := (lz, lk wk_12, 15)) rfl ?_
  refine wp_aload_n (pc := 28) 0 dX0_init_28 rfl rfl ?_
  refine wp_bipush (pc := 29) dX0_init_29 (by decide) ?_
  refine wp_newI (pc := 31) (a := 15) dX0_init_31 rfl rfl rfl rfl (Nat.le_of_ble_eq_true rfl) (fun _ => rfl) (fun _ => rfl) ?_
  refine wp_eqX (X' := (lz, lk wk_12, 16)) rfl ?_
  refine wp_putfr (pc := 33) dX0_init_33 rfl f_X0_21 rfl (Nat.le_of_ble_eq_true rfl) rfl (fun _ h => by cases h; exact ⟨rfl, rfl⟩) rfl ?_
  refine wp_eqX (X' := (lz, lk wk_13, 16)) rfl ?_
  refine wp_aload_n (pc := 36) 0 dX0_init_36 rfl rfl ?_
  refine wp_bipush (pc := 37) dX0_init_37 (by decide) ?_
  refine wp_newI (pc := 39) (a := 16) dX0_init_39 rfl rfl rfl rfl (Nat.le_of_ble_eq_true rfl) (fun _ => rfl) (fun _ => rfl) ?_
  refine wp_eqX (X' := (lz, lk wk_13, 17)) rfl ?_
  refine wp_putfr (pc := 41) dX0_init_41 rfl f_X0_24 rfl (Nat.le_of_ble_eq_true rfl) rfl (fun _ h => by cases h; exact ⟨rfl, rfl⟩) rfl ?_
  refine wp_eqX (X' := (lz, lk wk_14, 17)) rfl ?_
  refine wp_aload_n (pc := 44) 0 dX0_init_44 rfl rfl ?_
  refine wp_bipush (pc := 45) dX0_init_45 (by decide) ?_
  refine wp_newI (pc := 47) (a := 17) dX0_init_47 rfl rfl rfl rfl (Nat.le_of_ble_eq_true rfl) (fun _ => rfl) (fun _ => rfl) ?_
  refine wp_eqX (X' := (lz, lk wk_14, 18)) rfl ?_
  refine wp_putfr (pc := 49) dX0_init_49 rfl f_X0_27 rfl (Nat.le_of_ble_eq_true rfl) rfl (fun _ h => by cases h; exact ⟨rfl, rfl⟩) rfl ?_
  refine wp_eqX (X' := (lz, lk wk_15, 18)) rfl ?_
  refine wp_vret (pc := 52) dX0_init_52 rfl rfl ?_
  exact hQ
set_option maxRecDepth 100000 in
theorem mk_X1_18 {l : Launch} {G : mG} {d : Nat} {Q : mQ} (hd : 1 ≤ d) (hQ : Q none ik_0 (lz, lk wk_18, 21)) : WP l G m_X1_init d 21 ik_0 (lz, lk wk_16, 19) 0 [some (vR 18)] [] Q := by
  refine wp_aload_n (pc := 0) 0 dX1_init_0 rfl rfl ?_
  refine wp_oinit (pc := 1) dX1_init_1 rfl oi_X1_1 oi_inst oi_code (Nat.le_of_ble_eq_true rfl) (by omega) ?_
  refine wp_aload_n (pc := 4) 0 dX1_init_4 rfl rfl ?_
  refine wp_sipush (pc := 5) dX1_init_5 (by decide) ?_
  refine wp_newI (pc := 8) (a := 19) dX1_init_8 rfl rfl rfl rfl (Nat.le_of_ble_eq_true rfl) (fun _ => rfl) (fun _ => rfl) ?_
  refine wp_eqX (X' := (lz, lk wk_16, 20)) rfl ?_
  refine wp_putfr (pc := 10) dX1_init_10 rfl f_X1_9 rfl (Nat.le_of_ble_eq_true rfl) rfl (fun _ h => by cases h; exact ⟨rfl, rfl⟩) rfl ?_
  refine wp_eqX (X' := (lz, lk wk_17, 20)) rfl ?_
  refine wp_aload_n (pc := 13) 0 dX1_init_13 rfl rfl ?_
  refine wp_bipush (pc := 14) dX1_init_14 (by decide) ?_
  refine wp_newI (pc := 16) (a := 20) dX1_init_16 rfl rfl rfl rfl (Nat.le_of_ble_eq_true rfl) (fun _ => rfl) (fun _ => rfl) ?_
  refine wp_eqX (X' := (lz, lk wk_17, 21)) rfl ?_
  refine wp_putfr (pc := 18) dX1_init_18 rfl f_X1_13 rfl (Nat.le_of_ble_eq_true rfl) rfl (fun _ h => by cases h; exact ⟨rfl, rfl⟩) rfl ?_
  refine wp_eqX (X' := (lz, lk wk_18, 21)) rfl ?_
  refine wp_vret (pc := 21) dX1_init_21 rfl rfl ?_
  exact hQ
set_option maxRecDepth 100000 in
theorem mk_X9_1 {l : Launch} {G : mG} {d : Nat} {Q : mQ} (hd : 2 ≤ d) (hQ : Q none ik_2 (lz, lk wk_19, 21)) : WP l G m_X9_init d 21 ik_0 (lz, lk wk_0, 2) 0 [some (vR 1)] [] Q := by
  refine wp_aload_n (pc := 0) 0 dX9_init_0 rfl rfl ?_
  refine wp_oinit (pc := 1) dX9_init_1 rfl oi_X9_3 oi_inst oi_code (Nat.le_of_ble_eq_true rfl) (by omega) ?_
  refine wp_aload_n (pc := 4) 0 dX9_init_4 rfl rfl ?_
  refine wp_iconst (pc := 5) dX9_init_5 ?_
  refine wp_newJ (pc := 6) (a := 2) dX9_init_6 rfl rfl rfl rfl (Nat.le_of_ble_eq_true rfl) (fun _ => rfl) (fun _ => rfl) ?_
  refine wp_eqX (X' := (lz, lk wk_0, 3)) rfl ?_
  refine wp_putfr (pc := 8) dX9_init_8 rfl f_X9_9 rfl (Nat.le_of_ble_eq_true rfl) rfl (fun _ h => by cases h; exact ⟨rfl, rfl⟩) rfl ?_
  refine wp_eqX (X' := (lz, lk wk_1, 3)) rfl ?_
  refine wp_aload_n (pc := 11) 0 dX9_init_11 rfl rfl ?_
  refine wp_bipush (pc := 12) dX9_init_12 (by decide) ?_
  refine wp_newJ (pc := 14) (a := 3) dX9_init_14 rfl rfl rfl rfl (Nat.le_of_ble_eq_true rfl) (fun _ => rfl) (fun _ => rfl) ?_
  refine wp_eqX (X' := (lz, lk wk_1, 4)) rfl ?_
  refine wp_putfr (pc := 16) dX9_init_16 rfl f_X9_15 rfl (Nat.le_of_ble_eq_true rfl) rfl (fun _ h => by cases h; exact ⟨rfl, rfl⟩) rfl ?_
  refine wp_eqX (X' := (lz, lk wk_2, 4)) rfl ?_
  refine wp_aload_n (pc := 19) 0 dX9_init_19 rfl rfl ?_
  refine wp_bipush (pc := 20) dX9_init_20 (by decide) ?_
  refine wp_newI (pc := 22) (a := 4) dX9_init_22 rfl rfl rfl rfl (Nat.le_of_ble_eq_true rfl) (fun _ => rfl) (fun _ => rfl) ?_
  refine wp_eqX (X' := (lz, lk wk_2, 5)) rfl ?_
  refine wp_putfr (pc := 24) dX9_init_24 rfl f_X9_18 rfl (Nat.le_of_ble_eq_true rfl) rfl (fun _ h => by cases h; exact ⟨rfl, rfl⟩) rfl ?_
  refine wp_eqX (X' := (lz, lk wk_3, 5)) rfl ?_
  refine wp_aload_n (pc := 27) 0 dX9_init_27 rfl rfl ?_
  refine wp_bipush (pc := 28) dX9_init_28 (by decide) ?_
  refine wp_newI (pc := 30) (a := 5) dX9_init_30 rfl rfl rfl rfl (Nat.le_of_ble_eq_true rfl) (fun _ => rfl) (fun _ => rfl) ?_
  refine wp_eqX (X' := (lz, lk wk_3, 6)) rfl ?_
  refine wp_putfr (pc := 32) dX9_init_32 rfl f_X9_22 rfl (Nat.le_of_ble_eq_true rfl) rfl (fun _ h => by cases h; exact ⟨rfl, rfl⟩) rfl ?_
  refine wp_eqX (X' := (lz, lk wk_4, 6)) rfl ?_
  refine wp_aload_n (pc := 35) 0 dX9_init_35 rfl rfl ?_
  refine wp_bipush (pc := 36) dX9_init_36 (by decide) ?_
  refine wp_newI (pc := 38) (a := 6) dX9_init_38 rfl rfl rfl rfl (Nat.le_of_ble_eq_true rfl) (fun _ => rfl) (fun _ => rfl) ?_
  refine wp_eqX (X' := (lz, lk wk_4, 7)) rfl ?_
  refine wp_putfr (pc := 40) dX9_init_40 rfl f_X9_25 rfl (Nat.le_of_ble_eq_true rfl) rfl (fun _ h => by cases h; exact ⟨rfl, rfl⟩) rfl ?_
  refine wp_eqX (X' := (lz, lk wk_5, 7)) rfl ?_
  refine wp_aload_n (pc := 43) 0 dX9_init_43 rfl rfl ?_
  refine wp_iconst (pc := 44) dX9_init_44 ?_
  refine wp_newI (pc := 45) (a := 7) dX9_init_45 rfl rfl rfl rfl (Nat.le_of_ble_eq_true rfl) (fun _ => rfl) (fun _ => rfl) ?_
  refine wp_eqX (X' := (lz, lk wk_5, 8)) rfl ?_
  refine wp_putfr (pc := 47) dX9_init_47 rfl f_X9_28 rfl (Nat.le_of_ble_eq_true rfl) rfl (fun _ h => by cases h; exact ⟨rfl, rfl⟩) rfl ?_
  refine wp_eqX (X' := (lz, lk wk_6, 8)) rfl ?_
  refine wp_aload_n (pc := 50) 0 dX9_init_50 rfl rfl ?_
  refine wp_iconst (pc := 51) dX9_init_51 ?_
  refine wp_newI (pc := 52) (a := 8) dX9_init_52 rfl rfl rfl rfl (Nat.le_of_ble_eq_true rfl) (fun _ => rfl) (fun _ => rfl) ?_
  refine wp_eqX (X' := (lz, lk wk_6, 9)) rfl ?_
  refine wp_putfr (pc := 54) dX9_init_54 rfl f_X9_31 rfl (Nat.le_of_ble_eq_true rfl) rfl (fun _ h => by cases h; exact ⟨rfl, rfl⟩) rfl ?_
  refine wp_eqX (X' := (lz, lk wk_7, 9)) rfl ?_
  refine wp_aload_n (pc := 57) 0 dX9_init_57 rfl rfl ?_
  refine wp_iconst (pc := 58) dX9_init_58 ?_
  refine wp_newI (pc := 59) (a := 9) dX9_init_59 rfl rfl rfl rfl (Nat.le_of_ble_eq_true rfl) (fun _ => rfl) (fun _ => rfl) ?_
  refine wp_eqX (X' := (lz, lk wk_7, 10)) rfl ?_
  refine wp_putfr (pc := 61) dX9_init_61 rfl f_X9_34 rfl (Nat.le_of_ble_eq_true rfl) rfl (fun _ h => by cases h; exact ⟨rfl, rfl⟩) rfl ?_
  refine wp_eqX (X' := (lz, lk wk_8, 10)) rfl ?_
  refine wp_aload_n (pc := 64) 0 dX9_init_64 rfl rfl ?_
  refine wp_iconst (pc := 65) dX9_init_65 ?_
  refine wp_newI (pc := 66) (a := 10) dX9_init_66 rfl rfl rfl rfl (Nat.le_of_ble_eq_true rfl) (fun _ => rfl) (fun _ => rfl) ?_
  refine wp_eqX (X' := (lz, lk wk_8, 11)) rfl ?_
  refine wp_putfr (pc := 68) dX9_init_68 rfl f_X9_37 rfl (Nat.le_of_ble_eq_true rfl) rfl (fun _ h => by cases h; exact ⟨rfl, rfl⟩) rfl ?_
  refine wp_eqX (X' := (lz, lk wk_9, 11)) rfl ?_
  refine wp_aload_n (pc := 71) 0 dX9_init_71 rfl rfl ?_
  refine wp_new (pc := 72) (a := 11) dX9_init_72 rfl rfl cw_X9_40 it_0 ini_0 rfl rfl (by decide) (Nat.le_of_ble_eq_true rfl) (fun _ => rfl) (fun _ => rfl) (lk_no (by decide +kernel)) ?_
  refine wp_eqX (X' := (lz, lk wk_9, 12)) rfl ?_
  refine wp_dup (pc := 75) dX9_init_75 rfl ?_
  refine wp_callN (pc := 76) (st := [vR 11, vR 1]) (nf' := 18) (a := 11) [] [some (vR 11)] dX9_init_76 rfl cn_X9_42 rfl rfl (Nat.le_of_ble_eq_true rfl) rfl (Nat.le_of_ble_eq_true rfl) (by omega) (Nat.le_of_ble_eq_true rfl) (Nat.le_of_ble_eq_true rfl) ?_
  refine mk_X0_11 (by omega) ?_
  refine wp_eqst (st' := [vR 11, vR 1]) rfl ?_
  refine wp_putfr (pc := 79) dX9_init_79 rfl f_X9_43 rfl (Nat.le_of_ble_eq_true rfl) rfl (fun _ h => by cases h; exact ⟨rfl, rfl⟩) rfl ?_
  refine wp_eqX (X' := (lz, lk wk_16, 18)) rfl ?_
  refine wp_aload_n (pc := 82) 0 dX9_init_82 rfl rfl ?_
  refine wp_new (pc := 83) (a := 18) dX9_init_83 rfl rfl cw_X9_47 it_1 ini_1 rfl rfl (by decide) (Nat.le_of_ble_eq_true rfl) (fun _ => rfl) (fun _ => rfl) (lk_no (by decide +kernel)) ?_
  refine wp_eqX (X' := (lz, lk wk_16, 19)) rfl ?_
  refine wp_dup (pc := 86) dX9_init_86 rfl ?_
  refine wp_callN (pc := 87) (st := [vR 18, vR 1]) (nf' := 21) (a := 18) [] [some (vR 18)] dX9_init_87 rfl cn_X9_49 rfl rfl (Nat.le_of_ble_eq_true rfl) rfl (Nat.le_of_ble_eq_true rfl) (by omega) (Nat.le_of_ble_eq_true rfl) (Nat.le_of_ble_eq_true rfl) ?_
  refine mk_X1_18 (by omega) ?_
  refine wp_eqst (st' := [vR 18, vR 1]) rfl ?_
  refine wp_putfr (pc := 90) dX9_init_90 rfl f_X9_50 rfl (Nat.le_of_ble_eq_true rfl) rfl (fun _ h => by cases h; exact ⟨rfl, rfl⟩) rfl ?_
  refine wp_eqX (X' := (lz, lk wk_19, 21)) rfl ?_
  refine wp_aload_n (pc := 93) 0 dX9_init_93 rfl rfl ?_
  refine wp_iconst (pc := 94) dX9_init_94 ?_
  refine wp_puti (pc := 95) dX9_init_95 rfl f_X9_54 rfl (Nat.le_of_ble_eq_true rfl) (fun _ h => by cases h; rfl) rfl ?_
  refine wp_eqI (I' := ik_1) rfl ?_
  refine wp_aload_n (pc := 98) 0 dX9_init_98 rfl rfl ?_
  refine wp_iconst (pc := 99) dX9_init_99 ?_
  refine wp_puti (pc := 100) dX9_init_100 rfl f_X9_58 rfl (Nat.le_of_ble_eq_true rfl) (fun _ h => by cases h; rfl) rfl ?_
  refine wp_eqI (I' := ik_2) rfl ?_
  refine wp_vret (pc := 103) dX9_init_103 rfl rfl ?_
  exact hQ
set_option maxRecDepth 100000 in
theorem mk_X0_31 {l : Launch} {G : mG} {d : Nat} {Q : mQ} (hd : 1 ≤ d) (hQ : Q none ik_2 (lz, lk wk_35, 38)) : WP l G m_X0_init d 38 ik_2 (lz, lk wk_29, 32) 0 [some (vR 31)] [] Q := by
  refine wp_aload_n (pc := 0) 0 dX0_init_0 rfl rfl ?_
  refine wp_oinit (pc := 1) dX0_init_1 rfl oi_X0_3 oi_inst oi_code (Nat.le_of_ble_eq_true rfl) (by omega) ?_
  refine wp_aload_n (pc := 4) 0 dX0_init_4 rfl rfl ?_
  refine wp_bipush (pc := 5) dX0_init_5 (by decide) ?_
  refine wp_newI (pc := 7) (a := 32) dX0_init_7 rfl rfl rfl rfl (Nat.le_of_ble_eq_true rfl) (fun _ => rfl) (fun _ => rfl) ?_
  refine wp_eqX (X' := (lz, lk wk_29, 33)) rfl ?_
  refine wp_putfr (pc := 9) dX0_init_9 rfl f_X0_9 rfl (Nat.le_of_ble_eq_true rfl) rfl (fun _ h => by cases h; exact ⟨rfl, rfl⟩) rfl ?_
  refine wp_eqX (X' := (lz, lk wk_30, 33)) rfl ?_
  refine wp_aload_n (pc := 12) 0 dX0_init_12 rfl rfl ?_
  refine wp_bipush (pc := 13) dX0_init_13 (by decide) ?_
  refine wp_newI (pc := 15) (a := 33) dX0_init_15 rfl rfl rfl rfl (Nat.le_of_ble_eq_true rfl) (fun _ => rfl) (fun _ => rfl) ?_
  refine wp_eqX (X' := (lz, lk wk_30, 34)) rfl ?_
  refine wp_putfr (pc := 17) dX0_init_17 rfl f_X0_15 rfl (Nat.le_of_ble_eq_true rfl) rfl (fun _ h => by cases h; exact ⟨rfl, rfl⟩) rfl ?_
  refine wp_eqX (X' := (lz, lk wk_31, 34)) rfl ?_
  refine wp_aload_n (pc := 20) 0 dX0_init_20 rfl rfl ?_
  refine wp_bipush (pc := 21) dX0_init_21 (by decide) ?_
  refine wp_newI (pc := 23) (a := 34) dX0_init_23 rfl rfl rfl rfl (Nat.le_of_ble_eq_true rfl) (fun _ => rfl) (fun _ => rfl) ?_
  refine wp_eqX (X' := (lz, lk wk_31, 35)) rfl ?_
  refine wp_putfr (pc := 25) dX0_init_25 rfl f_X0_18 rfl (Nat.le_of_ble_eq_true rfl) rfl (fun _ h => by cases h; exact ⟨rfl, rfl⟩) rfl ?_
  refine wp_eqX (X' := (lz, lk wk_32, 35)) rfl ?_
  refine wp_aload_n (pc := 28) 0 dX0_init_28 rfl rfl ?_
  refine wp_bipush (pc := 29) dX0_init_29 (by decide) ?_
  refine wp_newI (pc := 31) (a := 35) dX0_init_31 rfl rfl rfl rfl (Nat.le_of_ble_eq_true rfl) (fun _ => rfl) (fun _ => rfl) ?_
  refine wp_eqX (X' := (lz, lk wk_32, 36)) rfl ?_
  refine wp_putfr (pc := 33) dX0_init_33 rfl f_X0_21 rfl (Nat.le_of_ble_eq_true rfl) rfl (fun _ h => by cases h; exact ⟨rfl, rfl⟩) rfl ?_
  refine wp_eqX (X' := (lz, lk wk_33, 36)) rfl ?_
  refine wp_aload_n (pc := 36) 0 dX0_init_36 rfl rfl ?_
  refine wp_bipush (pc := 37) dX0_init_37 (by decide) ?_
  refine wp_newI (pc := 39) (a := 36) dX0_init_39 rfl rfl rfl rfl (Nat.le_of_ble_eq_true rfl) (fun _ => rfl) (fun _ => rfl) ?_
  refine wp_eqX (X' := (lz, lk wk_33, 37)) rfl ?_
  refine wp_putfr (pc := 41) dX0_init_41 rfl f_X0_24 rfl (Nat.le_of_ble_eq_true rfl) rfl (fun _ h => by cases h; exact ⟨rfl, rfl⟩) rfl ?_
  refine wp_eqX (X' := (lz, lk wk_34, 37)) rfl ?_
  refine wp_aload_n (pc := 44) 0 dX0_init_44 rfl rfl ?_
  refine wp_bipush (pc := 45) dX0_init_45 (by decide) ?_
  refine wp_newI (pc := 47) (a := 37) dX0_init_47 rfl rfl rfl rfl (Nat.le_of_ble_eq_true rfl) (fun _ => rfl) (fun _ => rfl) ?_
  refine wp_eqX (X' := (lz, lk wk_34, 38)) rfl ?_
  refine wp_putfr (pc := 49) dX0_init_49 rfl f_X0_27 rfl (Nat.le_of_ble_eq_true rfl) rfl (fun _ h => by cases h; exact ⟨rfl, rfl⟩) rfl ?_
  refine wp_eqX (X' := (lz, lk wk_35, 38)) rfl ?_
  refine wp_vret (pc := 52) dX0_init_52 rfl rfl ?_
  exact hQ
set_option maxRecDepth 100000 in
theorem mk_X1_38 {l : Launch} {G : mG} {d : Nat} {Q : mQ} (hd : 1 ≤ d) (hQ : Q none ik_2 (lz, lk wk_38, 41)) : WP l G m_X1_init d 41 ik_2 (lz, lk wk_36, 39) 0 [some (vR 38)] [] Q := by
  refine wp_aload_n (pc := 0) 0 dX1_init_0 rfl rfl ?_
  refine wp_oinit (pc := 1) dX1_init_1 rfl oi_X1_1 oi_inst oi_code (Nat.le_of_ble_eq_true rfl) (by omega) ?_
  refine wp_aload_n (pc := 4) 0 dX1_init_4 rfl rfl ?_
  refine wp_sipush (pc := 5) dX1_init_5 (by decide) ?_
  refine wp_newI (pc := 8) (a := 39) dX1_init_8 rfl rfl rfl rfl (Nat.le_of_ble_eq_true rfl) (fun _ => rfl) (fun _ => rfl) ?_
  refine wp_eqX (X' := (lz, lk wk_36, 40)) rfl ?_
  refine wp_putfr (pc := 10) dX1_init_10 rfl f_X1_9 rfl (Nat.le_of_ble_eq_true rfl) rfl (fun _ h => by cases h; exact ⟨rfl, rfl⟩) rfl ?_
  refine wp_eqX (X' := (lz, lk wk_37, 40)) rfl ?_
  refine wp_aload_n (pc := 13) 0 dX1_init_13 rfl rfl ?_
  refine wp_bipush (pc := 14) dX1_init_14 (by decide) ?_
  refine wp_newI (pc := 16) (a := 40) dX1_init_16 rfl rfl rfl rfl (Nat.le_of_ble_eq_true rfl) (fun _ => rfl) (fun _ => rfl) ?_
  refine wp_eqX (X' := (lz, lk wk_37, 41)) rfl ?_
  refine wp_putfr (pc := 18) dX1_init_18 rfl f_X1_13 rfl (Nat.le_of_ble_eq_true rfl) rfl (fun _ h => by cases h; exact ⟨rfl, rfl⟩) rfl ?_
  refine wp_eqX (X' := (lz, lk wk_38, 41)) rfl ?_
  refine wp_vret (pc := 21) dX1_init_21 rfl rfl ?_
  exact hQ
set_option maxRecDepth 100000 in
theorem mk_X9_21 {l : Launch} {G : mG} {d : Nat} {Q : mQ} (hd : 2 ≤ d) (hQ : Q none ik_4 (lz, lk wk_39, 41)) : WP l G m_X9_init d 41 ik_2 (lz, lk wk_20, 22) 0 [some (vR 21)] [] Q := by
  refine wp_aload_n (pc := 0) 0 dX9_init_0 rfl rfl ?_
  refine wp_oinit (pc := 1) dX9_init_1 rfl oi_X9_3 oi_inst oi_code (Nat.le_of_ble_eq_true rfl) (by omega) ?_
  refine wp_aload_n (pc := 4) 0 dX9_init_4 rfl rfl ?_
  refine wp_iconst (pc := 5) dX9_init_5 ?_
  refine wp_newJ (pc := 6) (a := 22) dX9_init_6 rfl rfl rfl rfl (Nat.le_of_ble_eq_true rfl) (fun _ => rfl) (fun _ => rfl) ?_
  refine wp_eqX (X' := (lz, lk wk_20, 23)) rfl ?_
  refine wp_putfr (pc := 8) dX9_init_8 rfl f_X9_9 rfl (Nat.le_of_ble_eq_true rfl) rfl (fun _ h => by cases h; exact ⟨rfl, rfl⟩) rfl ?_
  refine wp_eqX (X' := (lz, lk wk_21, 23)) rfl ?_
  refine wp_aload_n (pc := 11) 0 dX9_init_11 rfl rfl ?_
  refine wp_bipush (pc := 12) dX9_init_12 (by decide) ?_
  refine wp_newJ (pc := 14) (a := 23) dX9_init_14 rfl rfl rfl rfl (Nat.le_of_ble_eq_true rfl) (fun _ => rfl) (fun _ => rfl) ?_
  refine wp_eqX (X' := (lz, lk wk_21, 24)) rfl ?_
  refine wp_putfr (pc := 16) dX9_init_16 rfl f_X9_15 rfl (Nat.le_of_ble_eq_true rfl) rfl (fun _ h => by cases h; exact ⟨rfl, rfl⟩) rfl ?_
  refine wp_eqX (X' := (lz, lk wk_22, 24)) rfl ?_
  refine wp_aload_n (pc := 19) 0 dX9_init_19 rfl rfl ?_
  refine wp_bipush (pc := 20) dX9_init_20 (by decide) ?_
  refine wp_newI (pc := 22) (a := 24) dX9_init_22 rfl rfl rfl rfl (Nat.le_of_ble_eq_true rfl) (fun _ => rfl) (fun _ => rfl) ?_
  refine wp_eqX (X' := (lz, lk wk_22, 25)) rfl ?_
  refine wp_putfr (pc := 24) dX9_init_24 rfl f_X9_18 rfl (Nat.le_of_ble_eq_true rfl) rfl (fun _ h => by cases h; exact ⟨rfl, rfl⟩) rfl ?_
  refine wp_eqX (X' := (lz, lk wk_23, 25)) rfl ?_
  refine wp_aload_n (pc := 27) 0 dX9_init_27 rfl rfl ?_
  refine wp_bipush (pc := 28) dX9_init_28 (by decide) ?_
  refine wp_newI (pc := 30) (a := 25) dX9_init_30 rfl rfl rfl rfl (Nat.le_of_ble_eq_true rfl) (fun _ => rfl) (fun _ => rfl) ?_
  refine wp_eqX (X' := (lz, lk wk_23, 26)) rfl ?_
  refine wp_putfr (pc := 32) dX9_init_32 rfl f_X9_22 rfl (Nat.le_of_ble_eq_true rfl) rfl (fun _ h => by cases h; exact ⟨rfl, rfl⟩) rfl ?_
  refine wp_eqX (X' := (lz, lk wk_24, 26)) rfl ?_
  refine wp_aload_n (pc := 35) 0 dX9_init_35 rfl rfl ?_
  refine wp_bipush (pc := 36) dX9_init_36 (by decide) ?_
  refine wp_newI (pc := 38) (a := 26) dX9_init_38 rfl rfl rfl rfl (Nat.le_of_ble_eq_true rfl) (fun _ => rfl) (fun _ => rfl) ?_
  refine wp_eqX (X' := (lz, lk wk_24, 27)) rfl ?_
  refine wp_putfr (pc := 40) dX9_init_40 rfl f_X9_25 rfl (Nat.le_of_ble_eq_true rfl) rfl (fun _ h => by cases h; exact ⟨rfl, rfl⟩) rfl ?_
  refine wp_eqX (X' := (lz, lk wk_25, 27)) rfl ?_
  refine wp_aload_n (pc := 43) 0 dX9_init_43 rfl rfl ?_
  refine wp_iconst (pc := 44) dX9_init_44 ?_
  refine wp_newI (pc := 45) (a := 27) dX9_init_45 rfl rfl rfl rfl (Nat.le_of_ble_eq_true rfl) (fun _ => rfl) (fun _ => rfl) ?_
  refine wp_eqX (X' := (lz, lk wk_25, 28)) rfl ?_
  refine wp_putfr (pc := 47) dX9_init_47 rfl f_X9_28 rfl (Nat.le_of_ble_eq_true rfl) rfl (fun _ h => by cases h; exact ⟨rfl, rfl⟩) rfl ?_
  refine wp_eqX (X' := (lz, lk wk_26, 28)) rfl ?_
  refine wp_aload_n (pc := 50) 0 dX9_init_50 rfl rfl ?_
  refine wp_iconst (pc := 51) dX9_init_51 ?_
  refine wp_newI (pc := 52) (a := 28) dX9_init_52 rfl rfl rfl rfl (Nat.le_of_ble_eq_true rfl) (fun _ => rfl) (fun _ => rfl) ?_
  refine wp_eqX (X' := (lz, lk wk_26, 29)) rfl ?_
  refine wp_putfr (pc := 54) dX9_init_54 rfl f_X9_31 rfl (Nat.le_of_ble_eq_true rfl) rfl (fun _ h => by cases h; exact ⟨rfl, rfl⟩) rfl ?_
  refine wp_eqX (X' := (lz, lk wk_27, 29)) rfl ?_
  refine wp_aload_n (pc := 57) 0 dX9_init_57 rfl rfl ?_
  refine wp_iconst (pc := 58) dX9_init_58 ?_
  refine wp_newI (pc := 59) (a := 29) dX9_init_59 rfl rfl rfl rfl (Nat.le_of_ble_eq_true rfl) (fun _ => rfl) (fun _ => rfl) ?_
  refine wp_eqX (X' := (lz, lk wk_27, 30)) rfl ?_
  refine wp_putfr (pc := 61) dX9_init_61 rfl f_X9_34 rfl (Nat.le_of_ble_eq_true rfl) rfl (fun _ h => by cases h; exact ⟨rfl, rfl⟩) rfl ?_
  refine wp_eqX (X' := (lz, lk wk_28, 30)) rfl ?_
  refine wp_aload_n (pc := 64) 0 dX9_init_64 rfl rfl ?_
  refine wp_iconst (pc := 65) dX9_init_65 ?_
  refine wp_newI (pc := 66) (a := 30) dX9_init_66 rfl rfl rfl rfl (Nat.le_of_ble_eq_true rfl) (fun _ => rfl) (fun _ => rfl) ?_
  refine wp_eqX (X' := (lz, lk wk_28, 31)) rfl ?_
  refine wp_putfr (pc := 68) dX9_init_68 rfl f_X9_37 rfl (Nat.le_of_ble_eq_true rfl) rfl (fun _ h => by cases h; exact ⟨rfl, rfl⟩) rfl ?_
  refine wp_eqX (X' := (lz, lk wk_29, 31)) rfl ?_
  refine wp_aload_n (pc := 71) 0 dX9_init_71 rfl rfl ?_
  refine wp_new (pc := 72) (a := 31) dX9_init_72 rfl rfl cw_X9_40 it_0 ini_0 rfl rfl (by decide) (Nat.le_of_ble_eq_true rfl) (fun _ => rfl) (fun _ => rfl) (lk_no (by decide +kernel)) ?_
  refine wp_eqX (X' := (lz, lk wk_29, 32)) rfl ?_
  refine wp_dup (pc := 75) dX9_init_75 rfl ?_
  refine wp_callN (pc := 76) (st := [vR 31, vR 21]) (nf' := 38) (a := 31) [] [some (vR 31)] dX9_init_76 rfl cn_X9_42 rfl rfl (Nat.le_of_ble_eq_true rfl) rfl (Nat.le_of_ble_eq_true rfl) (by omega) (Nat.le_of_ble_eq_true rfl) (Nat.le_of_ble_eq_true rfl) ?_
  refine mk_X0_31 (by omega) ?_
  refine wp_eqst (st' := [vR 31, vR 21]) rfl ?_
  refine wp_putfr (pc := 79) dX9_init_79 rfl f_X9_43 rfl (Nat.le_of_ble_eq_true rfl) rfl (fun _ h => by cases h; exact ⟨rfl, rfl⟩) rfl ?_
  refine wp_eqX (X' := (lz, lk wk_36, 38)) rfl ?_
  refine wp_aload_n (pc := 82) 0 dX9_init_82 rfl rfl ?_
  refine wp_new (pc := 83) (a := 38) dX9_init_83 rfl rfl cw_X9_47 it_1 ini_1 rfl rfl (by decide) (Nat.le_of_ble_eq_true rfl) (fun _ => rfl) (fun _ => rfl) (lk_no (by decide +kernel)) ?_
  refine wp_eqX (X' := (lz, lk wk_36, 39)) rfl ?_
  refine wp_dup (pc := 86) dX9_init_86 rfl ?_
  refine wp_callN (pc := 87) (st := [vR 38, vR 21]) (nf' := 41) (a := 38) [] [some (vR 38)] dX9_init_87 rfl cn_X9_49 rfl rfl (Nat.le_of_ble_eq_true rfl) rfl (Nat.le_of_ble_eq_true rfl) (by omega) (Nat.le_of_ble_eq_true rfl) (Nat.le_of_ble_eq_true rfl) ?_
  refine mk_X1_38 (by omega) ?_
  refine wp_eqst (st' := [vR 38, vR 21]) rfl ?_
  refine wp_putfr (pc := 90) dX9_init_90 rfl f_X9_50 rfl (Nat.le_of_ble_eq_true rfl) rfl (fun _ h => by cases h; exact ⟨rfl, rfl⟩) rfl ?_
  refine wp_eqX (X' := (lz, lk wk_39, 41)) rfl ?_
  refine wp_aload_n (pc := 93) 0 dX9_init_93 rfl rfl ?_
  refine wp_iconst (pc := 94) dX9_init_94 ?_
  refine wp_puti (pc := 95) dX9_init_95 rfl f_X9_54 rfl (Nat.le_of_ble_eq_true rfl) (fun _ h => by cases h; rfl) rfl ?_
  refine wp_eqI (I' := ik_3) rfl ?_
  refine wp_aload_n (pc := 98) 0 dX9_init_98 rfl rfl ?_
  refine wp_iconst (pc := 99) dX9_init_99 ?_
  refine wp_puti (pc := 100) dX9_init_100 rfl f_X9_58 rfl (Nat.le_of_ble_eq_true rfl) (fun _ h => by cases h; rfl) rfl ?_
  refine wp_eqI (I' := ik_4) rfl ?_
  refine wp_vret (pc := 103) dX9_init_103 rfl rfl ?_
  exact hQ
set_option maxRecDepth 100000 in
theorem mk_X8_41 {l : Launch} {G : mG} {d : Nat} {Q : mQ} (hd : 6 ≤ d) (hQ : Q none ik_4 (lF, lk wk_42, 44)) : WP l G m_X8_init d 44 ik_4 (lz, lk wk_40, 42) 0 [some (vR 41), none, none, none] [] Q := by
  refine wp_aload_n (pc := 0) 0 dX8_init_0 rfl rfl ?_
  refine wp_oinit (pc := 1) dX8_init_1 rfl oi_X8_3 oi_inst oi_code (Nat.le_of_ble_eq_true rfl) (by omega) ?_
  refine wp_aload_n (pc := 4) 0 dX8_init_4 rfl rfl ?_
  refine wp_sipush (pc := 5) dX8_init_5 (by decide) ?_
  refine wp_newB (pc := 8) (a := 42) dX8_init_8 rfl rfl kd_42 rfl (Nat.le_of_ble_eq_true rfl) (fun _ => rfl) (fun _ => rfl) ?_
  refine wp_eqX (X' := (lz, lk wk_40, 43)) rfl ?_
  refine wp_putfr (pc := 10) dX8_init_10 rfl f_X8_11 kd_41 (Nat.le_of_ble_eq_true rfl) rfl (fun _ h => by cases h; exact ⟨rfl, rfl⟩) rfl ?_
  refine wp_eqX (X' := (lz, lk wk_41, 43)) rfl ?_
  refine wp_aload_n (pc := 13) 0 dX8_init_13 rfl rfl ?_
  refine wp_bipush (pc := 14) dX8_init_14 (by decide) ?_
  refine wp_newJ (pc := 16) (a := 43) dX8_init_16 rfl rfl kd_43 rfl (Nat.le_of_ble_eq_true rfl) (fun _ => rfl) (fun _ => rfl) ?_
  refine wp_eqX (X' := (lz, lk wk_41, 44)) rfl ?_
  refine wp_putfr (pc := 18) dX8_init_18 rfl f_X8_15 kd_41 (Nat.le_of_ble_eq_true rfl) rfl (fun _ h => by cases h; exact ⟨rfl, rfl⟩) rfl ?_
  refine wp_eqX (X' := (lz, lk wk_42, 44)) rfl ?_
  exact mk_X8_41_loop hd hQ
set_option maxRecDepth 100000 in
theorem mk_X4_44 {l : Launch} {G : mG} {d : Nat} {Q : mQ} (hd : 1 ≤ d) (hQ : Q none ik_5 (lF, lk wk_45, 45)) : WP l G m_X4_init d 45 ik_4 (lF, lk wk_43, 45) 0 [some (vR 44), some (vR 41), some (vR 21)] [] Q := by
  refine wp_aload_n (pc := 0) 0 dX4_init_0 rfl rfl ?_
  refine wp_oinit (pc := 1) dX4_init_1 rfl oi_X4_3 oi_inst oi_code (Nat.le_of_ble_eq_true rfl) (by omega) ?_
  refine wp_aload_n (pc := 4) 0 dX4_init_4 rfl rfl ?_
  refine wp_iconst (pc := 5) dX4_init_5 ?_
  refine wp_puti (pc := 6) dX4_init_6 rfl f_X4_9 kd_44 (Nat.le_of_ble_eq_true rfl) (fun _ h => by cases h; rfl) rfl ?_
  refine wp_eqI (I' := ik_5) rfl ?_
  refine wp_aload_n (pc := 9) 0 dX4_init_9 rfl rfl ?_
  refine wp_aload_n (pc := 10) 1 dX4_init_10 rfl rfl ?_
  refine wp_putfr (pc := 11) dX4_init_11 rfl f_X4_15 kd_44 (Nat.le_of_ble_eq_true rfl) rfl (fun _ h => by cases h; exact ⟨rfl, rfl⟩) rfl ?_
  refine wp_eqX (X' := (lF, lk wk_44, 45)) rfl ?_
  refine wp_aload_n (pc := 14) 0 dX4_init_14 rfl rfl ?_
  refine wp_aload_n (pc := 15) 2 dX4_init_15 rfl rfl ?_
  refine wp_putr (pc := 16) dX4_init_16 rfl f_X4_19 kd_44 (Nat.le_of_ble_eq_true rfl) (fun _ h => by cases h; rfl) rfl ?_
  refine wp_eqX (X' := (lF, lk wk_45, 45)) rfl ?_
  refine wp_vret (pc := 19) dX4_init_19 rfl rfl ?_
  exact hQ
set_option maxRecDepth 100000 in
theorem mk_X3_45 {l : Launch} {G : mG} {d : Nat} {Q : mQ} (hd : 1 ≤ d) (hQ : Q none ik_5 (lF, lk wk_48, 47)) : WP l G m_X3_init d 47 ik_5 (lF, lk wk_46, 46) 0 [some (vR 45), some (vR 1)] [] Q := by
  refine wp_aload_n (pc := 0) 0 dX3_init_0 rfl rfl ?_
  refine wp_oinit (pc := 1) dX3_init_1 rfl oi_X3_3 oi_inst oi_code (Nat.le_of_ble_eq_true rfl) (by omega) ?_
  refine wp_aload_n (pc := 4) 0 dX3_init_4 rfl rfl ?_
  refine wp_iconst (pc := 5) dX3_init_5 ?_
  refine wp_newI (pc := 6) (a := 46) dX3_init_6 rfl rfl kd_46 rfl (Nat.le_of_ble_eq_true rfl) (fun _ => rfl) (fun _ => rfl) ?_
  refine wp_eqX (X' := (lF, lk wk_46, 47)) rfl ?_
  refine wp_putfr (pc := 8) dX3_init_8 rfl f_X3_9 kd_45 (Nat.le_of_ble_eq_true rfl) rfl (fun _ h => by cases h; exact ⟨rfl, rfl⟩) rfl ?_
  refine wp_eqX (X' := (lF, lk wk_47, 47)) rfl ?_
  refine wp_aload_n (pc := 11) 0 dX3_init_11 rfl rfl ?_
  refine wp_aload_n (pc := 12) 1 dX3_init_12 rfl rfl ?_
  refine wp_putr (pc := 13) dX3_init_13 rfl f_X3_15 kd_45 (Nat.le_of_ble_eq_true rfl) (fun _ h => by cases h; rfl) rfl ?_
  refine wp_eqX (X' := (lF, lk wk_48, 47)) rfl ?_
  refine wp_vret (pc := 16) dX3_init_16 rfl rfl ?_
  exact hQ
set_option maxRecDepth 100000 in
theorem mk_X7_47 {l : Launch} {G : mG} {d : Nat} {Q : mQ} (hd : 1 ≤ d) (hQ : Q none ik_5 (lF, lk wk_50, 49)) : WP l G m_X7_init d 49 ik_5 (lF, lk wk_49, 48) 0 [some (vR 47)] [] Q := by
  refine wp_aload_n (pc := 0) 0 dX7_init_0 rfl rfl ?_
  refine wp_oinit (pc := 1) dX7_init_1 rfl oi_X7_5 oi_inst oi_code (Nat.le_of_ble_eq_true rfl) (by omega) ?_
  refine wp_aload_n (pc := 4) 0 dX7_init_4 rfl rfl ?_
  refine wp_bipush (pc := 5) dX7_init_5 (by decide) ?_
  refine wp_newI (pc := 7) (a := 48) dX7_init_7 rfl rfl kd_48 rfl (Nat.le_of_ble_eq_true rfl) (fun _ => rfl) (fun _ => rfl) ?_
  refine wp_eqX (X' := (lF, lk wk_49, 49)) rfl ?_
  refine wp_putfr (pc := 9) dX7_init_9 rfl f_X7_11 kd_47 (Nat.le_of_ble_eq_true rfl) rfl (fun _ h => by cases h; exact ⟨rfl, rfl⟩) rfl ?_
  refine wp_eqX (X' := (lF, lk wk_50, 49)) rfl ?_
  refine wp_vret (pc := 12) dX7_init_12 rfl rfl ?_
  exact hQ
set_option maxRecDepth 100000 in
theorem mk_X7_49 {l : Launch} {G : mG} {d : Nat} {Q : mQ} (hd : 1 ≤ d) (hQ : Q none ik_5 (lF, lk wk_52, 51)) : WP l G m_X7_init d 51 ik_5 (lF, lk wk_51, 50) 0 [some (vR 49)] [] Q := by
  refine wp_aload_n (pc := 0) 0 dX7_init_0 rfl rfl ?_
  refine wp_oinit (pc := 1) dX7_init_1 rfl oi_X7_5 oi_inst oi_code (Nat.le_of_ble_eq_true rfl) (by omega) ?_
  refine wp_aload_n (pc := 4) 0 dX7_init_4 rfl rfl ?_
  refine wp_bipush (pc := 5) dX7_init_5 (by decide) ?_
  refine wp_newI (pc := 7) (a := 50) dX7_init_7 rfl rfl kd_50 rfl (Nat.le_of_ble_eq_true rfl) (fun _ => rfl) (fun _ => rfl) ?_
  refine wp_eqX (X' := (lF, lk wk_51, 51)) rfl ?_
  refine wp_putfr (pc := 9) dX7_init_9 rfl f_X7_11 kd_49 (Nat.le_of_ble_eq_true rfl) rfl (fun _ h => by cases h; exact ⟨rfl, rfl⟩) rfl ?_
  refine wp_eqX (X' := (lF, lk wk_52, 51)) rfl ?_
  refine wp_vret (pc := 12) dX7_init_12 rfl rfl ?_
  exact hQ
set_option maxRecDepth 100000 in
theorem mk_X2_51 {l : Launch} {G : mG} {d : Nat} {Q : mQ} (hd : 1 ≤ d) (hQ : Q none ik_5 (lF, lk wk_55, 94)) : WP l G m_X2_init d 94 ik_5 (lF, lk wk_53, 52) 0 [some (vR 51)] [] Q := by
  refine wp_aload_n (pc := 0) 0 dX2_init_0 rfl rfl ?_
  refine wp_oinit (pc := 1) dX2_init_1 rfl oi_X2_3 oi_inst oi_code (Nat.le_of_ble_eq_true rfl) (by omega) ?_
  refine wp_aload_n (pc := 4) 0 dX2_init_4 rfl rfl ?_
  refine wp_bipush (pc := 5) dX2_init_5 (by decide) ?_
  refine wp_bipush (pc := 7) dX2_init_7 (by decide) ?_
  refine wp_multi (pc := 9) (a := 52) (N := 41) (K' := 30) (lk wk_54) dX2_init_9 rfl cw_X2_11 rfl kd_52 (fun i hi => row_k i hi) rfl rfl (by decide) (Nat.le_of_ble_eq_true rfl) (by decide +kernel) (fun i hi j => by show up (up (up (up (up ik_0 1 15 (4)) 1 16 (2)) 21 15 (4)) 21 16 (2)) 44 4 (-1) (52 + 1 + i) j = 0; rw [up_c (by omega)]; rw [up_c (by omega)]; rw [up_c (by omega)]; rw [up_c (by omega)]; rw [up_c (by omega)]; rfl) (by decide +kernel) (fun b hb => lk_app (fun w hw => by obtain ⟨j, -, rfl⟩ := List.mem_map.mp hw; exact fun z => hb z.symm)) ?_
  refine wp_eqX (X' := (lF, lk wk_54, 94)) rfl ?_
  refine wp_putfr (pc := 13) dX2_init_13 rfl f_X2_13 kd_51 (Nat.le_of_ble_eq_true rfl) rfl (fun _ h => by cases h; exact ⟨rfl, rfl⟩) rfl ?_
  refine wp_eqX (X' := (lF, lk wk_55, 94)) rfl ?_
  refine wp_vret (pc := 16) dX2_init_16 rfl rfl ?_
  exact hQ
set_option maxRecDepth 100000 in
theorem mk_X7_95 {l : Launch} {G : mG} {d : Nat} {Q : mQ} (hd : 1 ≤ d) (hQ : Q none ik_5 (lF, lk wk_57, 97)) : WP l G m_X7_init d 97 ik_5 (lF, lk wk_56, 96) 0 [some (vR 95)] [] Q := by
  refine wp_aload_n (pc := 0) 0 dX7_init_0 rfl rfl ?_
  refine wp_oinit (pc := 1) dX7_init_1 rfl oi_X7_5 oi_inst oi_code (Nat.le_of_ble_eq_true rfl) (by omega) ?_
  refine wp_aload_n (pc := 4) 0 dX7_init_4 rfl rfl ?_
  refine wp_bipush (pc := 5) dX7_init_5 (by decide) ?_
  refine wp_newI (pc := 7) (a := 96) dX7_init_7 rfl rfl kd_96 rfl (Nat.le_of_ble_eq_true rfl) (fun _ => rfl) (fun _ => rfl) ?_
  refine wp_eqX (X' := (lF, lk wk_56, 97)) rfl ?_
  refine wp_putfr (pc := 9) dX7_init_9 rfl f_X7_11 kd_95 (Nat.le_of_ble_eq_true rfl) rfl (fun _ h => by cases h; exact ⟨rfl, rfl⟩) rfl ?_
  refine wp_eqX (X' := (lF, lk wk_57, 97)) rfl ?_
  refine wp_vret (pc := 12) dX7_init_12 rfl rfl ?_
  exact hQ
set_option maxRecDepth 100000 in
theorem mk_X7_97 {l : Launch} {G : mG} {d : Nat} {Q : mQ} (hd : 1 ≤ d) (hQ : Q none ik_5 (lF, lk wk_59, 99)) : WP l G m_X7_init d 99 ik_5 (lF, lk wk_58, 98) 0 [some (vR 97)] [] Q := by
  refine wp_aload_n (pc := 0) 0 dX7_init_0 rfl rfl ?_
  refine wp_oinit (pc := 1) dX7_init_1 rfl oi_X7_5 oi_inst oi_code (Nat.le_of_ble_eq_true rfl) (by omega) ?_
  refine wp_aload_n (pc := 4) 0 dX7_init_4 rfl rfl ?_
  refine wp_bipush (pc := 5) dX7_init_5 (by decide) ?_
  refine wp_newI (pc := 7) (a := 98) dX7_init_7 rfl rfl kd_98 rfl (Nat.le_of_ble_eq_true rfl) (fun _ => rfl) (fun _ => rfl) ?_
  refine wp_eqX (X' := (lF, lk wk_58, 99)) rfl ?_
  refine wp_putfr (pc := 9) dX7_init_9 rfl f_X7_11 kd_97 (Nat.le_of_ble_eq_true rfl) rfl (fun _ h => by cases h; exact ⟨rfl, rfl⟩) rfl ?_
  refine wp_eqX (X' := (lF, lk wk_59, 99)) rfl ?_
  refine wp_vret (pc := 12) dX7_init_12 rfl rfl ?_
  exact hQ
set_option maxRecDepth 100000 in
theorem mk_X7_99 {l : Launch} {G : mG} {d : Nat} {Q : mQ} (hd : 1 ≤ d) (hQ : Q none ik_5 (lF, lk wk_61, 101)) : WP l G m_X7_init d 101 ik_5 (lF, lk wk_60, 100) 0 [some (vR 99)] [] Q := by
  refine wp_aload_n (pc := 0) 0 dX7_init_0 rfl rfl ?_
  refine wp_oinit (pc := 1) dX7_init_1 rfl oi_X7_5 oi_inst oi_code (Nat.le_of_ble_eq_true rfl) (by omega) ?_
  refine wp_aload_n (pc := 4) 0 dX7_init_4 rfl rfl ?_
  refine wp_bipush (pc := 5) dX7_init_5 (by decide) ?_
  refine wp_newI (pc := 7) (a := 100) dX7_init_7 rfl rfl kd_100 rfl (Nat.le_of_ble_eq_true rfl) (fun _ => rfl) (fun _ => rfl) ?_
  refine wp_eqX (X' := (lF, lk wk_60, 101)) rfl ?_
  refine wp_putfr (pc := 9) dX7_init_9 rfl f_X7_11 kd_99 (Nat.le_of_ble_eq_true rfl) rfl (fun _ h => by cases h; exact ⟨rfl, rfl⟩) rfl ?_
  refine wp_eqX (X' := (lF, lk wk_61, 101)) rfl ?_
  refine wp_vret (pc := 12) dX7_init_12 rfl rfl ?_
  exact hQ
set_option maxRecDepth 100000 in
theorem mk_X6_101 {l : Launch} {G : mG} {d : Nat} {Q : mQ} (hd : 1 ≤ d) (hQ : Q none ik_5 (lF, lk wk_65, 104)) : WP l G m_X6_init d 104 ik_5 (lF, lk wk_63, 102) 0 [some (vR 101)] [] Q := by
  refine wp_aload_n (pc := 0) 0 dX6_init_0 rfl rfl ?_
  refine wp_oinit (pc := 1) dX6_init_1 rfl oi_X6_3 oi_inst oi_code (Nat.le_of_ble_eq_true rfl) (by omega) ?_
  refine wp_aload_n (pc := 4) 0 dX6_init_4 rfl rfl ?_
  refine wp_bipush (pc := 5) dX6_init_5 (by decide) ?_
  refine wp_newI (pc := 7) (a := 102) dX6_init_7 rfl rfl kd_102 rfl (Nat.le_of_ble_eq_true rfl) (fun _ => rfl) (fun _ => rfl) ?_
  refine wp_eqX (X' := (lF, lk wk_63, 103)) rfl ?_
  refine wp_putr (pc := 9) dX6_init_9 rfl f_X6_11 kd_101 (Nat.le_of_ble_eq_true rfl) (fun _ h => by cases h; rfl) rfl ?_
  refine wp_eqX (X' := (lF, lk wk_64, 103)) rfl ?_
  refine wp_aload_n (pc := 12) 0 dX6_init_12 rfl rfl ?_
  refine wp_bipush (pc := 13) dX6_init_13 (by decide) ?_
  refine wp_newI (pc := 15) (a := 103) dX6_init_15 rfl rfl kd_103 rfl (Nat.le_of_ble_eq_true rfl) (fun _ => rfl) (fun _ => rfl) ?_
  refine wp_eqX (X' := (lF, lk wk_64, 104)) rfl ?_
  refine wp_putr (pc := 17) dX6_init_17 rfl f_X6_15 kd_101 (Nat.le_of_ble_eq_true rfl) (fun _ h => by cases h; rfl) rfl ?_
  refine wp_eqX (X' := (lF, lk wk_65, 104)) rfl ?_
  refine wp_vret (pc := 20) dX6_init_20 rfl rfl ?_
  exact hQ
set_option maxRecDepth 100000 in
theorem mk_X5_104 {l : Launch} {G : mG} {d : Nat} {Q : mQ} (hd : 1 ≤ d) (hQ : Q none ik_5 (lF, lk wk_72, 111)) : WP l G m_X5_init d 111 ik_5 (lF, lk wk_66, 105) 0 [some (vR 104)] [] Q := by
  refine wp_aload_n (pc := 0) 0 dX5_init_0 rfl rfl ?_
  refine wp_oinit (pc := 1) dX5_init_1 rfl oi_X5_3 oi_inst oi_code (Nat.le_of_ble_eq_true rfl) (by omega) ?_
  refine wp_aload_n (pc := 4) 0 dX5_init_4 rfl rfl ?_
  refine wp_bipush (pc := 5) dX5_init_5 (by decide) ?_
  refine wp_newI (pc := 7) (a := 105) dX5_init_7 rfl rfl kd_105 rfl (Nat.le_of_ble_eq_true rfl) (fun _ => rfl) (fun _ => rfl) ?_
  refine wp_eqX (X' := (lF, lk wk_66, 106)) rfl ?_
  refine wp_putfr (pc := 9) dX5_init_9 rfl f_X5_11 kd_104 (Nat.le_of_ble_eq_true rfl) rfl (fun _ h => by cases h; exact ⟨rfl, rfl⟩) rfl ?_
  refine wp_eqX (X' := (lF, lk wk_67, 106)) rfl ?_
  refine wp_aload_n (pc := 12) 0 dX5_init_12 rfl rfl ?_
  refine wp_bipush (pc := 13) dX5_init_13 (by decide) ?_
  refine wp_newI (pc := 15) (a := 106) dX5_init_15 rfl rfl kd_106 rfl (Nat.le_of_ble_eq_true rfl) (fun _ => rfl) (fun _ => rfl) ?_
  refine wp_eqX (X' := (lF, lk wk_67, 107)) rfl ?_
  refine wp_putfr (pc := 17) dX5_init_17 rfl f_X5_15 kd_104 (Nat.le_of_ble_eq_true rfl) rfl (fun _ h => by cases h; exact ⟨rfl, rfl⟩) rfl ?_
  refine wp_eqX (X' := (lF, lk wk_68, 107)) rfl ?_
  refine wp_aload_n (pc := 20) 0 dX5_init_20 rfl rfl ?_
  refine wp_bipush (pc := 21) dX5_init_21 (by decide) ?_
  refine wp_newI (pc := 23) (a := 107) dX5_init_23 rfl rfl kd_107 rfl (Nat.le_of_ble_eq_true rfl) (fun _ => rfl) (fun _ => rfl) ?_
  refine wp_eqX (X' := (lF, lk wk_68, 108)) rfl ?_
  refine wp_putfr (pc := 25) dX5_init_25 rfl f_X5_18 kd_104 (Nat.le_of_ble_eq_true rfl) rfl (fun _ h => by cases h; exact ⟨rfl, rfl⟩) rfl ?_
  refine wp_eqX (X' := (lF, lk wk_69, 108)) rfl ?_
  refine wp_aload_n (pc := 28) 0 dX5_init_28 rfl rfl ?_
  refine wp_bipush (pc := 29) dX5_init_29 (by decide) ?_
  refine wp_newZ (pc := 31) (a := 108) dX5_init_31 rfl rfl kd_108 rfl (Nat.le_of_ble_eq_true rfl) (fun _ => rfl) (fun _ => rfl) ?_
  refine wp_eqX (X' := (lF, lk wk_69, 109)) rfl ?_
  refine wp_putfr (pc := 33) dX5_init_33 rfl f_X5_21 kd_104 (Nat.le_of_ble_eq_true rfl) rfl (fun _ h => by cases h; exact ⟨rfl, rfl⟩) rfl ?_
  refine wp_eqX (X' := (lF, lk wk_70, 109)) rfl ?_
  refine wp_aload_n (pc := 36) 0 dX5_init_36 rfl rfl ?_
  refine wp_bipush (pc := 37) dX5_init_37 (by decide) ?_
  refine wp_newI (pc := 39) (a := 109) dX5_init_39 rfl rfl kd_109 rfl (Nat.le_of_ble_eq_true rfl) (fun _ => rfl) (fun _ => rfl) ?_
  refine wp_eqX (X' := (lF, lk wk_70, 110)) rfl ?_
  refine wp_putfr (pc := 41) dX5_init_41 rfl f_X5_25 kd_104 (Nat.le_of_ble_eq_true rfl) rfl (fun _ h => by cases h; exact ⟨rfl, rfl⟩) rfl ?_
  refine wp_eqX (X' := (lF, lk wk_71, 110)) rfl ?_
  refine wp_aload_n (pc := 44) 0 dX5_init_44 rfl rfl ?_
  refine wp_bipush (pc := 45) dX5_init_45 (by decide) ?_
  refine wp_newI (pc := 47) (a := 110) dX5_init_47 rfl rfl kd_110 rfl (Nat.le_of_ble_eq_true rfl) (fun _ => rfl) (fun _ => rfl) ?_
  refine wp_eqX (X' := (lF, lk wk_71, 111)) rfl ?_
  refine wp_putfr (pc := 49) dX5_init_49 rfl f_X5_28 kd_104 (Nat.le_of_ble_eq_true rfl) rfl (fun _ h => by cases h; exact ⟨rfl, rfl⟩) rfl ?_
  refine wp_eqX (X' := (lF, lk wk_72, 111)) rfl ?_
  refine wp_vret (pc := 52) dX5_init_52 rfl rfl ?_
  exact hQ
set_option maxRecDepth 100000 in
theorem mk_settle {l : Launch} {G : mG} {d : Nat} {Q : mQ} (hd : 4 ≤ d) (hQ : Q none ik_5 (lF, lk wk_73, 111)) : WP l G m_X10_settleIn d 111 ik_5 (lF, lk wk_73, 111) 0 [some (vR 0)] [] Q := by
  refine wp_aload_n (pc := 0) 0 dX10_settleIn_0 rfl rfl ?_
  refine wp_getr (pc := 1) (r := 45) dX10_settleIn_1 rfl f_X10_40 kd_0 (Nat.le_of_ble_eq_true rfl) rfl rfl ?_
  refine wp_aload_n (pc := 4) 0 dX10_settleIn_4 rfl rfl ?_
  refine wp_getr (pc := 5) (r := 1) dX10_settleIn_5 rfl f_X10_10 kd_0 (Nat.le_of_ble_eq_true rfl) rfl rfl ?_
  refine wp_putr (pc := 8) dX10_settleIn_8 rfl f_X10_338 kd_45 (Nat.le_of_ble_eq_true rfl) (fun _ h => by cases h; rfl) rfl ?_
  refine wp_eqX (X' := (lF, lk wk_73, 111)) (congrArg (fun r => (lF, r, 111)) (upR_same rfl)) ?_
  refine wp_aload_n (pc := 11) 0 dX10_settleIn_11 rfl rfl ?_
  refine wp_getr (pc := 12) (r := 47) dX10_settleIn_12 rfl f_X10_47 kd_0 (Nat.le_of_ble_eq_true rfl) rfl rfl ?_
  refine wp_aload_n (pc := 15) 0 dX10_settleIn_15 rfl rfl ?_
  refine wp_getr (pc := 16) (r := 1) dX10_settleIn_16 rfl f_X10_10 kd_0 (Nat.le_of_ble_eq_true rfl) rfl rfl ?_
  refine wp_callV (pc := 19) (st := []) (nf' := 111) [vR 1] [some (vR 47), some (vR 1)] dX10_settleIn_19 rfl c_X10_341 rfl kd_47 (by decide) rfl (Nat.le_of_ble_eq_true rfl) rfl (Nat.le_of_ble_eq_true rfl) rfl (Nat.le_of_ble_eq_true rfl) (by omega) (Nat.le_of_ble_eq_true rfl) (Nat.le_of_ble_eq_true rfl) ?_
  refine wp_aload_n (pc := 0) 0 dX7_begin_0 rfl rfl ?_
  refine wp_getr (pc := 1) (r := 48) dX7_begin_1 rfl f_X7_11 kd_47 (Nat.le_of_ble_eq_true rfl) rfl rfl ?_
  refine wp_iconst (pc := 4) dX7_begin_4 ?_
  refine wp_callS (pc := 5) (st := []) (nf' := 111) [vR 48, vI 0] [some (vR 48), some (vI 0), none, none] dX7_begin_5 rfl c_X7_15 rfl rfl (Nat.le_of_ble_eq_true rfl) rfl (Nat.le_of_ble_eq_true rfl) (by omega) (Nat.le_of_ble_eq_true rfl) (Nat.le_of_ble_eq_true rfl) ?_
  refine fillX kd_48 (Nat.le_of_ble_eq_true rfl) rfl (by decide) ?_
  refine wp_eqst (st' := []) rfl ?_
  refine wp_ext (I' := ik_5) (ext_upc (fun _ => rfl) (fun j => by by_cases h : j < 30 <;> simp only [h, if_true, if_false] <;> rfl)) ?_
  refine wp_aload_n (pc := 8) 1 dX7_begin_8 rfl rfl ?_
  refine wp_getr (pc := 9) (r := 4) dX7_begin_9 rfl f_X7_21 rfl (Nat.le_of_ble_eq_true rfl) rfl rfl ?_
  refine wp_iconst (pc := 12) dX7_begin_12 ?_
  refine wp_aload_n (pc := 13) 0 dX7_begin_13 rfl rfl ?_
  refine wp_getr (pc := 14) (r := 48) dX7_begin_14 rfl f_X7_11 kd_47 (Nat.le_of_ble_eq_true rfl) rfl rfl ?_
  refine wp_iconst (pc := 17) dX7_begin_17 ?_
  refine wp_bipush (pc := 18) dX7_begin_18 (by decide) ?_
  refine wp_copy (pc := 20) (st := []) dX7_begin_20 rfl c_X7_26 rfl kd_48 (Nat.le_of_ble_eq_true rfl) (Nat.le_of_ble_eq_true rfl) (by decide) (by decide) (by decide) (by decide) (by decide) (Nat.le_of_ble_eq_true rfl) (by omega) ?_
  refine wp_ext (I' := ik_5) (ext_cpy (fun _ => rfl) (fun _ => rfl)) ?_
  refine wp_aload_n (pc := 23) 1 dX7_begin_23 rfl rfl ?_
  refine wp_getr (pc := 24) (r := 9) dX7_begin_24 rfl f_X7_32 rfl (Nat.le_of_ble_eq_true rfl) rfl rfl ?_
  refine wp_iconst (pc := 27) dX7_begin_27 ?_
  refine wp_aload_n (pc := 28) 0 dX7_begin_28 rfl rfl ?_
  refine wp_getr (pc := 29) (r := 48) dX7_begin_29 rfl f_X7_11 kd_47 (Nat.le_of_ble_eq_true rfl) rfl rfl ?_
  refine wp_bipush (pc := 32) dX7_begin_32 (by decide) ?_
  refine wp_iconst (pc := 34) dX7_begin_34 ?_
  refine wp_copy (pc := 35) (st := []) dX7_begin_35 rfl c_X7_26 rfl kd_48 (Nat.le_of_ble_eq_true rfl) (Nat.le_of_ble_eq_true rfl) (by decide) (by decide) (by decide) (by decide) (by decide) (Nat.le_of_ble_eq_true rfl) (by omega) ?_
  refine wp_ext (I' := ik_5) (ext_cpy (fun _ => rfl) (fun _ => rfl)) ?_
  refine wp_aload_n (pc := 38) 1 dX7_begin_38 rfl rfl ?_
  refine wp_getr (pc := 39) (r := 10) dX7_begin_39 rfl f_X7_35 rfl (Nat.le_of_ble_eq_true rfl) rfl rfl ?_
  refine wp_iconst (pc := 42) dX7_begin_42 ?_
  refine wp_aload_n (pc := 43) 0 dX7_begin_43 rfl rfl ?_
  refine wp_getr (pc := 44) (r := 48) dX7_begin_44 rfl f_X7_11 kd_47 (Nat.le_of_ble_eq_true rfl) rfl rfl ?_
  refine wp_bipush (pc := 47) dX7_begin_47 (by decide) ?_
  refine wp_iconst (pc := 49) dX7_begin_49 ?_
  refine wp_copy (pc := 50) (st := []) dX7_begin_50 rfl c_X7_26 rfl kd_48 (Nat.le_of_ble_eq_true rfl) (Nat.le_of_ble_eq_true rfl) (by decide) (by decide) (by decide) (by decide) (by decide) (Nat.le_of_ble_eq_true rfl) (by omega) ?_
  refine wp_ext (I' := ik_5) (ext_cpy (fun _ => rfl) (fun _ => rfl)) ?_
  refine wp_aload_n (pc := 53) 0 dX7_begin_53 rfl rfl ?_
  refine wp_getr (pc := 54) (r := 48) dX7_begin_54 rfl f_X7_11 kd_47 (Nat.le_of_ble_eq_true rfl) rfl rfl ?_
  refine wp_bipush (pc := 57) dX7_begin_57 (by decide) ?_
  refine wp_aload_n (pc := 59) 1 dX7_begin_59 rfl rfl ?_
  refine wp_geti (pc := 60) dX7_begin_60 rfl f_X7_38 rfl (Nat.le_of_ble_eq_true rfl) (Or.inl rfl) ?_
  refine wq_iast (pc := 63) 29 dX7_begin_63 kd_48 (Nat.le_of_ble_eq_true rfl) rfl (by decide) ?_
  refine wp_eqI (I' := ik_5) (up_same rfl) ?_
  refine wp_vret (pc := 64) dX7_begin_64 rfl rfl ?_
  refine wp_eqst (st' := []) rfl ?_
  refine wp_aload_n (pc := 22) 0 dX10_settleIn_22 rfl rfl ?_
  refine wp_getr (pc := 23) (r := 51) dX10_settleIn_23 rfl f_X10_57 kd_0 (Nat.le_of_ble_eq_true rfl) rfl rfl ?_
  refine wp_aload_n (pc := 26) 0 dX10_settleIn_26 rfl rfl ?_
  refine wp_getr (pc := 27) (r := 47) dX10_settleIn_27 rfl f_X10_47 kd_0 (Nat.le_of_ble_eq_true rfl) rfl rfl ?_
  refine wp_callV (pc := 30) (st := []) (nf' := 111) [vR 47] [some (vR 51), some (vR 47)] dX10_settleIn_30 rfl c_X10_305 rfl kd_51 (by decide) rfl (Nat.le_of_ble_eq_true rfl) rfl (Nat.le_of_ble_eq_true rfl) rfl (Nat.le_of_ble_eq_true rfl) (by omega) (Nat.le_of_ble_eq_true rfl) (Nat.le_of_ble_eq_true rfl) ?_
  refine wp_aload_n (pc := 0) 0 dX2_restart_0 rfl rfl ?_
  refine wp_iconst (pc := 1) dX2_restart_1 ?_
  refine wp_puti (pc := 2) dX2_restart_2 rfl f_X2_16 kd_51 (Nat.le_of_ble_eq_true rfl) (fun _ h => by cases h; rfl) rfl ?_
  refine wp_eqI (I' := ik_5) (up_same rfl) ?_
  refine wp_aload_n (pc := 5) 0 dX2_restart_5 rfl rfl ?_
  refine wp_iconst (pc := 6) dX2_restart_6 ?_
  refine wp_puti (pc := 7) dX2_restart_7 rfl f_X2_20 kd_51 (Nat.le_of_ble_eq_true rfl) (fun _ h => by cases h; rfl) rfl ?_
  refine wp_eqI (I' := ik_5) (up_same rfl) ?_
  refine wp_aload_n (pc := 10) 0 dX2_restart_10 rfl rfl ?_
  refine wp_iconst (pc := 11) dX2_restart_11 ?_
  refine wp_puti (pc := 12) dX2_restart_12 rfl f_X2_23 kd_51 (Nat.le_of_ble_eq_true rfl) (fun _ h => by cases h; rfl) rfl ?_
  refine wp_eqI (I' := ik_5) (up_same rfl) ?_
  refine wp_aload_n (pc := 15) 1 dX2_restart_15 rfl rfl ?_
  refine wp_getr (pc := 16) (r := 48) dX2_restart_16 rfl f_X2_26 kd_47 (Nat.le_of_ble_eq_true rfl) rfl rfl ?_
  refine wp_iconst (pc := 19) dX2_restart_19 ?_
  refine wp_aload_n (pc := 20) 0 dX2_restart_20 rfl rfl ?_
  refine wp_getr (pc := 21) (r := 52) dX2_restart_21 rfl f_X2_13 kd_51 (Nat.le_of_ble_eq_true rfl) rfl rfl ?_
  refine wp_iconst (pc := 24) dX2_restart_24 ?_
  refine wp_aald (pc := 25) (r := 53) dX2_restart_25 kd_52 (Or.inr rfl) (Nat.le_of_ble_eq_true rfl) (by decide) (by decide) (by decide +kernel) ?_
  refine wp_iconst (pc := 26) dX2_restart_26 ?_
  refine wp_bipush (pc := 27) dX2_restart_27 (by decide) ?_
  refine wp_row (pc := 29) (st := []) dX2_restart_29 rfl c_X2_30 kd_48 kd_53 (Nat.le_of_ble_eq_true rfl) (Nat.le_of_ble_eq_true rfl) (Nat.le_of_ble_eq_true rfl) (by omega) ?_
  refine wp_ext (I' := ik_5) (ext_upc (fun _ => rfl) (fun _ => rfl)) ?_
  refine wp_vret (pc := 32) dX2_restart_32 rfl rfl ?_
  refine wp_eqst (st' := []) rfl ?_
  refine wp_aload_n (pc := 33) 0 dX10_settleIn_33 rfl rfl ?_
  refine wp_getr (pc := 34) (r := 104) dX10_settleIn_34 rfl f_X10_75 kd_0 (Nat.le_of_ble_eq_true rfl) rfl rfl ?_
  refine wp_iconst (pc := 37) dX10_settleIn_37 ?_
  refine wp_puti (pc := 38) dX10_settleIn_38 rfl f_X10_323 kd_104 (Nat.le_of_ble_eq_true rfl) (fun _ h => by cases h; rfl) rfl ?_
  refine wp_eqI (I' := ik_5) (up_same rfl) ?_
  refine wp_aload_n (pc := 41) 0 dX10_settleIn_41 rfl rfl ?_
  refine wp_iconst (pc := 42) dX10_settleIn_42 ?_
  refine wp_puti (pc := 43) dX10_settleIn_43 rfl f_X10_302 kd_0 (Nat.le_of_ble_eq_true rfl) (fun _ h => by cases h; rfl) rfl ?_
  refine wp_eqI (I' := ik_5) (up_same rfl) ?_
  exact wp_vret (pc := 46) dX10_settleIn_46 rfl rfl hQ
set_option maxRecDepth 100000 in
theorem mk_X10_0 {l : Launch} {G : mG} {d : Nat} {Q : mQ} (hd : 9 ≤ d) (hQ : Q none ik_5 (lF, lk wk_73, 111)) : WP l G m_X10_init d 111 ik_0 (lz, lk wk_0, 1) 0 [some (vR 0)] [] Q := by
  refine wp_aload_n (pc := 0) 0 dX10_init_0 rfl rfl ?_
  refine wp_oinit (pc := 1) dX10_init_1 rfl oi_X10_1 oi_inst oi_code (Nat.le_of_ble_eq_true rfl) (by omega) ?_
  refine wp_aload_n (pc := 4) 0 dX10_init_4 rfl rfl ?_
  refine wp_new (pc := 5) (a := 1) dX10_init_5 rfl rfl cw_X10_7 it_9 ini_9 rfl rfl (by decide) (Nat.le_of_ble_eq_true rfl) (fun _ => rfl) (fun _ => rfl) (lk_no (by decide +kernel)) ?_
  refine wp_eqX (X' := (lz, lk wk_0, 2)) rfl ?_
  refine wp_dup (pc := 8) dX10_init_8 rfl ?_
  refine wp_callN (pc := 9) (st := [vR 1, vR 0]) (nf' := 21) (a := 1) [] [some (vR 1)] dX10_init_9 rfl cn_X10_9 rfl rfl (Nat.le_of_ble_eq_true rfl) rfl (Nat.le_of_ble_eq_true rfl) (by omega) (Nat.le_of_ble_eq_true rfl) (Nat.le_of_ble_eq_true rfl) ?_
  refine mk_X9_1 (by omega) ?_
  refine wp_eqst (st' := [vR 1, vR 0]) rfl ?_
  refine wp_putr (pc := 12) dX10_init_12 rfl f_X10_10 kd_0 (Nat.le_of_ble_eq_true rfl) (fun _ h => by cases h; rfl) rfl ?_
  refine wp_eqX (X' := (lz, lk wk_20, 21)) rfl ?_
  refine wp_aload_n (pc := 15) 0 dX10_init_15 rfl rfl ?_
  refine wp_new (pc := 16) (a := 21) dX10_init_16 rfl rfl cw_X10_7 it_9 ini_9 rfl rfl (by decide) (Nat.le_of_ble_eq_true rfl) (fun _ => rfl) (fun _ => rfl) (lk_no (by decide +kernel)) ?_
  refine wp_eqX (X' := (lz, lk wk_20, 22)) rfl ?_
  refine wp_dup (pc := 19) dX10_init_19 rfl ?_
  refine wp_callN (pc := 20) (st := [vR 21, vR 0]) (nf' := 41) (a := 21) [] [some (vR 21)] dX10_init_20 rfl cn_X10_9 rfl rfl (Nat.le_of_ble_eq_true rfl) rfl (Nat.le_of_ble_eq_true rfl) (by omega) (Nat.le_of_ble_eq_true rfl) (Nat.le_of_ble_eq_true rfl) ?_
  refine mk_X9_21 (by omega) ?_
  refine wp_eqst (st' := [vR 21, vR 0]) rfl ?_
  refine wp_putr (pc := 23) dX10_init_23 rfl f_X10_16 kd_0 (Nat.le_of_ble_eq_true rfl) (fun _ h => by cases h; rfl) rfl ?_
  refine wp_eqX (X' := (lz, lk wk_40, 41)) rfl ?_
  refine wp_aload_n (pc := 26) 0 dX10_init_26 rfl rfl ?_
  refine wp_new (pc := 27) (a := 41) dX10_init_27 rfl rfl cw_X10_19 it_8 ini_8 rfl kd_41 (by decide) (Nat.le_of_ble_eq_true rfl) (fun _ => rfl) (fun _ => rfl) (lk_no (by decide +kernel)) ?_
  refine wp_eqX (X' := (lz, lk wk_40, 42)) rfl ?_
  refine wp_dup (pc := 30) dX10_init_30 rfl ?_
  refine wp_callI (pc := 31) (st := [vR 41, vR 0]) (nf' := 44) (a := 41) [] [some (vR 41), none, none, none] dX10_init_31 rfl ci_X10_21 rfl rfl (Nat.le_of_ble_eq_true rfl) rfl (Nat.le_of_ble_eq_true rfl) (by omega) (Nat.le_of_ble_eq_true rfl) (Nat.le_of_ble_eq_true rfl) ?_
  refine mk_X8_41 (by omega) ?_
  refine wp_eqst (st' := [vR 41, vR 0]) rfl ?_
  refine wp_putfr (pc := 34) dX10_init_34 rfl f_X10_22 kd_0 (Nat.le_of_ble_eq_true rfl) rfl (fun _ h => by cases h; exact ⟨rfl, rfl⟩) rfl ?_
  refine wp_eqX (X' := (lF, lk wk_43, 44)) rfl ?_
  refine wp_aload_n (pc := 37) 0 dX10_init_37 rfl rfl ?_
  refine wp_new (pc := 38) (a := 44) dX10_init_38 rfl rfl cw_X10_26 it_4 ini_4 rfl kd_44 (by decide) (Nat.le_of_ble_eq_true rfl) (fun _ => rfl) (fun _ => rfl) (lk_no (by decide +kernel)) ?_
  refine wp_eqX (X' := (lF, lk wk_43, 45)) rfl ?_
  refine wp_dup (pc := 41) dX10_init_41 rfl ?_
  refine wp_aload_n (pc := 42) 0 dX10_init_42 rfl rfl ?_
  refine wp_getr (pc := 43) (r := 41) dX10_init_43 rfl f_X10_22 kd_0 (Nat.le_of_ble_eq_true rfl) rfl rfl ?_
  refine wp_aload_n (pc := 46) 0 dX10_init_46 rfl rfl ?_
  refine wp_getr (pc := 47) (r := 21) dX10_init_47 rfl f_X10_16 kd_0 (Nat.le_of_ble_eq_true rfl) rfl rfl ?_
  refine wp_callI (pc := 50) (st := [vR 44, vR 0]) (nf' := 45) (a := 44) [vR 41, vR 21] [some (vR 44), some (vR 41), some (vR 21)] dX10_init_50 rfl ci_X10_28 rfl rfl (Nat.le_of_ble_eq_true rfl) rfl (Nat.le_of_ble_eq_true rfl) (by omega) (Nat.le_of_ble_eq_true rfl) (Nat.le_of_ble_eq_true rfl) ?_
  refine mk_X4_44 (by omega) ?_
  refine wp_eqst (st' := [vR 44, vR 0]) rfl ?_
  refine wp_putfr (pc := 53) dX10_init_53 rfl f_X10_31 kd_0 (Nat.le_of_ble_eq_true rfl) rfl (fun _ h => by cases h; exact ⟨rfl, rfl⟩) rfl ?_
  refine wp_eqX (X' := (lF, lk wk_46, 45)) rfl ?_
  refine wp_aload_n (pc := 56) 0 dX10_init_56 rfl rfl ?_
  refine wp_new (pc := 57) (a := 45) dX10_init_57 rfl rfl cw_X10_35 it_3 ini_3 rfl kd_45 (by decide) (Nat.le_of_ble_eq_true rfl) (fun _ => rfl) (fun _ => rfl) (lk_no (by decide +kernel)) ?_
  refine wp_eqX (X' := (lF, lk wk_46, 46)) rfl ?_
  refine wp_dup (pc := 60) dX10_init_60 rfl ?_
  refine wp_aload_n (pc := 61) 0 dX10_init_61 rfl rfl ?_
  refine wp_getr (pc := 62) (r := 1) dX10_init_62 rfl f_X10_10 kd_0 (Nat.le_of_ble_eq_true rfl) rfl rfl ?_
  refine wp_callI (pc := 65) (st := [vR 45, vR 0]) (nf' := 47) (a := 45) [vR 1] [some (vR 45), some (vR 1)] dX10_init_65 rfl ci_X10_37 rfl rfl (Nat.le_of_ble_eq_true rfl) rfl (Nat.le_of_ble_eq_true rfl) (by omega) (Nat.le_of_ble_eq_true rfl) (Nat.le_of_ble_eq_true rfl) ?_
  refine mk_X3_45 (by omega) ?_
  refine wp_eqst (st' := [vR 45, vR 0]) rfl ?_
  refine wp_putfr (pc := 68) dX10_init_68 rfl f_X10_40 kd_0 (Nat.le_of_ble_eq_true rfl) rfl (fun _ h => by cases h; exact ⟨rfl, rfl⟩) rfl ?_
  refine wp_eqX (X' := (lF, lk wk_49, 47)) rfl ?_
  refine wp_aload_n (pc := 71) 0 dX10_init_71 rfl rfl ?_
  refine wp_new (pc := 72) (a := 47) dX10_init_72 rfl rfl cw_X10_44 it_7 ini_7 rfl kd_47 (by decide) (Nat.le_of_ble_eq_true rfl) (fun _ => rfl) (fun _ => rfl) (lk_no (by decide +kernel)) ?_
  refine wp_eqX (X' := (lF, lk wk_49, 48)) rfl ?_
  refine wp_dup (pc := 75) dX10_init_75 rfl ?_
  refine wp_callN (pc := 76) (st := [vR 47, vR 0]) (nf' := 49) (a := 47) [] [some (vR 47)] dX10_init_76 rfl cn_X10_46 rfl rfl (Nat.le_of_ble_eq_true rfl) rfl (Nat.le_of_ble_eq_true rfl) (by omega) (Nat.le_of_ble_eq_true rfl) (Nat.le_of_ble_eq_true rfl) ?_
  refine mk_X7_47 (by omega) ?_
  refine wp_eqst (st' := [vR 47, vR 0]) rfl ?_
  refine wp_putfr (pc := 79) dX10_init_79 rfl f_X10_47 kd_0 (Nat.le_of_ble_eq_true rfl) rfl (fun _ h => by cases h; exact ⟨rfl, rfl⟩) rfl ?_
  refine wp_eqX (X' := (lF, lk wk_51, 49)) rfl ?_
  refine wp_aload_n (pc := 82) 0 dX10_init_82 rfl rfl ?_
  refine wp_new (pc := 83) (a := 49) dX10_init_83 rfl rfl cw_X10_44 it_7 ini_7 rfl kd_49 (by decide) (Nat.le_of_ble_eq_true rfl) (fun _ => rfl) (fun _ => rfl) (lk_no (by decide +kernel)) ?_
  refine wp_eqX (X' := (lF, lk wk_51, 50)) rfl ?_
  refine wp_dup (pc := 86) dX10_init_86 rfl ?_
  refine wp_callN (pc := 87) (st := [vR 49, vR 0]) (nf' := 51) (a := 49) [] [some (vR 49)] dX10_init_87 rfl cn_X10_46 rfl rfl (Nat.le_of_ble_eq_true rfl) rfl (Nat.le_of_ble_eq_true rfl) (by omega) (Nat.le_of_ble_eq_true rfl) (Nat.le_of_ble_eq_true rfl) ?_
  refine mk_X7_49 (by omega) ?_
  refine wp_eqst (st' := [vR 49, vR 0]) rfl ?_
  refine wp_putfr (pc := 90) dX10_init_90 rfl f_X10_51 kd_0 (Nat.le_of_ble_eq_true rfl) rfl (fun _ h => by cases h; exact ⟨rfl, rfl⟩) rfl ?_
  refine wp_eqX (X' := (lF, lk wk_53, 51)) rfl ?_
  refine wp_aload_n (pc := 93) 0 dX10_init_93 rfl rfl ?_
  refine wp_new (pc := 94) (a := 51) dX10_init_94 rfl rfl cw_X10_54 it_2 ini_2 rfl kd_51 (by decide) (Nat.le_of_ble_eq_true rfl) (fun _ => rfl) (fun _ => rfl) (lk_no (by decide +kernel)) ?_
  refine wp_eqX (X' := (lF, lk wk_53, 52)) rfl ?_
  refine wp_dup (pc := 97) dX10_init_97 rfl ?_
  refine wp_callN (pc := 98) (st := [vR 51, vR 0]) (nf' := 94) (a := 51) [] [some (vR 51)] dX10_init_98 rfl cn_X10_56 rfl rfl (Nat.le_of_ble_eq_true rfl) rfl (Nat.le_of_ble_eq_true rfl) (by omega) (Nat.le_of_ble_eq_true rfl) (Nat.le_of_ble_eq_true rfl) ?_
  refine mk_X2_51 (by omega) ?_
  refine wp_eqst (st' := [vR 51, vR 0]) rfl ?_
  refine wp_putfr (pc := 101) dX10_init_101 rfl f_X10_57 kd_0 (Nat.le_of_ble_eq_true rfl) rfl (fun _ h => by cases h; exact ⟨rfl, rfl⟩) rfl ?_
  refine wp_eqX (X' := (lF, lk wk_56, 94)) rfl ?_
  refine wp_aload_n (pc := 104) 0 dX10_init_104 rfl rfl ?_
  refine wp_iconst (pc := 105) dX10_init_105 ?_
  refine wp_anew (pc := 106) (a := 94) dX10_init_106 rfl cw_X10_44 rfl kd_94 rfl (Nat.le_of_ble_eq_true rfl) (lk_no (by decide +kernel)) ?_
  refine wp_eqX (X' := (lF, lk wk_56, 95)) rfl ?_
  refine wp_dup (pc := 109) dX10_init_109 rfl ?_
  refine wp_iconst (pc := 110) dX10_init_110 ?_
  refine wp_new (pc := 111) (a := 95) dX10_init_111 rfl rfl cw_X10_44 it_7 ini_7 rfl kd_95 (by decide) (Nat.le_of_ble_eq_true rfl) (fun _ => rfl) (fun _ => rfl) (lk_no (by decide +kernel)) ?_
  refine wp_eqX (X' := (lF, lk wk_56, 96)) rfl ?_
  refine wp_dup (pc := 114) dX10_init_114 rfl ?_
  refine wp_callN (pc := 115) (st := [vR 95, vI 0, vR 94, vR 94, vR 0]) (nf' := 97) (a := 95) [] [some (vR 95)] dX10_init_115 rfl cn_X10_46 rfl rfl (Nat.le_of_ble_eq_true rfl) rfl (Nat.le_of_ble_eq_true rfl) (by omega) (Nat.le_of_ble_eq_true rfl) (Nat.le_of_ble_eq_true rfl) ?_
  refine mk_X7_95 (by omega) ?_
  refine wp_eqst (st' := [vR 95, vI 0, vR 94, vR 94, vR 0]) rfl ?_
  refine wp_aast (pc := 118) dX10_init_118 kd_94 (Nat.le_of_ble_eq_true rfl) kd_95 (Nat.le_of_ble_eq_true rfl) (by decide) (by decide) ?_
  refine wp_eqX (X' := (lF, lk wk_58, 97)) rfl ?_
  refine wp_dup (pc := 119) dX10_init_119 rfl ?_
  refine wp_iconst (pc := 120) dX10_init_120 ?_
  refine wp_new (pc := 121) (a := 97) dX10_init_121 rfl rfl cw_X10_44 it_7 ini_7 rfl kd_97 (by decide) (Nat.le_of_ble_eq_true rfl) (fun _ => rfl) (fun _ => rfl) (lk_no (by decide +kernel)) ?_
  refine wp_eqX (X' := (lF, lk wk_58, 98)) rfl ?_
  refine wp_dup (pc := 124) dX10_init_124 rfl ?_
  refine wp_callN (pc := 125) (st := [vR 97, vI 1, vR 94, vR 94, vR 0]) (nf' := 99) (a := 97) [] [some (vR 97)] dX10_init_125 rfl cn_X10_46 rfl rfl (Nat.le_of_ble_eq_true rfl) rfl (Nat.le_of_ble_eq_true rfl) (by omega) (Nat.le_of_ble_eq_true rfl) (Nat.le_of_ble_eq_true rfl) ?_
  refine mk_X7_97 (by omega) ?_
  refine wp_eqst (st' := [vR 97, vI 1, vR 94, vR 94, vR 0]) rfl ?_
  refine wp_aast (pc := 128) dX10_init_128 kd_94 (Nat.le_of_ble_eq_true rfl) kd_97 (Nat.le_of_ble_eq_true rfl) (by decide) (by decide) ?_
  refine wp_eqX (X' := (lF, lk wk_60, 99)) rfl ?_
  refine wp_dup (pc := 129) dX10_init_129 rfl ?_
  refine wp_iconst (pc := 130) dX10_init_130 ?_
  refine wp_new (pc := 131) (a := 99) dX10_init_131 rfl rfl cw_X10_44 it_7 ini_7 rfl kd_99 (by decide) (Nat.le_of_ble_eq_true rfl) (fun _ => rfl) (fun _ => rfl) (lk_no (by decide +kernel)) ?_
  refine wp_eqX (X' := (lF, lk wk_60, 100)) rfl ?_
  refine wp_dup (pc := 134) dX10_init_134 rfl ?_
  refine wp_callN (pc := 135) (st := [vR 99, vI 2, vR 94, vR 94, vR 0]) (nf' := 101) (a := 99) [] [some (vR 99)] dX10_init_135 rfl cn_X10_46 rfl rfl (Nat.le_of_ble_eq_true rfl) rfl (Nat.le_of_ble_eq_true rfl) (by omega) (Nat.le_of_ble_eq_true rfl) (Nat.le_of_ble_eq_true rfl) ?_
  refine mk_X7_99 (by omega) ?_
  refine wp_eqst (st' := [vR 99, vI 2, vR 94, vR 94, vR 0]) rfl ?_
  refine wp_aast (pc := 138) dX10_init_138 kd_94 (Nat.le_of_ble_eq_true rfl) kd_99 (Nat.le_of_ble_eq_true rfl) (by decide) (by decide) ?_
  refine wp_eqX (X' := (lF, lk wk_62, 101)) rfl ?_
  refine wp_putfr (pc := 139) dX10_init_139 rfl f_X10_61 kd_0 (Nat.le_of_ble_eq_true rfl) rfl (fun _ h => by cases h; exact ⟨rfl, rfl⟩) rfl ?_
  refine wp_eqX (X' := (lF, lk wk_63, 101)) rfl ?_
  refine wp_aload_n (pc := 142) 0 dX10_init_142 rfl rfl ?_
  refine wp_new (pc := 143) (a := 101) dX10_init_143 rfl rfl cw_X10_65 it_6 ini_6 rfl kd_101 (by decide) (Nat.le_of_ble_eq_true rfl) (fun _ => rfl) (fun _ => rfl) (lk_no (by decide +kernel)) ?_
  refine wp_eqX (X' := (lF, lk wk_63, 102)) rfl ?_
  refine wp_dup (pc := 146) dX10_init_146 rfl ?_
  refine wp_callN (pc := 147) (st := [vR 101, vR 0]) (nf' := 104) (a := 101) [] [some (vR 101)] dX10_init_147 rfl cn_X10_67 rfl rfl (Nat.le_of_ble_eq_true rfl) rfl (Nat.le_of_ble_eq_true rfl) (by omega) (Nat.le_of_ble_eq_true rfl) (Nat.le_of_ble_eq_true rfl) ?_
  refine mk_X6_101 (by omega) ?_
  refine wp_eqst (st' := [vR 101, vR 0]) rfl ?_
  refine wp_putfr (pc := 150) dX10_init_150 rfl f_X10_68 kd_0 (Nat.le_of_ble_eq_true rfl) rfl (fun _ h => by cases h; exact ⟨rfl, rfl⟩) rfl ?_
  refine wp_eqX (X' := (lF, lk wk_66, 104)) rfl ?_
  refine wp_aload_n (pc := 153) 0 dX10_init_153 rfl rfl ?_
  refine wp_new (pc := 154) (a := 104) dX10_init_154 rfl rfl cw_X10_72 it_5 ini_5 rfl kd_104 (by decide) (Nat.le_of_ble_eq_true rfl) (fun _ => rfl) (fun _ => rfl) (lk_no (by decide +kernel)) ?_
  refine wp_eqX (X' := (lF, lk wk_66, 105)) rfl ?_
  refine wp_dup (pc := 157) dX10_init_157 rfl ?_
  refine wp_callN (pc := 158) (st := [vR 104, vR 0]) (nf' := 111) (a := 104) [] [some (vR 104)] dX10_init_158 rfl cn_X10_74 rfl rfl (Nat.le_of_ble_eq_true rfl) rfl (Nat.le_of_ble_eq_true rfl) (by omega) (Nat.le_of_ble_eq_true rfl) (Nat.le_of_ble_eq_true rfl) ?_
  refine mk_X5_104 (by omega) ?_
  refine wp_eqst (st' := [vR 104, vR 0]) rfl ?_
  refine wp_putfr (pc := 161) dX10_init_161 rfl f_X10_75 kd_0 (Nat.le_of_ble_eq_true rfl) rfl (fun _ h => by cases h; exact ⟨rfl, rfl⟩) rfl ?_
  refine wp_eqX (X' := (lF, lk wk_73, 111)) rfl ?_
  refine wp_aload_n (pc := 164) 0 dX10_init_164 rfl rfl ?_
  refine wp_callV (pc := 165) (st := []) (nf' := 111) [] [some (vR 0)] dX10_init_165 rfl c_X10_79 rfl kd_0 (by decide) rfl (Nat.le_of_ble_eq_true rfl) rfl (Nat.le_of_ble_eq_true rfl) rfl (Nat.le_of_ble_eq_true rfl) (by omega) (Nat.le_of_ble_eq_true rfl) (Nat.le_of_ble_eq_true rfl) ?_
  refine mk_settle (by omega) ?_
  refine wp_eqst (st' := []) rfl ?_
  refine wp_vret (pc := 168) dX10_init_168 rfl rfl ?_
  exact hQ
set_option maxRecDepth 100000 in
theorem mk_X11_111 {l : Launch} {G : mG} {d : Nat} {Q : mQ} (hd : 1 ≤ d) (hQ : Q none ik_8 (lF, lk wk_114, 153)) : WP l G m_X11_init d 153 ik_5 (lF, lk wk_73, 112) 0 [some (vR 111)] [] Q := by
  refine wp_aload_n (pc := 0) 0 dX11_init_0 rfl rfl ?_
  refine wp_oinit (pc := 1) dX11_init_1 rfl oi_X11_1 oi_inst oi_code (Nat.le_of_ble_eq_true rfl) (by omega) ?_
  refine wp_aload_n (pc := 4) 0 dX11_init_4 rfl rfl ?_
  refine wp_sipush (pc := 5) dX11_init_5 (by decide) ?_
  refine wp_newI (pc := 8) (a := 112) dX11_init_8 rfl rfl kd_112 rfl (Nat.le_of_ble_eq_true rfl) (fun _ => rfl) (fun _ => rfl) ?_
  refine wp_eqX (X' := (lF, lk wk_73, 113)) rfl ?_
  refine wp_putfr (pc := 10) dX11_init_10 rfl f_X11_7 kd_111 (Nat.le_of_ble_eq_true rfl) rfl (fun _ h => by cases h; exact ⟨rfl, rfl⟩) rfl ?_
  refine wp_eqX (X' := (lF, lk wk_74, 113)) rfl ?_
  refine wp_aload_n (pc := 13) 0 dX11_init_13 rfl rfl ?_
  refine wp_iconst (pc := 14) dX11_init_14 ?_
  refine wp_puti (pc := 15) dX11_init_15 rfl f_X11_13 kd_111 (Nat.le_of_ble_eq_true rfl) (fun _ h => by cases h; rfl) rfl ?_
  refine wp_eqI (I' := ik_6) rfl ?_
  refine wp_aload_n (pc := 18) 0 dX11_init_18 rfl rfl ?_
  refine wp_bipush (pc := 19) dX11_init_19 (by decide) ?_
  refine wp_newJ (pc := 21) (a := 113) dX11_init_21 rfl rfl kd_113 rfl (Nat.le_of_ble_eq_true rfl) (fun _ => rfl) (fun _ => rfl) ?_
  refine wp_eqX (X' := (lF, lk wk_74, 114)) rfl ?_
  refine wp_putfr (pc := 23) dX11_init_23 rfl f_X11_17 kd_111 (Nat.le_of_ble_eq_true rfl) rfl (fun _ h => by cases h; exact ⟨rfl, rfl⟩) rfl ?_
  refine wp_eqX (X' := (lF, lk wk_75, 114)) rfl ?_
  refine wp_aload_n (pc := 26) 0 dX11_init_26 rfl rfl ?_
  refine wp_sipush (pc := 27) dX11_init_27 (by decide) ?_
  refine wp_newI (pc := 30) (a := 114) dX11_init_30 rfl rfl kd_114 rfl (Nat.le_of_ble_eq_true rfl) (fun _ => rfl) (fun _ => rfl) ?_
  refine wp_eqX (X' := (lF, lk wk_75, 115)) rfl ?_
  refine wp_putfr (pc := 32) dX11_init_32 rfl f_X11_21 kd_111 (Nat.le_of_ble_eq_true rfl) rfl (fun _ h => by cases h; exact ⟨rfl, rfl⟩) rfl ?_
  refine wp_eqX (X' := (lF, lk wk_76, 115)) rfl ?_
  refine wp_aload_n (pc := 35) 0 dX11_init_35 rfl rfl ?_
  refine wp_sipush (pc := 36) dX11_init_36 (by decide) ?_
  refine wp_newI (pc := 39) (a := 115) dX11_init_39 rfl rfl kd_115 rfl (Nat.le_of_ble_eq_true rfl) (fun _ => rfl) (fun _ => rfl) ?_
  refine wp_eqX (X' := (lF, lk wk_76, 116)) rfl ?_
  refine wp_putfr (pc := 41) dX11_init_41 rfl f_X11_24 kd_111 (Nat.le_of_ble_eq_true rfl) rfl (fun _ h => by cases h; exact ⟨rfl, rfl⟩) rfl ?_
  refine wp_eqX (X' := (lF, lk wk_77, 116)) rfl ?_
  refine wp_aload_n (pc := 44) 0 dX11_init_44 rfl rfl ?_
  refine wp_sipush (pc := 45) dX11_init_45 (by decide) ?_
  refine wp_newI (pc := 48) (a := 116) dX11_init_48 rfl rfl kd_116 rfl (Nat.le_of_ble_eq_true rfl) (fun _ => rfl) (fun _ => rfl) ?_
  refine wp_eqX (X' := (lF, lk wk_77, 117)) rfl ?_
  refine wp_putfr (pc := 50) dX11_init_50 rfl f_X11_27 kd_111 (Nat.le_of_ble_eq_true rfl) rfl (fun _ h => by cases h; exact ⟨rfl, rfl⟩) rfl ?_
  refine wp_eqX (X' := (lF, lk wk_78, 117)) rfl ?_
  refine wp_aload_n (pc := 53) 0 dX11_init_53 rfl rfl ?_
  refine wp_sipush (pc := 54) dX11_init_54 (by decide) ?_
  refine wp_newI (pc := 57) (a := 117) dX11_init_57 rfl rfl kd_117 rfl (Nat.le_of_ble_eq_true rfl) (fun _ => rfl) (fun _ => rfl) ?_
  refine wp_eqX (X' := (lF, lk wk_78, 118)) rfl ?_
  refine wp_putfr (pc := 59) dX11_init_59 rfl f_X11_30 kd_111 (Nat.le_of_ble_eq_true rfl) rfl (fun _ h => by cases h; exact ⟨rfl, rfl⟩) rfl ?_
  refine wp_eqX (X' := (lF, lk wk_79, 118)) rfl ?_
  refine wp_aload_n (pc := 62) 0 dX11_init_62 rfl rfl ?_
  refine wp_sipush (pc := 63) dX11_init_63 (by decide) ?_
  refine wp_newI (pc := 66) (a := 118) dX11_init_66 rfl rfl kd_118 rfl (Nat.le_of_ble_eq_true rfl) (fun _ => rfl) (fun _ => rfl) ?_
  refine wp_eqX (X' := (lF, lk wk_79, 119)) rfl ?_
  refine wp_putfr (pc := 68) dX11_init_68 rfl f_X11_33 kd_111 (Nat.le_of_ble_eq_true rfl) rfl (fun _ h => by cases h; exact ⟨rfl, rfl⟩) rfl ?_
  refine wp_eqX (X' := (lF, lk wk_80, 119)) rfl ?_
  refine wp_aload_n (pc := 71) 0 dX11_init_71 rfl rfl ?_
  refine wp_bipush (pc := 72) dX11_init_72 (by decide) ?_
  refine wp_newI (pc := 74) (a := 119) dX11_init_74 rfl rfl kd_119 rfl (Nat.le_of_ble_eq_true rfl) (fun _ => rfl) (fun _ => rfl) ?_
  refine wp_eqX (X' := (lF, lk wk_80, 120)) rfl ?_
  refine wp_putfr (pc := 76) dX11_init_76 rfl f_X11_36 kd_111 (Nat.le_of_ble_eq_true rfl) rfl (fun _ h => by cases h; exact ⟨rfl, rfl⟩) rfl ?_
  refine wp_eqX (X' := (lF, lk wk_81, 120)) rfl ?_
  refine wp_aload_n (pc := 79) 0 dX11_init_79 rfl rfl ?_
  refine wp_iconst (pc := 80) dX11_init_80 ?_
  refine wp_newI (pc := 81) (a := 120) dX11_init_81 rfl rfl kd_120 rfl (Nat.le_of_ble_eq_true rfl) (fun _ => rfl) (fun _ => rfl) ?_
  refine wp_eqX (X' := (lF, lk wk_81, 121)) rfl ?_
  refine wp_putfr (pc := 83) dX11_init_83 rfl f_X11_39 kd_111 (Nat.le_of_ble_eq_true rfl) rfl (fun _ h => by cases h; exact ⟨rfl, rfl⟩) rfl ?_
  refine wp_eqX (X' := (lF, lk wk_82, 121)) rfl ?_
  refine wp_aload_n (pc := 86) 0 dX11_init_86 rfl rfl ?_
  refine wp_bipush (pc := 87) dX11_init_87 (by decide) ?_
  refine wp_newI (pc := 89) (a := 121) dX11_init_89 rfl rfl kd_121 rfl (Nat.le_of_ble_eq_true rfl) (fun _ => rfl) (fun _ => rfl) ?_
  refine wp_eqX (X' := (lF, lk wk_82, 122)) rfl ?_
  refine wp_putfr (pc := 91) dX11_init_91 rfl f_X11_42 kd_111 (Nat.le_of_ble_eq_true rfl) rfl (fun _ h => by cases h; exact ⟨rfl, rfl⟩) rfl ?_
  refine wp_eqX (X' := (lF, lk wk_83, 122)) rfl ?_
  refine wp_aload_n (pc := 94) 0 dX11_init_94 rfl rfl ?_
  refine wp_bipush (pc := 95) dX11_init_95 (by decide) ?_
  refine wp_newI (pc := 97) (a := 122) dX11_init_97 rfl rfl kd_122 rfl (Nat.le_of_ble_eq_true rfl) (fun _ => rfl) (fun _ => rfl) ?_
  refine wp_eqX (X' := (lF, lk wk_83, 123)) rfl ?_
  refine wp_putfr (pc := 99) dX11_init_99 rfl f_X11_45 kd_111 (Nat.le_of_ble_eq_true rfl) rfl (fun _ h => by cases h; exact ⟨rfl, rfl⟩) rfl ?_
  refine wp_eqX (X' := (lF, lk wk_84, 123)) rfl ?_
  refine wp_aload_n (pc := 102) 0 dX11_init_102 rfl rfl ?_
  refine wp_bipush (pc := 103) dX11_init_103 (by decide) ?_
  refine wp_newI (pc := 105) (a := 123) dX11_init_105 rfl rfl kd_123 rfl (Nat.le_of_ble_eq_true rfl) (fun _ => rfl) (fun _ => rfl) ?_
  refine wp_eqX (X' := (lF, lk wk_84, 124)) rfl ?_
  refine wp_putfr (pc := 107) dX11_init_107 rfl f_X11_48 kd_111 (Nat.le_of_ble_eq_true rfl) rfl (fun _ h => by cases h; exact ⟨rfl, rfl⟩) rfl ?_
  refine wp_eqX (X' := (lF, lk wk_85, 124)) rfl ?_
  refine wp_aload_n (pc := 110) 0 dX11_init_110 rfl rfl ?_
  refine wp_bipush (pc := 111) dX11_init_111 (by decide) ?_
  refine wp_newI (pc := 113) (a := 124) dX11_init_113 rfl rfl kd_124 rfl (Nat.le_of_ble_eq_true rfl) (fun _ => rfl) (fun _ => rfl) ?_
  refine wp_eqX (X' := (lF, lk wk_85, 125)) rfl ?_
  refine wp_putfr (pc := 115) dX11_init_115 rfl f_X11_51 kd_111 (Nat.le_of_ble_eq_true rfl) rfl (fun _ h => by cases h; exact ⟨rfl, rfl⟩) rfl ?_
  refine wp_eqX (X' := (lF, lk wk_86, 125)) rfl ?_
  refine wp_aload_n (pc := 118) 0 dX11_init_118 rfl rfl ?_
  refine wp_bipush (pc := 119) dX11_init_119 (by decide) ?_
  refine wp_newI (pc := 121) (a := 125) dX11_init_121 rfl rfl kd_125 rfl (Nat.le_of_ble_eq_true rfl) (fun _ => rfl) (fun _ => rfl) ?_
  refine wp_eqX (X' := (lF, lk wk_86, 126)) rfl ?_
  refine wp_putfr (pc := 123) dX11_init_123 rfl f_X11_54 kd_111 (Nat.le_of_ble_eq_true rfl) rfl (fun _ h => by cases h; exact ⟨rfl, rfl⟩) rfl ?_
  refine wp_eqX (X' := (lF, lk wk_87, 126)) rfl ?_
  refine wp_aload_n (pc := 126) 0 dX11_init_126 rfl rfl ?_
  refine wp_iconst (pc := 127) dX11_init_127 ?_
  refine wp_newI (pc := 128) (a := 126) dX11_init_128 rfl rfl kd_126 rfl (Nat.le_of_ble_eq_true rfl) (fun _ => rfl) (fun _ => rfl) ?_
  refine wp_eqX (X' := (lF, lk wk_87, 127)) rfl ?_
  refine wp_putfr (pc := 130) dX11_init_130 rfl f_X11_57 kd_111 (Nat.le_of_ble_eq_true rfl) rfl (fun _ h => by cases h; exact ⟨rfl, rfl⟩) rfl ?_
  refine wp_eqX (X' := (lF, lk wk_88, 127)) rfl ?_
  refine wp_aload_n (pc := 133) 0 dX11_init_133 rfl rfl ?_
  refine wp_iconst (pc := 134) dX11_init_134 ?_
  refine wp_newI (pc := 135) (a := 127) dX11_init_135 rfl rfl kd_127 rfl (Nat.le_of_ble_eq_true rfl) (fun _ => rfl) (fun _ => rfl) ?_
  refine wp_eqX (X' := (lF, lk wk_88, 128)) rfl ?_
  refine wp_putfr (pc := 137) dX11_init_137 rfl f_X11_60 kd_111 (Nat.le_of_ble_eq_true rfl) rfl (fun _ h => by cases h; exact ⟨rfl, rfl⟩) rfl ?_
  refine wp_eqX (X' := (lF, lk wk_89, 128)) rfl ?_
  refine wp_aload_n (pc := 140) 0 dX11_init_140 rfl rfl ?_
  refine wp_bipush (pc := 141) dX11_init_141 (by decide) ?_
  refine wp_newI (pc := 143) (a := 128) dX11_init_143 rfl rfl kd_128 rfl (Nat.le_of_ble_eq_true rfl) (fun _ => rfl) (fun _ => rfl) ?_
  refine wp_eqX (X' := (lF, lk wk_89, 129)) rfl ?_
  refine wp_putfr (pc := 145) dX11_init_145 rfl f_X11_63 kd_111 (Nat.le_of_ble_eq_true rfl) rfl (fun _ h => by cases h; exact ⟨rfl, rfl⟩) rfl ?_
  refine wp_eqX (X' := (lF, lk wk_90, 129)) rfl ?_
  refine wp_aload_n (pc := 148) 0 dX11_init_148 rfl rfl ?_
  refine wp_bipush (pc := 149) dX11_init_149 (by decide) ?_
  refine wp_newI (pc := 151) (a := 129) dX11_init_151 rfl rfl kd_129 rfl (Nat.le_of_ble_eq_true rfl) (fun _ => rfl) (fun _ => rfl) ?_
  refine wp_eqX (X' := (lF, lk wk_90, 130)) rfl ?_
  refine wp_putfr (pc := 153) dX11_init_153 rfl f_X11_66 kd_111 (Nat.le_of_ble_eq_true rfl) rfl (fun _ h => by cases h; exact ⟨rfl, rfl⟩) rfl ?_
  refine wp_eqX (X' := (lF, lk wk_91, 130)) rfl ?_
  refine wp_aload_n (pc := 156) 0 dX11_init_156 rfl rfl ?_
  refine wp_bipush (pc := 157) dX11_init_157 (by decide) ?_
  refine wp_newI (pc := 159) (a := 130) dX11_init_159 rfl rfl kd_130 rfl (Nat.le_of_ble_eq_true rfl) (fun _ => rfl) (fun _ => rfl) ?_
  refine wp_eqX (X' := (lF, lk wk_91, 131)) rfl ?_
  refine wp_putfr (pc := 161) dX11_init_161 rfl f_X11_69 kd_111 (Nat.le_of_ble_eq_true rfl) rfl (fun _ h => by cases h; exact ⟨rfl, rfl⟩) rfl ?_
  refine wp_eqX (X' := (lF, lk wk_92, 131)) rfl ?_
  refine wp_aload_n (pc := 164) 0 dX11_init_164 rfl rfl ?_
  refine wp_bipush (pc := 165) dX11_init_165 (by decide) ?_
  refine wp_newI (pc := 167) (a := 131) dX11_init_167 rfl rfl kd_131 rfl (Nat.le_of_ble_eq_true rfl) (fun _ => rfl) (fun _ => rfl) ?_
  refine wp_eqX (X' := (lF, lk wk_92, 132)) rfl ?_
  refine wp_putfr (pc := 169) dX11_init_169 rfl f_X11_72 kd_111 (Nat.le_of_ble_eq_true rfl) rfl (fun _ h => by cases h; exact ⟨rfl, rfl⟩) rfl ?_
  refine wp_eqX (X' := (lF, lk wk_93, 132)) rfl ?_
  refine wp_aload_n (pc := 172) 0 dX11_init_172 rfl rfl ?_
  refine wp_bipush (pc := 173) dX11_init_173 (by decide) ?_
  refine wp_newI (pc := 175) (a := 132) dX11_init_175 rfl rfl kd_132 rfl (Nat.le_of_ble_eq_true rfl) (fun _ => rfl) (fun _ => rfl) ?_
  refine wp_eqX (X' := (lF, lk wk_93, 133)) rfl ?_
  refine wp_putfr (pc := 177) dX11_init_177 rfl f_X11_75 kd_111 (Nat.le_of_ble_eq_true rfl) rfl (fun _ h => by cases h; exact ⟨rfl, rfl⟩) rfl ?_
  refine wp_eqX (X' := (lF, lk wk_94, 133)) rfl ?_
  refine wp_aload_n (pc := 180) 0 dX11_init_180 rfl rfl ?_
  refine wp_bipush (pc := 181) dX11_init_181 (by decide) ?_
  refine wp_newI (pc := 183) (a := 133) dX11_init_183 rfl rfl kd_133 rfl (Nat.le_of_ble_eq_true rfl) (fun _ => rfl) (fun _ => rfl) ?_
  refine wp_eqX (X' := (lF, lk wk_94, 134)) rfl ?_
  refine wp_putfr (pc := 185) dX11_init_185 rfl f_X11_78 kd_111 (Nat.le_of_ble_eq_true rfl) rfl (fun _ h => by cases h; exact ⟨rfl, rfl⟩) rfl ?_
  refine wp_eqX (X' := (lF, lk wk_95, 134)) rfl ?_
  refine wp_aload_n (pc := 188) 0 dX11_init_188 rfl rfl ?_
  refine wp_iconst (pc := 189) dX11_init_189 ?_
  refine wp_newI (pc := 190) (a := 134) dX11_init_190 rfl rfl kd_134 rfl (Nat.le_of_ble_eq_true rfl) (fun _ => rfl) (fun _ => rfl) ?_
  refine wp_eqX (X' := (lF, lk wk_95, 135)) rfl ?_
  refine wp_putfr (pc := 192) dX11_init_192 rfl f_X11_81 kd_111 (Nat.le_of_ble_eq_true rfl) rfl (fun _ h => by cases h; exact ⟨rfl, rfl⟩) rfl ?_
  refine wp_eqX (X' := (lF, lk wk_96, 135)) rfl ?_
  refine wp_aload_n (pc := 195) 0 dX11_init_195 rfl rfl ?_
  refine wp_iconst (pc := 196) dX11_init_196 ?_
  refine wp_newI (pc := 197) (a := 135) dX11_init_197 rfl rfl kd_135 rfl (Nat.le_of_ble_eq_true rfl) (fun _ => rfl) (fun _ => rfl) ?_
  refine wp_eqX (X' := (lF, lk wk_96, 136)) rfl ?_
  refine wp_putfr (pc := 199) dX11_init_199 rfl f_X11_84 kd_111 (Nat.le_of_ble_eq_true rfl) rfl (fun _ h => by cases h; exact ⟨rfl, rfl⟩) rfl ?_
  refine wp_eqX (X' := (lF, lk wk_97, 136)) rfl ?_
  refine wp_aload_n (pc := 202) 0 dX11_init_202 rfl rfl ?_
  refine wp_bipush (pc := 203) dX11_init_203 (by decide) ?_
  refine wp_newZ (pc := 205) (a := 136) dX11_init_205 rfl rfl kd_136 rfl (Nat.le_of_ble_eq_true rfl) (fun _ => rfl) (fun _ => rfl) ?_
  refine wp_eqX (X' := (lF, lk wk_97, 137)) rfl ?_
  refine wp_putfr (pc := 207) dX11_init_207 rfl f_X11_87 kd_111 (Nat.le_of_ble_eq_true rfl) rfl (fun _ h => by cases h; exact ⟨rfl, rfl⟩) rfl ?_
  refine wp_eqX (X' := (lF, lk wk_98, 137)) rfl ?_
  refine wp_aload_n (pc := 210) 0 dX11_init_210 rfl rfl ?_
  refine wp_bipush (pc := 211) dX11_init_211 (by decide) ?_
  refine wp_newZ (pc := 213) (a := 137) dX11_init_213 rfl rfl kd_137 rfl (Nat.le_of_ble_eq_true rfl) (fun _ => rfl) (fun _ => rfl) ?_
  refine wp_eqX (X' := (lF, lk wk_98, 138)) rfl ?_
  refine wp_putfr (pc := 215) dX11_init_215 rfl f_X11_91 kd_111 (Nat.le_of_ble_eq_true rfl) rfl (fun _ h => by cases h; exact ⟨rfl, rfl⟩) rfl ?_
  refine wp_eqX (X' := (lF, lk wk_99, 138)) rfl ?_
  refine wp_aload_n (pc := 218) 0 dX11_init_218 rfl rfl ?_
  refine wp_iconst (pc := 219) dX11_init_219 ?_
  refine wp_puti (pc := 220) dX11_init_220 rfl f_X11_94 kd_111 (Nat.le_of_ble_eq_true rfl) (fun _ h => by cases h; rfl) rfl ?_
  refine wp_eqI (I' := ik_7) rfl ?_
  refine wp_aload_n (pc := 223) 0 dX11_init_223 rfl rfl ?_
  refine wp_iconst (pc := 224) dX11_init_224 ?_
  refine wp_puti (pc := 225) dX11_init_225 rfl f_X11_97 kd_111 (Nat.le_of_ble_eq_true rfl) (fun _ h => by cases h; rfl) rfl ?_
  refine wp_eqI (I' := ik_8) rfl ?_
  refine wp_aload_n (pc := 228) 0 dX11_init_228 rfl rfl ?_
  refine wp_bipush (pc := 229) dX11_init_229 (by decide) ?_
  refine wp_newI (pc := 231) (a := 138) dX11_init_231 rfl rfl kd_138 rfl (Nat.le_of_ble_eq_true rfl) (fun _ => rfl) (fun _ => rfl) ?_
  refine wp_eqX (X' := (lF, lk wk_99, 139)) rfl ?_
  refine wp_putfr (pc := 233) dX11_init_233 rfl f_X11_100 kd_111 (Nat.le_of_ble_eq_true rfl) rfl (fun _ h => by cases h; exact ⟨rfl, rfl⟩) rfl ?_
  refine wp_eqX (X' := (lF, lk wk_100, 139)) rfl ?_
  refine wp_aload_n (pc := 236) 0 dX11_init_236 rfl rfl ?_
  refine wp_bipush (pc := 237) dX11_init_237 (by decide) ?_
  refine wp_newI (pc := 239) (a := 139) dX11_init_239 rfl rfl kd_139 rfl (Nat.le_of_ble_eq_true rfl) (fun _ => rfl) (fun _ => rfl) ?_
  refine wp_eqX (X' := (lF, lk wk_100, 140)) rfl ?_
  refine wp_putfr (pc := 241) dX11_init_241 rfl f_X11_103 kd_111 (Nat.le_of_ble_eq_true rfl) rfl (fun _ h => by cases h; exact ⟨rfl, rfl⟩) rfl ?_
  refine wp_eqX (X' := (lF, lk wk_101, 140)) rfl ?_
  refine wp_aload_n (pc := 244) 0 dX11_init_244 rfl rfl ?_
  refine wp_bipush (pc := 245) dX11_init_245 (by decide) ?_
  refine wp_newI (pc := 247) (a := 140) dX11_init_247 rfl rfl kd_140 rfl (Nat.le_of_ble_eq_true rfl) (fun _ => rfl) (fun _ => rfl) ?_
  refine wp_eqX (X' := (lF, lk wk_101, 141)) rfl ?_
  refine wp_putfr (pc := 249) dX11_init_249 rfl f_X11_106 kd_111 (Nat.le_of_ble_eq_true rfl) rfl (fun _ h => by cases h; exact ⟨rfl, rfl⟩) rfl ?_
  refine wp_eqX (X' := (lF, lk wk_102, 141)) rfl ?_
  refine wp_aload_n (pc := 252) 0 dX11_init_252 rfl rfl ?_
  refine wp_iconst (pc := 253) dX11_init_253 ?_
  refine wp_newI (pc := 254) (a := 141) dX11_init_254 rfl rfl kd_141 rfl (Nat.le_of_ble_eq_true rfl) (fun _ => rfl) (fun _ => rfl) ?_
  refine wp_eqX (X' := (lF, lk wk_102, 142)) rfl ?_
  refine wp_putfr (pc := 256) dX11_init_256 rfl f_X11_109 kd_111 (Nat.le_of_ble_eq_true rfl) rfl (fun _ h => by cases h; exact ⟨rfl, rfl⟩) rfl ?_
  refine wp_eqX (X' := (lF, lk wk_103, 142)) rfl ?_
  refine wp_aload_n (pc := 259) 0 dX11_init_259 rfl rfl ?_
  refine wp_sipush (pc := 260) dX11_init_260 (by decide) ?_
  refine wp_newI (pc := 263) (a := 142) dX11_init_263 rfl rfl kd_142 rfl (Nat.le_of_ble_eq_true rfl) (fun _ => rfl) (fun _ => rfl) ?_
  refine wp_eqX (X' := (lF, lk wk_103, 143)) rfl ?_
  refine wp_putfr (pc := 265) dX11_init_265 rfl f_X11_112 kd_111 (Nat.le_of_ble_eq_true rfl) rfl (fun _ h => by cases h; exact ⟨rfl, rfl⟩) rfl ?_
  refine wp_eqX (X' := (lF, lk wk_104, 143)) rfl ?_
  refine wp_aload_n (pc := 268) 0 dX11_init_268 rfl rfl ?_
  refine wp_sipush (pc := 269) dX11_init_269 (by decide) ?_
  refine wp_newZ (pc := 272) (a := 143) dX11_init_272 rfl rfl kd_143 rfl (Nat.le_of_ble_eq_true rfl) (fun _ => rfl) (fun _ => rfl) ?_
  refine wp_eqX (X' := (lF, lk wk_104, 144)) rfl ?_
  refine wp_putfr (pc := 274) dX11_init_274 rfl f_X11_115 kd_111 (Nat.le_of_ble_eq_true rfl) rfl (fun _ h => by cases h; exact ⟨rfl, rfl⟩) rfl ?_
  refine wp_eqX (X' := (lF, lk wk_105, 144)) rfl ?_
  refine wp_aload_n (pc := 277) 0 dX11_init_277 rfl rfl ?_
  refine wp_sipush (pc := 278) dX11_init_278 (by decide) ?_
  refine wp_newZ (pc := 281) (a := 144) dX11_init_281 rfl rfl kd_144 rfl (Nat.le_of_ble_eq_true rfl) (fun _ => rfl) (fun _ => rfl) ?_
  refine wp_eqX (X' := (lF, lk wk_105, 145)) rfl ?_
  refine wp_putfr (pc := 283) dX11_init_283 rfl f_X11_118 kd_111 (Nat.le_of_ble_eq_true rfl) rfl (fun _ h => by cases h; exact ⟨rfl, rfl⟩) rfl ?_
  refine wp_eqX (X' := (lF, lk wk_106, 145)) rfl ?_
  refine wp_aload_n (pc := 286) 0 dX11_init_286 rfl rfl ?_
  refine wp_bipush (pc := 287) dX11_init_287 (by decide) ?_
  refine wp_newI (pc := 289) (a := 145) dX11_init_289 rfl rfl kd_145 rfl (Nat.le_of_ble_eq_true rfl) (fun _ => rfl) (fun _ => rfl) ?_
  refine wp_eqX (X' := (lF, lk wk_106, 146)) rfl ?_
  refine wp_putfr (pc := 291) dX11_init_291 rfl f_X11_121 kd_111 (Nat.le_of_ble_eq_true rfl) rfl (fun _ h => by cases h; exact ⟨rfl, rfl⟩) rfl ?_
  refine wp_eqX (X' := (lF, lk wk_107, 146)) rfl ?_
  refine wp_aload_n (pc := 294) 0 dX11_init_294 rfl rfl ?_
  refine wp_bipush (pc := 295) dX11_init_295 (by decide) ?_
  refine wp_newI (pc := 297) (a := 146) dX11_init_297 rfl rfl kd_146 rfl (Nat.le_of_ble_eq_true rfl) (fun _ => rfl) (fun _ => rfl) ?_
  refine wp_eqX (X' := (lF, lk wk_107, 147)) rfl ?_
  refine wp_putfr (pc := 299) dX11_init_299 rfl f_X11_124 kd_111 (Nat.le_of_ble_eq_true rfl) rfl (fun _ h => by cases h; exact ⟨rfl, rfl⟩) rfl ?_
  refine wp_eqX (X' := (lF, lk wk_108, 147)) rfl ?_
  refine wp_aload_n (pc := 302) 0 dX11_init_302 rfl rfl ?_
  refine wp_bipush (pc := 303) dX11_init_303 (by decide) ?_
  refine wp_newI (pc := 305) (a := 147) dX11_init_305 rfl rfl kd_147 rfl (Nat.le_of_ble_eq_true rfl) (fun _ => rfl) (fun _ => rfl) ?_
  refine wp_eqX (X' := (lF, lk wk_108, 148)) rfl ?_
  refine wp_putfr (pc := 307) dX11_init_307 rfl f_X11_127 kd_111 (Nat.le_of_ble_eq_true rfl) rfl (fun _ h => by cases h; exact ⟨rfl, rfl⟩) rfl ?_
  refine wp_eqX (X' := (lF, lk wk_109, 148)) rfl ?_
  refine wp_aload_n (pc := 310) 0 dX11_init_310 rfl rfl ?_
  refine wp_bipush (pc := 311) dX11_init_311 (by decide) ?_
  refine wp_newI (pc := 313) (a := 148) dX11_init_313 rfl rfl kd_148 rfl (Nat.le_of_ble_eq_true rfl) (fun _ => rfl) (fun _ => rfl) ?_
  refine wp_eqX (X' := (lF, lk wk_109, 149)) rfl ?_
  refine wp_putfr (pc := 315) dX11_init_315 rfl f_X11_130 kd_111 (Nat.le_of_ble_eq_true rfl) rfl (fun _ h => by cases h; exact ⟨rfl, rfl⟩) rfl ?_
  refine wp_eqX (X' := (lF, lk wk_110, 149)) rfl ?_
  refine wp_aload_n (pc := 318) 0 dX11_init_318 rfl rfl ?_
  refine wp_bipush (pc := 319) dX11_init_319 (by decide) ?_
  refine wp_newI (pc := 321) (a := 149) dX11_init_321 rfl rfl kd_149 rfl (Nat.le_of_ble_eq_true rfl) (fun _ => rfl) (fun _ => rfl) ?_
  refine wp_eqX (X' := (lF, lk wk_110, 150)) rfl ?_
  refine wp_putfr (pc := 323) dX11_init_323 rfl f_X11_133 kd_111 (Nat.le_of_ble_eq_true rfl) rfl (fun _ h => by cases h; exact ⟨rfl, rfl⟩) rfl ?_
  refine wp_eqX (X' := (lF, lk wk_111, 150)) rfl ?_
  refine wp_aload_n (pc := 326) 0 dX11_init_326 rfl rfl ?_
  refine wp_bipush (pc := 327) dX11_init_327 (by decide) ?_
  refine wp_newZ (pc := 329) (a := 150) dX11_init_329 rfl rfl kd_150 rfl (Nat.le_of_ble_eq_true rfl) (fun _ => rfl) (fun _ => rfl) ?_
  refine wp_eqX (X' := (lF, lk wk_111, 151)) rfl ?_
  refine wp_putfr (pc := 331) dX11_init_331 rfl f_X11_136 kd_111 (Nat.le_of_ble_eq_true rfl) rfl (fun _ h => by cases h; exact ⟨rfl, rfl⟩) rfl ?_
  refine wp_eqX (X' := (lF, lk wk_112, 151)) rfl ?_
  refine wp_aload_n (pc := 334) 0 dX11_init_334 rfl rfl ?_
  refine wp_iconst (pc := 335) dX11_init_335 ?_
  refine wp_newZ (pc := 336) (a := 151) dX11_init_336 rfl rfl kd_151 rfl (Nat.le_of_ble_eq_true rfl) (fun _ => rfl) (fun _ => rfl) ?_
  refine wp_eqX (X' := (lF, lk wk_112, 152)) rfl ?_
  refine wp_putfr (pc := 338) dX11_init_338 rfl f_X11_139 kd_111 (Nat.le_of_ble_eq_true rfl) rfl (fun _ h => by cases h; exact ⟨rfl, rfl⟩) rfl ?_
  refine wp_eqX (X' := (lF, lk wk_113, 152)) rfl ?_
  refine wp_aload_n (pc := 341) 0 dX11_init_341 rfl rfl ?_
  refine wp_bipush (pc := 342) dX11_init_342 (by decide) ?_
  refine wp_newI (pc := 344) (a := 152) dX11_init_344 rfl rfl kd_152 rfl (Nat.le_of_ble_eq_true rfl) (fun _ => rfl) (fun _ => rfl) ?_
  refine wp_eqX (X' := (lF, lk wk_113, 153)) rfl ?_
  refine wp_putfr (pc := 346) dX11_init_346 rfl f_X11_142 kd_111 (Nat.le_of_ble_eq_true rfl) rfl (fun _ h => by cases h; exact ⟨rfl, rfl⟩) rfl ?_
  refine wp_eqX (X' := (lF, lk wk_114, 153)) rfl ?_
  refine wp_vret (pc := 349) dX11_init_349 rfl rfl ?_
  exact hQ
abbrev wk_end : List (Nat × Nat × Nat) := wk_114
abbrev ik_end : mI := ik_8
