theorem sp_leaf {l : Launch} {G : mG} {d : Nat} {I : mI} {L : Nat → Nat → Int} {D : Nat → Nat} {Q : mQ} {c a b e f : Int}  (hc : inR c) (hd : 0 ≤ d) (hQ : Q (some (vI (lfF (envF a b e f) c))) I (XX L D)) : WP l G m_X1_leaf d 153 I (XX L D) 0 [some (vI c), some (vI a), some (vI b), some (vI e), some (vI f)] [] Q := by
  refine wp_iload_n (pc := 0) 0 dX1_leaf_0 rfl rfl ?_
  by_cases h_1 : c = (-5)
  · refine wp_tin (pc := 1) 0 38 dX1_leaf_1 (by omega) (by rw [h_1]; decide) (by decide) rfl (by decide) ?_
    refine wp_iload (pc := 38) dX1_leaf_38 rfl ?_
    refine wp_iret (pc := 40) dX1_leaf_40 rfl rfl ?_
    have e1 : lfF (envF a b e f) c = f := by
      rw [h_1]; rfl
    rw [e1] at hQ; exact hQ
  by_cases h_2 : c = (-4)
  · refine wp_tin (pc := 1) 1 36 dX1_leaf_1 (by omega) (by rw [h_2]; decide) (by decide) rfl (by decide) ?_
    refine wp_iload_n (pc := 36) 3 dX1_leaf_36 rfl rfl ?_
    refine wp_iret (pc := 37) dX1_leaf_37 rfl rfl ?_
    have e1 : lfF (envF a b e f) c = e := by
      rw [h_2]; rfl
    rw [e1] at hQ; exact hQ
  by_cases h_3 : c = (-3)
  · refine wp_tin (pc := 1) 2 34 dX1_leaf_1 (by omega) (by rw [h_3]; decide) (by decide) rfl (by decide) ?_
    refine wp_iload_n (pc := 34) 2 dX1_leaf_34 rfl rfl ?_
    refine wp_iret (pc := 35) dX1_leaf_35 rfl rfl ?_
    have e1 : lfF (envF a b e f) c = b := by
      rw [h_3]; rfl
    rw [e1] at hQ; exact hQ
  by_cases h_4 : c = (-2)
  · refine wp_tin (pc := 1) 3 32 dX1_leaf_1 (by omega) (by rw [h_4]; decide) (by decide) rfl (by decide) ?_
    refine wp_iload_n (pc := 32) 1 dX1_leaf_32 rfl rfl ?_
    refine wp_iret (pc := 33) dX1_leaf_33 rfl rfl ?_
    have e1 : lfF (envF a b e f) c = a := by
      rw [h_4]; rfl
    rw [e1] at hQ; exact hQ
  refine wp_tout (pc := 1) 41 dX1_leaf_1 (by omega) (by omega) (by decide) ?_
  refine wp_iload_n (pc := 41) 0 dX1_leaf_41 rfl rfl ?_
  refine wp_iret (pc := 42) dX1_leaf_42 rfl rfl ?_
  have e1 : lfF (envF a b e f) c = c := by
    unfold lfF; rw [if_neg (by omega), if_neg (by omega), if_neg (by omega), if_neg (by omega)]
  rw [e1] at hQ; exact hQ

theorem sp_joined {l : Launch} {G : mG} {d : Nat} {I : mI} {L : Nat → Nat → Int} {D : Nat → Nat} {Q : mQ} {c x y : Int}  (hc : inR c) (hx : inR x) (hy : inR y) (hd : 1 ≤ d) (hQ : Q (some (vI (jn c x y))) I (XX L D)) : WP l G m_X1_joined d 153 I (XX L D) 0 [some (vI c), some (vI x), some (vI y)] [] Q := by
  refine wp_iload_n (pc := 0) 0 dX1_joined_0 rfl rfl ?_
  by_cases h_1 : c = (-62)
  · refine wp_lsw (pc := 1) 140 dX1_joined_1 (by omega) (by decide) (by rw [h_1] <;> decide) (by decide) ?_
    refine wp_iload_n (pc := 140) 1 dX1_joined_140 rfl rfl ?_
    refine wp_iload_n (pc := 141) 2 dX1_joined_141 rfl rfl ?_
    refine wp_icmp_le (pc := 142) 149 dX1_joined_142 (by decide) (by omega) (by omega) (fun h_2 => ?_) (fun h_2 => ?_)
    · refine wp_iconst (pc := 149) dX1_joined_149 ?_
      refine wp_callS (pc := 150) (st := []) (nf' := 153) [vI 0] [some (vI 0)] dX1_joined_150 rfl c_X1_27 rfl rfl (Nat.le_of_ble_eq_true rfl) rfl (Nat.le_of_ble_eq_true rfl) (by omega) (Nat.le_refl _) (Nat.le_refl _) ?_
      refine wp_iload_n (pc := 0) 0 dX1_truth_0 rfl rfl ?_
      refine wp_if_eq (pc := 1) 8 dX1_truth_1 (by decide) (by decide) (fun _ => ?_) (fun hh => absurd hh (by decide))
      refine wp_iconst (pc := 8) dX1_truth_8 ?_
      refine wp_iret (pc := 9) dX1_truth_9 rfl rfl ?_
      refine wp_eqst (st' := [vI 0]) rfl ?_
      refine wp_iret (pc := 153) dX1_joined_153 rfl rfl ?_
      have e1 : jn c x y = 0 := by
        rw [h_1]; show truthF (y < x) = 0; unfold truthF; first | exact if_pos (by omega) | exact if_neg (by omega)
      rw [e1] at hQ; exact hQ
    · refine wp_iconst (pc := 145) dX1_joined_145 ?_
      refine wp_goto (pc := 146) 150 dX1_joined_146 (by decide) ?_
      refine wp_callS (pc := 150) (st := []) (nf' := 153) [vI 1] [some (vI 1)] dX1_joined_150 rfl c_X1_27 rfl rfl (Nat.le_of_ble_eq_true rfl) rfl (Nat.le_of_ble_eq_true rfl) (by omega) (Nat.le_refl _) (Nat.le_refl _) ?_
      refine wp_iload_n (pc := 0) 0 dX1_truth_0 rfl rfl ?_
      refine wp_if_eq (pc := 1) 8 dX1_truth_1 (by decide) (by decide) (fun hh => absurd hh (by decide)) (fun _ => ?_)
      refine wp_iconst (pc := 4) dX1_truth_4 ?_
      refine wp_goto (pc := 5) 9 dX1_truth_5 (by decide) ?_
      refine wp_iret (pc := 9) dX1_truth_9 rfl rfl ?_
      refine wp_eqst (st' := [vI 1]) rfl ?_
      refine wp_iret (pc := 153) dX1_joined_153 rfl rfl ?_
      have e1 : jn c x y = 1 := by
        rw [h_1]; show truthF (y < x) = 1; unfold truthF; first | exact if_pos (by omega) | exact if_neg (by omega)
      rw [e1] at hQ; exact hQ
  by_cases h_3 : c = (-61)
  · refine wp_lsw (pc := 1) 154 dX1_joined_1 (by omega) (by decide) (by rw [h_3] <;> decide) (by decide) ?_
    refine wp_iload_n (pc := 154) 1 dX1_joined_154 rfl rfl ?_
    refine wp_iload_n (pc := 155) 2 dX1_joined_155 rfl rfl ?_
    refine wp_icmp_ne (pc := 156) 163 dX1_joined_156 (by decide) (by omega) (by omega) (fun h_4 => ?_) (fun h_4 => ?_)
    · refine wp_iconst (pc := 163) dX1_joined_163 ?_
      refine wp_callS (pc := 164) (st := []) (nf' := 153) [vI 0] [some (vI 0)] dX1_joined_164 rfl c_X1_27 rfl rfl (Nat.le_of_ble_eq_true rfl) rfl (Nat.le_of_ble_eq_true rfl) (by omega) (Nat.le_refl _) (Nat.le_refl _) ?_
      refine wp_iload_n (pc := 0) 0 dX1_truth_0 rfl rfl ?_
      refine wp_if_eq (pc := 1) 8 dX1_truth_1 (by decide) (by decide) (fun _ => ?_) (fun hh => absurd hh (by decide))
      refine wp_iconst (pc := 8) dX1_truth_8 ?_
      refine wp_iret (pc := 9) dX1_truth_9 rfl rfl ?_
      refine wp_eqst (st' := [vI 0]) rfl ?_
      refine wp_iret (pc := 167) dX1_joined_167 rfl rfl ?_
      have e1 : jn c x y = 0 := by
        rw [h_3]; show truthF (x = y) = 0; unfold truthF; first | exact if_pos (by omega) | exact if_neg (by omega)
      rw [e1] at hQ; exact hQ
    · refine wp_iconst (pc := 159) dX1_joined_159 ?_
      refine wp_goto (pc := 160) 164 dX1_joined_160 (by decide) ?_
      refine wp_callS (pc := 164) (st := []) (nf' := 153) [vI 1] [some (vI 1)] dX1_joined_164 rfl c_X1_27 rfl rfl (Nat.le_of_ble_eq_true rfl) rfl (Nat.le_of_ble_eq_true rfl) (by omega) (Nat.le_refl _) (Nat.le_refl _) ?_
      refine wp_iload_n (pc := 0) 0 dX1_truth_0 rfl rfl ?_
      refine wp_if_eq (pc := 1) 8 dX1_truth_1 (by decide) (by decide) (fun hh => absurd hh (by decide)) (fun _ => ?_)
      refine wp_iconst (pc := 4) dX1_truth_4 ?_
      refine wp_goto (pc := 5) 9 dX1_truth_5 (by decide) ?_
      refine wp_iret (pc := 9) dX1_truth_9 rfl rfl ?_
      refine wp_eqst (st' := [vI 1]) rfl ?_
      refine wp_iret (pc := 167) dX1_joined_167 rfl rfl ?_
      have e1 : jn c x y = 1 := by
        rw [h_3]; show truthF (x = y) = 1; unfold truthF; first | exact if_pos (by omega) | exact if_neg (by omega)
      rw [e1] at hQ; exact hQ
  by_cases h_5 : c = (-60)
  · refine wp_lsw (pc := 1) 126 dX1_joined_1 (by omega) (by decide) (by rw [h_5] <;> decide) (by decide) ?_
    refine wp_iload_n (pc := 126) 1 dX1_joined_126 rfl rfl ?_
    refine wp_iload_n (pc := 127) 2 dX1_joined_127 rfl rfl ?_
    refine wp_icmp_ge (pc := 128) 135 dX1_joined_128 (by decide) (by omega) (by omega) (fun h_6 => ?_) (fun h_6 => ?_)
    · refine wp_iconst (pc := 135) dX1_joined_135 ?_
      refine wp_callS (pc := 136) (st := []) (nf' := 153) [vI 0] [some (vI 0)] dX1_joined_136 rfl c_X1_27 rfl rfl (Nat.le_of_ble_eq_true rfl) rfl (Nat.le_of_ble_eq_true rfl) (by omega) (Nat.le_refl _) (Nat.le_refl _) ?_
      refine wp_iload_n (pc := 0) 0 dX1_truth_0 rfl rfl ?_
      refine wp_if_eq (pc := 1) 8 dX1_truth_1 (by decide) (by decide) (fun _ => ?_) (fun hh => absurd hh (by decide))
      refine wp_iconst (pc := 8) dX1_truth_8 ?_
      refine wp_iret (pc := 9) dX1_truth_9 rfl rfl ?_
      refine wp_eqst (st' := [vI 0]) rfl ?_
      refine wp_iret (pc := 139) dX1_joined_139 rfl rfl ?_
      have e1 : jn c x y = 0 := by
        rw [h_5]; show truthF (x < y) = 0; unfold truthF; first | exact if_pos (by omega) | exact if_neg (by omega)
      rw [e1] at hQ; exact hQ
    · refine wp_iconst (pc := 131) dX1_joined_131 ?_
      refine wp_goto (pc := 132) 136 dX1_joined_132 (by decide) ?_
      refine wp_callS (pc := 136) (st := []) (nf' := 153) [vI 1] [some (vI 1)] dX1_joined_136 rfl c_X1_27 rfl rfl (Nat.le_of_ble_eq_true rfl) rfl (Nat.le_of_ble_eq_true rfl) (by omega) (Nat.le_refl _) (Nat.le_refl _) ?_
      refine wp_iload_n (pc := 0) 0 dX1_truth_0 rfl rfl ?_
      refine wp_if_eq (pc := 1) 8 dX1_truth_1 (by decide) (by decide) (fun hh => absurd hh (by decide)) (fun _ => ?_)
      refine wp_iconst (pc := 4) dX1_truth_4 ?_
      refine wp_goto (pc := 5) 9 dX1_truth_5 (by decide) ?_
      refine wp_iret (pc := 9) dX1_truth_9 rfl rfl ?_
      refine wp_eqst (st' := [vI 1]) rfl ?_
      refine wp_iret (pc := 139) dX1_joined_139 rfl rfl ?_
      have e1 : jn c x y = 1 := by
        rw [h_5]; show truthF (x < y) = 1; unfold truthF; first | exact if_pos (by omega) | exact if_neg (by omega)
      rw [e1] at hQ; exact hQ
  by_cases h_7 : c = (-47)
  · refine wp_lsw (pc := 1) 180 dX1_joined_1 (by omega) (by decide) (by rw [h_7] <;> decide) (by decide) ?_
    refine wp_iload_n (pc := 180) 2 dX1_joined_180 rfl rfl ?_
    refine wp_if_ne (pc := 181) 188 dX1_joined_181 (by decide) (by omega) (fun h_8 => ?_) (fun h_8 => ?_)
    · refine wp_iload_n (pc := 188) 1 dX1_joined_188 rfl rfl ?_
      refine wp_iload_n (pc := 189) 2 dX1_joined_189 rfl rfl ?_
      refine wp_idiv (pc := 190) dX1_joined_190 (by omega) (by omega) (by omega) ?_
      refine wp_nrm ?_
      refine wp_iret (pc := 191) dX1_joined_191 rfl rfl ?_
      have e1 : jn c x y = w32 (Int.tdiv x y) := by
        rw [h_7]; show (if y = 0 then 0 else w32 (x.tdiv y)) = w32 (Int.tdiv x y); first | exact if_pos (by assumption) | exact if_neg (by assumption)
      rw [e1] at hQ; exact hQ
    · refine wp_iconst (pc := 184) dX1_joined_184 ?_
      refine wp_goto (pc := 185) 191 dX1_joined_185 (by decide) ?_
      refine wp_iret (pc := 191) dX1_joined_191 rfl rfl ?_
      have e1 : jn c x y = 0 := by
        rw [h_7]; show (if y = 0 then 0 else w32 (x.tdiv y)) = 0; first | exact if_pos (by assumption) | exact if_neg (by assumption)
      rw [e1] at hQ; exact hQ
  by_cases h_9 : c = (-45)
  · refine wp_lsw (pc := 1) 172 dX1_joined_1 (by omega) (by decide) (by rw [h_9] <;> decide) (by decide) ?_
    refine wp_iload_n (pc := 172) 1 dX1_joined_172 rfl rfl ?_
    refine wp_iload_n (pc := 173) 2 dX1_joined_173 rfl rfl ?_
    refine wp_isub (pc := 174) dX1_joined_174 ?_
    refine wp_nrm ?_
    refine wp_iret (pc := 175) dX1_joined_175 rfl rfl ?_
    have e1 : jn c x y = w32 (x - y) := by
      rw [h_9]; rfl
    rw [e1] at hQ; exact hQ
  by_cases h_10 : c = (-43)
  · refine wp_lsw (pc := 1) 168 dX1_joined_1 (by omega) (by decide) (by rw [h_10] <;> decide) (by decide) ?_
    refine wp_iload_n (pc := 168) 1 dX1_joined_168 rfl rfl ?_
    refine wp_iload_n (pc := 169) 2 dX1_joined_169 rfl rfl ?_
    refine wp_iadd (pc := 170) dX1_joined_170 ?_
    refine wp_nrm ?_
    refine wp_iret (pc := 171) dX1_joined_171 rfl rfl ?_
    have e1 : jn c x y = w32 (x + y) := by
      rw [h_10]; rfl
    rw [e1] at hQ; exact hQ
  by_cases h_11 : c = (-42)
  · refine wp_lsw (pc := 1) 176 dX1_joined_1 (by omega) (by decide) (by rw [h_11] <;> decide) (by decide) ?_
    refine wp_iload_n (pc := 176) 1 dX1_joined_176 rfl rfl ?_
    refine wp_iload_n (pc := 177) 2 dX1_joined_177 rfl rfl ?_
    refine wp_imul (pc := 178) dX1_joined_178 ?_
    refine wp_nrm ?_
    refine wp_iret (pc := 179) dX1_joined_179 rfl rfl ?_
    have e1 : jn c x y = w32 (x * y) := by
      rw [h_11]; rfl
    rw [e1] at hQ; exact hQ
  by_cases h_12 : c = (-37)
  · refine wp_lsw (pc := 1) 192 dX1_joined_1 (by omega) (by decide) (by rw [h_12] <;> decide) (by decide) ?_
    refine wp_iload_n (pc := 192) 2 dX1_joined_192 rfl rfl ?_
    refine wp_if_ne (pc := 193) 200 dX1_joined_193 (by decide) (by omega) (fun h_13 => ?_) (fun h_13 => ?_)
    · refine wp_iload_n (pc := 200) 1 dX1_joined_200 rfl rfl ?_
      refine wp_iload_n (pc := 201) 2 dX1_joined_201 rfl rfl ?_
      refine wp_irem (pc := 202) dX1_joined_202 (by omega) (by omega) (by omega) ?_
      refine wp_iret (pc := 203) dX1_joined_203 rfl rfl ?_
      have e1 : jn c x y = Int.tmod x y := by
        rw [h_12]; show (if y = 0 then 0 else x.tmod y) = Int.tmod x y; first | exact if_pos (by assumption) | exact if_neg (by assumption)
      rw [e1] at hQ; exact hQ
    · refine wp_iconst (pc := 196) dX1_joined_196 ?_
      refine wp_goto (pc := 197) 203 dX1_joined_197 (by decide) ?_
      refine wp_iret (pc := 203) dX1_joined_203 rfl rfl ?_
      have e1 : jn c x y = 0 := by
        rw [h_12]; show (if y = 0 then 0 else x.tmod y) = 0; first | exact if_pos (by assumption) | exact if_neg (by assumption)
      rw [e1] at hQ; exact hQ
  by_cases h_14 : c = (-8)
  · refine wp_lsw (pc := 1) 92 dX1_joined_1 (by omega) (by decide) (by rw [h_14] <;> decide) (by decide) ?_
    refine wp_iload_n (pc := 92) 1 dX1_joined_92 rfl rfl ?_
    refine wp_if_ne (pc := 93) 100 dX1_joined_93 (by decide) (by omega) (fun h_15 => ?_) (fun h_15 => ?_)
    · refine wp_iconst (pc := 100) dX1_joined_100 ?_
      refine wp_goto (pc := 101) 105 dX1_joined_101 (by decide) ?_
      refine wp_callS (pc := 105) (st := []) (nf' := 153) [vI 1] [some (vI 1)] dX1_joined_105 rfl c_X1_27 rfl rfl (Nat.le_of_ble_eq_true rfl) rfl (Nat.le_of_ble_eq_true rfl) (by omega) (Nat.le_refl _) (Nat.le_refl _) ?_
      refine wp_iload_n (pc := 0) 0 dX1_truth_0 rfl rfl ?_
      refine wp_if_eq (pc := 1) 8 dX1_truth_1 (by decide) (by decide) (fun hh => absurd hh (by decide)) (fun _ => ?_)
      refine wp_iconst (pc := 4) dX1_truth_4 ?_
      refine wp_goto (pc := 5) 9 dX1_truth_5 (by decide) ?_
      refine wp_iret (pc := 9) dX1_truth_9 rfl rfl ?_
      refine wp_eqst (st' := [vI 1]) rfl ?_
      refine wp_iret (pc := 108) dX1_joined_108 rfl rfl ?_
      have e1 : jn c x y = 1 := by
        rw [h_14]; show truthF (x ≠ 0 ∨ y ≠ 0) = 1; unfold truthF; first | exact if_pos (by omega) | exact if_neg (by omega)
      rw [e1] at hQ; exact hQ
    · refine wp_iload_n (pc := 96) 2 dX1_joined_96 rfl rfl ?_
      refine wp_if_eq (pc := 97) 104 dX1_joined_97 (by decide) (by omega) (fun h_16 => ?_) (fun h_16 => ?_)
      · refine wp_iconst (pc := 104) dX1_joined_104 ?_
        refine wp_callS (pc := 105) (st := []) (nf' := 153) [vI 0] [some (vI 0)] dX1_joined_105 rfl c_X1_27 rfl rfl (Nat.le_of_ble_eq_true rfl) rfl (Nat.le_of_ble_eq_true rfl) (by omega) (Nat.le_refl _) (Nat.le_refl _) ?_
        refine wp_iload_n (pc := 0) 0 dX1_truth_0 rfl rfl ?_
        refine wp_if_eq (pc := 1) 8 dX1_truth_1 (by decide) (by decide) (fun _ => ?_) (fun hh => absurd hh (by decide))
        refine wp_iconst (pc := 8) dX1_truth_8 ?_
        refine wp_iret (pc := 9) dX1_truth_9 rfl rfl ?_
        refine wp_eqst (st' := [vI 0]) rfl ?_
        refine wp_iret (pc := 108) dX1_joined_108 rfl rfl ?_
        have e1 : jn c x y = 0 := by
          rw [h_14]; show truthF (x ≠ 0 ∨ y ≠ 0) = 0; unfold truthF; first | exact if_pos (by omega) | exact if_neg (by omega)
        rw [e1] at hQ; exact hQ
      · refine wp_iconst (pc := 100) dX1_joined_100 ?_
        refine wp_goto (pc := 101) 105 dX1_joined_101 (by decide) ?_
        refine wp_callS (pc := 105) (st := []) (nf' := 153) [vI 1] [some (vI 1)] dX1_joined_105 rfl c_X1_27 rfl rfl (Nat.le_of_ble_eq_true rfl) rfl (Nat.le_of_ble_eq_true rfl) (by omega) (Nat.le_refl _) (Nat.le_refl _) ?_
        refine wp_iload_n (pc := 0) 0 dX1_truth_0 rfl rfl ?_
        refine wp_if_eq (pc := 1) 8 dX1_truth_1 (by decide) (by decide) (fun hh => absurd hh (by decide)) (fun _ => ?_)
        refine wp_iconst (pc := 4) dX1_truth_4 ?_
        refine wp_goto (pc := 5) 9 dX1_truth_5 (by decide) ?_
        refine wp_iret (pc := 9) dX1_truth_9 rfl rfl ?_
        refine wp_eqst (st' := [vI 1]) rfl ?_
        refine wp_iret (pc := 108) dX1_joined_108 rfl rfl ?_
        have e1 : jn c x y = 1 := by
          rw [h_14]; show truthF (x ≠ 0 ∨ y ≠ 0) = 1; unfold truthF; first | exact if_pos (by omega) | exact if_neg (by omega)
        rw [e1] at hQ; exact hQ
  by_cases h_17 : c = (-7)
  · refine wp_lsw (pc := 1) 109 dX1_joined_1 (by omega) (by decide) (by rw [h_17] <;> decide) (by decide) ?_
    refine wp_iload_n (pc := 109) 1 dX1_joined_109 rfl rfl ?_
    refine wp_if_eq (pc := 110) 121 dX1_joined_110 (by decide) (by omega) (fun h_18 => ?_) (fun h_18 => ?_)
    · refine wp_iconst (pc := 121) dX1_joined_121 ?_
      refine wp_callS (pc := 122) (st := []) (nf' := 153) [vI 0] [some (vI 0)] dX1_joined_122 rfl c_X1_27 rfl rfl (Nat.le_of_ble_eq_true rfl) rfl (Nat.le_of_ble_eq_true rfl) (by omega) (Nat.le_refl _) (Nat.le_refl _) ?_
      refine wp_iload_n (pc := 0) 0 dX1_truth_0 rfl rfl ?_
      refine wp_if_eq (pc := 1) 8 dX1_truth_1 (by decide) (by decide) (fun _ => ?_) (fun hh => absurd hh (by decide))
      refine wp_iconst (pc := 8) dX1_truth_8 ?_
      refine wp_iret (pc := 9) dX1_truth_9 rfl rfl ?_
      refine wp_eqst (st' := [vI 0]) rfl ?_
      refine wp_iret (pc := 125) dX1_joined_125 rfl rfl ?_
      have e1 : jn c x y = 0 := by
        rw [h_17]; show truthF (x ≠ 0 ∧ y ≠ 0) = 0; unfold truthF; first | exact if_pos (by omega) | exact if_neg (by omega)
      rw [e1] at hQ; exact hQ
    · refine wp_iload_n (pc := 113) 2 dX1_joined_113 rfl rfl ?_
      refine wp_if_eq (pc := 114) 121 dX1_joined_114 (by decide) (by omega) (fun h_19 => ?_) (fun h_19 => ?_)
      · refine wp_iconst (pc := 121) dX1_joined_121 ?_
        refine wp_callS (pc := 122) (st := []) (nf' := 153) [vI 0] [some (vI 0)] dX1_joined_122 rfl c_X1_27 rfl rfl (Nat.le_of_ble_eq_true rfl) rfl (Nat.le_of_ble_eq_true rfl) (by omega) (Nat.le_refl _) (Nat.le_refl _) ?_
        refine wp_iload_n (pc := 0) 0 dX1_truth_0 rfl rfl ?_
        refine wp_if_eq (pc := 1) 8 dX1_truth_1 (by decide) (by decide) (fun _ => ?_) (fun hh => absurd hh (by decide))
        refine wp_iconst (pc := 8) dX1_truth_8 ?_
        refine wp_iret (pc := 9) dX1_truth_9 rfl rfl ?_
        refine wp_eqst (st' := [vI 0]) rfl ?_
        refine wp_iret (pc := 125) dX1_joined_125 rfl rfl ?_
        have e1 : jn c x y = 0 := by
          rw [h_17]; show truthF (x ≠ 0 ∧ y ≠ 0) = 0; unfold truthF; first | exact if_pos (by omega) | exact if_neg (by omega)
        rw [e1] at hQ; exact hQ
      · refine wp_iconst (pc := 117) dX1_joined_117 ?_
        refine wp_goto (pc := 118) 122 dX1_joined_118 (by decide) ?_
        refine wp_callS (pc := 122) (st := []) (nf' := 153) [vI 1] [some (vI 1)] dX1_joined_122 rfl c_X1_27 rfl rfl (Nat.le_of_ble_eq_true rfl) rfl (Nat.le_of_ble_eq_true rfl) (by omega) (Nat.le_refl _) (Nat.le_refl _) ?_
        refine wp_iload_n (pc := 0) 0 dX1_truth_0 rfl rfl ?_
        refine wp_if_eq (pc := 1) 8 dX1_truth_1 (by decide) (by decide) (fun hh => absurd hh (by decide)) (fun _ => ?_)
        refine wp_iconst (pc := 4) dX1_truth_4 ?_
        refine wp_goto (pc := 5) 9 dX1_truth_5 (by decide) ?_
        refine wp_iret (pc := 9) dX1_truth_9 rfl rfl ?_
        refine wp_eqst (st' := [vI 1]) rfl ?_
        refine wp_iret (pc := 125) dX1_joined_125 rfl rfl ?_
        have e1 : jn c x y = 1 := by
          rw [h_17]; show truthF (x ≠ 0 ∧ y ≠ 0) = 1; unfold truthF; first | exact if_pos (by omega) | exact if_neg (by omega)
        rw [e1] at hQ; exact hQ
  refine wp_lsw (pc := 1) (off := 203) 204 dX1_joined_1 (by omega) (by decide) (by simp only [Op.lookupswitch.offset_cons, Op.lookupswitch.offset]; repeat rw [if_neg (by omega)]) (by decide) ?_
  refine wp_iconst (pc := 204) dX1_joined_204 ?_
  refine wp_iret (pc := 205) dX1_joined_205 rfl rfl ?_
  have e1 : jn c x y = 0 := by
    unfold jn; rw [if_neg (by omega), if_neg (by omega), if_neg (by omega), if_neg (by omega), if_neg (by omega), if_neg (by omega), if_neg (by omega), if_neg (by omega), if_neg (by omega), if_neg (by omega)]
  rw [e1] at hQ; exact hQ

theorem lp_valueFor {l : Launch} {G : mG} {d : Nat} {I : mI} {L : Nat → Nat → Int} {D : Nat → Nat} {Q : mQ} {t : Nat} {T : mT} {a b e f : Int} (ht : isT t) (hT : TT I t = T) (hw : tw T) (ha : inR a) (hb : inR b) (he : inR e) (hf : inR f) (hcd : ∀ j, inR (T 18 j)) (hd : 2 ≤ d) (hQ : ∀ g, Q (some (vI (evV (T 18) (T 17 2).toNat (envF a b e f)))) (upc I (t + 19) g) (XX L D)) : ∀ i : Nat, i ≤ (T 17 2).toNat → WP l G m_X1_valueFor d 153 (upc I (t + 19) (evN (T 18) (envF a b e f) (I (t + 19)) i).1) (XX L D) 6 [some (vR (t + 17)), some (vI a), some (vI b), some (vI e), some (vI f), some (vI (((evN (T 18) (envF a b e f) (I (t + 19)) i).2 : Nat) : Int)), some (vI (i : Int)), none] [] Q := by
  have b0 := tw_len hw
  have henv := envF_in ha hb he hf
  refine loop_dn (fun i => WP l G m_X1_valueFor d 153 (upc I (t + 19) (evN (T 18) (envF a b e f) (I (t + 19)) i).1) (XX L D) 6 [some (vR (t + 17)), some (vI a), some (vI b), some (vI e), some (vI f), some (vI (((evN (T 18) (envF a b e f) (I (t + 19)) i).2 : Nat) : Int)), some (vI (i : Int)), none] [] Q) (T 17 2).toNat ?_ (fun i hi ih => ?_)
  · obtain ⟨hn, hg⟩ := evN_in hcd henv (I (t + 19)) (T 17 2).toNat
    generalize hgn : evN (T 18) (envF a b e f) (I (t + 19)) (T 17 2).toNat = sgn at hn hg ⊢
    obtain ⟨g, n⟩ := sgn
    dsimp only at hn hg ⊢
    refine wp_iload (pc := 6) dX1_valueFor_6 rfl ?_
    refine wp_aload_n (pc := 8) 0 dX1_valueFor_8 rfl rfl ?_
    refine wp_geti (pc := 9) dX1_valueFor_9 rfl f_X1_16 (tk_17 ht) (tl_17 ht) (Or.inl rfl) ?_
    refine wp_eqst (st' := [vI (T 17 2), vI (((T 17 2).toNat : Nat) : Int)]) (by rw [upc_c (by omega), ← hT] <;> rfl) ?_
    refine wp_icmp_ge (pc := 12) 150 dX1_valueFor_12 (by decide) (by omega) (by omega) (fun h_1 => ?_) (fun h_1 => ?_)
    · refine wp_iload (pc := 150) dX1_valueFor_150 rfl ?_
      refine wp_if_le (pc := 152) 167 dX1_valueFor_152 (by decide) (by omega) (fun h_2 => ?_) (fun h_2 => ?_)
      · refine wp_iconst (pc := 167) dX1_valueFor_167 ?_
        refine wp_iret (pc := 168) dX1_valueFor_168 rfl rfl ?_
        have hq := hQ g
        have e1 : evV (T 18) (T 17 2).toNat (envF a b e f) = 0 := by
          rw [evV_of (T 18) (T 17 2).toNat (envF a b e f) (I (t + 19)), hgn]
          first | exact if_pos (by show 0 < n; omega) | exact if_neg (by show ¬ 0 < n; omega)
        rw [e1] at hq; exact hq
      · refine wp_aload_n (pc := 155) 0 dX1_valueFor_155 rfl rfl ?_
        refine wp_getr (pc := 156) dX1_valueFor_156 rfl f_X1_13 (tk_17 ht) (tl_17 ht) rfl (tr_17_1 D ht) ?_
        refine wp_iload (pc := 159) dX1_valueFor_159 rfl ?_
        refine wp_iconst (pc := 161) dX1_valueFor_161 ?_
        refine wp_isub (pc := 162) dX1_valueFor_162 ?_
        refine wq_iald (pc := 163) (n - 1) dX1_valueFor_163 (tk_19 ht) (tl_19 ht) (by omega) (by omega) ?_
        refine wp_eqst (st' := [vI (g (n - 1))]) (by rw [upc_s]) ?_
        refine wp_goto (pc := 164) 168 dX1_valueFor_164 (by decide) ?_
        refine wp_iret (pc := 168) dX1_valueFor_168 rfl rfl ?_
        have hq := hQ g
        have e1 : evV (T 18) (T 17 2).toNat (envF a b e f) = g (n - 1) := by
          rw [evV_of (T 18) (T 17 2).toNat (envF a b e f) (I (t + 19)), hgn]
          first | exact if_pos (by show 0 < n; omega) | exact if_neg (by show ¬ 0 < n; omega)
        rw [e1] at hq; exact hq
    · exfalso; omega
  · obtain ⟨hn, hg⟩ := evN_in hcd henv (I (t + 19)) i
    rw [evN_s] at ih
    generalize hgn : evN (T 18) (envF a b e f) (I (t + 19)) i = sgn at hn hg ih ⊢
    obtain ⟨g, n⟩ := sgn
    dsimp only at hn hg ⊢
    have b1 := hcd i
    have b2 : 1 ≤ n → inR (g (n - 1)) := fun h => hg _ (by omega)
    have b3 : 2 ≤ n → inR (g (n - 1 - 1)) := fun h => hg _ (by omega)
    have b4 : n - 1 - 1 = n - 2 := by omega
    refine wp_iload (pc := 6) dX1_valueFor_6 rfl ?_
    refine wp_aload_n (pc := 8) 0 dX1_valueFor_8 rfl rfl ?_
    refine wp_geti (pc := 9) dX1_valueFor_9 rfl f_X1_16 (tk_17 ht) (tl_17 ht) (Or.inl rfl) ?_
    refine wp_eqst (st' := [vI (T 17 2), vI (i : Int)]) (by rw [upc_c (by omega), ← hT] <;> rfl) ?_
    refine wp_icmp_ge (pc := 12) 150 dX1_valueFor_12 (by decide) (by omega) (by omega) (fun h_1 => ?_) (fun h_1 => ?_)
    · exfalso; omega
    · refine wp_aload_n (pc := 15) 0 dX1_valueFor_15 rfl rfl ?_
      refine wp_getr (pc := 16) dX1_valueFor_16 rfl f_X1_9 (tk_17 ht) (tl_17 ht) rfl (tr_17_0 D ht) ?_
      refine wp_iload (pc := 19) dX1_valueFor_19 rfl ?_
      refine wq_iald (pc := 21) i dX1_valueFor_21 (tk_18 ht) (tl_18 ht) rfl (by omega) ?_
      refine wp_eqst (st' := [vI (T 18 i)]) (by rw [upc_c (by omega), ← hT] <;> rfl) ?_
      refine wq_istore (pc := 22) [some (vR (t + 17)), some (vI a), some (vI b), some (vI e), some (vI f), some (vI (n : Int)), some (vI (i : Int)), some (vI (T 18 i))] dX1_valueFor_22 rfl (by decide) rfl ?_
      refine wp_iload (pc := 24) dX1_valueFor_24 rfl ?_
      refine wp_bipush (pc := 26) dX1_valueFor_26 (by decide) ?_
      refine wp_icmp_lt (pc := 28) 61 dX1_valueFor_28 (by decide) (by omega) (by decide) (fun h_2 => ?_) (fun h_2 => ?_)
      · refine wp_iload (pc := 61) dX1_valueFor_61 rfl ?_
        refine wp_bipush (pc := 63) dX1_valueFor_63 (by decide) ?_
        refine wp_icmp_ne (pc := 65) 105 dX1_valueFor_65 (by decide) (by omega) (by decide) (fun h_3 => ?_) (fun h_3 => ?_)
        · refine wp_iload (pc := 105) dX1_valueFor_105 rfl ?_
          refine wp_iconst (pc := 107) dX1_valueFor_107 ?_
          refine wp_icmp_le (pc := 108) 144 dX1_valueFor_108 (by decide) (by omega) (by decide) (fun h_4 => ?_) (fun h_4 => ?_)
          · refine wq_iinc (pc := 144) [some (vR (t + 17)), some (vI a), some (vI b), some (vI e), some (vI f), some (vI (n : Int)), some (vI ((i : Int) + 1)), some (vI (T 18 i))] dX1_valueFor_144 rfl rfl (by decide) rfl ?_
            refine wp_goto (pc := 147) 6 dX1_valueFor_147 (by decide) ?_
            rw [evStep_d (by omega) (by omega) (by omega)] at ih
            refine wp_none 7 [some (vR (t + 17)), some (vI a), some (vI b), some (vI e), some (vI f), some (vI (n : Int)), some (vI ((i : Int) + 1)), none] rfl ?_
            exact ih
          · refine wq_iinc (pc := 111) [some (vR (t + 17)), some (vI a), some (vI b), some (vI e), some (vI f), some (vI ((n : Int) + (-1))), some (vI (i : Int)), some (vI (T 18 i))] dX1_valueFor_111 rfl rfl (by decide) rfl ?_
            refine wp_aload_n (pc := 114) 0 dX1_valueFor_114 rfl rfl ?_
            refine wp_getr (pc := 115) dX1_valueFor_115 rfl f_X1_13 (tk_17 ht) (tl_17 ht) rfl (tr_17_1 D ht) ?_
            refine wp_iload (pc := 118) dX1_valueFor_118 rfl ?_
            refine wp_iconst (pc := 120) dX1_valueFor_120 ?_
            refine wp_isub (pc := 121) dX1_valueFor_121 ?_
            refine wp_iload (pc := 122) dX1_valueFor_122 rfl ?_
            refine wp_aload_n (pc := 124) 0 dX1_valueFor_124 rfl rfl ?_
            refine wp_getr (pc := 125) dX1_valueFor_125 rfl f_X1_13 (tk_17 ht) (tl_17 ht) rfl (tr_17_1 D ht) ?_
            refine wp_iload (pc := 128) dX1_valueFor_128 rfl ?_
            refine wp_iconst (pc := 130) dX1_valueFor_130 ?_
            refine wp_isub (pc := 131) dX1_valueFor_131 ?_
            refine wq_iald (pc := 132) ((n - 1) - 1) dX1_valueFor_132 (tk_19 ht) (tl_19 ht) (by omega) (by omega) ?_
            refine wp_eqst (st' := [vI (g ((n - 1) - 1)), vI (T 18 i), vI (((n : Int) + (-1)) - 1), vR (t + 19)]) (by rw [upc_s]) ?_
            refine wp_aload_n (pc := 133) 0 dX1_valueFor_133 rfl rfl ?_
            refine wp_getr (pc := 134) dX1_valueFor_134 rfl f_X1_13 (tk_17 ht) (tl_17 ht) rfl (tr_17_1 D ht) ?_
            refine wp_iload (pc := 137) dX1_valueFor_137 rfl ?_
            refine wq_iald (pc := 139) (n - 1) dX1_valueFor_139 (tk_19 ht) (tl_19 ht) (by omega) (by omega) ?_
            refine wp_eqst (st' := [vI (g (n - 1)), vI (g ((n - 1) - 1)), vI (T 18 i), vI (((n : Int) + (-1)) - 1), vR (t + 19)]) (by rw [upc_s]) ?_
            refine wp_callS (pc := 140) (st := [vI (((n : Int) + (-1)) - 1), vR (t + 19)]) (nf' := 153) [vI (T 18 i), vI (g ((n - 1) - 1)), vI (g (n - 1))] [some (vI (T 18 i)), some (vI (g ((n - 1) - 1))), some (vI (g (n - 1)))] dX1_valueFor_140 rfl c_X1_31 rfl rfl (Nat.le_of_ble_eq_true rfl) rfl (Nat.le_of_ble_eq_true rfl) (by omega) (Nat.le_refl _) (Nat.le_refl _) ?_
            refine sp_joined (by omega) (by omega) (by omega) (by omega) ?_
            refine wp_eqst (st' := [vI (jn (T 18 i) (g ((n - 1) - 1)) (g (n - 1))), vI (((n : Int) + (-1)) - 1), vR (t + 19)]) rfl ?_
            refine wq_iast (pc := 143) ((n - 1) - 1) dX1_valueFor_143 (tk_19 ht) (tl_19 ht) (by omega) (by omega) ?_
            refine wq_iinc (pc := 144) [some (vR (t + 17)), some (vI a), some (vI b), some (vI e), some (vI f), some (vI ((n : Int) + (-1))), some (vI ((i : Int) + 1)), some (vI (T 18 i))] dX1_valueFor_144 rfl rfl (by decide) rfl ?_
            refine wp_goto (pc := 147) 6 dX1_valueFor_147 (by decide) ?_
            rw [evStep_c (by omega) (by omega) (by omega)] at ih
            refine wp_none 7 [some (vR (t + 17)), some (vI a), some (vI b), some (vI e), some (vI f), some (vI ((n : Int) + (-1))), some (vI ((i : Int) + 1)), none] rfl ?_
            rw [up_upc]
            refine wp_eqls (ls' := [some (vR (t + 17)), some (vI a), some (vI b), some (vI e), some (vI f), some (vI ((n - 1 : Nat) : Int)), some (vI (((i + 1) : Nat) : Int)), none]) (by rw [show (n : Int) + (-1) = ((n - 1 : Nat) : Int) from by omega]; rfl) ?_
            rw [show n - 1 - 1 = n - 2 from by omega]
            exact ih
        · refine wp_iload (pc := 68) dX1_valueFor_68 rfl ?_
          refine wp_if_le (pc := 70) 105 dX1_valueFor_70 (by decide) (by omega) (fun h_5 => ?_) (fun h_5 => ?_)
          · refine wp_iload (pc := 105) dX1_valueFor_105 rfl ?_
            refine wp_iconst (pc := 107) dX1_valueFor_107 ?_
            refine wp_icmp_le (pc := 108) 144 dX1_valueFor_108 (by decide) (by omega) (by decide) (fun h_6 => ?_) (fun h_6 => ?_)
            · refine wq_iinc (pc := 144) [some (vR (t + 17)), some (vI a), some (vI b), some (vI e), some (vI f), some (vI (n : Int)), some (vI ((i : Int) + 1)), some (vI (T 18 i))] dX1_valueFor_144 rfl rfl (by decide) rfl ?_
              refine wp_goto (pc := 147) 6 dX1_valueFor_147 (by decide) ?_
              rw [evStep_d (by omega) (by omega) (by omega)] at ih
              refine wp_none 7 [some (vR (t + 17)), some (vI a), some (vI b), some (vI e), some (vI f), some (vI (n : Int)), some (vI ((i : Int) + 1)), none] rfl ?_
              exact ih
            · refine wq_iinc (pc := 111) [some (vR (t + 17)), some (vI a), some (vI b), some (vI e), some (vI f), some (vI ((n : Int) + (-1))), some (vI (i : Int)), some (vI (T 18 i))] dX1_valueFor_111 rfl rfl (by decide) rfl ?_
              refine wp_aload_n (pc := 114) 0 dX1_valueFor_114 rfl rfl ?_
              refine wp_getr (pc := 115) dX1_valueFor_115 rfl f_X1_13 (tk_17 ht) (tl_17 ht) rfl (tr_17_1 D ht) ?_
              refine wp_iload (pc := 118) dX1_valueFor_118 rfl ?_
              refine wp_iconst (pc := 120) dX1_valueFor_120 ?_
              refine wp_isub (pc := 121) dX1_valueFor_121 ?_
              refine wp_iload (pc := 122) dX1_valueFor_122 rfl ?_
              refine wp_aload_n (pc := 124) 0 dX1_valueFor_124 rfl rfl ?_
              refine wp_getr (pc := 125) dX1_valueFor_125 rfl f_X1_13 (tk_17 ht) (tl_17 ht) rfl (tr_17_1 D ht) ?_
              refine wp_iload (pc := 128) dX1_valueFor_128 rfl ?_
              refine wp_iconst (pc := 130) dX1_valueFor_130 ?_
              refine wp_isub (pc := 131) dX1_valueFor_131 ?_
              refine wq_iald (pc := 132) ((n - 1) - 1) dX1_valueFor_132 (tk_19 ht) (tl_19 ht) (by omega) (by omega) ?_
              refine wp_eqst (st' := [vI (g ((n - 1) - 1)), vI (T 18 i), vI (((n : Int) + (-1)) - 1), vR (t + 19)]) (by rw [upc_s]) ?_
              refine wp_aload_n (pc := 133) 0 dX1_valueFor_133 rfl rfl ?_
              refine wp_getr (pc := 134) dX1_valueFor_134 rfl f_X1_13 (tk_17 ht) (tl_17 ht) rfl (tr_17_1 D ht) ?_
              refine wp_iload (pc := 137) dX1_valueFor_137 rfl ?_
              refine wq_iald (pc := 139) (n - 1) dX1_valueFor_139 (tk_19 ht) (tl_19 ht) (by omega) (by omega) ?_
              refine wp_eqst (st' := [vI (g (n - 1)), vI (g ((n - 1) - 1)), vI (T 18 i), vI (((n : Int) + (-1)) - 1), vR (t + 19)]) (by rw [upc_s]) ?_
              refine wp_callS (pc := 140) (st := [vI (((n : Int) + (-1)) - 1), vR (t + 19)]) (nf' := 153) [vI (T 18 i), vI (g ((n - 1) - 1)), vI (g (n - 1))] [some (vI (T 18 i)), some (vI (g ((n - 1) - 1))), some (vI (g (n - 1)))] dX1_valueFor_140 rfl c_X1_31 rfl rfl (Nat.le_of_ble_eq_true rfl) rfl (Nat.le_of_ble_eq_true rfl) (by omega) (Nat.le_refl _) (Nat.le_refl _) ?_
              refine sp_joined (by omega) (by omega) (by omega) (by omega) ?_
              refine wp_eqst (st' := [vI (jn (T 18 i) (g ((n - 1) - 1)) (g (n - 1))), vI (((n : Int) + (-1)) - 1), vR (t + 19)]) rfl ?_
              refine wq_iast (pc := 143) ((n - 1) - 1) dX1_valueFor_143 (tk_19 ht) (tl_19 ht) (by omega) (by omega) ?_
              refine wq_iinc (pc := 144) [some (vR (t + 17)), some (vI a), some (vI b), some (vI e), some (vI f), some (vI ((n : Int) + (-1))), some (vI ((i : Int) + 1)), some (vI (T 18 i))] dX1_valueFor_144 rfl rfl (by decide) rfl ?_
              refine wp_goto (pc := 147) 6 dX1_valueFor_147 (by decide) ?_
              rw [evStep_c (by omega) (by omega) (by omega)] at ih
              refine wp_none 7 [some (vR (t + 17)), some (vI a), some (vI b), some (vI e), some (vI f), some (vI ((n : Int) + (-1))), some (vI ((i : Int) + 1)), none] rfl ?_
              rw [up_upc]
              refine wp_eqls (ls' := [some (vR (t + 17)), some (vI a), some (vI b), some (vI e), some (vI f), some (vI ((n - 1 : Nat) : Int)), some (vI (((i + 1) : Nat) : Int)), none]) (by rw [show (n : Int) + (-1) = ((n - 1 : Nat) : Int) from by omega]; rfl) ?_
              rw [show n - 1 - 1 = n - 2 from by omega]
              exact ih
          · refine wp_aload_n (pc := 73) 0 dX1_valueFor_73 rfl rfl ?_
            refine wp_getr (pc := 74) dX1_valueFor_74 rfl f_X1_13 (tk_17 ht) (tl_17 ht) rfl (tr_17_1 D ht) ?_
            refine wp_iload (pc := 77) dX1_valueFor_77 rfl ?_
            refine wp_iconst (pc := 79) dX1_valueFor_79 ?_
            refine wp_isub (pc := 80) dX1_valueFor_80 ?_
            refine wp_aload_n (pc := 81) 0 dX1_valueFor_81 rfl rfl ?_
            refine wp_getr (pc := 82) dX1_valueFor_82 rfl f_X1_13 (tk_17 ht) (tl_17 ht) rfl (tr_17_1 D ht) ?_
            refine wp_iload (pc := 85) dX1_valueFor_85 rfl ?_
            refine wp_iconst (pc := 87) dX1_valueFor_87 ?_
            refine wp_isub (pc := 88) dX1_valueFor_88 ?_
            refine wq_iald (pc := 89) (n - 1) dX1_valueFor_89 (tk_19 ht) (tl_19 ht) (by omega) (by omega) ?_
            refine wp_eqst (st' := [vI (g (n - 1)), vI ((n : Int) - 1), vR (t + 19)]) (by rw [upc_s]) ?_
            refine wp_if_ne (pc := 90) 97 dX1_valueFor_90 (by decide) (by omega) (fun h_7 => ?_) (fun h_7 => ?_)
            · refine wp_iconst (pc := 97) dX1_valueFor_97 ?_
              refine wp_callS (pc := 98) (st := [vI ((n : Int) - 1), vR (t + 19)]) (nf' := 153) [vI 0] [some (vI 0)] dX1_valueFor_98 rfl c_X1_27 rfl rfl (Nat.le_of_ble_eq_true rfl) rfl (Nat.le_of_ble_eq_true rfl) (by omega) (Nat.le_refl _) (Nat.le_refl _) ?_
              refine wp_iload_n (pc := 0) 0 dX1_truth_0 rfl rfl ?_
              refine wp_if_eq (pc := 1) 8 dX1_truth_1 (by decide) (by decide) (fun _ => ?_) (fun hh => absurd hh (by decide))
              refine wp_iconst (pc := 8) dX1_truth_8 ?_
              refine wp_iret (pc := 9) dX1_truth_9 rfl rfl ?_
              refine wp_eqst (st' := [vI 0, vI ((n : Int) - 1), vR (t + 19)]) rfl ?_
              refine wq_iast (pc := 101) (n - 1) dX1_valueFor_101 (tk_19 ht) (tl_19 ht) (by omega) (by omega) ?_
              refine wp_goto (pc := 102) 144 dX1_valueFor_102 (by decide) ?_
              refine wq_iinc (pc := 144) [some (vR (t + 17)), some (vI a), some (vI b), some (vI e), some (vI f), some (vI (n : Int)), some (vI ((i : Int) + 1)), some (vI (T 18 i))] dX1_valueFor_144 rfl rfl (by decide) rfl ?_
              refine wp_goto (pc := 147) 6 dX1_valueFor_147 (by decide) ?_
              rw [evStep_b (by omega) (by omega) (by omega)] at ih
              refine wp_none 7 [some (vR (t + 17)), some (vI a), some (vI b), some (vI e), some (vI f), some (vI (n : Int)), some (vI ((i : Int) + 1)), none] rfl ?_
              rw [up_upc]
              first | (rw [show truthF (g (n - 1) = 0) = 1 from if_pos (by assumption)] at ih; exact ih) | (rw [show truthF (g (n - 1) = 0) = 0 from if_neg (by assumption)] at ih; exact ih)
            · refine wp_iconst (pc := 93) dX1_valueFor_93 ?_
              refine wp_goto (pc := 94) 98 dX1_valueFor_94 (by decide) ?_
              refine wp_callS (pc := 98) (st := [vI ((n : Int) - 1), vR (t + 19)]) (nf' := 153) [vI 1] [some (vI 1)] dX1_valueFor_98 rfl c_X1_27 rfl rfl (Nat.le_of_ble_eq_true rfl) rfl (Nat.le_of_ble_eq_true rfl) (by omega) (Nat.le_refl _) (Nat.le_refl _) ?_
              refine wp_iload_n (pc := 0) 0 dX1_truth_0 rfl rfl ?_
              refine wp_if_eq (pc := 1) 8 dX1_truth_1 (by decide) (by decide) (fun hh => absurd hh (by decide)) (fun _ => ?_)
              refine wp_iconst (pc := 4) dX1_truth_4 ?_
              refine wp_goto (pc := 5) 9 dX1_truth_5 (by decide) ?_
              refine wp_iret (pc := 9) dX1_truth_9 rfl rfl ?_
              refine wp_eqst (st' := [vI 1, vI ((n : Int) - 1), vR (t + 19)]) rfl ?_
              refine wq_iast (pc := 101) (n - 1) dX1_valueFor_101 (tk_19 ht) (tl_19 ht) (by omega) (by omega) ?_
              refine wp_goto (pc := 102) 144 dX1_valueFor_102 (by decide) ?_
              refine wq_iinc (pc := 144) [some (vR (t + 17)), some (vI a), some (vI b), some (vI e), some (vI f), some (vI (n : Int)), some (vI ((i : Int) + 1)), some (vI (T 18 i))] dX1_valueFor_144 rfl rfl (by decide) rfl ?_
              refine wp_goto (pc := 147) 6 dX1_valueFor_147 (by decide) ?_
              rw [evStep_b (by omega) (by omega) (by omega)] at ih
              refine wp_none 7 [some (vR (t + 17)), some (vI a), some (vI b), some (vI e), some (vI f), some (vI (n : Int)), some (vI ((i : Int) + 1)), none] rfl ?_
              rw [up_upc]
              first | (rw [show truthF (g (n - 1) = 0) = 1 from if_pos (by assumption)] at ih; exact ih) | (rw [show truthF (g (n - 1) = 0) = 0 from if_neg (by assumption)] at ih; exact ih)
      · refine wp_iload (pc := 31) dX1_valueFor_31 rfl ?_
        refine wp_bipush (pc := 33) dX1_valueFor_33 (by decide) ?_
        refine wp_icmp_ge (pc := 35) 61 dX1_valueFor_35 (by decide) (by omega) (by decide) (fun h_8 => ?_) (fun h_8 => ?_)
        · refine wp_iload (pc := 61) dX1_valueFor_61 rfl ?_
          refine wp_bipush (pc := 63) dX1_valueFor_63 (by decide) ?_
          refine wp_icmp_ne (pc := 65) 105 dX1_valueFor_65 (by decide) (by omega) (by decide) (fun h_9 => ?_) (fun h_9 => ?_)
          · refine wp_iload (pc := 105) dX1_valueFor_105 rfl ?_
            refine wp_iconst (pc := 107) dX1_valueFor_107 ?_
            refine wp_icmp_le (pc := 108) 144 dX1_valueFor_108 (by decide) (by omega) (by decide) (fun h_10 => ?_) (fun h_10 => ?_)
            · refine wq_iinc (pc := 144) [some (vR (t + 17)), some (vI a), some (vI b), some (vI e), some (vI f), some (vI (n : Int)), some (vI ((i : Int) + 1)), some (vI (T 18 i))] dX1_valueFor_144 rfl rfl (by decide) rfl ?_
              refine wp_goto (pc := 147) 6 dX1_valueFor_147 (by decide) ?_
              rw [evStep_d (by omega) (by omega) (by omega)] at ih
              refine wp_none 7 [some (vR (t + 17)), some (vI a), some (vI b), some (vI e), some (vI f), some (vI (n : Int)), some (vI ((i : Int) + 1)), none] rfl ?_
              exact ih
            · refine wq_iinc (pc := 111) [some (vR (t + 17)), some (vI a), some (vI b), some (vI e), some (vI f), some (vI ((n : Int) + (-1))), some (vI (i : Int)), some (vI (T 18 i))] dX1_valueFor_111 rfl rfl (by decide) rfl ?_
              refine wp_aload_n (pc := 114) 0 dX1_valueFor_114 rfl rfl ?_
              refine wp_getr (pc := 115) dX1_valueFor_115 rfl f_X1_13 (tk_17 ht) (tl_17 ht) rfl (tr_17_1 D ht) ?_
              refine wp_iload (pc := 118) dX1_valueFor_118 rfl ?_
              refine wp_iconst (pc := 120) dX1_valueFor_120 ?_
              refine wp_isub (pc := 121) dX1_valueFor_121 ?_
              refine wp_iload (pc := 122) dX1_valueFor_122 rfl ?_
              refine wp_aload_n (pc := 124) 0 dX1_valueFor_124 rfl rfl ?_
              refine wp_getr (pc := 125) dX1_valueFor_125 rfl f_X1_13 (tk_17 ht) (tl_17 ht) rfl (tr_17_1 D ht) ?_
              refine wp_iload (pc := 128) dX1_valueFor_128 rfl ?_
              refine wp_iconst (pc := 130) dX1_valueFor_130 ?_
              refine wp_isub (pc := 131) dX1_valueFor_131 ?_
              refine wq_iald (pc := 132) ((n - 1) - 1) dX1_valueFor_132 (tk_19 ht) (tl_19 ht) (by omega) (by omega) ?_
              refine wp_eqst (st' := [vI (g ((n - 1) - 1)), vI (T 18 i), vI (((n : Int) + (-1)) - 1), vR (t + 19)]) (by rw [upc_s]) ?_
              refine wp_aload_n (pc := 133) 0 dX1_valueFor_133 rfl rfl ?_
              refine wp_getr (pc := 134) dX1_valueFor_134 rfl f_X1_13 (tk_17 ht) (tl_17 ht) rfl (tr_17_1 D ht) ?_
              refine wp_iload (pc := 137) dX1_valueFor_137 rfl ?_
              refine wq_iald (pc := 139) (n - 1) dX1_valueFor_139 (tk_19 ht) (tl_19 ht) (by omega) (by omega) ?_
              refine wp_eqst (st' := [vI (g (n - 1)), vI (g ((n - 1) - 1)), vI (T 18 i), vI (((n : Int) + (-1)) - 1), vR (t + 19)]) (by rw [upc_s]) ?_
              refine wp_callS (pc := 140) (st := [vI (((n : Int) + (-1)) - 1), vR (t + 19)]) (nf' := 153) [vI (T 18 i), vI (g ((n - 1) - 1)), vI (g (n - 1))] [some (vI (T 18 i)), some (vI (g ((n - 1) - 1))), some (vI (g (n - 1)))] dX1_valueFor_140 rfl c_X1_31 rfl rfl (Nat.le_of_ble_eq_true rfl) rfl (Nat.le_of_ble_eq_true rfl) (by omega) (Nat.le_refl _) (Nat.le_refl _) ?_
              refine sp_joined (by omega) (by omega) (by omega) (by omega) ?_
              refine wp_eqst (st' := [vI (jn (T 18 i) (g ((n - 1) - 1)) (g (n - 1))), vI (((n : Int) + (-1)) - 1), vR (t + 19)]) rfl ?_
              refine wq_iast (pc := 143) ((n - 1) - 1) dX1_valueFor_143 (tk_19 ht) (tl_19 ht) (by omega) (by omega) ?_
              refine wq_iinc (pc := 144) [some (vR (t + 17)), some (vI a), some (vI b), some (vI e), some (vI f), some (vI ((n : Int) + (-1))), some (vI ((i : Int) + 1)), some (vI (T 18 i))] dX1_valueFor_144 rfl rfl (by decide) rfl ?_
              refine wp_goto (pc := 147) 6 dX1_valueFor_147 (by decide) ?_
              rw [evStep_c (by omega) (by omega) (by omega)] at ih
              refine wp_none 7 [some (vR (t + 17)), some (vI a), some (vI b), some (vI e), some (vI f), some (vI ((n : Int) + (-1))), some (vI ((i : Int) + 1)), none] rfl ?_
              rw [up_upc]
              refine wp_eqls (ls' := [some (vR (t + 17)), some (vI a), some (vI b), some (vI e), some (vI f), some (vI ((n - 1 : Nat) : Int)), some (vI (((i + 1) : Nat) : Int)), none]) (by rw [show (n : Int) + (-1) = ((n - 1 : Nat) : Int) from by omega]; rfl) ?_
              rw [show n - 1 - 1 = n - 2 from by omega]
              exact ih
          · refine wp_iload (pc := 68) dX1_valueFor_68 rfl ?_
            refine wp_if_le (pc := 70) 105 dX1_valueFor_70 (by decide) (by omega) (fun h_11 => ?_) (fun h_11 => ?_)
            · refine wp_iload (pc := 105) dX1_valueFor_105 rfl ?_
              refine wp_iconst (pc := 107) dX1_valueFor_107 ?_
              refine wp_icmp_le (pc := 108) 144 dX1_valueFor_108 (by decide) (by omega) (by decide) (fun h_12 => ?_) (fun h_12 => ?_)
              · refine wq_iinc (pc := 144) [some (vR (t + 17)), some (vI a), some (vI b), some (vI e), some (vI f), some (vI (n : Int)), some (vI ((i : Int) + 1)), some (vI (T 18 i))] dX1_valueFor_144 rfl rfl (by decide) rfl ?_
                refine wp_goto (pc := 147) 6 dX1_valueFor_147 (by decide) ?_
                rw [evStep_d (by omega) (by omega) (by omega)] at ih
                refine wp_none 7 [some (vR (t + 17)), some (vI a), some (vI b), some (vI e), some (vI f), some (vI (n : Int)), some (vI ((i : Int) + 1)), none] rfl ?_
                exact ih
              · refine wq_iinc (pc := 111) [some (vR (t + 17)), some (vI a), some (vI b), some (vI e), some (vI f), some (vI ((n : Int) + (-1))), some (vI (i : Int)), some (vI (T 18 i))] dX1_valueFor_111 rfl rfl (by decide) rfl ?_
                refine wp_aload_n (pc := 114) 0 dX1_valueFor_114 rfl rfl ?_
                refine wp_getr (pc := 115) dX1_valueFor_115 rfl f_X1_13 (tk_17 ht) (tl_17 ht) rfl (tr_17_1 D ht) ?_
                refine wp_iload (pc := 118) dX1_valueFor_118 rfl ?_
                refine wp_iconst (pc := 120) dX1_valueFor_120 ?_
                refine wp_isub (pc := 121) dX1_valueFor_121 ?_
                refine wp_iload (pc := 122) dX1_valueFor_122 rfl ?_
                refine wp_aload_n (pc := 124) 0 dX1_valueFor_124 rfl rfl ?_
                refine wp_getr (pc := 125) dX1_valueFor_125 rfl f_X1_13 (tk_17 ht) (tl_17 ht) rfl (tr_17_1 D ht) ?_
                refine wp_iload (pc := 128) dX1_valueFor_128 rfl ?_
                refine wp_iconst (pc := 130) dX1_valueFor_130 ?_
                refine wp_isub (pc := 131) dX1_valueFor_131 ?_
                refine wq_iald (pc := 132) ((n - 1) - 1) dX1_valueFor_132 (tk_19 ht) (tl_19 ht) (by omega) (by omega) ?_
                refine wp_eqst (st' := [vI (g ((n - 1) - 1)), vI (T 18 i), vI (((n : Int) + (-1)) - 1), vR (t + 19)]) (by rw [upc_s]) ?_
                refine wp_aload_n (pc := 133) 0 dX1_valueFor_133 rfl rfl ?_
                refine wp_getr (pc := 134) dX1_valueFor_134 rfl f_X1_13 (tk_17 ht) (tl_17 ht) rfl (tr_17_1 D ht) ?_
                refine wp_iload (pc := 137) dX1_valueFor_137 rfl ?_
                refine wq_iald (pc := 139) (n - 1) dX1_valueFor_139 (tk_19 ht) (tl_19 ht) (by omega) (by omega) ?_
                refine wp_eqst (st' := [vI (g (n - 1)), vI (g ((n - 1) - 1)), vI (T 18 i), vI (((n : Int) + (-1)) - 1), vR (t + 19)]) (by rw [upc_s]) ?_
                refine wp_callS (pc := 140) (st := [vI (((n : Int) + (-1)) - 1), vR (t + 19)]) (nf' := 153) [vI (T 18 i), vI (g ((n - 1) - 1)), vI (g (n - 1))] [some (vI (T 18 i)), some (vI (g ((n - 1) - 1))), some (vI (g (n - 1)))] dX1_valueFor_140 rfl c_X1_31 rfl rfl (Nat.le_of_ble_eq_true rfl) rfl (Nat.le_of_ble_eq_true rfl) (by omega) (Nat.le_refl _) (Nat.le_refl _) ?_
                refine sp_joined (by omega) (by omega) (by omega) (by omega) ?_
                refine wp_eqst (st' := [vI (jn (T 18 i) (g ((n - 1) - 1)) (g (n - 1))), vI (((n : Int) + (-1)) - 1), vR (t + 19)]) rfl ?_
                refine wq_iast (pc := 143) ((n - 1) - 1) dX1_valueFor_143 (tk_19 ht) (tl_19 ht) (by omega) (by omega) ?_
                refine wq_iinc (pc := 144) [some (vR (t + 17)), some (vI a), some (vI b), some (vI e), some (vI f), some (vI ((n : Int) + (-1))), some (vI ((i : Int) + 1)), some (vI (T 18 i))] dX1_valueFor_144 rfl rfl (by decide) rfl ?_
                refine wp_goto (pc := 147) 6 dX1_valueFor_147 (by decide) ?_
                rw [evStep_c (by omega) (by omega) (by omega)] at ih
                refine wp_none 7 [some (vR (t + 17)), some (vI a), some (vI b), some (vI e), some (vI f), some (vI ((n : Int) + (-1))), some (vI ((i : Int) + 1)), none] rfl ?_
                rw [up_upc]
                refine wp_eqls (ls' := [some (vR (t + 17)), some (vI a), some (vI b), some (vI e), some (vI f), some (vI ((n - 1 : Nat) : Int)), some (vI (((i + 1) : Nat) : Int)), none]) (by rw [show (n : Int) + (-1) = ((n - 1 : Nat) : Int) from by omega]; rfl) ?_
                rw [show n - 1 - 1 = n - 2 from by omega]
                exact ih
            · refine wp_aload_n (pc := 73) 0 dX1_valueFor_73 rfl rfl ?_
              refine wp_getr (pc := 74) dX1_valueFor_74 rfl f_X1_13 (tk_17 ht) (tl_17 ht) rfl (tr_17_1 D ht) ?_
              refine wp_iload (pc := 77) dX1_valueFor_77 rfl ?_
              refine wp_iconst (pc := 79) dX1_valueFor_79 ?_
              refine wp_isub (pc := 80) dX1_valueFor_80 ?_
              refine wp_aload_n (pc := 81) 0 dX1_valueFor_81 rfl rfl ?_
              refine wp_getr (pc := 82) dX1_valueFor_82 rfl f_X1_13 (tk_17 ht) (tl_17 ht) rfl (tr_17_1 D ht) ?_
              refine wp_iload (pc := 85) dX1_valueFor_85 rfl ?_
              refine wp_iconst (pc := 87) dX1_valueFor_87 ?_
              refine wp_isub (pc := 88) dX1_valueFor_88 ?_
              refine wq_iald (pc := 89) (n - 1) dX1_valueFor_89 (tk_19 ht) (tl_19 ht) (by omega) (by omega) ?_
              refine wp_eqst (st' := [vI (g (n - 1)), vI ((n : Int) - 1), vR (t + 19)]) (by rw [upc_s]) ?_
              refine wp_if_ne (pc := 90) 97 dX1_valueFor_90 (by decide) (by omega) (fun h_13 => ?_) (fun h_13 => ?_)
              · refine wp_iconst (pc := 97) dX1_valueFor_97 ?_
                refine wp_callS (pc := 98) (st := [vI ((n : Int) - 1), vR (t + 19)]) (nf' := 153) [vI 0] [some (vI 0)] dX1_valueFor_98 rfl c_X1_27 rfl rfl (Nat.le_of_ble_eq_true rfl) rfl (Nat.le_of_ble_eq_true rfl) (by omega) (Nat.le_refl _) (Nat.le_refl _) ?_
                refine wp_iload_n (pc := 0) 0 dX1_truth_0 rfl rfl ?_
                refine wp_if_eq (pc := 1) 8 dX1_truth_1 (by decide) (by decide) (fun _ => ?_) (fun hh => absurd hh (by decide))
                refine wp_iconst (pc := 8) dX1_truth_8 ?_
                refine wp_iret (pc := 9) dX1_truth_9 rfl rfl ?_
                refine wp_eqst (st' := [vI 0, vI ((n : Int) - 1), vR (t + 19)]) rfl ?_
                refine wq_iast (pc := 101) (n - 1) dX1_valueFor_101 (tk_19 ht) (tl_19 ht) (by omega) (by omega) ?_
                refine wp_goto (pc := 102) 144 dX1_valueFor_102 (by decide) ?_
                refine wq_iinc (pc := 144) [some (vR (t + 17)), some (vI a), some (vI b), some (vI e), some (vI f), some (vI (n : Int)), some (vI ((i : Int) + 1)), some (vI (T 18 i))] dX1_valueFor_144 rfl rfl (by decide) rfl ?_
                refine wp_goto (pc := 147) 6 dX1_valueFor_147 (by decide) ?_
                rw [evStep_b (by omega) (by omega) (by omega)] at ih
                refine wp_none 7 [some (vR (t + 17)), some (vI a), some (vI b), some (vI e), some (vI f), some (vI (n : Int)), some (vI ((i : Int) + 1)), none] rfl ?_
                rw [up_upc]
                first | (rw [show truthF (g (n - 1) = 0) = 1 from if_pos (by assumption)] at ih; exact ih) | (rw [show truthF (g (n - 1) = 0) = 0 from if_neg (by assumption)] at ih; exact ih)
              · refine wp_iconst (pc := 93) dX1_valueFor_93 ?_
                refine wp_goto (pc := 94) 98 dX1_valueFor_94 (by decide) ?_
                refine wp_callS (pc := 98) (st := [vI ((n : Int) - 1), vR (t + 19)]) (nf' := 153) [vI 1] [some (vI 1)] dX1_valueFor_98 rfl c_X1_27 rfl rfl (Nat.le_of_ble_eq_true rfl) rfl (Nat.le_of_ble_eq_true rfl) (by omega) (Nat.le_refl _) (Nat.le_refl _) ?_
                refine wp_iload_n (pc := 0) 0 dX1_truth_0 rfl rfl ?_
                refine wp_if_eq (pc := 1) 8 dX1_truth_1 (by decide) (by decide) (fun hh => absurd hh (by decide)) (fun _ => ?_)
                refine wp_iconst (pc := 4) dX1_truth_4 ?_
                refine wp_goto (pc := 5) 9 dX1_truth_5 (by decide) ?_
                refine wp_iret (pc := 9) dX1_truth_9 rfl rfl ?_
                refine wp_eqst (st' := [vI 1, vI ((n : Int) - 1), vR (t + 19)]) rfl ?_
                refine wq_iast (pc := 101) (n - 1) dX1_valueFor_101 (tk_19 ht) (tl_19 ht) (by omega) (by omega) ?_
                refine wp_goto (pc := 102) 144 dX1_valueFor_102 (by decide) ?_
                refine wq_iinc (pc := 144) [some (vR (t + 17)), some (vI a), some (vI b), some (vI e), some (vI f), some (vI (n : Int)), some (vI ((i : Int) + 1)), some (vI (T 18 i))] dX1_valueFor_144 rfl rfl (by decide) rfl ?_
                refine wp_goto (pc := 147) 6 dX1_valueFor_147 (by decide) ?_
                rw [evStep_b (by omega) (by omega) (by omega)] at ih
                refine wp_none 7 [some (vR (t + 17)), some (vI a), some (vI b), some (vI e), some (vI f), some (vI (n : Int)), some (vI ((i : Int) + 1)), none] rfl ?_
                rw [up_upc]
                first | (rw [show truthF (g (n - 1) = 0) = 1 from if_pos (by assumption)] at ih; exact ih) | (rw [show truthF (g (n - 1) = 0) = 0 from if_neg (by assumption)] at ih; exact ih)
        · refine wp_aload_n (pc := 38) 0 dX1_valueFor_38 rfl rfl ?_
          refine wp_getr (pc := 39) dX1_valueFor_39 rfl f_X1_13 (tk_17 ht) (tl_17 ht) rfl (tr_17_1 D ht) ?_
          refine wp_iload (pc := 42) dX1_valueFor_42 rfl ?_
          refine wp_iload (pc := 44) dX1_valueFor_44 rfl ?_
          refine wp_iload_n (pc := 46) 1 dX1_valueFor_46 rfl rfl ?_
          refine wp_iload_n (pc := 47) 2 dX1_valueFor_47 rfl rfl ?_
          refine wp_iload_n (pc := 48) 3 dX1_valueFor_48 rfl rfl ?_
          refine wp_iload (pc := 49) dX1_valueFor_49 rfl ?_
          refine wp_callS (pc := 51) (st := [vI (n : Int), vR (t + 19)]) (nf' := 153) [vI (T 18 i), vI a, vI b, vI e, vI f] [some (vI (T 18 i)), some (vI a), some (vI b), some (vI e), some (vI f)] dX1_valueFor_51 rfl c_X1_23 rfl rfl (Nat.le_of_ble_eq_true rfl) rfl (Nat.le_of_ble_eq_true rfl) (by omega) (Nat.le_refl _) (Nat.le_refl _) ?_
          refine sp_leaf (by omega) (by omega) ?_
          refine wp_eqst (st' := [vI (lfF (envF a b e f) (T 18 i)), vI (n : Int), vR (t + 19)]) rfl ?_
          refine wq_iast (pc := 54) n dX1_valueFor_54 (tk_19 ht) (tl_19 ht) rfl (by omega) ?_
          refine wq_iinc (pc := 55) [some (vR (t + 17)), some (vI a), some (vI b), some (vI e), some (vI f), some (vI ((n : Int) + 1)), some (vI (i : Int)), some (vI (T 18 i))] dX1_valueFor_55 rfl rfl (by decide) rfl ?_
          refine wp_goto (pc := 58) 144 dX1_valueFor_58 (by decide) ?_
          refine wq_iinc (pc := 144) [some (vR (t + 17)), some (vI a), some (vI b), some (vI e), some (vI f), some (vI ((n : Int) + 1)), some (vI ((i : Int) + 1)), some (vI (T 18 i))] dX1_valueFor_144 rfl rfl (by decide) rfl ?_
          refine wp_goto (pc := 147) 6 dX1_valueFor_147 (by decide) ?_
          rw [evStep_a (by omega) (by omega)] at ih
          refine wp_none 7 [some (vR (t + 17)), some (vI a), some (vI b), some (vI e), some (vI f), some (vI ((n : Int) + 1)), some (vI ((i : Int) + 1)), none] rfl ?_
          rw [up_upc]
          exact ih
