theorem rs_done {l : Launch} {G : mG} {d : Nat} {I : mI} {L : Nat → Nat → Int} {D : Nat → Nat} {Q : mQ} {a c x y : Int}  (hr : opR a c) (hx : inR x) (hy : inR y) (hd : 1 ≤ d) (hQ : Q (some (vI (jn c x y))) I (XX L D)) : WP l G m_X11_done d 153 I (XX L D) 0 [some (vI a), some (vI x), some (vI y)] [] Q := by
  unfold opR at hr
  have ha : inR a := by constructor <;> omega
  refine wp_iload_n (pc := 0) 0 dX11_done_0 rfl rfl ?_
  by_cases h_1 : a = 37
  · refine wp_tin (pc := 1) 0 144 dX11_done_1 (by omega) (by rw [h_1]; decide) (by decide) rfl (by decide) ?_
    refine wp_iload_n (pc := 144) 2 dX11_done_144 rfl rfl ?_
    refine wp_if_ne (pc := 145) 152 dX11_done_145 (by decide) (by omega) (fun h_2 => ?_) (fun h_2 => ?_)
    · refine wp_iload_n (pc := 152) 1 dX11_done_152 rfl rfl ?_
      refine wp_iload_n (pc := 153) 2 dX11_done_153 rfl rfl ?_
      refine wp_irem (pc := 154) dX11_done_154 (by omega) (by omega) (by omega) ?_
      refine wp_iret (pc := 155) dX11_done_155 rfl rfl ?_
      have hc : c = -37 := by omega
      have e1 : jn c x y = Int.tmod x y := by
        rw [hc]; show (if y = 0 then 0 else x.tmod y) = Int.tmod x y; first | exact if_pos (by assumption) | exact if_neg (by assumption)
      rw [e1] at hQ; exact hQ
    · refine wp_iconst (pc := 148) dX11_done_148 ?_
      refine wp_goto (pc := 149) 155 dX11_done_149 (by decide) ?_
      refine wp_iret (pc := 155) dX11_done_155 rfl rfl ?_
      have hc : c = -37 := by omega
      have e1 : jn c x y = 0 := by
        rw [hc]; show (if y = 0 then 0 else x.tmod y) = 0; first | exact if_pos (by assumption) | exact if_neg (by assumption)
      rw [e1] at hQ; exact hQ
  by_cases h_3 : a = 38
  · refine wp_tin (pc := 1) 1 198 dX11_done_1 (by omega) (by rw [h_3]; decide) (by decide) rfl (by decide) ?_
    refine wp_iload_n (pc := 198) 1 dX11_done_198 rfl rfl ?_
    refine wp_if_eq (pc := 199) 210 dX11_done_199 (by decide) (by omega) (fun h_4 => ?_) (fun h_4 => ?_)
    · refine wp_iconst (pc := 210) dX11_done_210 ?_
      refine wp_callS (pc := 211) (st := []) (nf' := 153) [vI 0] [some (vI 0)] dX11_done_211 rfl c_X11_320 rfl rfl (Nat.le_of_ble_eq_true rfl) rfl (Nat.le_of_ble_eq_true rfl) (by omega) (Nat.le_refl _) (Nat.le_refl _) ?_
      refine wp_iload_n (pc := 0) 0 dX11_truth_0 rfl rfl ?_
      refine wp_if_eq (pc := 1) 8 dX11_truth_1 (by decide) (by decide) (fun _ => ?_) (fun hh => absurd hh (by decide))
      refine wp_iconst (pc := 8) dX11_truth_8 ?_
      refine wp_iret (pc := 9) dX11_truth_9 rfl rfl ?_
      refine wp_eqst (st' := [vI 0]) rfl ?_
      refine wp_iret (pc := 214) dX11_done_214 rfl rfl ?_
      have hc : c = -7 := by omega
      have e1 : jn c x y = 0 := by
        rw [hc]; show truthF (x ≠ 0 ∧ y ≠ 0) = 0; unfold truthF; first | exact if_pos (by omega) | exact if_neg (by omega)
      rw [e1] at hQ; exact hQ
    · refine wp_iload_n (pc := 202) 2 dX11_done_202 rfl rfl ?_
      refine wp_if_eq (pc := 203) 210 dX11_done_203 (by decide) (by omega) (fun h_5 => ?_) (fun h_5 => ?_)
      · refine wp_iconst (pc := 210) dX11_done_210 ?_
        refine wp_callS (pc := 211) (st := []) (nf' := 153) [vI 0] [some (vI 0)] dX11_done_211 rfl c_X11_320 rfl rfl (Nat.le_of_ble_eq_true rfl) rfl (Nat.le_of_ble_eq_true rfl) (by omega) (Nat.le_refl _) (Nat.le_refl _) ?_
        refine wp_iload_n (pc := 0) 0 dX11_truth_0 rfl rfl ?_
        refine wp_if_eq (pc := 1) 8 dX11_truth_1 (by decide) (by decide) (fun _ => ?_) (fun hh => absurd hh (by decide))
        refine wp_iconst (pc := 8) dX11_truth_8 ?_
        refine wp_iret (pc := 9) dX11_truth_9 rfl rfl ?_
        refine wp_eqst (st' := [vI 0]) rfl ?_
        refine wp_iret (pc := 214) dX11_done_214 rfl rfl ?_
        have hc : c = -7 := by omega
        have e1 : jn c x y = 0 := by
          rw [hc]; show truthF (x ≠ 0 ∧ y ≠ 0) = 0; unfold truthF; first | exact if_pos (by omega) | exact if_neg (by omega)
        rw [e1] at hQ; exact hQ
      · refine wp_iconst (pc := 206) dX11_done_206 ?_
        refine wp_goto (pc := 207) 211 dX11_done_207 (by decide) ?_
        refine wp_callS (pc := 211) (st := []) (nf' := 153) [vI 1] [some (vI 1)] dX11_done_211 rfl c_X11_320 rfl rfl (Nat.le_of_ble_eq_true rfl) rfl (Nat.le_of_ble_eq_true rfl) (by omega) (Nat.le_refl _) (Nat.le_refl _) ?_
        refine wp_iload_n (pc := 0) 0 dX11_truth_0 rfl rfl ?_
        refine wp_if_eq (pc := 1) 8 dX11_truth_1 (by decide) (by decide) (fun hh => absurd hh (by decide)) (fun _ => ?_)
        refine wp_iconst (pc := 4) dX11_truth_4 ?_
        refine wp_goto (pc := 5) 9 dX11_truth_5 (by decide) ?_
        refine wp_iret (pc := 9) dX11_truth_9 rfl rfl ?_
        refine wp_eqst (st' := [vI 1]) rfl ?_
        refine wp_iret (pc := 214) dX11_done_214 rfl rfl ?_
        have hc : c = -7 := by omega
        have e1 : jn c x y = 1 := by
          rw [hc]; show truthF (x ≠ 0 ∧ y ≠ 0) = 1; unfold truthF; first | exact if_pos (by omega) | exact if_neg (by omega)
        rw [e1] at hQ; exact hQ
  by_cases h_9 : a = 42
  · refine wp_tin (pc := 1) 5 128 dX11_done_1 (by omega) (by rw [h_9]; decide) (by decide) rfl (by decide) ?_
    refine wp_iload_n (pc := 128) 1 dX11_done_128 rfl rfl ?_
    refine wp_iload_n (pc := 129) 2 dX11_done_129 rfl rfl ?_
    refine wp_imul (pc := 130) dX11_done_130 ?_
    refine wp_nrm ?_
    refine wp_iret (pc := 131) dX11_done_131 rfl rfl ?_
    have hc : c = -42 := by omega
    have e1 : jn c x y = w32 (x * y) := by
      rw [hc]; rfl
    rw [e1] at hQ; exact hQ
  by_cases h_10 : a = 43
  · refine wp_tin (pc := 1) 6 120 dX11_done_1 (by omega) (by rw [h_10]; decide) (by decide) rfl (by decide) ?_
    refine wp_iload_n (pc := 120) 1 dX11_done_120 rfl rfl ?_
    refine wp_iload_n (pc := 121) 2 dX11_done_121 rfl rfl ?_
    refine wp_iadd (pc := 122) dX11_done_122 ?_
    refine wp_nrm ?_
    refine wp_iret (pc := 123) dX11_done_123 rfl rfl ?_
    have hc : c = -43 := by omega
    have e1 : jn c x y = w32 (x + y) := by
      rw [hc]; rfl
    rw [e1] at hQ; exact hQ
  by_cases h_12 : a = 45
  · refine wp_tin (pc := 1) 8 124 dX11_done_1 (by omega) (by rw [h_12]; decide) (by decide) rfl (by decide) ?_
    refine wp_iload_n (pc := 124) 1 dX11_done_124 rfl rfl ?_
    refine wp_iload_n (pc := 125) 2 dX11_done_125 rfl rfl ?_
    refine wp_isub (pc := 126) dX11_done_126 ?_
    refine wp_nrm ?_
    refine wp_iret (pc := 127) dX11_done_127 rfl rfl ?_
    have hc : c = -45 := by omega
    have e1 : jn c x y = w32 (x - y) := by
      rw [hc]; rfl
    rw [e1] at hQ; exact hQ
  by_cases h_14 : a = 47
  · refine wp_tin (pc := 1) 10 132 dX11_done_1 (by omega) (by rw [h_14]; decide) (by decide) rfl (by decide) ?_
    refine wp_iload_n (pc := 132) 2 dX11_done_132 rfl rfl ?_
    refine wp_if_ne (pc := 133) 140 dX11_done_133 (by decide) (by omega) (fun h_15 => ?_) (fun h_15 => ?_)
    · refine wp_iload_n (pc := 140) 1 dX11_done_140 rfl rfl ?_
      refine wp_iload_n (pc := 141) 2 dX11_done_141 rfl rfl ?_
      refine wp_idiv (pc := 142) dX11_done_142 (by omega) (by omega) (by omega) ?_
      refine wp_nrm ?_
      refine wp_iret (pc := 143) dX11_done_143 rfl rfl ?_
      have hc : c = -47 := by omega
      have e1 : jn c x y = w32 (Int.tdiv x y) := by
        rw [hc]; show (if y = 0 then 0 else w32 (x.tdiv y)) = w32 (Int.tdiv x y); first | exact if_pos (by assumption) | exact if_neg (by assumption)
      rw [e1] at hQ; exact hQ
    · refine wp_iconst (pc := 136) dX11_done_136 ?_
      refine wp_goto (pc := 137) 143 dX11_done_137 (by decide) ?_
      refine wp_iret (pc := 143) dX11_done_143 rfl rfl ?_
      have hc : c = -47 := by omega
      have e1 : jn c x y = 0 := by
        rw [hc]; show (if y = 0 then 0 else w32 (x.tdiv y)) = 0; first | exact if_pos (by assumption) | exact if_neg (by assumption)
      rw [e1] at hQ; exact hQ
  by_cases h_28 : a = 60
  · refine wp_tin (pc := 1) 23 156 dX11_done_1 (by omega) (by rw [h_28]; decide) (by decide) rfl (by decide) ?_
    refine wp_iload_n (pc := 156) 1 dX11_done_156 rfl rfl ?_
    refine wp_iload_n (pc := 157) 2 dX11_done_157 rfl rfl ?_
    refine wp_icmp_ge (pc := 158) 165 dX11_done_158 (by decide) (by omega) (by omega) (fun h_29 => ?_) (fun h_29 => ?_)
    · refine wp_iconst (pc := 165) dX11_done_165 ?_
      refine wp_callS (pc := 166) (st := []) (nf' := 153) [vI 0] [some (vI 0)] dX11_done_166 rfl c_X11_320 rfl rfl (Nat.le_of_ble_eq_true rfl) rfl (Nat.le_of_ble_eq_true rfl) (by omega) (Nat.le_refl _) (Nat.le_refl _) ?_
      refine wp_iload_n (pc := 0) 0 dX11_truth_0 rfl rfl ?_
      refine wp_if_eq (pc := 1) 8 dX11_truth_1 (by decide) (by decide) (fun _ => ?_) (fun hh => absurd hh (by decide))
      refine wp_iconst (pc := 8) dX11_truth_8 ?_
      refine wp_iret (pc := 9) dX11_truth_9 rfl rfl ?_
      refine wp_eqst (st' := [vI 0]) rfl ?_
      refine wp_iret (pc := 169) dX11_done_169 rfl rfl ?_
      have hc : c = -60 := by omega
      have e1 : jn c x y = 0 := by
        rw [hc]; show truthF (x < y) = 0; unfold truthF; first | exact if_pos (by omega) | exact if_neg (by omega)
      rw [e1] at hQ; exact hQ
    · refine wp_iconst (pc := 161) dX11_done_161 ?_
      refine wp_goto (pc := 162) 166 dX11_done_162 (by decide) ?_
      refine wp_callS (pc := 166) (st := []) (nf' := 153) [vI 1] [some (vI 1)] dX11_done_166 rfl c_X11_320 rfl rfl (Nat.le_of_ble_eq_true rfl) rfl (Nat.le_of_ble_eq_true rfl) (by omega) (Nat.le_refl _) (Nat.le_refl _) ?_
      refine wp_iload_n (pc := 0) 0 dX11_truth_0 rfl rfl ?_
      refine wp_if_eq (pc := 1) 8 dX11_truth_1 (by decide) (by decide) (fun hh => absurd hh (by decide)) (fun _ => ?_)
      refine wp_iconst (pc := 4) dX11_truth_4 ?_
      refine wp_goto (pc := 5) 9 dX11_truth_5 (by decide) ?_
      refine wp_iret (pc := 9) dX11_truth_9 rfl rfl ?_
      refine wp_eqst (st' := [vI 1]) rfl ?_
      refine wp_iret (pc := 169) dX11_done_169 rfl rfl ?_
      have hc : c = -60 := by omega
      have e1 : jn c x y = 1 := by
        rw [hc]; show truthF (x < y) = 1; unfold truthF; first | exact if_pos (by omega) | exact if_neg (by omega)
      rw [e1] at hQ; exact hQ
  by_cases h_30 : a = 61
  · refine wp_tin (pc := 1) 24 184 dX11_done_1 (by omega) (by rw [h_30]; decide) (by decide) rfl (by decide) ?_
    refine wp_iload_n (pc := 184) 1 dX11_done_184 rfl rfl ?_
    refine wp_iload_n (pc := 185) 2 dX11_done_185 rfl rfl ?_
    refine wp_icmp_ne (pc := 186) 193 dX11_done_186 (by decide) (by omega) (by omega) (fun h_31 => ?_) (fun h_31 => ?_)
    · refine wp_iconst (pc := 193) dX11_done_193 ?_
      refine wp_callS (pc := 194) (st := []) (nf' := 153) [vI 0] [some (vI 0)] dX11_done_194 rfl c_X11_320 rfl rfl (Nat.le_of_ble_eq_true rfl) rfl (Nat.le_of_ble_eq_true rfl) (by omega) (Nat.le_refl _) (Nat.le_refl _) ?_
      refine wp_iload_n (pc := 0) 0 dX11_truth_0 rfl rfl ?_
      refine wp_if_eq (pc := 1) 8 dX11_truth_1 (by decide) (by decide) (fun _ => ?_) (fun hh => absurd hh (by decide))
      refine wp_iconst (pc := 8) dX11_truth_8 ?_
      refine wp_iret (pc := 9) dX11_truth_9 rfl rfl ?_
      refine wp_eqst (st' := [vI 0]) rfl ?_
      refine wp_iret (pc := 197) dX11_done_197 rfl rfl ?_
      have hc : c = -61 := by omega
      have e1 : jn c x y = 0 := by
        rw [hc]; show truthF (x = y) = 0; unfold truthF; first | exact if_pos (by omega) | exact if_neg (by omega)
      rw [e1] at hQ; exact hQ
    · refine wp_iconst (pc := 189) dX11_done_189 ?_
      refine wp_goto (pc := 190) 194 dX11_done_190 (by decide) ?_
      refine wp_callS (pc := 194) (st := []) (nf' := 153) [vI 1] [some (vI 1)] dX11_done_194 rfl c_X11_320 rfl rfl (Nat.le_of_ble_eq_true rfl) rfl (Nat.le_of_ble_eq_true rfl) (by omega) (Nat.le_refl _) (Nat.le_refl _) ?_
      refine wp_iload_n (pc := 0) 0 dX11_truth_0 rfl rfl ?_
      refine wp_if_eq (pc := 1) 8 dX11_truth_1 (by decide) (by decide) (fun hh => absurd hh (by decide)) (fun _ => ?_)
      refine wp_iconst (pc := 4) dX11_truth_4 ?_
      refine wp_goto (pc := 5) 9 dX11_truth_5 (by decide) ?_
      refine wp_iret (pc := 9) dX11_truth_9 rfl rfl ?_
      refine wp_eqst (st' := [vI 1]) rfl ?_
      refine wp_iret (pc := 197) dX11_done_197 rfl rfl ?_
      have hc : c = -61 := by omega
      have e1 : jn c x y = 1 := by
        rw [hc]; show truthF (x = y) = 1; unfold truthF; first | exact if_pos (by omega) | exact if_neg (by omega)
      rw [e1] at hQ; exact hQ
  by_cases h_32 : a = 62
  · refine wp_tin (pc := 1) 25 170 dX11_done_1 (by omega) (by rw [h_32]; decide) (by decide) rfl (by decide) ?_
    refine wp_iload_n (pc := 170) 1 dX11_done_170 rfl rfl ?_
    refine wp_iload_n (pc := 171) 2 dX11_done_171 rfl rfl ?_
    refine wp_icmp_le (pc := 172) 179 dX11_done_172 (by decide) (by omega) (by omega) (fun h_33 => ?_) (fun h_33 => ?_)
    · refine wp_iconst (pc := 179) dX11_done_179 ?_
      refine wp_callS (pc := 180) (st := []) (nf' := 153) [vI 0] [some (vI 0)] dX11_done_180 rfl c_X11_320 rfl rfl (Nat.le_of_ble_eq_true rfl) rfl (Nat.le_of_ble_eq_true rfl) (by omega) (Nat.le_refl _) (Nat.le_refl _) ?_
      refine wp_iload_n (pc := 0) 0 dX11_truth_0 rfl rfl ?_
      refine wp_if_eq (pc := 1) 8 dX11_truth_1 (by decide) (by decide) (fun _ => ?_) (fun hh => absurd hh (by decide))
      refine wp_iconst (pc := 8) dX11_truth_8 ?_
      refine wp_iret (pc := 9) dX11_truth_9 rfl rfl ?_
      refine wp_eqst (st' := [vI 0]) rfl ?_
      refine wp_iret (pc := 183) dX11_done_183 rfl rfl ?_
      have hc : c = -62 := by omega
      have e1 : jn c x y = 0 := by
        rw [hc]; show truthF (y < x) = 0; unfold truthF; first | exact if_pos (by omega) | exact if_neg (by omega)
      rw [e1] at hQ; exact hQ
    · refine wp_iconst (pc := 175) dX11_done_175 ?_
      refine wp_goto (pc := 176) 180 dX11_done_176 (by decide) ?_
      refine wp_callS (pc := 180) (st := []) (nf' := 153) [vI 1] [some (vI 1)] dX11_done_180 rfl c_X11_320 rfl rfl (Nat.le_of_ble_eq_true rfl) rfl (Nat.le_of_ble_eq_true rfl) (by omega) (Nat.le_refl _) (Nat.le_refl _) ?_
      refine wp_iload_n (pc := 0) 0 dX11_truth_0 rfl rfl ?_
      refine wp_if_eq (pc := 1) 8 dX11_truth_1 (by decide) (by decide) (fun hh => absurd hh (by decide)) (fun _ => ?_)
      refine wp_iconst (pc := 4) dX11_truth_4 ?_
      refine wp_goto (pc := 5) 9 dX11_truth_5 (by decide) ?_
      refine wp_iret (pc := 9) dX11_truth_9 rfl rfl ?_
      refine wp_eqst (st' := [vI 1]) rfl ?_
      refine wp_iret (pc := 183) dX11_done_183 rfl rfl ?_
      have hc : c = -62 := by omega
      have e1 : jn c x y = 1 := by
        rw [hc]; show truthF (y < x) = 1; unfold truthF; first | exact if_pos (by omega) | exact if_neg (by omega)
      rw [e1] at hQ; exact hQ
  by_cases h_6 : a = 39
  · refine wp_tin (pc := 1) 2 215 dX11_done_1 (by omega) (by rw [h_6]; decide) (by decide) rfl (by decide) ?_
    refine wp_iload_n (pc := 215) 1 dX11_done_215 rfl rfl ?_
    refine wp_if_ne (pc := 216) 223 dX11_done_216 (by decide) (by omega) (fun h_34 => ?_) (fun h_34 => ?_)
    · refine wp_iconst (pc := 223) dX11_done_223 ?_
      refine wp_goto (pc := 224) 228 dX11_done_224 (by decide) ?_
      refine wp_callS (pc := 228) (st := []) (nf' := 153) [vI 1] [some (vI 1)] dX11_done_228 rfl c_X11_320 rfl rfl (Nat.le_of_ble_eq_true rfl) rfl (Nat.le_of_ble_eq_true rfl) (by omega) (Nat.le_refl _) (Nat.le_refl _) ?_
      refine wp_iload_n (pc := 0) 0 dX11_truth_0 rfl rfl ?_
      refine wp_if_eq (pc := 1) 8 dX11_truth_1 (by decide) (by decide) (fun hh => absurd hh (by decide)) (fun _ => ?_)
      refine wp_iconst (pc := 4) dX11_truth_4 ?_
      refine wp_goto (pc := 5) 9 dX11_truth_5 (by decide) ?_
      refine wp_iret (pc := 9) dX11_truth_9 rfl rfl ?_
      refine wp_eqst (st' := [vI 1]) rfl ?_
      refine wp_iret (pc := 231) dX11_done_231 rfl rfl ?_
      exfalso; omega
    · refine wp_iload_n (pc := 219) 2 dX11_done_219 rfl rfl ?_
      refine wp_if_eq (pc := 220) 227 dX11_done_220 (by decide) (by omega) (fun h_35 => ?_) (fun h_35 => ?_)
      · refine wp_iconst (pc := 227) dX11_done_227 ?_
        refine wp_callS (pc := 228) (st := []) (nf' := 153) [vI 0] [some (vI 0)] dX11_done_228 rfl c_X11_320 rfl rfl (Nat.le_of_ble_eq_true rfl) rfl (Nat.le_of_ble_eq_true rfl) (by omega) (Nat.le_refl _) (Nat.le_refl _) ?_
        refine wp_iload_n (pc := 0) 0 dX11_truth_0 rfl rfl ?_
        refine wp_if_eq (pc := 1) 8 dX11_truth_1 (by decide) (by decide) (fun _ => ?_) (fun hh => absurd hh (by decide))
        refine wp_iconst (pc := 8) dX11_truth_8 ?_
        refine wp_iret (pc := 9) dX11_truth_9 rfl rfl ?_
        refine wp_eqst (st' := [vI 0]) rfl ?_
        refine wp_iret (pc := 231) dX11_done_231 rfl rfl ?_
        exfalso; omega
      · refine wp_iconst (pc := 223) dX11_done_223 ?_
        refine wp_goto (pc := 224) 228 dX11_done_224 (by decide) ?_
        refine wp_callS (pc := 228) (st := []) (nf' := 153) [vI 1] [some (vI 1)] dX11_done_228 rfl c_X11_320 rfl rfl (Nat.le_of_ble_eq_true rfl) rfl (Nat.le_of_ble_eq_true rfl) (by omega) (Nat.le_refl _) (Nat.le_refl _) ?_
        refine wp_iload_n (pc := 0) 0 dX11_truth_0 rfl rfl ?_
        refine wp_if_eq (pc := 1) 8 dX11_truth_1 (by decide) (by decide) (fun hh => absurd hh (by decide)) (fun _ => ?_)
        refine wp_iconst (pc := 4) dX11_truth_4 ?_
        refine wp_goto (pc := 5) 9 dX11_truth_5 (by decide) ?_
        refine wp_iret (pc := 9) dX11_truth_9 rfl rfl ?_
        refine wp_eqst (st' := [vI 1]) rfl ?_
        refine wp_iret (pc := 231) dX11_done_231 rfl rfl ?_
        exfalso; omega
  by_cases h_7 : a = 40
  · refine wp_tin (pc := 1) 3 215 dX11_done_1 (by omega) (by rw [h_7]; decide) (by decide) rfl (by decide) ?_
    refine wp_iload_n (pc := 215) 1 dX11_done_215 rfl rfl ?_
    refine wp_if_ne (pc := 216) 223 dX11_done_216 (by decide) (by omega) (fun h_36 => ?_) (fun h_36 => ?_)
    · refine wp_iconst (pc := 223) dX11_done_223 ?_
      refine wp_goto (pc := 224) 228 dX11_done_224 (by decide) ?_
      refine wp_callS (pc := 228) (st := []) (nf' := 153) [vI 1] [some (vI 1)] dX11_done_228 rfl c_X11_320 rfl rfl (Nat.le_of_ble_eq_true rfl) rfl (Nat.le_of_ble_eq_true rfl) (by omega) (Nat.le_refl _) (Nat.le_refl _) ?_
      refine wp_iload_n (pc := 0) 0 dX11_truth_0 rfl rfl ?_
      refine wp_if_eq (pc := 1) 8 dX11_truth_1 (by decide) (by decide) (fun hh => absurd hh (by decide)) (fun _ => ?_)
      refine wp_iconst (pc := 4) dX11_truth_4 ?_
      refine wp_goto (pc := 5) 9 dX11_truth_5 (by decide) ?_
      refine wp_iret (pc := 9) dX11_truth_9 rfl rfl ?_
      refine wp_eqst (st' := [vI 1]) rfl ?_
      refine wp_iret (pc := 231) dX11_done_231 rfl rfl ?_
      exfalso; omega
    · refine wp_iload_n (pc := 219) 2 dX11_done_219 rfl rfl ?_
      refine wp_if_eq (pc := 220) 227 dX11_done_220 (by decide) (by omega) (fun h_37 => ?_) (fun h_37 => ?_)
      · refine wp_iconst (pc := 227) dX11_done_227 ?_
        refine wp_callS (pc := 228) (st := []) (nf' := 153) [vI 0] [some (vI 0)] dX11_done_228 rfl c_X11_320 rfl rfl (Nat.le_of_ble_eq_true rfl) rfl (Nat.le_of_ble_eq_true rfl) (by omega) (Nat.le_refl _) (Nat.le_refl _) ?_
        refine wp_iload_n (pc := 0) 0 dX11_truth_0 rfl rfl ?_
        refine wp_if_eq (pc := 1) 8 dX11_truth_1 (by decide) (by decide) (fun _ => ?_) (fun hh => absurd hh (by decide))
        refine wp_iconst (pc := 8) dX11_truth_8 ?_
        refine wp_iret (pc := 9) dX11_truth_9 rfl rfl ?_
        refine wp_eqst (st' := [vI 0]) rfl ?_
        refine wp_iret (pc := 231) dX11_done_231 rfl rfl ?_
        exfalso; omega
      · refine wp_iconst (pc := 223) dX11_done_223 ?_
        refine wp_goto (pc := 224) 228 dX11_done_224 (by decide) ?_
        refine wp_callS (pc := 228) (st := []) (nf' := 153) [vI 1] [some (vI 1)] dX11_done_228 rfl c_X11_320 rfl rfl (Nat.le_of_ble_eq_true rfl) rfl (Nat.le_of_ble_eq_true rfl) (by omega) (Nat.le_refl _) (Nat.le_refl _) ?_
        refine wp_iload_n (pc := 0) 0 dX11_truth_0 rfl rfl ?_
        refine wp_if_eq (pc := 1) 8 dX11_truth_1 (by decide) (by decide) (fun hh => absurd hh (by decide)) (fun _ => ?_)
        refine wp_iconst (pc := 4) dX11_truth_4 ?_
        refine wp_goto (pc := 5) 9 dX11_truth_5 (by decide) ?_
        refine wp_iret (pc := 9) dX11_truth_9 rfl rfl ?_
        refine wp_eqst (st' := [vI 1]) rfl ?_
        refine wp_iret (pc := 231) dX11_done_231 rfl rfl ?_
        exfalso; omega
  by_cases h_8 : a = 41
  · refine wp_tin (pc := 1) 4 215 dX11_done_1 (by omega) (by rw [h_8]; decide) (by decide) rfl (by decide) ?_
    refine wp_iload_n (pc := 215) 1 dX11_done_215 rfl rfl ?_
    refine wp_if_ne (pc := 216) 223 dX11_done_216 (by decide) (by omega) (fun h_38 => ?_) (fun h_38 => ?_)
    · refine wp_iconst (pc := 223) dX11_done_223 ?_
      refine wp_goto (pc := 224) 228 dX11_done_224 (by decide) ?_
      refine wp_callS (pc := 228) (st := []) (nf' := 153) [vI 1] [some (vI 1)] dX11_done_228 rfl c_X11_320 rfl rfl (Nat.le_of_ble_eq_true rfl) rfl (Nat.le_of_ble_eq_true rfl) (by omega) (Nat.le_refl _) (Nat.le_refl _) ?_
      refine wp_iload_n (pc := 0) 0 dX11_truth_0 rfl rfl ?_
      refine wp_if_eq (pc := 1) 8 dX11_truth_1 (by decide) (by decide) (fun hh => absurd hh (by decide)) (fun _ => ?_)
      refine wp_iconst (pc := 4) dX11_truth_4 ?_
      refine wp_goto (pc := 5) 9 dX11_truth_5 (by decide) ?_
      refine wp_iret (pc := 9) dX11_truth_9 rfl rfl ?_
      refine wp_eqst (st' := [vI 1]) rfl ?_
      refine wp_iret (pc := 231) dX11_done_231 rfl rfl ?_
      exfalso; omega
    · refine wp_iload_n (pc := 219) 2 dX11_done_219 rfl rfl ?_
      refine wp_if_eq (pc := 220) 227 dX11_done_220 (by decide) (by omega) (fun h_39 => ?_) (fun h_39 => ?_)
      · refine wp_iconst (pc := 227) dX11_done_227 ?_
        refine wp_callS (pc := 228) (st := []) (nf' := 153) [vI 0] [some (vI 0)] dX11_done_228 rfl c_X11_320 rfl rfl (Nat.le_of_ble_eq_true rfl) rfl (Nat.le_of_ble_eq_true rfl) (by omega) (Nat.le_refl _) (Nat.le_refl _) ?_
        refine wp_iload_n (pc := 0) 0 dX11_truth_0 rfl rfl ?_
        refine wp_if_eq (pc := 1) 8 dX11_truth_1 (by decide) (by decide) (fun _ => ?_) (fun hh => absurd hh (by decide))
        refine wp_iconst (pc := 8) dX11_truth_8 ?_
        refine wp_iret (pc := 9) dX11_truth_9 rfl rfl ?_
        refine wp_eqst (st' := [vI 0]) rfl ?_
        refine wp_iret (pc := 231) dX11_done_231 rfl rfl ?_
        exfalso; omega
      · refine wp_iconst (pc := 223) dX11_done_223 ?_
        refine wp_goto (pc := 224) 228 dX11_done_224 (by decide) ?_
        refine wp_callS (pc := 228) (st := []) (nf' := 153) [vI 1] [some (vI 1)] dX11_done_228 rfl c_X11_320 rfl rfl (Nat.le_of_ble_eq_true rfl) rfl (Nat.le_of_ble_eq_true rfl) (by omega) (Nat.le_refl _) (Nat.le_refl _) ?_
        refine wp_iload_n (pc := 0) 0 dX11_truth_0 rfl rfl ?_
        refine wp_if_eq (pc := 1) 8 dX11_truth_1 (by decide) (by decide) (fun hh => absurd hh (by decide)) (fun _ => ?_)
        refine wp_iconst (pc := 4) dX11_truth_4 ?_
        refine wp_goto (pc := 5) 9 dX11_truth_5 (by decide) ?_
        refine wp_iret (pc := 9) dX11_truth_9 rfl rfl ?_
        refine wp_eqst (st' := [vI 1]) rfl ?_
        refine wp_iret (pc := 231) dX11_done_231 rfl rfl ?_
        exfalso; omega
  by_cases h_11 : a = 44
  · refine wp_tin (pc := 1) 7 215 dX11_done_1 (by omega) (by rw [h_11]; decide) (by decide) rfl (by decide) ?_
    refine wp_iload_n (pc := 215) 1 dX11_done_215 rfl rfl ?_
    refine wp_if_ne (pc := 216) 223 dX11_done_216 (by decide) (by omega) (fun h_40 => ?_) (fun h_40 => ?_)
    · refine wp_iconst (pc := 223) dX11_done_223 ?_
      refine wp_goto (pc := 224) 228 dX11_done_224 (by decide) ?_
      refine wp_callS (pc := 228) (st := []) (nf' := 153) [vI 1] [some (vI 1)] dX11_done_228 rfl c_X11_320 rfl rfl (Nat.le_of_ble_eq_true rfl) rfl (Nat.le_of_ble_eq_true rfl) (by omega) (Nat.le_refl _) (Nat.le_refl _) ?_
      refine wp_iload_n (pc := 0) 0 dX11_truth_0 rfl rfl ?_
      refine wp_if_eq (pc := 1) 8 dX11_truth_1 (by decide) (by decide) (fun hh => absurd hh (by decide)) (fun _ => ?_)
      refine wp_iconst (pc := 4) dX11_truth_4 ?_
      refine wp_goto (pc := 5) 9 dX11_truth_5 (by decide) ?_
      refine wp_iret (pc := 9) dX11_truth_9 rfl rfl ?_
      refine wp_eqst (st' := [vI 1]) rfl ?_
      refine wp_iret (pc := 231) dX11_done_231 rfl rfl ?_
      exfalso; omega
    · refine wp_iload_n (pc := 219) 2 dX11_done_219 rfl rfl ?_
      refine wp_if_eq (pc := 220) 227 dX11_done_220 (by decide) (by omega) (fun h_41 => ?_) (fun h_41 => ?_)
      · refine wp_iconst (pc := 227) dX11_done_227 ?_
        refine wp_callS (pc := 228) (st := []) (nf' := 153) [vI 0] [some (vI 0)] dX11_done_228 rfl c_X11_320 rfl rfl (Nat.le_of_ble_eq_true rfl) rfl (Nat.le_of_ble_eq_true rfl) (by omega) (Nat.le_refl _) (Nat.le_refl _) ?_
        refine wp_iload_n (pc := 0) 0 dX11_truth_0 rfl rfl ?_
        refine wp_if_eq (pc := 1) 8 dX11_truth_1 (by decide) (by decide) (fun _ => ?_) (fun hh => absurd hh (by decide))
        refine wp_iconst (pc := 8) dX11_truth_8 ?_
        refine wp_iret (pc := 9) dX11_truth_9 rfl rfl ?_
        refine wp_eqst (st' := [vI 0]) rfl ?_
        refine wp_iret (pc := 231) dX11_done_231 rfl rfl ?_
        exfalso; omega
      · refine wp_iconst (pc := 223) dX11_done_223 ?_
        refine wp_goto (pc := 224) 228 dX11_done_224 (by decide) ?_
        refine wp_callS (pc := 228) (st := []) (nf' := 153) [vI 1] [some (vI 1)] dX11_done_228 rfl c_X11_320 rfl rfl (Nat.le_of_ble_eq_true rfl) rfl (Nat.le_of_ble_eq_true rfl) (by omega) (Nat.le_refl _) (Nat.le_refl _) ?_
        refine wp_iload_n (pc := 0) 0 dX11_truth_0 rfl rfl ?_
        refine wp_if_eq (pc := 1) 8 dX11_truth_1 (by decide) (by decide) (fun hh => absurd hh (by decide)) (fun _ => ?_)
        refine wp_iconst (pc := 4) dX11_truth_4 ?_
        refine wp_goto (pc := 5) 9 dX11_truth_5 (by decide) ?_
        refine wp_iret (pc := 9) dX11_truth_9 rfl rfl ?_
        refine wp_eqst (st' := [vI 1]) rfl ?_
        refine wp_iret (pc := 231) dX11_done_231 rfl rfl ?_
        exfalso; omega
  by_cases h_13 : a = 46
  · refine wp_tin (pc := 1) 9 215 dX11_done_1 (by omega) (by rw [h_13]; decide) (by decide) rfl (by decide) ?_
    refine wp_iload_n (pc := 215) 1 dX11_done_215 rfl rfl ?_
    refine wp_if_ne (pc := 216) 223 dX11_done_216 (by decide) (by omega) (fun h_42 => ?_) (fun h_42 => ?_)
    · refine wp_iconst (pc := 223) dX11_done_223 ?_
      refine wp_goto (pc := 224) 228 dX11_done_224 (by decide) ?_
      refine wp_callS (pc := 228) (st := []) (nf' := 153) [vI 1] [some (vI 1)] dX11_done_228 rfl c_X11_320 rfl rfl (Nat.le_of_ble_eq_true rfl) rfl (Nat.le_of_ble_eq_true rfl) (by omega) (Nat.le_refl _) (Nat.le_refl _) ?_
      refine wp_iload_n (pc := 0) 0 dX11_truth_0 rfl rfl ?_
      refine wp_if_eq (pc := 1) 8 dX11_truth_1 (by decide) (by decide) (fun hh => absurd hh (by decide)) (fun _ => ?_)
      refine wp_iconst (pc := 4) dX11_truth_4 ?_
      refine wp_goto (pc := 5) 9 dX11_truth_5 (by decide) ?_
      refine wp_iret (pc := 9) dX11_truth_9 rfl rfl ?_
      refine wp_eqst (st' := [vI 1]) rfl ?_
      refine wp_iret (pc := 231) dX11_done_231 rfl rfl ?_
      exfalso; omega
    · refine wp_iload_n (pc := 219) 2 dX11_done_219 rfl rfl ?_
      refine wp_if_eq (pc := 220) 227 dX11_done_220 (by decide) (by omega) (fun h_43 => ?_) (fun h_43 => ?_)
      · refine wp_iconst (pc := 227) dX11_done_227 ?_
        refine wp_callS (pc := 228) (st := []) (nf' := 153) [vI 0] [some (vI 0)] dX11_done_228 rfl c_X11_320 rfl rfl (Nat.le_of_ble_eq_true rfl) rfl (Nat.le_of_ble_eq_true rfl) (by omega) (Nat.le_refl _) (Nat.le_refl _) ?_
        refine wp_iload_n (pc := 0) 0 dX11_truth_0 rfl rfl ?_
        refine wp_if_eq (pc := 1) 8 dX11_truth_1 (by decide) (by decide) (fun _ => ?_) (fun hh => absurd hh (by decide))
        refine wp_iconst (pc := 8) dX11_truth_8 ?_
        refine wp_iret (pc := 9) dX11_truth_9 rfl rfl ?_
        refine wp_eqst (st' := [vI 0]) rfl ?_
        refine wp_iret (pc := 231) dX11_done_231 rfl rfl ?_
        exfalso; omega
      · refine wp_iconst (pc := 223) dX11_done_223 ?_
        refine wp_goto (pc := 224) 228 dX11_done_224 (by decide) ?_
        refine wp_callS (pc := 228) (st := []) (nf' := 153) [vI 1] [some (vI 1)] dX11_done_228 rfl c_X11_320 rfl rfl (Nat.le_of_ble_eq_true rfl) rfl (Nat.le_of_ble_eq_true rfl) (by omega) (Nat.le_refl _) (Nat.le_refl _) ?_
        refine wp_iload_n (pc := 0) 0 dX11_truth_0 rfl rfl ?_
        refine wp_if_eq (pc := 1) 8 dX11_truth_1 (by decide) (by decide) (fun hh => absurd hh (by decide)) (fun _ => ?_)
        refine wp_iconst (pc := 4) dX11_truth_4 ?_
        refine wp_goto (pc := 5) 9 dX11_truth_5 (by decide) ?_
        refine wp_iret (pc := 9) dX11_truth_9 rfl rfl ?_
        refine wp_eqst (st' := [vI 1]) rfl ?_
        refine wp_iret (pc := 231) dX11_done_231 rfl rfl ?_
        exfalso; omega
  by_cases h_16 : a = 48
  · refine wp_tin (pc := 1) 11 215 dX11_done_1 (by omega) (by rw [h_16]; decide) (by decide) rfl (by decide) ?_
    refine wp_iload_n (pc := 215) 1 dX11_done_215 rfl rfl ?_
    refine wp_if_ne (pc := 216) 223 dX11_done_216 (by decide) (by omega) (fun h_44 => ?_) (fun h_44 => ?_)
    · refine wp_iconst (pc := 223) dX11_done_223 ?_
      refine wp_goto (pc := 224) 228 dX11_done_224 (by decide) ?_
      refine wp_callS (pc := 228) (st := []) (nf' := 153) [vI 1] [some (vI 1)] dX11_done_228 rfl c_X11_320 rfl rfl (Nat.le_of_ble_eq_true rfl) rfl (Nat.le_of_ble_eq_true rfl) (by omega) (Nat.le_refl _) (Nat.le_refl _) ?_
      refine wp_iload_n (pc := 0) 0 dX11_truth_0 rfl rfl ?_
      refine wp_if_eq (pc := 1) 8 dX11_truth_1 (by decide) (by decide) (fun hh => absurd hh (by decide)) (fun _ => ?_)
      refine wp_iconst (pc := 4) dX11_truth_4 ?_
      refine wp_goto (pc := 5) 9 dX11_truth_5 (by decide) ?_
      refine wp_iret (pc := 9) dX11_truth_9 rfl rfl ?_
      refine wp_eqst (st' := [vI 1]) rfl ?_
      refine wp_iret (pc := 231) dX11_done_231 rfl rfl ?_
      exfalso; omega
    · refine wp_iload_n (pc := 219) 2 dX11_done_219 rfl rfl ?_
      refine wp_if_eq (pc := 220) 227 dX11_done_220 (by decide) (by omega) (fun h_45 => ?_) (fun h_45 => ?_)
      · refine wp_iconst (pc := 227) dX11_done_227 ?_
        refine wp_callS (pc := 228) (st := []) (nf' := 153) [vI 0] [some (vI 0)] dX11_done_228 rfl c_X11_320 rfl rfl (Nat.le_of_ble_eq_true rfl) rfl (Nat.le_of_ble_eq_true rfl) (by omega) (Nat.le_refl _) (Nat.le_refl _) ?_
        refine wp_iload_n (pc := 0) 0 dX11_truth_0 rfl rfl ?_
        refine wp_if_eq (pc := 1) 8 dX11_truth_1 (by decide) (by decide) (fun _ => ?_) (fun hh => absurd hh (by decide))
        refine wp_iconst (pc := 8) dX11_truth_8 ?_
        refine wp_iret (pc := 9) dX11_truth_9 rfl rfl ?_
        refine wp_eqst (st' := [vI 0]) rfl ?_
        refine wp_iret (pc := 231) dX11_done_231 rfl rfl ?_
        exfalso; omega
      · refine wp_iconst (pc := 223) dX11_done_223 ?_
        refine wp_goto (pc := 224) 228 dX11_done_224 (by decide) ?_
        refine wp_callS (pc := 228) (st := []) (nf' := 153) [vI 1] [some (vI 1)] dX11_done_228 rfl c_X11_320 rfl rfl (Nat.le_of_ble_eq_true rfl) rfl (Nat.le_of_ble_eq_true rfl) (by omega) (Nat.le_refl _) (Nat.le_refl _) ?_
        refine wp_iload_n (pc := 0) 0 dX11_truth_0 rfl rfl ?_
        refine wp_if_eq (pc := 1) 8 dX11_truth_1 (by decide) (by decide) (fun hh => absurd hh (by decide)) (fun _ => ?_)
        refine wp_iconst (pc := 4) dX11_truth_4 ?_
        refine wp_goto (pc := 5) 9 dX11_truth_5 (by decide) ?_
        refine wp_iret (pc := 9) dX11_truth_9 rfl rfl ?_
        refine wp_eqst (st' := [vI 1]) rfl ?_
        refine wp_iret (pc := 231) dX11_done_231 rfl rfl ?_
        exfalso; omega
  by_cases h_17 : a = 49
  · refine wp_tin (pc := 1) 12 215 dX11_done_1 (by omega) (by rw [h_17]; decide) (by decide) rfl (by decide) ?_
    refine wp_iload_n (pc := 215) 1 dX11_done_215 rfl rfl ?_
    refine wp_if_ne (pc := 216) 223 dX11_done_216 (by decide) (by omega) (fun h_46 => ?_) (fun h_46 => ?_)
    · refine wp_iconst (pc := 223) dX11_done_223 ?_
      refine wp_goto (pc := 224) 228 dX11_done_224 (by decide) ?_
      refine wp_callS (pc := 228) (st := []) (nf' := 153) [vI 1] [some (vI 1)] dX11_done_228 rfl c_X11_320 rfl rfl (Nat.le_of_ble_eq_true rfl) rfl (Nat.le_of_ble_eq_true rfl) (by omega) (Nat.le_refl _) (Nat.le_refl _) ?_
      refine wp_iload_n (pc := 0) 0 dX11_truth_0 rfl rfl ?_
      refine wp_if_eq (pc := 1) 8 dX11_truth_1 (by decide) (by decide) (fun hh => absurd hh (by decide)) (fun _ => ?_)
      refine wp_iconst (pc := 4) dX11_truth_4 ?_
      refine wp_goto (pc := 5) 9 dX11_truth_5 (by decide) ?_
      refine wp_iret (pc := 9) dX11_truth_9 rfl rfl ?_
      refine wp_eqst (st' := [vI 1]) rfl ?_
      refine wp_iret (pc := 231) dX11_done_231 rfl rfl ?_
      exfalso; omega
    · refine wp_iload_n (pc := 219) 2 dX11_done_219 rfl rfl ?_
      refine wp_if_eq (pc := 220) 227 dX11_done_220 (by decide) (by omega) (fun h_47 => ?_) (fun h_47 => ?_)
      · refine wp_iconst (pc := 227) dX11_done_227 ?_
        refine wp_callS (pc := 228) (st := []) (nf' := 153) [vI 0] [some (vI 0)] dX11_done_228 rfl c_X11_320 rfl rfl (Nat.le_of_ble_eq_true rfl) rfl (Nat.le_of_ble_eq_true rfl) (by omega) (Nat.le_refl _) (Nat.le_refl _) ?_
        refine wp_iload_n (pc := 0) 0 dX11_truth_0 rfl rfl ?_
        refine wp_if_eq (pc := 1) 8 dX11_truth_1 (by decide) (by decide) (fun _ => ?_) (fun hh => absurd hh (by decide))
        refine wp_iconst (pc := 8) dX11_truth_8 ?_
        refine wp_iret (pc := 9) dX11_truth_9 rfl rfl ?_
        refine wp_eqst (st' := [vI 0]) rfl ?_
        refine wp_iret (pc := 231) dX11_done_231 rfl rfl ?_
        exfalso; omega
      · refine wp_iconst (pc := 223) dX11_done_223 ?_
        refine wp_goto (pc := 224) 228 dX11_done_224 (by decide) ?_
        refine wp_callS (pc := 228) (st := []) (nf' := 153) [vI 1] [some (vI 1)] dX11_done_228 rfl c_X11_320 rfl rfl (Nat.le_of_ble_eq_true rfl) rfl (Nat.le_of_ble_eq_true rfl) (by omega) (Nat.le_refl _) (Nat.le_refl _) ?_
        refine wp_iload_n (pc := 0) 0 dX11_truth_0 rfl rfl ?_
        refine wp_if_eq (pc := 1) 8 dX11_truth_1 (by decide) (by decide) (fun hh => absurd hh (by decide)) (fun _ => ?_)
        refine wp_iconst (pc := 4) dX11_truth_4 ?_
        refine wp_goto (pc := 5) 9 dX11_truth_5 (by decide) ?_
        refine wp_iret (pc := 9) dX11_truth_9 rfl rfl ?_
        refine wp_eqst (st' := [vI 1]) rfl ?_
        refine wp_iret (pc := 231) dX11_done_231 rfl rfl ?_
        exfalso; omega
  by_cases h_18 : a = 50
  · refine wp_tin (pc := 1) 13 215 dX11_done_1 (by omega) (by rw [h_18]; decide) (by decide) rfl (by decide) ?_
    refine wp_iload_n (pc := 215) 1 dX11_done_215 rfl rfl ?_
    refine wp_if_ne (pc := 216) 223 dX11_done_216 (by decide) (by omega) (fun h_48 => ?_) (fun h_48 => ?_)
    · refine wp_iconst (pc := 223) dX11_done_223 ?_
      refine wp_goto (pc := 224) 228 dX11_done_224 (by decide) ?_
      refine wp_callS (pc := 228) (st := []) (nf' := 153) [vI 1] [some (vI 1)] dX11_done_228 rfl c_X11_320 rfl rfl (Nat.le_of_ble_eq_true rfl) rfl (Nat.le_of_ble_eq_true rfl) (by omega) (Nat.le_refl _) (Nat.le_refl _) ?_
      refine wp_iload_n (pc := 0) 0 dX11_truth_0 rfl rfl ?_
      refine wp_if_eq (pc := 1) 8 dX11_truth_1 (by decide) (by decide) (fun hh => absurd hh (by decide)) (fun _ => ?_)
      refine wp_iconst (pc := 4) dX11_truth_4 ?_
      refine wp_goto (pc := 5) 9 dX11_truth_5 (by decide) ?_
      refine wp_iret (pc := 9) dX11_truth_9 rfl rfl ?_
      refine wp_eqst (st' := [vI 1]) rfl ?_
      refine wp_iret (pc := 231) dX11_done_231 rfl rfl ?_
      exfalso; omega
    · refine wp_iload_n (pc := 219) 2 dX11_done_219 rfl rfl ?_
      refine wp_if_eq (pc := 220) 227 dX11_done_220 (by decide) (by omega) (fun h_49 => ?_) (fun h_49 => ?_)
      · refine wp_iconst (pc := 227) dX11_done_227 ?_
        refine wp_callS (pc := 228) (st := []) (nf' := 153) [vI 0] [some (vI 0)] dX11_done_228 rfl c_X11_320 rfl rfl (Nat.le_of_ble_eq_true rfl) rfl (Nat.le_of_ble_eq_true rfl) (by omega) (Nat.le_refl _) (Nat.le_refl _) ?_
        refine wp_iload_n (pc := 0) 0 dX11_truth_0 rfl rfl ?_
        refine wp_if_eq (pc := 1) 8 dX11_truth_1 (by decide) (by decide) (fun _ => ?_) (fun hh => absurd hh (by decide))
        refine wp_iconst (pc := 8) dX11_truth_8 ?_
        refine wp_iret (pc := 9) dX11_truth_9 rfl rfl ?_
        refine wp_eqst (st' := [vI 0]) rfl ?_
        refine wp_iret (pc := 231) dX11_done_231 rfl rfl ?_
        exfalso; omega
      · refine wp_iconst (pc := 223) dX11_done_223 ?_
        refine wp_goto (pc := 224) 228 dX11_done_224 (by decide) ?_
        refine wp_callS (pc := 228) (st := []) (nf' := 153) [vI 1] [some (vI 1)] dX11_done_228 rfl c_X11_320 rfl rfl (Nat.le_of_ble_eq_true rfl) rfl (Nat.le_of_ble_eq_true rfl) (by omega) (Nat.le_refl _) (Nat.le_refl _) ?_
        refine wp_iload_n (pc := 0) 0 dX11_truth_0 rfl rfl ?_
        refine wp_if_eq (pc := 1) 8 dX11_truth_1 (by decide) (by decide) (fun hh => absurd hh (by decide)) (fun _ => ?_)
        refine wp_iconst (pc := 4) dX11_truth_4 ?_
        refine wp_goto (pc := 5) 9 dX11_truth_5 (by decide) ?_
        refine wp_iret (pc := 9) dX11_truth_9 rfl rfl ?_
        refine wp_eqst (st' := [vI 1]) rfl ?_
        refine wp_iret (pc := 231) dX11_done_231 rfl rfl ?_
        exfalso; omega
  by_cases h_19 : a = 51
  · refine wp_tin (pc := 1) 14 215 dX11_done_1 (by omega) (by rw [h_19]; decide) (by decide) rfl (by decide) ?_
    refine wp_iload_n (pc := 215) 1 dX11_done_215 rfl rfl ?_
    refine wp_if_ne (pc := 216) 223 dX11_done_216 (by decide) (by omega) (fun h_50 => ?_) (fun h_50 => ?_)
    · refine wp_iconst (pc := 223) dX11_done_223 ?_
      refine wp_goto (pc := 224) 228 dX11_done_224 (by decide) ?_
      refine wp_callS (pc := 228) (st := []) (nf' := 153) [vI 1] [some (vI 1)] dX11_done_228 rfl c_X11_320 rfl rfl (Nat.le_of_ble_eq_true rfl) rfl (Nat.le_of_ble_eq_true rfl) (by omega) (Nat.le_refl _) (Nat.le_refl _) ?_
      refine wp_iload_n (pc := 0) 0 dX11_truth_0 rfl rfl ?_
      refine wp_if_eq (pc := 1) 8 dX11_truth_1 (by decide) (by decide) (fun hh => absurd hh (by decide)) (fun _ => ?_)
      refine wp_iconst (pc := 4) dX11_truth_4 ?_
      refine wp_goto (pc := 5) 9 dX11_truth_5 (by decide) ?_
      refine wp_iret (pc := 9) dX11_truth_9 rfl rfl ?_
      refine wp_eqst (st' := [vI 1]) rfl ?_
      refine wp_iret (pc := 231) dX11_done_231 rfl rfl ?_
      exfalso; omega
    · refine wp_iload_n (pc := 219) 2 dX11_done_219 rfl rfl ?_
      refine wp_if_eq (pc := 220) 227 dX11_done_220 (by decide) (by omega) (fun h_51 => ?_) (fun h_51 => ?_)
      · refine wp_iconst (pc := 227) dX11_done_227 ?_
        refine wp_callS (pc := 228) (st := []) (nf' := 153) [vI 0] [some (vI 0)] dX11_done_228 rfl c_X11_320 rfl rfl (Nat.le_of_ble_eq_true rfl) rfl (Nat.le_of_ble_eq_true rfl) (by omega) (Nat.le_refl _) (Nat.le_refl _) ?_
        refine wp_iload_n (pc := 0) 0 dX11_truth_0 rfl rfl ?_
        refine wp_if_eq (pc := 1) 8 dX11_truth_1 (by decide) (by decide) (fun _ => ?_) (fun hh => absurd hh (by decide))
        refine wp_iconst (pc := 8) dX11_truth_8 ?_
        refine wp_iret (pc := 9) dX11_truth_9 rfl rfl ?_
        refine wp_eqst (st' := [vI 0]) rfl ?_
        refine wp_iret (pc := 231) dX11_done_231 rfl rfl ?_
        exfalso; omega
      · refine wp_iconst (pc := 223) dX11_done_223 ?_
        refine wp_goto (pc := 224) 228 dX11_done_224 (by decide) ?_
        refine wp_callS (pc := 228) (st := []) (nf' := 153) [vI 1] [some (vI 1)] dX11_done_228 rfl c_X11_320 rfl rfl (Nat.le_of_ble_eq_true rfl) rfl (Nat.le_of_ble_eq_true rfl) (by omega) (Nat.le_refl _) (Nat.le_refl _) ?_
        refine wp_iload_n (pc := 0) 0 dX11_truth_0 rfl rfl ?_
        refine wp_if_eq (pc := 1) 8 dX11_truth_1 (by decide) (by decide) (fun hh => absurd hh (by decide)) (fun _ => ?_)
        refine wp_iconst (pc := 4) dX11_truth_4 ?_
        refine wp_goto (pc := 5) 9 dX11_truth_5 (by decide) ?_
        refine wp_iret (pc := 9) dX11_truth_9 rfl rfl ?_
        refine wp_eqst (st' := [vI 1]) rfl ?_
        refine wp_iret (pc := 231) dX11_done_231 rfl rfl ?_
        exfalso; omega
  by_cases h_20 : a = 52
  · refine wp_tin (pc := 1) 15 215 dX11_done_1 (by omega) (by rw [h_20]; decide) (by decide) rfl (by decide) ?_
    refine wp_iload_n (pc := 215) 1 dX11_done_215 rfl rfl ?_
    refine wp_if_ne (pc := 216) 223 dX11_done_216 (by decide) (by omega) (fun h_52 => ?_) (fun h_52 => ?_)
    · refine wp_iconst (pc := 223) dX11_done_223 ?_
      refine wp_goto (pc := 224) 228 dX11_done_224 (by decide) ?_
      refine wp_callS (pc := 228) (st := []) (nf' := 153) [vI 1] [some (vI 1)] dX11_done_228 rfl c_X11_320 rfl rfl (Nat.le_of_ble_eq_true rfl) rfl (Nat.le_of_ble_eq_true rfl) (by omega) (Nat.le_refl _) (Nat.le_refl _) ?_
      refine wp_iload_n (pc := 0) 0 dX11_truth_0 rfl rfl ?_
      refine wp_if_eq (pc := 1) 8 dX11_truth_1 (by decide) (by decide) (fun hh => absurd hh (by decide)) (fun _ => ?_)
      refine wp_iconst (pc := 4) dX11_truth_4 ?_
      refine wp_goto (pc := 5) 9 dX11_truth_5 (by decide) ?_
      refine wp_iret (pc := 9) dX11_truth_9 rfl rfl ?_
      refine wp_eqst (st' := [vI 1]) rfl ?_
      refine wp_iret (pc := 231) dX11_done_231 rfl rfl ?_
      exfalso; omega
    · refine wp_iload_n (pc := 219) 2 dX11_done_219 rfl rfl ?_
      refine wp_if_eq (pc := 220) 227 dX11_done_220 (by decide) (by omega) (fun h_53 => ?_) (fun h_53 => ?_)
      · refine wp_iconst (pc := 227) dX11_done_227 ?_
        refine wp_callS (pc := 228) (st := []) (nf' := 153) [vI 0] [some (vI 0)] dX11_done_228 rfl c_X11_320 rfl rfl (Nat.le_of_ble_eq_true rfl) rfl (Nat.le_of_ble_eq_true rfl) (by omega) (Nat.le_refl _) (Nat.le_refl _) ?_
        refine wp_iload_n (pc := 0) 0 dX11_truth_0 rfl rfl ?_
        refine wp_if_eq (pc := 1) 8 dX11_truth_1 (by decide) (by decide) (fun _ => ?_) (fun hh => absurd hh (by decide))
        refine wp_iconst (pc := 8) dX11_truth_8 ?_
        refine wp_iret (pc := 9) dX11_truth_9 rfl rfl ?_
        refine wp_eqst (st' := [vI 0]) rfl ?_
        refine wp_iret (pc := 231) dX11_done_231 rfl rfl ?_
        exfalso; omega
      · refine wp_iconst (pc := 223) dX11_done_223 ?_
        refine wp_goto (pc := 224) 228 dX11_done_224 (by decide) ?_
        refine wp_callS (pc := 228) (st := []) (nf' := 153) [vI 1] [some (vI 1)] dX11_done_228 rfl c_X11_320 rfl rfl (Nat.le_of_ble_eq_true rfl) rfl (Nat.le_of_ble_eq_true rfl) (by omega) (Nat.le_refl _) (Nat.le_refl _) ?_
        refine wp_iload_n (pc := 0) 0 dX11_truth_0 rfl rfl ?_
        refine wp_if_eq (pc := 1) 8 dX11_truth_1 (by decide) (by decide) (fun hh => absurd hh (by decide)) (fun _ => ?_)
        refine wp_iconst (pc := 4) dX11_truth_4 ?_
        refine wp_goto (pc := 5) 9 dX11_truth_5 (by decide) ?_
        refine wp_iret (pc := 9) dX11_truth_9 rfl rfl ?_
        refine wp_eqst (st' := [vI 1]) rfl ?_
        refine wp_iret (pc := 231) dX11_done_231 rfl rfl ?_
        exfalso; omega
  by_cases h_21 : a = 53
  · refine wp_tin (pc := 1) 16 215 dX11_done_1 (by omega) (by rw [h_21]; decide) (by decide) rfl (by decide) ?_
    refine wp_iload_n (pc := 215) 1 dX11_done_215 rfl rfl ?_
    refine wp_if_ne (pc := 216) 223 dX11_done_216 (by decide) (by omega) (fun h_54 => ?_) (fun h_54 => ?_)
    · refine wp_iconst (pc := 223) dX11_done_223 ?_
      refine wp_goto (pc := 224) 228 dX11_done_224 (by decide) ?_
      refine wp_callS (pc := 228) (st := []) (nf' := 153) [vI 1] [some (vI 1)] dX11_done_228 rfl c_X11_320 rfl rfl (Nat.le_of_ble_eq_true rfl) rfl (Nat.le_of_ble_eq_true rfl) (by omega) (Nat.le_refl _) (Nat.le_refl _) ?_
      refine wp_iload_n (pc := 0) 0 dX11_truth_0 rfl rfl ?_
      refine wp_if_eq (pc := 1) 8 dX11_truth_1 (by decide) (by decide) (fun hh => absurd hh (by decide)) (fun _ => ?_)
      refine wp_iconst (pc := 4) dX11_truth_4 ?_
      refine wp_goto (pc := 5) 9 dX11_truth_5 (by decide) ?_
      refine wp_iret (pc := 9) dX11_truth_9 rfl rfl ?_
      refine wp_eqst (st' := [vI 1]) rfl ?_
      refine wp_iret (pc := 231) dX11_done_231 rfl rfl ?_
      exfalso; omega
    · refine wp_iload_n (pc := 219) 2 dX11_done_219 rfl rfl ?_
      refine wp_if_eq (pc := 220) 227 dX11_done_220 (by decide) (by omega) (fun h_55 => ?_) (fun h_55 => ?_)
      · refine wp_iconst (pc := 227) dX11_done_227 ?_
        refine wp_callS (pc := 228) (st := []) (nf' := 153) [vI 0] [some (vI 0)] dX11_done_228 rfl c_X11_320 rfl rfl (Nat.le_of_ble_eq_true rfl) rfl (Nat.le_of_ble_eq_true rfl) (by omega) (Nat.le_refl _) (Nat.le_refl _) ?_
        refine wp_iload_n (pc := 0) 0 dX11_truth_0 rfl rfl ?_
        refine wp_if_eq (pc := 1) 8 dX11_truth_1 (by decide) (by decide) (fun _ => ?_) (fun hh => absurd hh (by decide))
        refine wp_iconst (pc := 8) dX11_truth_8 ?_
        refine wp_iret (pc := 9) dX11_truth_9 rfl rfl ?_
        refine wp_eqst (st' := [vI 0]) rfl ?_
        refine wp_iret (pc := 231) dX11_done_231 rfl rfl ?_
        exfalso; omega
      · refine wp_iconst (pc := 223) dX11_done_223 ?_
        refine wp_goto (pc := 224) 228 dX11_done_224 (by decide) ?_
        refine wp_callS (pc := 228) (st := []) (nf' := 153) [vI 1] [some (vI 1)] dX11_done_228 rfl c_X11_320 rfl rfl (Nat.le_of_ble_eq_true rfl) rfl (Nat.le_of_ble_eq_true rfl) (by omega) (Nat.le_refl _) (Nat.le_refl _) ?_
        refine wp_iload_n (pc := 0) 0 dX11_truth_0 rfl rfl ?_
        refine wp_if_eq (pc := 1) 8 dX11_truth_1 (by decide) (by decide) (fun hh => absurd hh (by decide)) (fun _ => ?_)
        refine wp_iconst (pc := 4) dX11_truth_4 ?_
        refine wp_goto (pc := 5) 9 dX11_truth_5 (by decide) ?_
        refine wp_iret (pc := 9) dX11_truth_9 rfl rfl ?_
        refine wp_eqst (st' := [vI 1]) rfl ?_
        refine wp_iret (pc := 231) dX11_done_231 rfl rfl ?_
        exfalso; omega
  by_cases h_22 : a = 54
  · refine wp_tin (pc := 1) 17 215 dX11_done_1 (by omega) (by rw [h_22]; decide) (by decide) rfl (by decide) ?_
    refine wp_iload_n (pc := 215) 1 dX11_done_215 rfl rfl ?_
    refine wp_if_ne (pc := 216) 223 dX11_done_216 (by decide) (by omega) (fun h_56 => ?_) (fun h_56 => ?_)
    · refine wp_iconst (pc := 223) dX11_done_223 ?_
      refine wp_goto (pc := 224) 228 dX11_done_224 (by decide) ?_
      refine wp_callS (pc := 228) (st := []) (nf' := 153) [vI 1] [some (vI 1)] dX11_done_228 rfl c_X11_320 rfl rfl (Nat.le_of_ble_eq_true rfl) rfl (Nat.le_of_ble_eq_true rfl) (by omega) (Nat.le_refl _) (Nat.le_refl _) ?_
      refine wp_iload_n (pc := 0) 0 dX11_truth_0 rfl rfl ?_
      refine wp_if_eq (pc := 1) 8 dX11_truth_1 (by decide) (by decide) (fun hh => absurd hh (by decide)) (fun _ => ?_)
      refine wp_iconst (pc := 4) dX11_truth_4 ?_
      refine wp_goto (pc := 5) 9 dX11_truth_5 (by decide) ?_
      refine wp_iret (pc := 9) dX11_truth_9 rfl rfl ?_
      refine wp_eqst (st' := [vI 1]) rfl ?_
      refine wp_iret (pc := 231) dX11_done_231 rfl rfl ?_
      exfalso; omega
    · refine wp_iload_n (pc := 219) 2 dX11_done_219 rfl rfl ?_
      refine wp_if_eq (pc := 220) 227 dX11_done_220 (by decide) (by omega) (fun h_57 => ?_) (fun h_57 => ?_)
      · refine wp_iconst (pc := 227) dX11_done_227 ?_
        refine wp_callS (pc := 228) (st := []) (nf' := 153) [vI 0] [some (vI 0)] dX11_done_228 rfl c_X11_320 rfl rfl (Nat.le_of_ble_eq_true rfl) rfl (Nat.le_of_ble_eq_true rfl) (by omega) (Nat.le_refl _) (Nat.le_refl _) ?_
        refine wp_iload_n (pc := 0) 0 dX11_truth_0 rfl rfl ?_
        refine wp_if_eq (pc := 1) 8 dX11_truth_1 (by decide) (by decide) (fun _ => ?_) (fun hh => absurd hh (by decide))
        refine wp_iconst (pc := 8) dX11_truth_8 ?_
        refine wp_iret (pc := 9) dX11_truth_9 rfl rfl ?_
        refine wp_eqst (st' := [vI 0]) rfl ?_
        refine wp_iret (pc := 231) dX11_done_231 rfl rfl ?_
        exfalso; omega
      · refine wp_iconst (pc := 223) dX11_done_223 ?_
        refine wp_goto (pc := 224) 228 dX11_done_224 (by decide) ?_
        refine wp_callS (pc := 228) (st := []) (nf' := 153) [vI 1] [some (vI 1)] dX11_done_228 rfl c_X11_320 rfl rfl (Nat.le_of_ble_eq_true rfl) rfl (Nat.le_of_ble_eq_true rfl) (by omega) (Nat.le_refl _) (Nat.le_refl _) ?_
        refine wp_iload_n (pc := 0) 0 dX11_truth_0 rfl rfl ?_
        refine wp_if_eq (pc := 1) 8 dX11_truth_1 (by decide) (by decide) (fun hh => absurd hh (by decide)) (fun _ => ?_)
        refine wp_iconst (pc := 4) dX11_truth_4 ?_
        refine wp_goto (pc := 5) 9 dX11_truth_5 (by decide) ?_
        refine wp_iret (pc := 9) dX11_truth_9 rfl rfl ?_
        refine wp_eqst (st' := [vI 1]) rfl ?_
        refine wp_iret (pc := 231) dX11_done_231 rfl rfl ?_
        exfalso; omega
  by_cases h_23 : a = 55
  · refine wp_tin (pc := 1) 18 215 dX11_done_1 (by omega) (by rw [h_23]; decide) (by decide) rfl (by decide) ?_
    refine wp_iload_n (pc := 215) 1 dX11_done_215 rfl rfl ?_
    refine wp_if_ne (pc := 216) 223 dX11_done_216 (by decide) (by omega) (fun h_58 => ?_) (fun h_58 => ?_)
    · refine wp_iconst (pc := 223) dX11_done_223 ?_
      refine wp_goto (pc := 224) 228 dX11_done_224 (by decide) ?_
      refine wp_callS (pc := 228) (st := []) (nf' := 153) [vI 1] [some (vI 1)] dX11_done_228 rfl c_X11_320 rfl rfl (Nat.le_of_ble_eq_true rfl) rfl (Nat.le_of_ble_eq_true rfl) (by omega) (Nat.le_refl _) (Nat.le_refl _) ?_
      refine wp_iload_n (pc := 0) 0 dX11_truth_0 rfl rfl ?_
      refine wp_if_eq (pc := 1) 8 dX11_truth_1 (by decide) (by decide) (fun hh => absurd hh (by decide)) (fun _ => ?_)
      refine wp_iconst (pc := 4) dX11_truth_4 ?_
      refine wp_goto (pc := 5) 9 dX11_truth_5 (by decide) ?_
      refine wp_iret (pc := 9) dX11_truth_9 rfl rfl ?_
      refine wp_eqst (st' := [vI 1]) rfl ?_
      refine wp_iret (pc := 231) dX11_done_231 rfl rfl ?_
      exfalso; omega
    · refine wp_iload_n (pc := 219) 2 dX11_done_219 rfl rfl ?_
      refine wp_if_eq (pc := 220) 227 dX11_done_220 (by decide) (by omega) (fun h_59 => ?_) (fun h_59 => ?_)
      · refine wp_iconst (pc := 227) dX11_done_227 ?_
        refine wp_callS (pc := 228) (st := []) (nf' := 153) [vI 0] [some (vI 0)] dX11_done_228 rfl c_X11_320 rfl rfl (Nat.le_of_ble_eq_true rfl) rfl (Nat.le_of_ble_eq_true rfl) (by omega) (Nat.le_refl _) (Nat.le_refl _) ?_
        refine wp_iload_n (pc := 0) 0 dX11_truth_0 rfl rfl ?_
        refine wp_if_eq (pc := 1) 8 dX11_truth_1 (by decide) (by decide) (fun _ => ?_) (fun hh => absurd hh (by decide))
        refine wp_iconst (pc := 8) dX11_truth_8 ?_
        refine wp_iret (pc := 9) dX11_truth_9 rfl rfl ?_
        refine wp_eqst (st' := [vI 0]) rfl ?_
        refine wp_iret (pc := 231) dX11_done_231 rfl rfl ?_
        exfalso; omega
      · refine wp_iconst (pc := 223) dX11_done_223 ?_
        refine wp_goto (pc := 224) 228 dX11_done_224 (by decide) ?_
        refine wp_callS (pc := 228) (st := []) (nf' := 153) [vI 1] [some (vI 1)] dX11_done_228 rfl c_X11_320 rfl rfl (Nat.le_of_ble_eq_true rfl) rfl (Nat.le_of_ble_eq_true rfl) (by omega) (Nat.le_refl _) (Nat.le_refl _) ?_
        refine wp_iload_n (pc := 0) 0 dX11_truth_0 rfl rfl ?_
        refine wp_if_eq (pc := 1) 8 dX11_truth_1 (by decide) (by decide) (fun hh => absurd hh (by decide)) (fun _ => ?_)
        refine wp_iconst (pc := 4) dX11_truth_4 ?_
        refine wp_goto (pc := 5) 9 dX11_truth_5 (by decide) ?_
        refine wp_iret (pc := 9) dX11_truth_9 rfl rfl ?_
        refine wp_eqst (st' := [vI 1]) rfl ?_
        refine wp_iret (pc := 231) dX11_done_231 rfl rfl ?_
        exfalso; omega
  by_cases h_24 : a = 56
  · refine wp_tin (pc := 1) 19 215 dX11_done_1 (by omega) (by rw [h_24]; decide) (by decide) rfl (by decide) ?_
    refine wp_iload_n (pc := 215) 1 dX11_done_215 rfl rfl ?_
    refine wp_if_ne (pc := 216) 223 dX11_done_216 (by decide) (by omega) (fun h_60 => ?_) (fun h_60 => ?_)
    · refine wp_iconst (pc := 223) dX11_done_223 ?_
      refine wp_goto (pc := 224) 228 dX11_done_224 (by decide) ?_
      refine wp_callS (pc := 228) (st := []) (nf' := 153) [vI 1] [some (vI 1)] dX11_done_228 rfl c_X11_320 rfl rfl (Nat.le_of_ble_eq_true rfl) rfl (Nat.le_of_ble_eq_true rfl) (by omega) (Nat.le_refl _) (Nat.le_refl _) ?_
      refine wp_iload_n (pc := 0) 0 dX11_truth_0 rfl rfl ?_
      refine wp_if_eq (pc := 1) 8 dX11_truth_1 (by decide) (by decide) (fun hh => absurd hh (by decide)) (fun _ => ?_)
      refine wp_iconst (pc := 4) dX11_truth_4 ?_
      refine wp_goto (pc := 5) 9 dX11_truth_5 (by decide) ?_
      refine wp_iret (pc := 9) dX11_truth_9 rfl rfl ?_
      refine wp_eqst (st' := [vI 1]) rfl ?_
      refine wp_iret (pc := 231) dX11_done_231 rfl rfl ?_
      exfalso; omega
    · refine wp_iload_n (pc := 219) 2 dX11_done_219 rfl rfl ?_
      refine wp_if_eq (pc := 220) 227 dX11_done_220 (by decide) (by omega) (fun h_61 => ?_) (fun h_61 => ?_)
      · refine wp_iconst (pc := 227) dX11_done_227 ?_
        refine wp_callS (pc := 228) (st := []) (nf' := 153) [vI 0] [some (vI 0)] dX11_done_228 rfl c_X11_320 rfl rfl (Nat.le_of_ble_eq_true rfl) rfl (Nat.le_of_ble_eq_true rfl) (by omega) (Nat.le_refl _) (Nat.le_refl _) ?_
        refine wp_iload_n (pc := 0) 0 dX11_truth_0 rfl rfl ?_
        refine wp_if_eq (pc := 1) 8 dX11_truth_1 (by decide) (by decide) (fun _ => ?_) (fun hh => absurd hh (by decide))
        refine wp_iconst (pc := 8) dX11_truth_8 ?_
        refine wp_iret (pc := 9) dX11_truth_9 rfl rfl ?_
        refine wp_eqst (st' := [vI 0]) rfl ?_
        refine wp_iret (pc := 231) dX11_done_231 rfl rfl ?_
        exfalso; omega
      · refine wp_iconst (pc := 223) dX11_done_223 ?_
        refine wp_goto (pc := 224) 228 dX11_done_224 (by decide) ?_
        refine wp_callS (pc := 228) (st := []) (nf' := 153) [vI 1] [some (vI 1)] dX11_done_228 rfl c_X11_320 rfl rfl (Nat.le_of_ble_eq_true rfl) rfl (Nat.le_of_ble_eq_true rfl) (by omega) (Nat.le_refl _) (Nat.le_refl _) ?_
        refine wp_iload_n (pc := 0) 0 dX11_truth_0 rfl rfl ?_
        refine wp_if_eq (pc := 1) 8 dX11_truth_1 (by decide) (by decide) (fun hh => absurd hh (by decide)) (fun _ => ?_)
        refine wp_iconst (pc := 4) dX11_truth_4 ?_
        refine wp_goto (pc := 5) 9 dX11_truth_5 (by decide) ?_
        refine wp_iret (pc := 9) dX11_truth_9 rfl rfl ?_
        refine wp_eqst (st' := [vI 1]) rfl ?_
        refine wp_iret (pc := 231) dX11_done_231 rfl rfl ?_
        exfalso; omega
  by_cases h_25 : a = 57
  · refine wp_tin (pc := 1) 20 215 dX11_done_1 (by omega) (by rw [h_25]; decide) (by decide) rfl (by decide) ?_
    refine wp_iload_n (pc := 215) 1 dX11_done_215 rfl rfl ?_
    refine wp_if_ne (pc := 216) 223 dX11_done_216 (by decide) (by omega) (fun h_62 => ?_) (fun h_62 => ?_)
    · refine wp_iconst (pc := 223) dX11_done_223 ?_
      refine wp_goto (pc := 224) 228 dX11_done_224 (by decide) ?_
      refine wp_callS (pc := 228) (st := []) (nf' := 153) [vI 1] [some (vI 1)] dX11_done_228 rfl c_X11_320 rfl rfl (Nat.le_of_ble_eq_true rfl) rfl (Nat.le_of_ble_eq_true rfl) (by omega) (Nat.le_refl _) (Nat.le_refl _) ?_
      refine wp_iload_n (pc := 0) 0 dX11_truth_0 rfl rfl ?_
      refine wp_if_eq (pc := 1) 8 dX11_truth_1 (by decide) (by decide) (fun hh => absurd hh (by decide)) (fun _ => ?_)
      refine wp_iconst (pc := 4) dX11_truth_4 ?_
      refine wp_goto (pc := 5) 9 dX11_truth_5 (by decide) ?_
      refine wp_iret (pc := 9) dX11_truth_9 rfl rfl ?_
      refine wp_eqst (st' := [vI 1]) rfl ?_
      refine wp_iret (pc := 231) dX11_done_231 rfl rfl ?_
      exfalso; omega
    · refine wp_iload_n (pc := 219) 2 dX11_done_219 rfl rfl ?_
      refine wp_if_eq (pc := 220) 227 dX11_done_220 (by decide) (by omega) (fun h_63 => ?_) (fun h_63 => ?_)
      · refine wp_iconst (pc := 227) dX11_done_227 ?_
        refine wp_callS (pc := 228) (st := []) (nf' := 153) [vI 0] [some (vI 0)] dX11_done_228 rfl c_X11_320 rfl rfl (Nat.le_of_ble_eq_true rfl) rfl (Nat.le_of_ble_eq_true rfl) (by omega) (Nat.le_refl _) (Nat.le_refl _) ?_
        refine wp_iload_n (pc := 0) 0 dX11_truth_0 rfl rfl ?_
        refine wp_if_eq (pc := 1) 8 dX11_truth_1 (by decide) (by decide) (fun _ => ?_) (fun hh => absurd hh (by decide))
        refine wp_iconst (pc := 8) dX11_truth_8 ?_
        refine wp_iret (pc := 9) dX11_truth_9 rfl rfl ?_
        refine wp_eqst (st' := [vI 0]) rfl ?_
        refine wp_iret (pc := 231) dX11_done_231 rfl rfl ?_
        exfalso; omega
      · refine wp_iconst (pc := 223) dX11_done_223 ?_
        refine wp_goto (pc := 224) 228 dX11_done_224 (by decide) ?_
        refine wp_callS (pc := 228) (st := []) (nf' := 153) [vI 1] [some (vI 1)] dX11_done_228 rfl c_X11_320 rfl rfl (Nat.le_of_ble_eq_true rfl) rfl (Nat.le_of_ble_eq_true rfl) (by omega) (Nat.le_refl _) (Nat.le_refl _) ?_
        refine wp_iload_n (pc := 0) 0 dX11_truth_0 rfl rfl ?_
        refine wp_if_eq (pc := 1) 8 dX11_truth_1 (by decide) (by decide) (fun hh => absurd hh (by decide)) (fun _ => ?_)
        refine wp_iconst (pc := 4) dX11_truth_4 ?_
        refine wp_goto (pc := 5) 9 dX11_truth_5 (by decide) ?_
        refine wp_iret (pc := 9) dX11_truth_9 rfl rfl ?_
        refine wp_eqst (st' := [vI 1]) rfl ?_
        refine wp_iret (pc := 231) dX11_done_231 rfl rfl ?_
        exfalso; omega
  by_cases h_26 : a = 58
  · refine wp_tin (pc := 1) 21 215 dX11_done_1 (by omega) (by rw [h_26]; decide) (by decide) rfl (by decide) ?_
    refine wp_iload_n (pc := 215) 1 dX11_done_215 rfl rfl ?_
    refine wp_if_ne (pc := 216) 223 dX11_done_216 (by decide) (by omega) (fun h_64 => ?_) (fun h_64 => ?_)
    · refine wp_iconst (pc := 223) dX11_done_223 ?_
      refine wp_goto (pc := 224) 228 dX11_done_224 (by decide) ?_
      refine wp_callS (pc := 228) (st := []) (nf' := 153) [vI 1] [some (vI 1)] dX11_done_228 rfl c_X11_320 rfl rfl (Nat.le_of_ble_eq_true rfl) rfl (Nat.le_of_ble_eq_true rfl) (by omega) (Nat.le_refl _) (Nat.le_refl _) ?_
      refine wp_iload_n (pc := 0) 0 dX11_truth_0 rfl rfl ?_
      refine wp_if_eq (pc := 1) 8 dX11_truth_1 (by decide) (by decide) (fun hh => absurd hh (by decide)) (fun _ => ?_)
      refine wp_iconst (pc := 4) dX11_truth_4 ?_
      refine wp_goto (pc := 5) 9 dX11_truth_5 (by decide) ?_
      refine wp_iret (pc := 9) dX11_truth_9 rfl rfl ?_
      refine wp_eqst (st' := [vI 1]) rfl ?_
      refine wp_iret (pc := 231) dX11_done_231 rfl rfl ?_
      exfalso; omega
    · refine wp_iload_n (pc := 219) 2 dX11_done_219 rfl rfl ?_
      refine wp_if_eq (pc := 220) 227 dX11_done_220 (by decide) (by omega) (fun h_65 => ?_) (fun h_65 => ?_)
      · refine wp_iconst (pc := 227) dX11_done_227 ?_
        refine wp_callS (pc := 228) (st := []) (nf' := 153) [vI 0] [some (vI 0)] dX11_done_228 rfl c_X11_320 rfl rfl (Nat.le_of_ble_eq_true rfl) rfl (Nat.le_of_ble_eq_true rfl) (by omega) (Nat.le_refl _) (Nat.le_refl _) ?_
        refine wp_iload_n (pc := 0) 0 dX11_truth_0 rfl rfl ?_
        refine wp_if_eq (pc := 1) 8 dX11_truth_1 (by decide) (by decide) (fun _ => ?_) (fun hh => absurd hh (by decide))
        refine wp_iconst (pc := 8) dX11_truth_8 ?_
        refine wp_iret (pc := 9) dX11_truth_9 rfl rfl ?_
        refine wp_eqst (st' := [vI 0]) rfl ?_
        refine wp_iret (pc := 231) dX11_done_231 rfl rfl ?_
        exfalso; omega
      · refine wp_iconst (pc := 223) dX11_done_223 ?_
        refine wp_goto (pc := 224) 228 dX11_done_224 (by decide) ?_
        refine wp_callS (pc := 228) (st := []) (nf' := 153) [vI 1] [some (vI 1)] dX11_done_228 rfl c_X11_320 rfl rfl (Nat.le_of_ble_eq_true rfl) rfl (Nat.le_of_ble_eq_true rfl) (by omega) (Nat.le_refl _) (Nat.le_refl _) ?_
        refine wp_iload_n (pc := 0) 0 dX11_truth_0 rfl rfl ?_
        refine wp_if_eq (pc := 1) 8 dX11_truth_1 (by decide) (by decide) (fun hh => absurd hh (by decide)) (fun _ => ?_)
        refine wp_iconst (pc := 4) dX11_truth_4 ?_
        refine wp_goto (pc := 5) 9 dX11_truth_5 (by decide) ?_
        refine wp_iret (pc := 9) dX11_truth_9 rfl rfl ?_
        refine wp_eqst (st' := [vI 1]) rfl ?_
        refine wp_iret (pc := 231) dX11_done_231 rfl rfl ?_
        exfalso; omega
  by_cases h_27 : a = 59
  · refine wp_tin (pc := 1) 22 215 dX11_done_1 (by omega) (by rw [h_27]; decide) (by decide) rfl (by decide) ?_
    refine wp_iload_n (pc := 215) 1 dX11_done_215 rfl rfl ?_
    refine wp_if_ne (pc := 216) 223 dX11_done_216 (by decide) (by omega) (fun h_66 => ?_) (fun h_66 => ?_)
    · refine wp_iconst (pc := 223) dX11_done_223 ?_
      refine wp_goto (pc := 224) 228 dX11_done_224 (by decide) ?_
      refine wp_callS (pc := 228) (st := []) (nf' := 153) [vI 1] [some (vI 1)] dX11_done_228 rfl c_X11_320 rfl rfl (Nat.le_of_ble_eq_true rfl) rfl (Nat.le_of_ble_eq_true rfl) (by omega) (Nat.le_refl _) (Nat.le_refl _) ?_
      refine wp_iload_n (pc := 0) 0 dX11_truth_0 rfl rfl ?_
      refine wp_if_eq (pc := 1) 8 dX11_truth_1 (by decide) (by decide) (fun hh => absurd hh (by decide)) (fun _ => ?_)
      refine wp_iconst (pc := 4) dX11_truth_4 ?_
      refine wp_goto (pc := 5) 9 dX11_truth_5 (by decide) ?_
      refine wp_iret (pc := 9) dX11_truth_9 rfl rfl ?_
      refine wp_eqst (st' := [vI 1]) rfl ?_
      refine wp_iret (pc := 231) dX11_done_231 rfl rfl ?_
      exfalso; omega
    · refine wp_iload_n (pc := 219) 2 dX11_done_219 rfl rfl ?_
      refine wp_if_eq (pc := 220) 227 dX11_done_220 (by decide) (by omega) (fun h_67 => ?_) (fun h_67 => ?_)
      · refine wp_iconst (pc := 227) dX11_done_227 ?_
        refine wp_callS (pc := 228) (st := []) (nf' := 153) [vI 0] [some (vI 0)] dX11_done_228 rfl c_X11_320 rfl rfl (Nat.le_of_ble_eq_true rfl) rfl (Nat.le_of_ble_eq_true rfl) (by omega) (Nat.le_refl _) (Nat.le_refl _) ?_
        refine wp_iload_n (pc := 0) 0 dX11_truth_0 rfl rfl ?_
        refine wp_if_eq (pc := 1) 8 dX11_truth_1 (by decide) (by decide) (fun _ => ?_) (fun hh => absurd hh (by decide))
        refine wp_iconst (pc := 8) dX11_truth_8 ?_
        refine wp_iret (pc := 9) dX11_truth_9 rfl rfl ?_
        refine wp_eqst (st' := [vI 0]) rfl ?_
        refine wp_iret (pc := 231) dX11_done_231 rfl rfl ?_
        exfalso; omega
      · refine wp_iconst (pc := 223) dX11_done_223 ?_
        refine wp_goto (pc := 224) 228 dX11_done_224 (by decide) ?_
        refine wp_callS (pc := 228) (st := []) (nf' := 153) [vI 1] [some (vI 1)] dX11_done_228 rfl c_X11_320 rfl rfl (Nat.le_of_ble_eq_true rfl) rfl (Nat.le_of_ble_eq_true rfl) (by omega) (Nat.le_refl _) (Nat.le_refl _) ?_
        refine wp_iload_n (pc := 0) 0 dX11_truth_0 rfl rfl ?_
        refine wp_if_eq (pc := 1) 8 dX11_truth_1 (by decide) (by decide) (fun hh => absurd hh (by decide)) (fun _ => ?_)
        refine wp_iconst (pc := 4) dX11_truth_4 ?_
        refine wp_goto (pc := 5) 9 dX11_truth_5 (by decide) ?_
        refine wp_iret (pc := 9) dX11_truth_9 rfl rfl ?_
        refine wp_eqst (st' := [vI 1]) rfl ?_
        refine wp_iret (pc := 231) dX11_done_231 rfl rfl ?_
        exfalso; omega
  refine wp_tout (pc := 1) 215 dX11_done_1 (by omega) (by omega) (by decide) ?_
  refine wp_iload_n (pc := 215) 1 dX11_done_215 rfl rfl ?_
  refine wp_if_ne (pc := 216) 223 dX11_done_216 (by decide) (by omega) (fun h_68 => ?_) (fun h_68 => ?_)
  · refine wp_iconst (pc := 223) dX11_done_223 ?_
    refine wp_goto (pc := 224) 228 dX11_done_224 (by decide) ?_
    refine wp_callS (pc := 228) (st := []) (nf' := 153) [vI 1] [some (vI 1)] dX11_done_228 rfl c_X11_320 rfl rfl (Nat.le_of_ble_eq_true rfl) rfl (Nat.le_of_ble_eq_true rfl) (by omega) (Nat.le_refl _) (Nat.le_refl _) ?_
    refine wp_iload_n (pc := 0) 0 dX11_truth_0 rfl rfl ?_
    refine wp_if_eq (pc := 1) 8 dX11_truth_1 (by decide) (by decide) (fun hh => absurd hh (by decide)) (fun _ => ?_)
    refine wp_iconst (pc := 4) dX11_truth_4 ?_
    refine wp_goto (pc := 5) 9 dX11_truth_5 (by decide) ?_
    refine wp_iret (pc := 9) dX11_truth_9 rfl rfl ?_
    refine wp_eqst (st' := [vI 1]) rfl ?_
    refine wp_iret (pc := 231) dX11_done_231 rfl rfl ?_
    have hc : c = -8 := by omega
    have e1 : jn c x y = 1 := by
      rw [hc]; show truthF (x ≠ 0 ∨ y ≠ 0) = 1; unfold truthF; first | exact if_pos (by omega) | exact if_neg (by omega)
    rw [e1] at hQ; exact hQ
  · refine wp_iload_n (pc := 219) 2 dX11_done_219 rfl rfl ?_
    refine wp_if_eq (pc := 220) 227 dX11_done_220 (by decide) (by omega) (fun h_69 => ?_) (fun h_69 => ?_)
    · refine wp_iconst (pc := 227) dX11_done_227 ?_
      refine wp_callS (pc := 228) (st := []) (nf' := 153) [vI 0] [some (vI 0)] dX11_done_228 rfl c_X11_320 rfl rfl (Nat.le_of_ble_eq_true rfl) rfl (Nat.le_of_ble_eq_true rfl) (by omega) (Nat.le_refl _) (Nat.le_refl _) ?_
      refine wp_iload_n (pc := 0) 0 dX11_truth_0 rfl rfl ?_
      refine wp_if_eq (pc := 1) 8 dX11_truth_1 (by decide) (by decide) (fun _ => ?_) (fun hh => absurd hh (by decide))
      refine wp_iconst (pc := 8) dX11_truth_8 ?_
      refine wp_iret (pc := 9) dX11_truth_9 rfl rfl ?_
      refine wp_eqst (st' := [vI 0]) rfl ?_
      refine wp_iret (pc := 231) dX11_done_231 rfl rfl ?_
      have hc : c = -8 := by omega
      have e1 : jn c x y = 0 := by
        rw [hc]; show truthF (x ≠ 0 ∨ y ≠ 0) = 0; unfold truthF; first | exact if_pos (by omega) | exact if_neg (by omega)
      rw [e1] at hQ; exact hQ
    · refine wp_iconst (pc := 223) dX11_done_223 ?_
      refine wp_goto (pc := 224) 228 dX11_done_224 (by decide) ?_
      refine wp_callS (pc := 228) (st := []) (nf' := 153) [vI 1] [some (vI 1)] dX11_done_228 rfl c_X11_320 rfl rfl (Nat.le_of_ble_eq_true rfl) rfl (Nat.le_of_ble_eq_true rfl) (by omega) (Nat.le_refl _) (Nat.le_refl _) ?_
      refine wp_iload_n (pc := 0) 0 dX11_truth_0 rfl rfl ?_
      refine wp_if_eq (pc := 1) 8 dX11_truth_1 (by decide) (by decide) (fun hh => absurd hh (by decide)) (fun _ => ?_)
      refine wp_iconst (pc := 4) dX11_truth_4 ?_
      refine wp_goto (pc := 5) 9 dX11_truth_5 (by decide) ?_
      refine wp_iret (pc := 9) dX11_truth_9 rfl rfl ?_
      refine wp_eqst (st' := [vI 1]) rfl ?_
      refine wp_iret (pc := 231) dX11_done_231 rfl rfl ?_
      have hc : c = -8 := by omega
      have e1 : jn c x y = 1 := by
        rw [hc]; show truthF (x ≠ 0 ∨ y ≠ 0) = 1; unfold truthF; first | exact if_pos (by omega) | exact if_neg (by omega)
      rw [e1] at hQ; exact hQ
