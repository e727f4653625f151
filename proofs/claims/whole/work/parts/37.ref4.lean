theorem rs_done {l : Launch} {G : mG} {d : Nat} {I : mI} {L : Nat → Nat → Int} {D : Nat → Nat} {Q : mQ} {a c x y : Int}  (hr : opR a c) (hx : inR x) (hy : inR y) (hd : 1 ≤ d) (hQ : Q (some (vI (jn c x y))) I (XX L D)) : WP l G m_X11_done d 153 I (XX L D) 0 [some (vI a), some (vI x), some (vI y)] [] Q := by
  unfold opR at hr
  have ha : inR a := by constructor <;> omega
  refine wp_iload_n (pc := 0) 0 dX11_done_0 rfl rfl ?_
  by_cases h_1 : a = 37
  · refine wp_tin (pc := 1) 0 144 dX11_done_1 (by omega) (by rw [h_1]; decide) (by decide) rfl (by decide) ?_
    refine wp_iload_n (pc := 144) 2 dX11_done_144 rfl rfl ?_
    refine wp_if_ne (pc := 145) 152 dX11_done_145 (by decide) (by omega) (fun h_2 => ?_) (fun h_2 => ?_)
    · refine wp_iload_n (pc := 152) 1 dX11_done_152 rfl rfl ?_
      refine wp_iload_n (pc := 153) 2 dX11_done_153 rfl rfl ?_
      refine wp_irem (pc := 154) dX11_done_154 (by omega) (by omega) (by omega) ?_
      refine wp_iret (pc := 155) dX11_done_155 rfl rfl ?_
      have hc : c = -37 := by omega
      have e1 : jn c x y = Int.tmod x y := by
        rw [hc]; show (if y = 0 then 0 else x.tmod y) = Int.tmod x y; first | exact if_pos (by assumption) | exact if_neg (by assumption)
      rw [e1] at hQ; exact hQ
    · refine wp_iconst (pc := 148) dX11_done_148 ?_
      refine wp_goto (pc := 149) 155 dX11_done_149 (by decide) ?_
      refine wp_iret (pc := 155) dX11_done_155 rfl rfl ?_
      have hc : c = -37 := by omega
      have e1 : jn c x y = 0 := by
        rw [hc]; show (if y = 0 then 0 else x.tmod y) = 0; first | exact if_pos (by assumption) | exact if_neg (by assumption)
      rw [e1] at hQ; exact hQ
  by_cases h_3 : a = 38
  · refine wp_tin (pc := 1) 1 198 dX11_done_1 (by omega) (by rw [h_3]; decide) (by decide) rfl (by decide) ?_
    refine wp_iload_n (pc := 198) 1 dX11_done_198 rfl rfl ?_
    refine wp_if_eq (pc := 199) 210 dX11_done_199 (by decide) (by omega) (fun h_4 => ?_) (fun h_4 => ?_)
    · refine wp_iconst (pc := 210) dX11_done_210 ?_
      refine wp_callS (pc := 211) (st := []) (nf' := 153) [vI 0] [some (vI 0)] dX11_done_211 rfl c_X11_320 rfl rfl (Nat.le_of_ble_eq_true rfl) rfl (Nat.le_of_ble_eq_true rfl) (by omega) (Nat.le_refl _) (Nat.le_refl _) ?_
      refine wp_iload_n (pc := 0) 0 dX11_truth_0 rfl rfl ?_
      refine wp_if_eq (pc := 1) 8 dX11_truth_1 (by decide) (by decide) (fun _ => ?_) (fun hh => absurd hh (by decide))
      refine wp_iconst (pc := 8) dX11_truth_8 ?_
      refine wp_iret (pc := 9) dX11_truth_9 rfl rfl ?_
      refine wp_eqst (st' := [vI 0]) rfl ?_
      refine wp_iret (pc := 214) dX11_done_214 rfl rfl ?_
      have hc : c = -7 := by omega
      have e1 : jn c x y = 0 := by
        rw [hc]; show truthF (x ≠ 0 ∧ y ≠ 0) = 0; unfold truthF; first | exact if_pos (by omega) | exact if_neg (by omega)
      rw [e1] at hQ; exact hQ
    · refine wp_iload_n (pc := 202) 2 dX11_done_202 rfl rfl ?_
      refine wp_if_eq (pc := 203) 210 dX11_done_203 (by decide) (by omega) (fun h_5 => ?_) (fun h_5 => ?_)
      · refine wp_iconst (pc := 210) dX11_done_210 ?_
        refine wp_callS (pc := 211) (st := []) (nf' := 153) [vI 0] [some (vI 0)] dX11_done_211 rfl c_X11_320 rfl rfl (Nat.le_of_ble_eq_true rfl) rfl (Nat.le_of_ble_eq_true rfl) (by omega) (Nat.le_refl _) (Nat.le_refl _) ?_
        refine wp_iload_n (pc := 0) 0 dX11_truth_0 rfl rfl ?_
        refine wp_if_eq (pc := 1) 8 dX11_truth_1 (by decide) (by decide) (fun _ => ?_) (fun hh => absurd hh (by decide))
        refine wp_iconst (pc := 8) dX11_truth_8 ?_
        refine wp_iret (pc := 9) dX11_truth_9 rfl rfl ?_
        refine wp_eqst (st' := [vI 0]) rfl ?_
        refine wp_iret (pc := 214) dX11_done_214 rfl rfl ?_
        have hc : c = -7 := by omega
        have e1 : jn c x y = 0 := by
          rw [hc]; show truthF (x ≠ 0 ∧ y ≠ 0) = 0; unfold truthF; first | exact if_pos (by omega) | exact if_neg (by omega)
        rw [e1] at hQ; exact hQ
      · refine wp_iconst (pc := 206) dX11_done_206 ?_
        refine wp_goto (pc := 207) 211 dX11_done_207 (by decide) ?_
        refine wp_callS (pc := 211) (st := []) (nf' := 153) [vI 1] [some (vI 1)] dX11_done_211 rfl c_X11_320 rfl rfl (Nat.le_of_ble_eq_true rfl) rfl (Nat.le_of_ble_eq_true rfl) (by omega) (Nat.le_refl _) (Nat.le_refl _) ?_
        refine wp_iload_n (pc := 0) 0 dX11_truth_0 rfl rfl ?_
        refine wp_if_eq (pc := 1) 8 dX11_truth_1 (by decide) (by decide) (fun hh => absurd hh (by decide)) (fun _ => ?_)
        refine wp_iconst (pc := 4) dX11_truth_4 ?_
        refine wp_goto (pc := 5) 9 dX11_truth_5 (by decide) ?_
        refine wp_iret (pc := 9) dX11_truth_9 rfl rfl ?_
        refine wp_eqst (st' := [vI 1]) rfl ?_
        refine wp_iret (pc := 214) dX11_done_214 rfl rfl ?_
        have hc : c = -7 := by omega
        have e1 : jn c x y = 1 := by
          rw [hc]; show truthF (x ≠ 0 ∧ y ≠ 0) = 1; unfold truthF; first | exact if_pos (by omega) | exact if_neg (by omega)
        rw [e1] at hQ; exact hQ
  by_cases h_9 : a = 42
  · refine wp_tin (pc := 1) 5 128 dX11_done_1 (by omega) (by rw [h_9]; decide) (by decide) rfl (by decide) ?_
    refine wp_iload_n (pc := 128) 1 dX11_done_128 rfl rfl ?_
    refine wp_iload_n (pc := 129) 2 dX11_done_129 rfl rfl ?_
    refine wp_imul (pc := 130) dX11_done_130 ?_
    refine wp_nrm ?_
    refine wp_iret (pc := 131) dX11_done_131 rfl rfl ?_
    have hc : c = -42 := by omega
    have e1 : jn c x y = w32 (x * y) := by
      rw [hc]; rfl
    rw [e1] at hQ; exact hQ
  by_cases h_10 : a = 43
  · refine wp_tin (pc := 1) 6 120 dX11_done_1 (by omega) (by rw [h_10]; decide) (by decide) rfl (by decide) ?_
    refine wp_iload_n (pc := 120) 1 dX11_done_120 rfl rfl ?_
    refine wp_iload_n (pc := 121) 2 dX11_done_121 rfl rfl ?_
    refine wp_iadd (pc := 122) dX11_done_122 ?_
    refine wp_nrm ?_
    refine wp_iret (pc := 123) dX11_done_123 rfl rfl ?_
    have hc : c = -43 := by omega
    have e1 : jn c x y = w32 (x + y) := by
      rw [hc]; rfl
    rw [e1] at hQ; exact hQ
  by_cases h_12 : a = 45
  · refine wp_tin (pc := 1) 8 124 dX11_done_1 (by omega) (by rw [h_12]; decide) (by decide) rfl (by decide) ?_
    refine wp_iload_n (pc := 124) 1 dX11_done_124 rfl rfl ?_
    refine wp_iload_n (pc := 125) 2 dX11_done_125 rfl rfl ?_
    refine wp_isub (pc := 126) dX11_done_126 ?_
    refine wp_nrm ?_
    refine wp_iret (pc := 127) dX11_done_127 rfl rfl ?_
    have hc : c = -45 := by omega
    have e1 : jn c x y = w32 (x - y) := by
      rw [hc]; rfl
    rw [e1] at hQ; exact hQ
  by_cases h_14 : a = 47
  · refine wp_tin (pc := 1) 10 132 dX11_done_1 (by omega) (by rw [h_14]; decide) (by decide) rfl (by decide) ?_
    refine wp_iload_n (pc := 132) 2 dX11_done_132 rfl rfl ?_
    refine wp_if_ne (pc := 133) 140 dX11_done_133 (by decide) (by omega) (fun h_15 => ?_) (fun h_15 => ?_)
    · refine wp_iload_n (pc := 140) 1 dX11_done_140 rfl rfl ?_
      refine wp_iload_n (pc := 141) 2 dX11_done_141 rfl rfl ?_
      refine wp_idiv (pc := 142) dX11_done_142 (by omega) (by omega) (by omega) ?_
      refine wp_nrm ?_
      refine wp_iret (pc := 143) dX11_done_143 rfl rfl ?_
      have hc : c = -47 := by omega
      have e1 : jn c x y = w32 (Int.tdiv x y) := by
        rw [hc]; show (if y = 0 then 0 else w32 (x.tdiv y)) = w32 (Int.tdiv x y); first | exact if_pos (by assumption) | exact if_neg (by assumption)
      rw [e1] at hQ; exact hQ
    · refine wp_iconst (pc := 136) dX11_done_136 ?_
      refine wp_goto (pc := 137) 143 dX11_done_137 (by decide) ?_
      refine wp_iret (pc := 143) dX11_done_143 rfl rfl ?_
      have hc : c = -47 := by omega
      have e1 : jn c x y = 0 := by
        rw [hc]; show (if y = 0 then 0 else w32 (x.tdiv y)) = 0; first | exact if_pos (by assumption) | exact if_neg (by assumption)
      rw [e1] at hQ; exact hQ
  by_cases h_28 : a = 60
  · refine wp_tin (pc := 1) 23 156 dX11_done_1 (by omega) (by rw [h_28]; decide) (by decide) rfl (by decide) ?_
    refine wp_iload_n (pc := 156) 1 dX11_done_156 rfl rfl ?_
    refine wp_iload_n (pc := 157) 2 dX11_done_157 rfl rfl ?_
    refine wp_icmp_ge (pc := 158) 165 dX11_done_158 (by decide) (by omega) (by omega) (fun h_29 => ?_) (fun h_29 => ?_)
    · refine wp_iconst (pc := 165) dX11_done_165 ?_
      refine wp_callS (pc := 166) (st := []) (nf' := 153) [vI 0] [some (vI 0)] dX11_done_166 rfl c_X11_320 rfl rfl (Nat.le_of_ble_eq_true rfl) rfl (Nat.le_of_ble_eq_true rfl) (by omega) (Nat.le_refl _) (Nat.le_refl _) ?_
      refine wp_iload_n (pc := 0) 0 dX11_truth_0 rfl rfl ?_
      refine wp_if_eq (pc := 1) 8 dX11_truth_1 (by decide) (by decide) (fun _ => ?_) (fun hh => absurd hh (by decide))
      refine wp_iconst (pc := 8) dX11_truth_8 ?_
      refine wp_iret (pc := 9) dX11_truth_9 rfl rfl ?_
      refine wp_eqst (st' := [vI 0]) rfl ?_
      refine wp_iret (pc := 169) dX11_done_169 rfl rfl ?_
      have hc : c = -60 := by omega
      have e1 : jn c x y = 0 := by
        rw [hc]; show truthF (x < y) = 0; unfold truthF; first | exact if_pos (by omega) | exact if_neg (by omega)
      rw [e1] at hQ; exact hQ
    · refine wp_iconst (pc := 161) dX11_done_161 ?_
      refine wp_goto (pc := 162) 166 dX11_done_162 (by decide) ?_
      refine wp_callS (pc := 166) (st := []) (nf' := 153) [vI 1] [some (vI 1)] dX11_done_166 rfl c_X11_320 rfl rfl (Nat.le_of_ble_eq_true rfl) rfl (Nat.le_of_ble_eq_true rfl) (by omega) (Nat.le_refl _) (Nat.le_refl _) ?_
      refine wp_iload_n (pc := 0) 0 dX11_truth_0 rfl rfl ?_
      refine wp_if_eq (pc := 1) 8 dX11_truth_1 (by decide) (by decide) (fun hh => absurd hh (by decide)) (fun _ => ?_)
      refine wp_iconst (pc := 4) dX11_truth_4 ?_
      refine wp_goto (pc := 5) 9 dX11_truth_5 (by decide) ?_
      refine wp_iret (pc := 9) dX11_truth_9 rfl rfl ?_
      refine wp_eqst (st' := [vI 1]) rfl ?_
      refine wp_iret (pc := 169) dX11_done_169 rfl rfl ?_
      have hc : c = -60 := by omega
      have e1 : jn c x y = 1 := by
        rw [hc]; show truthF (x < y) = 1; unfold truthF; first | exact if_pos (by omega) | exact if_neg (by omega)
      rw [e1] at hQ; exact hQ
  by_cases h_30 : a = 61
  · refine wp_tin (pc := 1) 24 184 dX11_done_1 (by omega) (by rw [h_30]; decide) (by decide) rfl (by decide) ?_
    refine wp_iload_n (pc := 184) 1 dX11_done_184 rfl rfl ?_
    refine wp_iload_n (pc := 185) 2 dX11_done_185 rfl rfl ?_
    refine wp_icmp_ne (pc := 186) 193 dX11_done_186 (by decide) (by omega) (by omega) (fun h_31 => ?_) (fun h_31 => ?_)
    · refine wp_iconst (pc := 193) dX11_done_193 ?_
      refine wp_callS (pc := 194) (st := []) (nf' := 153) [vI 0] [some (vI 0)] dX11_done_194 rfl c_X11_320 rfl rfl (Nat.le_of_ble_eq_true rfl) rfl (Nat.le_of_ble_eq_true rfl) (by omega) (Nat.le_refl _) (Nat.le_refl _) ?_
      refine wp_iload_n (pc := 0) 0 dX11_truth_0 rfl rfl ?_
      refine wp_if_eq (pc := 1) 8 dX11_truth_1 (by decide) (by decide) (fun _ => ?_) (fun hh => absurd hh (by decide))
      refine wp_iconst (pc := 8) dX11_truth_8 ?_
      refine wp_iret (pc := 9) dX11_truth_9 rfl rfl ?_
      refine wp_eqst (st' := [vI 0]) rfl ?_
      refine wp_iret (pc := 197) dX11_done_197 rfl rfl ?_
      have hc : c = -61 := by omega
      have e1 : jn c x y = 0 := by
        rw [hc]; show truthF (x = y) = 0; unfold truthF; first | exact if_pos (by omega) | exact if_neg (by omega)
      rw [e1] at hQ; exact hQ
    · refine wp_iconst (pc := 189) dX11_done_189 ?_
      refine wp_goto (pc := 190) 194 dX11_done_190 (by decide) ?_
      refine wp_callS (pc := 194) (st := []) (nf' := 153) [vI 1] [some (vI 1)] dX11_done_194 rfl c_X11_320 rfl rfl (Nat.le_of_ble_eq_true rfl) rfl (Nat.le_of_ble_eq_true rfl) (by omega) (Nat.le_refl _) (Nat.le_refl _) ?_
      refine wp_iload_n (pc := 0) 0 dX11_truth_0 rfl rfl ?_
      refine wp_if_eq (pc := 1) 8 dX11_truth_1 (by decide) (by decide) (fun hh => absurd hh (by decide)) (fun _ => ?_)
      refine wp_iconst (pc := 4) dX11_truth_4 ?_
      refine wp_goto (pc := 5) 9 dX11_truth_5 (by decide) ?_
      refine wp_iret (pc := 9) dX11_truth_9 rfl rfl ?_
      refine wp_eqst (st' := [vI 1]) rfl ?_
      refine wp_iret (pc := 197) dX11_done_197 rfl rfl ?_
      have hc : c = -61 := by omega
      have e1 : jn c x y = 1 := by
        rw [hc]; show truthF (x = y) = 1; unfold truthF; first | exact if_pos (by omega) | exact if_neg (by omega)
      rw [e1] at hQ; exact hQ
  by_cases h_32 : a = 62
  · refine wp_tin (pc := 1) 25 170 dX11_done_1 (by omega) (by rw [h_32]; decide) (by decide) rfl (by decide) ?_
    refine wp_iload_n (pc := 170) 1 dX11_done_170 rfl rfl ?_
    refine wp_iload_n (pc := 171) 2 dX11_done_171 rfl rfl ?_
    refine wp_icmp_le (pc := 172) 179 dX11_done_172 (by decide) (by omega) (by omega) (fun h_33 => ?_) (fun h_33 => ?_)
    · refine wp_iconst (pc := 179) dX11_done_179 ?_
      refine wp_callS (pc := 180) (st := []) (nf' := 153) [vI 0] [some (vI 0)] dX11_done_180 rfl c_X11_320 rfl rfl (Nat.le_of_ble_eq_true rfl) rfl (Nat.le_of_ble_eq_true rfl) (by omega) (Nat.le_refl _) (Nat.le_refl _) ?_
      refine wp_iload_n (pc := 0) 0 dX11_truth_0 rfl rfl ?_
      refine wp_if_eq (pc := 1) 8 dX11_truth_1 (by decide) (by decide) (fun _ => ?_) (fun hh => absurd hh (by decide))
      refine wp_iconst (pc := 8) dX11_truth_8 ?_
      refine wp_iret (pc := 9) dX11_truth_9 rfl rfl ?_
      refine wp_eqst (st' := [vI 0]) rfl ?_
      refine wp_iret (pc := 183) dX11_done_183 rfl rfl ?_
      have hc : c = -62 := by omega
      have e1 : jn c x y = 0 := by
        rw [hc]; show truthF (y < x) = 0; unfold truthF; first | exact if_pos (by omega) | exact if_neg (by omega)
      rw [e1] at hQ; exact hQ
    · refine wp_iconst (pc := 175) dX11_done_175 ?_
      refine wp_goto (pc := 176) 180 dX11_done_176 (by decide) ?_
      refine wp_callS (pc := 180) (st := []) (nf' := 153) [vI 1] [some (vI 1)] dX11_done_180 rfl c_X11_320 rfl rfl (Nat.le_of_ble_eq_true rfl) rfl (Nat.le_of_ble_eq_true rfl) (by omega) (Nat.le_refl _) (Nat.le_refl _) ?_
      refine wp_iload_n (pc := 0) 0 dX11_truth_0 rfl rfl ?_
      refine wp_if_eq (pc := 1) 8 dX11_truth_1 (by decide) (by decide) (fun hh => absurd hh (by decide)) (fun _ => ?_)
      refine wp_iconst (pc := 4) dX11_truth_4 ?_
      refine wp_goto (pc := 5) 9 dX11_truth_5 (by decide) ?_
      refine wp_iret (pc := 9) dX11_truth_9 rfl rfl ?_
      refine wp_eqst (st' := [vI 1]) rfl ?_
      refine wp_iret (pc := 183) dX11_done_183 rfl rfl ?_
      have hc : c = -62 := by omega
      have e1 : jn c x y = 1 := by
        rw [hc]; show truthF (y < x) = 1; unfold truthF; first | exact if_pos (by omega) | exact if_neg (by omega)
      rw [e1] at hQ; exact hQ
  by_cases h_6 : a = 39
  · refine wp_tin (pc := 1) 2 215 dX11_done_1 (by omega) (by rw [h_6]; decide) (by decide) rfl (by decide) ?_
    refine wp_iload_n (pc := 215) 1 dX11_done_215 rfl rfl ?_
    refine wp_if_ne (pc := 216) 223 dX11_done_216 (by decide) (by omega) (fun h_34 => ?_) (fun h_34 => ?_)
    · refine wp_iconst (pc := 223) dX11_done_223 ?_
      refine wp_goto (pc := 224) 228 dX11_done_224 (by decide) ?_
      refine wp_callS (pc := 228) (st := []) (nf' := 153) [vI 1] [some (vI 1)] dX11_done_228 rfl c_X11_320 rfl rfl (Nat.le_of_ble_eq_true rfl) rfl (Nat.le_of_ble_eq_true rfl) (by omega) (Nat.le_refl _) (Nat.le_refl _) ?_
      refine wp_iload_n (pc := 0) 0 dX11_truth_0 rfl rfl ?_
      refine wp_if_eq (pc := 1) 8 dX11_truth_1 (by decide) (by decide) (fun hh => absurd hh (by decide)) (fun _ => ?_)
      refine wp_iconst (pc := 4) dX11_truth_4 ?_
      refine wp_goto (pc := 5) 9 dX11_truth_5 (by decide) ?_
      refine wp_iret (pc := 9) dX11_truth_9 rfl rfl ?_
      refine wp_eqst (st' := [vI 1]) rfl ?_
      refine wp_iret (pc := 231) dX11_done_231 rfl rfl ?_
      exfalso; omega
    · refine wp_iload_n (pc := 219) 2 dX11_done_219 rfl rfl ?_
      refine wp_if_eq (pc := 220) 227 dX11_done_220 (by decide) (by omega) (fun h_35 => ?_) (fun h_35 => ?_)
      · refine wp_iconst (pc := 227) dX11_done_227 ?_
        refine wp_callS (pc := 228) (st := []) (nf' := 153) [vI 0] [some (vI 0)] dX11_done_228 rfl c_X11_320 rfl rfl (Nat.le_of_ble_eq_true rfl) rfl (Nat.le_of_ble_eq_true rfl) (by omega) (Nat.le_refl _) (Nat.le_refl _) ?_
        refine wp_iload_n (pc := 0) 0 dX11_truth_0 rfl rfl ?_
        refine wp_if_eq (pc := 1) 8 dX11_truth_1 (by decide) (by decide) (fun _ => ?_) (fun hh => absurd hh (by decide))
        refine wp_iconst (pc := 8) dX11_truth_8 ?_
        refine wp_iret (pc := 9) dX11_truth_9 rfl rfl ?_
        refine wp_eqst (st' := [vI 0]) rfl ?_
        refine wp_iret (pc := 231) dX11_done_231 rfl rfl ?_
        exfalso; omega
      · refine wp_iconst (pc := 223) dX11_done_223 ?_
        refine wp_goto (pc := 224) 228 dX11_done_224 (by decide) ?_
        refine wp_callS (pc := 228) (st := []) (nf' := 153) [vI 1] [some (vI 1)] dX11_done_228 rfl c_X11_320 rfl rfl (Nat.le_of_ble_eq_true rfl) rfl (Nat.le_of_ble_eq_true rfl) (by omega) (Nat.le_refl _) (Nat.le_refl _) ?_
        refine wp_iload_n (pc := 0) 0 dX11_truth_0 rfl rfl ?_
        refine wp_if_eq (pc := 1) 8 dX11_truth_1 (by decide) (by decide) (fun hh => absurd hh (by decide)) (fun _ => ?_)
        refine wp_iconst (pc := 4) dX11_truth_4 ?_
        refine wp_goto (pc := 5) 9 dX11_truth_5 (by decide) ?_
        refine wp_iret (pc := 9) dX11_truth_9 rfl rfl ?_
        refine wp_eqst (st' := [vI 1]) rfl ?_
        refine wp_iret (pc := 231) dX11_done_231 rfl rfl ?_
        exfalso; omega
  by_cases h_7 : a = 40
  · refine wp_tin (pc := 1) 3 215 dX11_done_1 (by omega) (by rw [h_7]; decide) (by decide) rfl (by decide) ?_
    refine wp_iload_n (pc := 215) 1 dX11_done_215 rfl rfl ?_
    refine wp_if_ne (pc := 216) 223 dX11_done_216 (by decide) (by omega) (fun h_36 => ?_) (fun h_36 => ?_)
    · refine wp_iconst (pc := 223) dX11_done_223 ?_
      refine wp_goto (pc := 224) 228 dX11_done_224 (by decide) ?_
      refine wp_callS (pc := 228) (st := []) (nf' := 153) [vI 1] [some (vI 1)] dX11_done_228 rfl c_X11_320 rfl rfl (Nat.le_of_ble_eq_true rfl) rfl (Nat.le_of_ble_eq_true rfl) (by omega) (Nat.le_refl _) (Nat.le_refl _) ?_
      refine wp_iload_n (pc := 0) 0 dX11_truth_0 rfl rfl ?_
      refine wp_if_eq (pc := 1) 8 dX11_truth_1 (by decide) (by decide) (fun hh => absurd hh (by decide)) (fun _ => ?_)
      refine wp_iconst (pc := 4) dX11_truth_4 ?_
      refine wp_goto (pc := 5) 9 dX11_truth_5 (by decide) ?_
      refine wp_iret (pc := 9) dX11_truth_9 rfl rfl ?_
      refine wp_eqst (st' := [vI 1]) rfl ?_
      refine wp_iret (pc := 231) dX11_done_231 rfl rfl ?_
      exfalso; omega
    · refine wp_iload_n (pc := 219) 2 dX11_done_219 rfl rfl ?_
      refine wp_if_eq (pc := 220) 227 dX11_done_220 (by decide) (by omega) (fun h_37 => ?_) (fun h_37 => ?_)
      · refine wp_iconst (pc := 227) dX11_done_227 ?_
        refine wp_callS (pc := 228) (st := []) (nf' := 153) [vI 0] [some (vI 0)] dX11_done_228 rfl c_X11_320 rfl rfl (Nat.le_of_ble_eq_true rfl) rfl (Nat.le_of_ble_eq_true rfl) (by omega) (Nat.le_refl _) (Nat.le_refl _) ?_
        refine wp_iload_n (pc := 0) 0 dX11_truth_0 rfl rfl ?_
        refine wp_if_eq (pc := 1) 8 dX11_truth_1 (by decide) (by decide) (fun _ => ?_) (fun hh => absurd hh (by decide))
        refine wp_iconst (pc := 8) dX11_truth_8 ?_
        refine wp_iret (pc := 9) dX11_truth_9 rfl rfl ?_
        refine wp_eqst (st' := [vI 0]) rfl ?_
        refine wp_iret (pc := 231) dX11_done_231 rfl rfl ?_
        exfalso; omega
      · refine wp_iconst (pc := 223) dX11_done_223 ?_
        refine wp_goto (pc := 224) 228 dX11_done_224 (by decide) ?_
        refine wp_callS (pc := 228) (st := []) (nf' := 153) [vI 1] [some (vI 1)] dX11_done_228 rfl c_X11_320 rfl rfl (Nat.le_of_ble_eq_true rfl) rfl (Nat.le_of_ble_eq_true rfl) (by omega) (Nat.le_refl _) (Nat.le_refl _) ?_
        refine wp_iload_n (pc := 0) 0 dX11_truth_0 rfl rfl ?_
        refine wp_if_eq (pc := 1) 8 dX11_truth_1 (by decide) (by decide) (fun hh => absurd hh (by decide)) (fun _ => ?_)
        refine wp_iconst (pc := 4) dX11_truth_4 ?_
        refine wp_goto (pc := 5) 9 dX11_truth_5 (by decide) ?_
        refine wp_iret (pc := 9) dX11_truth_9 rfl rfl ?_
        refine wp_eqst (st' := [vI 1]) rfl ?_
        refine wp_iret (pc := 231) dX11_done_231 rfl rfl ?_
        exfalso; omega
  by_cases h_8 : a = 41
  · refine wp_tin (pc := 1) 4 215 dX11_done_1 (by omega) (by rw [h_8]; decide) (by decide) rfl (by decide) ?_
    refine wp_iload_n (pc := 215) 1 dX11_done_215 rfl rfl ?_
    refine wp_if_ne (pc := 216) 223 dX11_done_216 (by decide) (by omega) (fun h_38 => ?_) (fun h_38 => ?_)
    · refine wp_iconst (pc := 223) dX11_done_223 ?_
      refine wp_goto (pc := 224) 228 dX11_done_224 (by decide) ?_
      refine wp_callS (pc := 228) (st := []) (nf' := 153) [vI 1] [some (vI 1)] dX11_done_228 rfl c_X11_320 rfl rfl (Nat.le_of_ble_eq_true rfl) rfl (Nat.le_of_ble_eq_true rfl) (by omega) (Nat.le_refl _) (Nat.le_refl _) ?_
      refine wp_iload_n (pc := 0) 0 dX11_truth_0 rfl rfl ?_
      refine wp_if_eq (pc := 1) 8 dX11_truth_1 (by decide) (by decide) (fun hh => absurd hh (by decide)) (fun _ => ?_)
      refine wp_iconst (pc := 4) dX11_truth_4 ?_
      refine wp_goto (pc := 5) 9 dX11_truth_5 (by decide) ?_
      refine wp_iret (pc := 9) dX11_truth_9 rfl rfl ?_
      refine wp_eqst (st' := [vI 1]) rfl ?_
      refine wp_iret (pc := 231) dX11_done_231 rfl rfl ?_
      exfalso; omega
    · refine wp_iload_n (pc := 219) 2 dX11_done_219 rfl rfl ?_
      refine wp_if_eq (pc := 220) 227 dX11_done_220 (by decide) (by omega) (fun h_39 => ?_) (fun h_39 => ?_)
      · refine wp_iconst (pc := 227) dX11_done_227 ?_
        refine wp_callS (pc := 228) (st := []) (nf' := 153) [vI 0] [some (vI 0)] dX11_done_228 rfl c_X11_320 rfl rfl (Nat.le_of_ble_eq_true rfl) rfl (Nat.le_of_ble_eq_true rfl) (by omega) (Nat.le_refl _) (Nat.le_refl _) ?_
        refine wp_iload_n (pc := 0) 0 dX11_truth_0 rfl rfl ?_
        refine wp_if_eq (pc := 1) 8 dX11_truth_1 (by decide) (by decide) (fun _ => ?_) (fun hh => absurd hh (by decide))
        refine wp_iconst (pc := 8) dX11_truth_8 ?_
        refine wp_iret (pc := 9) dX11_truth_9 rfl rfl ?_
        refine wp_eqst (st' := [vI 0]) rfl ?_
        refine wp_iret (pc := 231) dX11_done_231 rfl rfl ?_
        exfalso; omega
      · refine wp_iconst (pc := 223) dX11_done_223 ?_
        refine wp_goto (pc := 224) 228 dX11_done_224 (by decide) ?_
        refine wp_callS (pc := 228) (st := []) (nf' := 153) [vI 1] [some (vI 1)] dX11_done_228 rfl c_X11_320 rfl rfl (Nat.le_of_ble_eq_true rfl) rfl (Nat.le_of_ble_eq_true rfl) (by omega) (Nat.le_refl _) (Nat.le_refl _) ?_
        refine wp_iload_n (pc := 0) 0 dX11_truth_0 rfl rfl ?_
        refine wp_if_eq (pc := 1) 8 dX11_truth_1 (by decide) (by decide) (fun hh => absurd hh (by decide)) (fun _ => ?_)
        refine wp_iconst (pc := 4) dX11_truth_4 ?_
        refine wp_goto (pc := 5) 9 dX11_truth_5 (by decide) ?_
        refine wp_iret (pc := 9) dX11_truth_9 rfl rfl ?_
        refine wp_eqst (st' := [vI 1]) rfl ?_
        refine wp_iret (pc := 231) dX11_done_231 rfl rfl ?_
        exfalso; omega
  by_cases h_11 : a = 44
  · refine wp_tin (pc := 1) 7 215 dX11_done_1 (by omega) (by rw [h_11]; decide) (by decide) rfl (by decide) ?_
    refine wp_iload_n (pc := 215) 1 dX11_done_215 rfl rfl ?_
    refine wp_if_ne (pc := 216) 223 dX11_done_216 (by decide) (by omega) (fun h_40 => ?_) (fun h_40 => ?_)
    · refine wp_iconst (pc := 223) dX11_done_223 ?_
      refine wp_goto (pc := 224) 228 dX11_done_224 (by decide) ?_
      refine wp_callS (pc := 228) (st := []) (nf' := 153) [vI 1] [some (vI 1)] dX11_done_228 rfl c_X11_320 rfl rfl (Nat.le_of_ble_eq_true rfl) rfl (Nat.le_of_ble_eq_true rfl) (by omega) (Nat.le_refl _) (Nat.le_refl _) ?_
      refine wp_iload_n (pc := 0) 0 dX11_truth_0 rfl rfl ?_
      refine wp_if_eq (pc := 1) 8 dX11_truth_1 (by decide) (by decide) (fun hh => absurd hh (by decide)) (fun _ => ?_)
      refine wp_iconst (pc := 4) dX11_truth_4 ?_
      refine wp_goto (pc := 5) 9 dX11_truth_5 (by decide) ?_
      refine wp_iret (pc := 9) dX11_truth_9 rfl rfl ?_
      refine wp_eqst (st' := [vI 1]) rfl ?_
      refine wp_iret (pc := 231) dX11_done_231 rfl rfl ?_
      exfalso; omega
    · refine wp_iload_n (pc := 219) 2 dX11_done_219 rfl rfl ?_
      refine wp_if_eq (pc := 220) 227 dX11_done_220 (by decide) (by omega) (fun h_41 => ?_) (fun h_41 => ?_)
      · refine wp_iconst (pc := 227) dX11_done_227 ?_
        refine wp_callS (pc := 228) (st := []) (nf' := 153) [vI 0] [some (vI 0)] dX11_done_228 rfl c_X11_320 rfl rfl (Nat.le_of_ble_eq_true rfl) rfl (Nat.le_of_ble_eq_true rfl) (by omega) (Nat.le_refl _) (Nat.le_refl _) ?_
        refine wp_iload_n (pc := 0) 0 dX11_truth_0 rfl rfl ?_
        refine wp_if_eq (pc := 1) 8 dX11_truth_1 (by decide) (by decide) (fun _ => ?_) (fun hh => absurd hh (by decide))
        refine wp_iconst (pc := 8) dX11_truth_8 ?_
        refine wp_iret (pc := 9) dX11_truth_9 rfl rfl ?_
        refine wp_eqst (st' := [vI 0]) rfl ?_
        refine wp_iret (pc := 231) dX11_done_231 rfl rfl ?_
        exfalso; omega
      · refine wp_iconst (pc := 223) dX11_done_223 ?_
        refine wp_goto (pc := 224) 228 dX11_done_224 (by decide) ?_
        refine wp_callS (pc := 228) (st := []) (nf' := 153) [vI 1] [some (vI 1)] dX11_done_228 rfl c_X11_320 rfl rfl (Nat.le_of_ble_eq_true rfl) rfl (Nat.le_of_ble_eq_true rfl) (by omega) (Nat.le_refl _) (Nat.le_refl _) ?_
        refine wp_iload_n (pc := 0) 0 dX11_truth_0 rfl rfl ?_
        refine wp_if_eq (pc := 1) 8 dX11_truth_1 (by decide) (by decide) (fun hh => absurd hh (by decide)) (fun _ => ?_)
        refine wp_iconst (pc := 4) dX11_truth_4 ?_
        refine wp_goto (pc := 5) 9 dX11_truth_5 (by decide) ?_
        refine wp_iret (pc := 9) dX11_truth_9 rfl rfl ?_
        refine wp_eqst (st' := [vI 1]) rfl ?_
        refine wp_iret (pc := 231) dX11_done_231 rfl rfl ?_
        exfalso; omega
  by_cases h_13 : a = 46
  · refine wp_tin (pc := 1) 9 215 dX11_done_1 (by omega) (by rw [h_13]; decide) (by decide) rfl (by decide) ?_
    refine wp_iload_n (pc := 215) 1 dX11_done_215 rfl rfl ?_
    refine wp_if_ne (pc := 216) 223 dX11_done_216 (by decide) (by omega) (fun h_42 => ?_) (fun h_42 => ?_)
    · refine wp_iconst (pc := 223) dX11_done_223 ?_
      refine wp_goto (pc := 224) 228 dX11_done_224 (by decide) ?_
      refine wp_callS (pc := 228) (st := []) (nf' := 153) [vI 1] [some (vI 1)] dX11_done_228 rfl c_X11_320 rfl rfl (Nat.le_of_ble_eq_true rfl) rfl (Nat.le_of_ble_eq_true rfl) (by omega) (Nat.le_refl _) (Nat.le_refl _) ?_
      refine wp_iload_n (pc := 0) 0 dX11_truth_0 rfl rfl ?_
      refine wp_if_eq (pc := 1) 8 dX11_truth_1 (by decide) (by decide) (fun hh => absurd hh (by decide)) (fun _ => ?_)
      refine wp_iconst (pc := 4) dX11_truth_4 ?_
      refine wp_goto (pc := 5) 9 dX11_truth_5 (by decide) ?_
      refine wp_iret (pc := 9) dX11_truth_9 rfl rfl ?_
      refine wp_eqst (st' := [vI 1]) rfl ?_
      refine wp_iret (pc := 231) dX11_done_231 rfl rfl ?_
      exfalso; omega
    · refine wp_iload_n (pc := 219) 2 dX11_done_219 rfl rfl ?_
      refine wp_if_eq (pc := 220) 227 dX11_done_220 (by decide) (by omega) (fun h_43 => ?_) (fun h_43 => ?_)
      · refine wp_iconst (pc := 227) dX11_done_227 ?_
        refine wp_callS (pc := 228) (st := []) (nf' := 153) [vI 0] [some (vI 0)] dX11_done_228 rfl c_X11_320 rfl rfl (Nat.le_of_ble_eq_true rfl) rfl (Nat.le_of_ble_eq_true rfl) (by omega) (Nat.le_refl _) (Nat.le_refl _) ?_
        refine wp_iload_n (pc := 0) 0 dX11_truth_0 rfl rfl ?_
        refine wp_if_eq (pc := 1) 8 dX11_truth_1 (by decide) (by decide) (fun _ => ?_) (fun hh => absurd hh (by decide))
        refine wp_iconst (pc := 8) dX11_truth_8 ?_
        refine wp_iret (pc := 9) dX11_truth_9 rfl rfl ?_
        refine wp_eqst (st' := [vI 0]) rfl ?_
        refine wp_iret (pc := 231) dX11_done_231 rfl rfl ?_
        exfalso; omega
      · refine wp_iconst (pc := 223) dX11_done_223 ?_
        refine wp_goto (pc := 224) 228 dX11_done_224 (by decide) ?_
        refine wp_callS (pc := 228) (st := []) (nf' := 153) [vI 1] [some (vI 1)] dX11_done_228 rfl c_X11_320 rfl rfl (Nat.le_of_ble_eq_true rfl) rfl (Nat.le_of_ble_eq_true rfl) (by omega) (Nat.le_refl _) (Nat.le_refl _) ?_
        refine wp_iload_n (pc := 0) 0 dX11_truth_0 rfl rfl ?_
        refine wp_if_eq (pc := 1) 8 dX11_truth_1 (by decide) (by decide) (fun hh => absurd hh (by decide)) (fun _ => ?_)
        refine wp_iconst (pc := 4) dX11_truth_4 ?_
        refine wp_goto (pc := 5) 9 dX11_truth_5 (by decide) ?_
        refine wp_iret (pc := 9) dX11_truth_9 rfl rfl ?_
        refine wp_eqst (st' := [vI 1]) rfl ?_
        refine wp_iret (pc := 231) dX11_done_231 rfl rfl ?_
        exfalso; omega
  by_cases h_16 : a = 48
  · refine wp_tin (pc := 1) 11 215 dX11_done_1 (by omega) (by rw [h_16]; decide) (by decide) rfl (by decide) ?_
    refine wp_iload_n (pc := 215) 1 dX11_done_215 rfl rfl ?_
    refine wp_if_ne (pc := 216) 223 dX11_done_216 (by decide) (by omega) (fun h_44 => ?_) (fun h_44 => ?_)
    · refine wp_iconst (pc := 223) dX11_done_223 ?_
      refine wp_goto (pc := 224) 228 dX11_done_224 (by decide) ?_
      refine wp_callS (pc := 228) (st := []) (nf' := 153) [vI 1] [some (vI 1)] dX11_done_228 rfl c_X11_320 rfl rfl (Nat.le_of_ble_eq_true rfl) rfl (Nat.le_of_ble_eq_true rfl) (by omega) (Nat.le_refl _) (Nat.le_refl _) ?_
      refine wp_iload_n (pc := 0) 0 dX11_truth_0 rfl rfl ?_
      refine wp_if_eq (pc := 1) 8 dX11_truth_1 (by decide) (by decide) (fun hh => absurd hh (by decide)) (fun _ => ?_)
      refine wp_iconst (pc := 4) dX11_truth_4 ?_
      refine wp_goto (pc := 5) 9 dX11_truth_5 (by decide) ?_
      refine wp_iret (pc := 9) dX11_truth_9 rfl rfl ?_
      refine wp_eqst (st' := [vI 1]) rfl ?_
      refine wp_iret (pc := 231) dX11_done_231 rfl rfl ?_
      exfalso; omega
    · refine wp_iload_n (pc := 219) 2 dX11_done_219 rfl rfl ?_
      refine wp_if_eq (pc := 220) 227 dX11_done_220 (by decide) (by omega) (fun h_45 => ?_) (fun h_45 => ?_)
      · refine wp_iconst (pc := 227) dX11_done_227 ?_
        refine wp_callS (pc := 228) (st := []) (nf' := 153) [vI 0] [some (vI 0)] dX11_done_228 rfl c_X11_320 rfl rfl (Nat.le_of_ble_eq_true rfl) rfl (Nat.le_of_ble_eq_true rfl) (by omega) (Nat.le_refl _) (Nat.le_refl _) ?_
        refine wp_iload_n (pc := 0) 0 dX11_truth_0 rfl rfl ?_
        refine wp_if_eq (pc := 1) 8 dX11_truth_1 (by decide) (by decide) (fun _ => ?_) (fun hh => absurd hh (by decide))
        refine wp_iconst (pc := 8) dX11_truth_8 ?_
        refine wp_iret (pc := 9) dX11_truth_9 rfl rfl ?_
        refine wp_eqst (st' := [vI 0]) rfl ?_
        refine wp_iret (pc := 231) dX11_done_231 rfl rfl ?_
        exfalso; omega
      · refine wp_iconst (pc := 223) dX11_done_223 ?_
        refine wp_goto (pc := 224) 228 dX11_done_224 (by decide) ?_
        refine wp_callS (pc := 228) (st := []) (nf' := 153) [vI 1] [some (vI 1)] dX11_done_228 rfl c_X11_320 rfl rfl (Nat.le_of_ble_eq_true rfl) rfl (Nat.le_of_ble_eq_true rfl) (by omega) (Nat.le_refl _) (Nat.le_refl _) ?_
        refine wp_iload_n (pc := 0) 0 dX11_truth_0 rfl rfl ?_
        refine wp_if_eq (pc := 1) 8 dX11_truth_1 (by decide) (by decide) (fun hh => absurd hh (by decide)) (fun _ => ?_)
        refine wp_iconst (pc := 4) dX11_truth_4 ?_
        refine wp_goto (pc := 5) 9 dX11_truth_5 (by decide) ?_
        refine wp_iret (pc := 9) dX11_truth_9 rfl rfl ?_
        refine wp_eqst (st' := [vI 1]) rfl ?_
        refine wp_iret (pc := 231) dX11_done_231 rfl rfl ?_
        exfalso; omega
  by_cases h_17 : a = 49
  · refine wp_tin (pc := 1) 12 215 dX11_done_1 (by omega) (by rw [h_17]; decide) (by decide) rfl (by decide) ?_
    refine wp_iload_n (pc := 215) 1 dX11_done_215 rfl rfl ?_
    refine wp_if_ne (pc := 216) 223 dX11_done_216 (by decide) (by omega) (fun h_46 => ?_) (fun h_46 => ?_)
    · refine wp_iconst (pc := 223) dX11_done_223 ?_
      refine wp_goto (pc := 224) 228 dX11_done_224 (by decide) ?_
      refine wp_callS (pc := 228) (st := []) (nf' := 153) [vI 1] [some (vI 1)] dX11_done_228 rfl c_X11_320 rfl rfl (Nat.le_of_ble_eq_true rfl) rfl (Nat.le_of_ble_eq_true rfl) (by omega) (Nat.le_refl _) (Nat.le_refl _) ?_
      refine wp_iload_n (pc := 0) 0 dX11_truth_0 rfl rfl ?_
      refine wp_if_eq (pc := 1) 8 dX11_truth_1 (by decide) (by decide) (fun hh => absurd hh (by decide)) (fun _ => ?_)
      refine wp_iconst (pc := 4) dX11_truth_4 ?_
      refine wp_goto (pc := 5) 9 dX11_truth_5 (by decide) ?_
      refine wp_iret (pc := 9) dX11_truth_9 rfl rfl ?_
      refine wp_eqst (st' := [vI 1]) rfl ?_
      refine wp_iret (pc := 231) dX11_done_231 rfl rfl ?_
      exfalso; omega
    · refine wp_iload_n (pc := 219) 2 dX11_done_219 rfl rfl ?_
      refine wp_if_eq (pc := 220) 227 dX11_done_220 (by decide) (by omega) (fun h_47 => ?_) (fun h_47 => ?_)
      · refine wp_iconst (pc := 227) dX11_done_227 ?_
        refine wp_callS (pc := 228) (st := []) (nf' := 153) [vI 0] [some (vI 0)] dX11_done_228 rfl c_X11_320 rfl rfl (Nat.le_of_ble_eq_true rfl) rfl (Nat.le_of_ble_eq_true rfl) (by omega) (Nat.le_refl _) (Nat.le_refl _) ?_
        refine wp_iload_n (pc := 0) 0 dX11_truth_0 rfl rfl ?_
        refine wp_if_eq (pc := 1) 8 dX11_truth_1 (by decide) (by decide) (fun _ => ?_) (fun hh => absurd hh (by decide))
        refine wp_iconst (pc := 8) dX11_truth_8 ?_
        refine wp_iret (pc := 9) dX11_truth_9 rfl rfl ?_
        refine wp_eqst (st' := [vI 0]) rfl ?_
        refine wp_iret (pc := 231) dX11_done_231 rfl rfl ?_
        exfalso; omega
      · refine wp_iconst (pc := 223) dX11_done_223 ?_
        refine wp_goto (pc := 224) 228 dX11_done_224 (by decide) ?_
        refine wp_callS (pc := 228) (st := []) (nf' := 153) [vI 1] [some (vI 1)] dX11_done_228 rfl c_X11_320 rfl rfl (Nat.le_of_ble_eq_true rfl) rfl (Nat.le_of_ble_eq_true rfl) (by omega) (Nat.le_refl _) (Nat.le_refl _) ?_
        refine wp_iload_n (pc := 0) 0 dX11_truth_0 rfl rfl ?_
        refine wp_if_eq (pc := 1) 8 dX11_truth_1 (by decide) (by decide) (fun hh => absurd hh (by decide)) (fun _ => ?_)
        refine wp_iconst (pc := 4) dX11_truth_4 ?_
        refine wp_goto (pc := 5) 9 dX11_truth_5 (by decide) ?_
        refine wp_iret (pc := 9) dX11_truth_9 rfl rfl ?_
        refine wp_eqst (st' := [vI 1]) rfl ?_
        refine wp_iret (pc := 231) dX11_done_231 rfl rfl ?_
        exfalso; omega
  by_cases h_18 : a = 50
  · refine wp_tin (pc := 1) 13 215 dX11_done_1 (by omega) (by rw [h_18]; decide) (by decide) rfl (by decide) ?_
    refine wp_iload_n (pc := 215) 1 dX11_done_215 rfl rfl ?_
    refine wp_if_ne (pc := 216) 223 dX11_done_216 (by decide) (by omega) (fun h_48 => ?_) (fun h_48 => ?_)
    · refine wp_iconst (pc := 223) dX11_done_223 ?_
      refine wp_goto (pc := 224) 228 dX11_done_224 (by decide) ?_
      refine wp_callS (pc := 228) (st := []) (nf' := 153) [vI 1] [some (vI 1)] dX11_done_228 rfl c_X11_320 rfl rfl (Nat.le_of_ble_eq_true rfl) rfl (Nat.le_of_ble_eq_true rfl) (by omega) (Nat.le_refl _) (Nat.le_refl _) ?_
      refine wp_iload_n (pc := 0) 0 dX11_truth_0 rfl rfl ?_
      refine wp_if_eq (pc := 1) 8 dX11_truth_1 (by decide) (by decide) (fun hh => absurd hh (by decide)) (fun _ => ?_)
      refine wp_iconst (pc := 4) dX11_truth_4 ?_
      refine wp_goto (pc := 5) 9 dX11_truth_5 (by decide) ?_
      refine wp_iret (pc := 9) dX11_truth_9 rfl rfl ?_
      refine wp_eqst (st' := [vI 1]) rfl ?_
      refine wp_iret (pc := 231) dX11_done_231 rfl rfl ?_
      exfalso; omega
    · refine wp_iload_n (pc := 219) 2 dX11_done_219 rfl rfl ?_
      refine wp_if_eq (pc := 220) 227 dX11_done_220 (by decide) (by omega) (fun h_49 => ?_) (fun h_49 => ?_)
      · refine wp_iconst (pc := 227) dX11_done_227 ?_
        refine wp_callS (pc := 228) (st := []) (nf' := 153) [vI 0] [some (vI 0)] dX11_done_228 rfl c_X11_320 rfl rfl (Nat.le_of_ble_eq_true rfl) rfl (Nat.le_of_ble_eq_true rfl) (by omega) (Nat.le_refl _) (Nat.le_refl _) ?_
        refine wp_iload_n (pc := 0) 0 dX11_truth_0 rfl rfl ?_
        refine wp_if_eq (pc := 1) 8 dX11_truth_1 (by decide) (by decide) (fun _ => ?_) (fun hh => absurd hh (by decide))
        refine wp_iconst (pc := 8) dX11_truth_8 ?_
        refine wp_iret (pc := 9) dX11_truth_9 rfl rfl ?_
        refine wp_eqst (st' := [vI 0]) rfl ?_
        refine wp_iret (pc := 231) dX11_done_231 rfl rfl ?_
        exfalso; omega
      · refine wp_iconst (pc := 223) dX11_done_223 ?_
        refine wp_goto (pc := 224) 228 dX11_done_224 (by decide) ?_
        refine wp_callS (pc := 228) (st := []) (nf' := 153) [vI 1] [some (vI 1)] dX11_done_228 rfl c_X11_320 rfl rfl (Nat.le_of_ble_eq_true rfl) rfl (Nat.le_of_ble_eq_true rfl) (by omega) (Nat.le_refl _) (Nat.le_refl _) ?_
        refine wp_iload_n (pc := 0) 0 dX11_truth_0 rfl rfl ?_
        refine wp_if_eq (pc := 1) 8 dX11_truth_1 (by decide) (by decide) (fun hh => absurd hh (by decide)) (fun _ => ?_)
        refine wp_iconst (pc := 4) dX11_truth_4 ?_
        refine wp_goto (pc := 5) 9 dX11_truth_5 (by decide) ?_
        refine wp_iret (pc := 9) dX11_truth_9 rfl rfl ?_
        refine wp_eqst (st' := [vI 1]) rfl ?_
        refine wp_iret (pc := 231) dX11_done_231 rfl rfl ?_
        exfalso; omega
  by_cases h_19 : a = 51
  · refine wp_tin (pc := 1) 14 215 dX11_done_1 (by omega) (by rw [h_19]; decide) (by decide) rfl (by decide) ?_
    refine wp_iload_n (pc := 215) 1 dX11_done_215 rfl rfl ?_
    refine wp_if_ne (pc := 216) 223 dX11_done_216 (by decide) (by omega) (fun h_50 => ?_) (fun h_50 => ?_)
    · refine wp_iconst (pc := 223) dX11_done_223 ?_
      refine wp_goto (pc := 224) 228 dX11_done_224 (by decide) ?_
      refine wp_callS (pc := 228) (st := []) (nf' := 153) [vI 1] [some (vI 1)] dX11_done_228 rfl c_X11_320 rfl rfl (Nat.le_of_ble_eq_true rfl) rfl (Nat.le_of_ble_eq_true rfl) (by omega) (Nat.le_refl _) (Nat.le_refl _) ?_
      refine wp_iload_n (pc := 0) 0 dX11_truth_0 rfl rfl ?_
      refine wp_if_eq (pc := 1) 8 dX11_truth_1 (by decide) (by decide) (fun hh => absurd hh (by decide)) (fun _ => ?_)
      refine wp_iconst (pc := 4) dX11_truth_4 ?_
      refine wp_goto (pc := 5) 9 dX11_truth_5 (by decide) ?_
      refine wp_iret (pc := 9) dX11_truth_9 rfl rfl ?_
      refine wp_eqst (st' := [vI 1]) rfl ?_
      refine wp_iret (pc := 231) dX11_done_231 rfl rfl ?_
      exfalso; omega
    · refine wp_iload_n (pc := 219) 2 dX11_done_219 rfl rfl ?_
      refine wp_if_eq (pc := 220) 227 dX11_done_220 (by decide) (by omega) (fun h_51 => ?_) (fun h_51 => ?_)
      · refine wp_iconst (pc := 227) dX11_done_227 ?_
        refine wp_callS (pc := 228) (st := []) (nf' := 153) [vI 0] [some (vI 0)] dX11_done_228 rfl c_X11_320 rfl rfl (Nat.le_of_ble_eq_true rfl) rfl (Nat.le_of_ble_eq_true rfl) (by omega) (Nat.le_refl _) (Nat.le_refl _) ?_
        refine wp_iload_n (pc := 0) 0 dX11_truth_0 rfl rfl ?_
        refine wp_if_eq (pc := 1) 8 dX11_truth_1 (by decide) (by decide) (fun _ => ?_) (fun hh => absurd hh (by decide))
        refine wp_iconst (pc := 8) dX11_truth_8 ?_
        refine wp_iret (pc := 9) dX11_truth_9 rfl rfl ?_
        refine wp_eqst (st' := [vI 0]) rfl ?_
        refine wp_iret (pc := 231) dX11_done_231 rfl rfl ?_
        exfalso; omega
      · refine wp_iconst (pc := 223) dX11_done_223 ?_
        refine wp_goto (pc := 224) 228 dX11_done_224 (by decide) ?_
        refine wp_callS (pc := 228) (st := []) (nf' := 153) [vI 1] [some (vI 1)] dX11_done_228 rfl c_X11_320 rfl rfl (Nat.le_of_ble_eq_true rfl) rfl (Nat.le_of_ble_eq_true rfl) (by omega) (Nat.le_refl _) (Nat.le_refl _) ?_
        refine wp_iload_n (pc := 0) 0 dX11_truth_0 rfl rfl ?_
        refine wp_if_eq (pc := 1) 8 dX11_truth_1 (by decide) (by decide) (fun hh => absurd hh (by decide)) (fun _ => ?_)
        refine wp_iconst (pc := 4) dX11_truth_4 ?_
        refine wp_goto (pc := 5) 9 dX11_truth_5 (by decide) ?_
        refine wp_iret (pc := 9) dX11_truth_9 rfl rfl ?_
        refine wp_eqst (st' := [vI 1]) rfl ?_
        refine wp_iret (pc := 231) dX11_done_231 rfl rfl ?_
        exfalso; omega
  by_cases h_20 : a = 52
  · refine wp_tin (pc := 1) 15 215 dX11_done_1 (by omega) (by rw [h_20]; decide) (by decide) rfl (by decide) ?_
    refine wp_iload_n (pc := 215) 1 dX11_done_215 rfl rfl ?_
    refine wp_if_ne (pc := 216) 223 dX11_done_216 (by decide) (by omega) (fun h_52 => ?_) (fun h_52 => ?_)
    · refine wp_iconst (pc := 223) dX11_done_223 ?_
      refine wp_goto (pc := 224) 228 dX11_done_224 (by decide) ?_
      refine wp_callS (pc := 228) (st := []) (nf' := 153) [vI 1] [some (vI 1)] dX11_done_228 rfl c_X11_320 rfl rfl (Nat.le_of_ble_eq_true rfl) rfl (Nat.le_of_ble_eq_true rfl) (by omega) (Nat.le_refl _) (Nat.le_refl _) ?_
      refine wp_iload_n (pc := 0) 0 dX11_truth_0 rfl rfl ?_
      refine wp_if_eq (pc := 1) 8 dX11_truth_1 (by decide) (by decide) (fun hh => absurd hh (by decide)) (fun _ => ?_)
      refine wp_iconst (pc := 4) dX11_truth_4 ?_
      refine wp_goto (pc := 5) 9 dX11_truth_5 (by decide) ?_
      refine wp_iret (pc := 9) dX11_truth_9 rfl rfl ?_
      refine wp_eqst (st' := [vI 1]) rfl ?_
      refine wp_iret (pc := 231) dX11_done_231 rfl rfl ?_
      exfalso; omega
    · refine wp_iload_n (pc := 219) 2 dX11_done_219 rfl rfl ?_
      refine wp_if_eq (pc := 220) 227 dX11_done_220 (by decide) (by omega) (fun h_53 => ?_) (fun h_53 => ?_)
      · refine wp_iconst (pc := 227) dX11_done_227 ?_
        refine wp_callS (pc := 228) (st := []) (nf' := 153) [vI 0] [some (vI 0)] dX11_done_228 rfl c_X11_320 rfl rfl (Nat.le_of_ble_eq_true rfl) rfl (Nat.le_of_ble_eq_true rfl) (by omega) (Nat.le_refl _) (Nat.le_refl _) ?_
        refine wp_iload_n (pc := 0) 0 dX11_truth_0 rfl rfl ?_
        refine wp_if_eq (pc := 1) 8 dX11_truth_1 (by decide) (by decide) (fun _ => ?_) (fun hh => absurd hh (by decide))
        refine wp_iconst (pc := 8) dX11_truth_8 ?_
        refine wp_iret (pc := 9) dX11_truth_9 rfl rfl ?_
        refine wp_eqst (st' := [vI 0]) rfl ?_
        refine wp_iret (pc := 231) dX11_done_231 rfl rfl ?_
        exfalso; omega
      · refine wp_iconst (pc := 223) dX11_done_223 ?_
        refine wp_goto (pc := 224) 228 dX11_done_224 (by decide) ?_
        refine wp_callS (pc := 228) (st := []) (nf' := 153) [vI 1] [some (vI 1)] dX11_done_228 rfl c_X11_320 rfl rfl (Nat.le_of_ble_eq_true rfl) rfl (Nat.le_of_ble_eq_true rfl) (by omega) (Nat.le_refl _) (Nat.le_refl _) ?_
        refine wp_iload_n (pc := 0) 0 dX11_truth_0 rfl rfl ?_
        refine wp_if_eq (pc := 1) 8 dX11_truth_1 (by decide) (by decide) (fun hh => absurd hh (by decide)) (fun _ => ?_)
        refine wp_iconst (pc := 4) dX11_truth_4 ?_
        refine wp_goto (pc := 5) 9 dX11_truth_5 (by decide) ?_
        refine wp_iret (pc := 9) dX11_truth_9 rfl rfl ?_
        refine wp_eqst (st' := [vI 1]) rfl ?_
        refine wp_iret (pc := 231) dX11_done_231 rfl rfl ?_
        exfalso; omega
  by_cases h_21 : a = 53
  · refine wp_tin (pc := 1) 16 215 dX11_done_1 (by omega) (by rw [h_21]; decide) (by decide) rfl (by decide) ?_
    refine wp_iload_n (pc := 215) 1 dX11_done_215 rfl rfl ?_
    refine wp_if_ne (pc := 216) 223 dX11_done_216 (by decide) (by omega) (fun h_54 => ?_) (fun h_54 => ?_)
    · refine wp_iconst (pc := 223) dX11_done_223 ?_
      refine wp_goto (pc := 224) 228 dX11_done_224 (by decide) ?_
      refine wp_callS (pc := 228) (st := []) (nf' := 153) [vI 1] [some (vI 1)] dX11_done_228 rfl c_X11_320 rfl rfl (Nat.le_of_ble_eq_true rfl) rfl (Nat.le_of_ble_eq_true rfl) (by omega) (Nat.le_refl _) (Nat.le_refl _) ?_
      refine wp_iload_n (pc := 0) 0 dX11_truth_0 rfl rfl ?_
      refine wp_if_eq (pc := 1) 8 dX11_truth_1 (by decide) (by decide) (fun hh => absurd hh (by decide)) (fun _ => ?_)
      refine wp_iconst (pc := 4) dX11_truth_4 ?_
      refine wp_goto (pc := 5) 9 dX11_truth_5 (by decide) ?_
      refine wp_iret (pc := 9) dX11_truth_9 rfl rfl ?_
      refine wp_eqst (st' := [vI 1]) rfl ?_
      refine wp_iret (pc := 231) dX11_done_231 rfl rfl ?_
      exfalso; omega
    · refine wp_iload_n (pc := 219) 2 dX11_done_219 rfl rfl ?_
      refine wp_if_eq (pc := 220) 227 dX11_done_220 (by decide) (by omega) (fun h_55 => ?_) (fun h_55 => ?_)
      · refine wp_iconst (pc := 227) dX11_done_227 ?_
        refine wp_callS (pc := 228) (st := []) (nf' := 153) [vI 0] [some (vI 0)] dX11_done_228 rfl c_X11_320 rfl rfl (Nat.le_of_ble_eq_true rfl) rfl (Nat.le_of_ble_eq_true rfl) (by omega) (Nat.le_refl _) (Nat.le_refl _) ?_
        refine wp_iload_n (pc := 0) 0 dX11_truth_0 rfl rfl ?_
        refine wp_if_eq (pc := 1) 8 dX11_truth_1 (by decide) (by decide) (fun _ => ?_) (fun hh => absurd hh (by decide))
        refine wp_iconst (pc := 8) dX11_truth_8 ?_
        refine wp_iret (pc := 9) dX11_truth_9 rfl rfl ?_
        refine wp_eqst (st' := [vI 0]) rfl ?_
        refine wp_iret (pc := 231) dX11_done_231 rfl rfl ?_
        exfalso; omega
      · refine wp_iconst (pc := 223) dX11_done_223 ?_
        refine wp_goto (pc := 224) 228 dX11_done_224 (by decide) ?_
        refine wp_callS (pc := 228) (st := []) (nf' := 153) [vI 1] [some (vI 1)] dX11_done_228 rfl c_X11_320 rfl rfl (Nat.le_of_ble_eq_true rfl) rfl (Nat.le_of_ble_eq_true rfl) (by omega) (Nat.le_refl _) (Nat.le_refl _) ?_
        refine wp_iload_n (pc := 0) 0 dX11_truth_0 rfl rfl ?_
        refine wp_if_eq (pc := 1) 8 dX11_truth_1 (by decide) (by decide) (fun hh => absurd hh (by decide)) (fun _ => ?_)
        refine wp_iconst (pc := 4) dX11_truth_4 ?_
        refine wp_goto (pc := 5) 9 dX11_truth_5 (by decide) ?_
        refine wp_iret (pc := 9) dX11_truth_9 rfl rfl ?_
        refine wp_eqst (st' := [vI 1]) rfl ?_
        refine wp_iret (pc := 231) dX11_done_231 rfl rfl ?_
        exfalso; omega
  by_cases h_22 : a = 54
  · refine wp_tin (pc := 1) 17 215 dX11_done_1 (by omega) (by rw [h_22]; decide) (by decide) rfl (by decide) ?_
    refine wp_iload_n (pc := 215) 1 dX11_done_215 rfl rfl ?_
    refine wp_if_ne (pc := 216) 223 dX11_done_216 (by decide) (by omega) (fun h_56 => ?_) (fun h_56 => ?_)
    · refine wp_iconst (pc := 223) dX11_done_223 ?_
      refine wp_goto (pc := 224) 228 dX11_done_224 (by decide) ?_
      refine wp_callS (pc := 228) (st := []) (nf' := 153) [vI 1] [some (vI 1)] dX11_done_228 rfl c_X11_320 rfl rfl (Nat.le_of_ble_eq_true rfl) rfl (Nat.le_of_ble_eq_true rfl) (by omega) (Nat.le_refl _) (Nat.le_refl _) ?_
      refine wp_iload_n (pc := 0) 0 dX11_truth_0 rfl rfl ?_
      refine wp_if_eq (pc := 1) 8 dX11_truth_1 (by decide) (by decide) (fun hh => absurd hh (by decide)) (fun _ => ?_)
      refine wp_iconst (pc := 4) dX11_truth_4 ?_
      refine wp_goto (pc := 5) 9 dX11_truth_5 (by decide) ?_
      refine wp_iret (pc := 9) dX11_truth_9 rfl rfl ?_
      refine wp_eqst (st' := [vI 1]) rfl ?_
      refine wp_iret (pc := 231) dX11_done_231 rfl rfl ?_
      exfalso; omega
    · refine wp_iload_n (pc := 219) 2 dX11_done_219 rfl rfl ?_
      refine wp_if_eq (pc := 220) 227 dX11_done_220 (by decide) (by omega) (fun h_57 => ?_) (fun h_57 => ?_)
      · refine wp_iconst (pc := 227) dX11_done_227 ?_
        refine wp_callS (pc := 228) (st := []) (nf' := 153) [vI 0] [some (vI 0)] dX11_done_228 rfl c_X11_320 rfl rfl (Nat.le_of_ble_eq_true rfl) rfl (Nat.le_of_ble_eq_true rfl) (by omega) (Nat.le_refl _) (Nat.le_refl _) ?_
        refine wp_iload_n (pc := 0) 0 dX11_truth_0 rfl rfl ?_
        refine wp_if_eq (pc := 1) 8 dX11_truth_1 (by decide) (by decide) (fun _ => ?_) (fun hh => absurd hh (by decide))
        refine wp_iconst (pc := 8) dX11_truth_8 ?_
        refine wp_iret (pc := 9) dX11_truth_9 rfl rfl ?_
        refine wp_eqst (st' := [vI 0]) rfl ?_
        refine wp_iret (pc := 231) dX11_done_231 rfl rfl ?_
        exfalso; omega
      · refine wp_iconst (pc := 223) dX11_done_223 ?_
        refine wp_goto (pc := 224) 228 dX11_done_224 (by decide) ?_
        refine wp_callS (pc := 228) (st := []) (nf' := 153) [vI 1] [some (vI 1)] dX11_done_228 rfl c_X11_320 rfl rfl (Nat.le_of_ble_eq_true rfl) rfl (Nat.le_of_ble_eq_true rfl) (by omega) (Nat.le_refl _) (Nat.le_refl _) ?_
        refine wp_iload_n (pc := 0) 0 dX11_truth_0 rfl rfl ?_
        refine wp_if_eq (pc := 1) 8 dX11_truth_1 (by decide) (by decide) (fun hh => absurd hh (by decide)) (fun _ => ?_)
        refine wp_iconst (pc := 4) dX11_truth_4 ?_
        refine wp_goto (pc := 5) 9 dX11_truth_5 (by decide) ?_
        refine wp_iret (pc := 9) dX11_truth_9 rfl rfl ?_
        refine wp_eqst (st' := [vI 1]) rfl ?_
        refine wp_iret (pc := 231) dX11_done_231 rfl rfl ?_
        exfalso; omega
  by_cases h_23 : a = 55
  · refine wp_tin (pc := 1) 18 215 dX11_done_1 (by omega) (by rw [h_23]; decide) (by decide) rfl (by decide) ?_
    refine wp_iload_n (pc := 215) 1 dX11_done_215 rfl rfl ?_
    refine wp_if_ne (pc := 216) 223 dX11_done_216 (by decide) (by omega) (fun h_58 => ?_) (fun h_58 => ?_)
    · refine wp_iconst (pc := 223) dX11_done_223 ?_
      refine wp_goto (pc := 224) 228 dX11_done_224 (by decide) ?_
      refine wp_callS (pc := 228) (st := []) (nf' := 153) [vI 1] [some (vI 1)] dX11_done_228 rfl c_X11_320 rfl rfl (Nat.le_of_ble_eq_true rfl) rfl (Nat.le_of_ble_eq_true rfl) (by omega) (Nat.le_refl _) (Nat.le_refl _) ?_
      refine wp_iload_n (pc := 0) 0 dX11_truth_0 rfl rfl ?_
      refine wp_if_eq (pc := 1) 8 dX11_truth_1 (by decide) (by decide) (fun hh => absurd hh (by decide)) (fun _ => ?_)
      refine wp_iconst (pc := 4) dX11_truth_4 ?_
      refine wp_goto (pc := 5) 9 dX11_truth_5 (by decide) ?_
      refine wp_iret (pc := 9) dX11_truth_9 rfl rfl ?_
      refine wp_eqst (st' := [vI 1]) rfl ?_
      refine wp_iret (pc := 231) dX11_done_231 rfl rfl ?_
      exfalso; omega
    · refine wp_iload_n (pc := 219) 2 dX11_done_219 rfl rfl ?_
      refine wp_if_eq (pc := 220) 227 dX11_done_220 (by decide) (by omega) (fun h_59 => ?_) (fun h_59 => ?_)
      · refine wp_iconst (pc := 227) dX11_done_227 ?_
        refine wp_callS (pc := 228) (st := []) (nf' := 153) [vI 0] [some (vI 0)] dX11_done_228 rfl c_X11_320 rfl rfl (Nat.le_of_ble_eq_true rfl) rfl (Nat.le_of_ble_eq_true rfl) (by omega) (Nat.le_refl _) (Nat.le_refl _) ?_
        refine wp_iload_n (pc := 0) 0 dX11_truth_0 rfl rfl ?_
        refine wp_if_eq (pc := 1) 8 dX11_truth_1 (by decide) (by decide) (fun _ => ?_) (fun hh => absurd hh (by decide))
        refine wp_iconst (pc := 8) dX11_truth_8 ?_
        refine wp_iret (pc := 9) dX11_truth_9 rfl rfl ?_
        refine wp_eqst (st' := [vI 0]) rfl ?_
        refine wp_iret (pc := 231) dX11_done_231 rfl rfl ?_
        exfalso; omega
      · refine wp_iconst (pc := 223) dX11_done_223 ?_
        refine wp_goto (pc := 224) 228 dX11_done_224 (by decide) ?_
        refine wp_callS (pc := 228) (st := []) (nf' := 153) [vI 1] [some (vI 1)] dX11_done_228 rfl c_X11_320 rfl rfl (Nat.le_of_ble_eq_true rfl) rfl (Nat.le_of_ble_eq_true rfl) (by omega) (Nat.le_refl _) (Nat.le_refl _) ?_
        refine wp_iload_n (pc := 0) 0 dX11_truth_0 rfl rfl ?_
        refine wp_if_eq (pc := 1) 8 dX11_truth_1 (by decide) (by decide) (fun hh => absurd hh (by decide)) (fun _ => ?_)
        refine wp_iconst (pc := 4) dX11_truth_4 ?_
        refine wp_goto (pc := 5) 9 dX11_truth_5 (by decide) ?_
        refine wp_iret (pc := 9) dX11_truth_9 rfl rfl ?_
        refine wp_eqst (st' := [vI 1]) rfl ?_
        refine wp_iret (pc := 231) dX11_done_231 rfl rfl ?_
        exfalso; omega
  by_cases h_24 : a = 56
  · refine wp_tin (pc := 1) 19 215 dX11_done_1 (by omega) (by rw [h_24]; decide) (by decide) rfl (by decide) ?_
    refine wp_iload_n (pc := 215) 1 dX11_done_215 rfl rfl ?_
    refine wp_if_ne (pc := 216) 223 dX11_done_216 (by decide) (by omega) (fun h_60 => ?_) (fun h_60 => ?_)
    · refine wp_iconst (pc := 223) dX11_done_223 ?_
      refine wp_goto (pc := 224) 228 dX11_done_224 (by decide) ?_
      refine wp_callS (pc := 228) (st := []) (nf' := 153) [vI 1] [some (vI 1)] dX11_done_228 rfl c_X11_320 rfl rfl (Nat.le_of_ble_eq_true rfl) rfl (Nat.le_of_ble_eq_true rfl) (by omega) (Nat.le_refl _) (Nat.le_refl _) ?_
      refine wp_iload_n (pc := 0) 0 dX11_truth_0 rfl rfl ?_
      refine wp_if_eq (pc := 1) 8 dX11_truth_1 (by decide) (by decide) (fun hh => absurd hh (by decide)) (fun _ => ?_)
      refine wp_iconst (pc := 4) dX11_truth_4 ?_
      refine wp_goto (pc := 5) 9 dX11_truth_5 (by decide) ?_
      refine wp_iret (pc := 9) dX11_truth_9 rfl rfl ?_
      refine wp_eqst (st' := [vI 1]) rfl ?_
      refine wp_iret (pc := 231) dX11_done_231 rfl rfl ?_
      exfalso; omega
    · refine wp_iload_n (pc := 219) 2 dX11_done_219 rfl rfl ?_
      refine wp_if_eq (pc := 220) 227 dX11_done_220 (by decide) (by omega) (fun h_61 => ?_) (fun h_61 => ?_)
      · refine wp_iconst (pc := 227) dX11_done_227 ?_
        refine wp_callS (pc := 228) (st := []) (nf' := 153) [vI 0] [some (vI 0)] dX11_done_228 rfl c_X11_320 rfl rfl (Nat.le_of_ble_eq_true rfl) rfl (Nat.le_of_ble_eq_true rfl) (by omega) (Nat.le_refl _) (Nat.le_refl _) ?_
        refine wp_iload_n (pc := 0) 0 dX11_truth_0 rfl rfl ?_
        refine wp_if_eq (pc := 1) 8 dX11_truth_1 (by decide) (by decide) (fun _ => ?_) (fun hh => absurd hh (by decide))
        refine wp_iconst (pc := 8) dX11_truth_8 ?_
        refine wp_iret (pc := 9) dX11_truth_9 rfl rfl ?_
        refine wp_eqst (st' := [vI 0]) rfl ?_
        refine wp_iret (pc := 231) dX11_done_231 rfl rfl ?_
        exfalso; omega
      · refine wp_iconst (pc := 223) dX11_done_223 ?_
        refine wp_goto (pc := 224) 228 dX11_done_224 (by decide) ?_
        refine wp_callS (pc := 228) (st := []) (nf' := 153) [vI 1] [some (vI 1)] dX11_done_228 rfl c_X11_320 rfl rfl (Nat.le_of_ble_eq_true rfl) rfl (Nat.le_of_ble_eq_true rfl) (by omega) (Nat.le_refl _) (Nat.le_refl _) ?_
        refine wp_iload_n (pc := 0) 0 dX11_truth_0 rfl rfl ?_
        refine wp_if_eq (pc := 1) 8 dX11_truth_1 (by decide) (by decide) (fun hh => absurd hh (by decide)) (fun _ => ?_)
        refine wp_iconst (pc := 4) dX11_truth_4 ?_
        refine wp_goto (pc := 5) 9 dX11_truth_5 (by decide) ?_
        refine wp_iret (pc := 9) dX11_truth_9 rfl rfl ?_
        refine wp_eqst (st' := [vI 1]) rfl ?_
        refine wp_iret (pc := 231) dX11_done_231 rfl rfl ?_
        exfalso; omega
  by_cases h_25 : a = 57
  · refine wp_tin (pc := 1) 20 215 dX11_done_1 (by omega) (by rw [h_25]; decide) (by decide) rfl (by decide) ?_
    refine wp_iload_n (pc := 215) 1 dX11_done_215 rfl rfl ?_
    refine wp_if_ne (pc := 216) 223 dX11_done_216 (by decide) (by omega) (fun h_62 => ?_) (fun h_62 => ?_)
    · refine wp_iconst (pc := 223) dX11_done_223 ?_
      refine wp_goto (pc := 224) 228 dX11_done_224 (by decide) ?_
      refine wp_callS (pc := 228) (st := []) (nf' := 153) [vI 1] [some (vI 1)] dX11_done_228 rfl c_X11_320 rfl rfl (Nat.le_of_ble_eq_true rfl) rfl (Nat.le_of_ble_eq_true rfl) (by omega) (Nat.le_refl _) (Nat.le_refl _) ?_
      refine wp_iload_n (pc := 0) 0 dX11_truth_0 rfl rfl ?_
      refine wp_if_eq (pc := 1) 8 dX11_truth_1 (by decide) (by decide) (fun hh => absurd hh (by decide)) (fun _ => ?_)
      refine wp_iconst (pc := 4) dX11_truth_4 ?_
      refine wp_goto (pc := 5) 9 dX11_truth_5 (by decide) ?_
      refine wp_iret (pc := 9) dX11_truth_9 rfl rfl ?_
      refine wp_eqst (st' := [vI 1]) rfl ?_
      refine wp_iret (pc := 231) dX11_done_231 rfl rfl ?_
      exfalso; omega
    · refine wp_iload_n (pc := 219) 2 dX11_done_219 rfl rfl ?_
      refine wp_if_eq (pc := 220) 227 dX11_done_220 (by decide) (by omega) (fun h_63 => ?_) (fun h_63 => ?_)
      · refine wp_iconst (pc := 227) dX11_done_227 ?_
        refine wp_callS (pc := 228) (st := []) (nf' := 153) [vI 0] [some (vI 0)] dX11_done_228 rfl c_X11_320 rfl rfl (Nat.le_of_ble_eq_true rfl) rfl (Nat.le_of_ble_eq_true rfl) (by omega) (Nat.le_refl _) (Nat.le_refl _) ?_
        refine wp_iload_n (pc := 0) 0 dX11_truth_0 rfl rfl ?_
        refine wp_if_eq (pc := 1) 8 dX11_truth_1 (by decide) (by decide) (fun _ => ?_) (fun hh => absurd hh (by decide))
        refine wp_iconst (pc := 8) dX11_truth_8 ?_
        refine wp_iret (pc := 9) dX11_truth_9 rfl rfl ?_
        refine wp_eqst (st' := [vI 0]) rfl ?_
        refine wp_iret (pc := 231) dX11_done_231 rfl rfl ?_
        exfalso; omega
      · refine wp_iconst (pc := 223) dX11_done_223 ?_
        refine wp_goto (pc := 224) 228 dX11_done_224 (by decide) ?_
        refine wp_callS (pc := 228) (st := []) (nf' := 153) [vI 1] [some (vI 1)] dX11_done_228 rfl c_X11_320 rfl rfl (Nat.le_of_ble_eq_true rfl) rfl (Nat.le_of_ble_eq_true rfl) (by omega) (Nat.le_refl _) (Nat.le_refl _) ?_
        refine wp_iload_n (pc := 0) 0 dX11_truth_0 rfl rfl ?_
        refine wp_if_eq (pc := 1) 8 dX11_truth_1 (by decide) (by decide) (fun hh => absurd hh (by decide)) (fun _ => ?_)
        refine wp_iconst (pc := 4) dX11_truth_4 ?_
        refine wp_goto (pc := 5) 9 dX11_truth_5 (by decide) ?_
        refine wp_iret (pc := 9) dX11_truth_9 rfl rfl ?_
        refine wp_eqst (st' := [vI 1]) rfl ?_
        refine wp_iret (pc := 231) dX11_done_231 rfl rfl ?_
        exfalso; omega
  by_cases h_26 : a = 58
  · refine wp_tin (pc := 1) 21 215 dX11_done_1 (by omega) (by rw [h_26]; decide) (by decide) rfl (by decide) ?_
    refine wp_iload_n (pc := 215) 1 dX11_done_215 rfl rfl ?_
    refine wp_if_ne (pc := 216) 223 dX11_done_216 (by decide) (by omega) (fun h_64 => ?_) (fun h_64 => ?_)
    · refine wp_iconst (pc := 223) dX11_done_223 ?_
      refine wp_goto (pc := 224) 228 dX11_done_224 (by decide) ?_
      refine wp_callS (pc := 228) (st := []) (nf' := 153) [vI 1] [some (vI 1)] dX11_done_228 rfl c_X11_320 rfl rfl (Nat.le_of_ble_eq_true rfl) rfl (Nat.le_of_ble_eq_true rfl) (by omega) (Nat.le_refl _) (Nat.le_refl _) ?_
      refine wp_iload_n (pc := 0) 0 dX11_truth_0 rfl rfl ?_
      refine wp_if_eq (pc := 1) 8 dX11_truth_1 (by decide) (by decide) (fun hh => absurd hh (by decide)) (fun _ => ?_)
      refine wp_iconst (pc := 4) dX11_truth_4 ?_
      refine wp_goto (pc := 5) 9 dX11_truth_5 (by decide) ?_
      refine wp_iret (pc := 9) dX11_truth_9 rfl rfl ?_
      refine wp_eqst (st' := [vI 1]) rfl ?_
      refine wp_iret (pc := 231) dX11_done_231 rfl rfl ?_
      exfalso; omega
    · refine wp_iload_n (pc := 219) 2 dX11_done_219 rfl rfl ?_
      refine wp_if_eq (pc := 220) 227 dX11_done_220 (by decide) (by omega) (fun h_65 => ?_) (fun h_65 => ?_)
      · refine wp_iconst (pc := 227) dX11_done_227 ?_
        refine wp_callS (pc := 228) (st := []) (nf' := 153) [vI 0] [some (vI 0)] dX11_done_228 rfl c_X11_320 rfl rfl (Nat.le_of_ble_eq_true rfl) rfl (Nat.le_of_ble_eq_true rfl) (by omega) (Nat.le_refl _) (Nat.le_refl _) ?_
        refine wp_iload_n (pc := 0) 0 dX11_truth_0 rfl rfl ?_
        refine wp_if_eq (pc := 1) 8 dX11_truth_1 (by decide) (by decide) (fun _ => ?_) (fun hh => absurd hh (by decide))
        refine wp_iconst (pc := 8) dX11_truth_8 ?_
        refine wp_iret (pc := 9) dX11_truth_9 rfl rfl ?_
        refine wp_eqst (st' := [vI 0]) rfl ?_
        refine wp_iret (pc := 231) dX11_done_231 rfl rfl ?_
        exfalso; omega
      · refine wp_iconst (pc := 223) dX11_done_223 ?_
        refine wp_goto (pc := 224) 228 dX11_done_224 (by decide) ?_
        refine wp_callS (pc := 228) (st := []) (nf' := 153) [vI 1] [some (vI 1)] dX11_done_228 rfl c_X11_320 rfl rfl (Nat.le_of_ble_eq_true rfl) rfl (Nat.le_of_ble_eq_true rfl) (by omega) (Nat.le_refl _) (Nat.le_refl _) ?_
        refine wp_iload_n (pc := 0) 0 dX11_truth_0 rfl rfl ?_
        refine wp_if_eq (pc := 1) 8 dX11_truth_1 (by decide) (by decide) (fun hh => absurd hh (by decide)) (fun _ => ?_)
        refine wp_iconst (pc := 4) dX11_truth_4 ?_
        refine wp_goto (pc := 5) 9 dX11_truth_5 (by decide) ?_
        refine wp_iret (pc := 9) dX11_truth_9 rfl rfl ?_
        refine wp_eqst (st' := [vI 1]) rfl ?_
        refine wp_iret (pc := 231) dX11_done_231 rfl rfl ?_
        exfalso; omega
  by_cases h_27 : a = 59
  · refine wp_tin (pc := 1) 22 215 dX11_done_1 (by omega) (by rw [h_27]; decide) (by decide) rfl (by decide) ?_
    refine wp_iload_n (pc := 215) 1 dX11_done_215 rfl rfl ?_
    refine wp_if_ne (pc := 216) 223 dX11_done_216 (by decide) (by omega) (fun h_66 => ?_) (fun h_66 => ?_)
    · refine wp_iconst (pc := 223) dX11_done_223 ?_
      refine wp_goto (pc := 224) 228 dX11_done_224 (by decide) ?_
      refine wp_callS (pc := 228) (st := []) (nf' := 153) [vI 1] [some (vI 1)] dX11_done_228 rfl c_X11_320 rfl rfl (Nat.le_of_ble_eq_true rfl) rfl (Nat.le_of_ble_eq_true rfl) (by omega) (Nat.le_refl _) (Nat.le_refl _) ?_
      refine wp_iload_n (pc := 0) 0 dX11_truth_0 rfl rfl ?_
      refine wp_if_eq (pc := 1) 8 dX11_truth_1 (by decide) (by decide) (fun hh => absurd hh (by decide)) (fun _ => ?_)
      refine wp_iconst (pc := 4) dX11_truth_4 ?_
      refine wp_goto (pc := 5) 9 dX11_truth_5 (by decide) ?_
      refine wp_iret (pc := 9) dX11_truth_9 rfl rfl ?_
      refine wp_eqst (st' := [vI 1]) rfl ?_
      refine wp_iret (pc := 231) dX11_done_231 rfl rfl ?_
      exfalso; omega
    · refine wp_iload_n (pc := 219) 2 dX11_done_219 rfl rfl ?_
      refine wp_if_eq (pc := 220) 227 dX11_done_220 (by decide) (by omega) (fun h_67 => ?_) (fun h_67 => ?_)
      · refine wp_iconst (pc := 227) dX11_done_227 ?_
        refine wp_callS (pc := 228) (st := []) (nf' := 153) [vI 0] [some (vI 0)] dX11_done_228 rfl c_X11_320 rfl rfl (Nat.le_of_ble_eq_true rfl) rfl (Nat.le_of_ble_eq_true rfl) (by omega) (Nat.le_refl _) (Nat.le_refl _) ?_
        refine wp_iload_n (pc := 0) 0 dX11_truth_0 rfl rfl ?_
        refine wp_if_eq (pc := 1) 8 dX11_truth_1 (by decide) (by decide) (fun _ => ?_) (fun hh => absurd hh (by decide))
        refine wp_iconst (pc := 8) dX11_truth_8 ?_
        refine wp_iret (pc := 9) dX11_truth_9 rfl rfl ?_
        refine wp_eqst (st' := [vI 0]) rfl ?_
        refine wp_iret (pc := 231) dX11_done_231 rfl rfl ?_
        exfalso; omega
      · refine wp_iconst (pc := 223) dX11_done_223 ?_
        refine wp_goto (pc := 224) 228 dX11_done_224 (by decide) ?_
        refine wp_callS (pc := 228) (st := []) (nf' := 153) [vI 1] [some (vI 1)] dX11_done_228 rfl c_X11_320 rfl rfl (Nat.le_of_ble_eq_true rfl) rfl (Nat.le_of_ble_eq_true rfl) (by omega) (Nat.le_refl _) (Nat.le_refl _) ?_
        refine wp_iload_n (pc := 0) 0 dX11_truth_0 rfl rfl ?_
        refine wp_if_eq (pc := 1) 8 dX11_truth_1 (by decide) (by decide) (fun hh => absurd hh (by decide)) (fun _ => ?_)
        refine wp_iconst (pc := 4) dX11_truth_4 ?_
        refine wp_goto (pc := 5) 9 dX11_truth_5 (by decide) ?_
        refine wp_iret (pc := 9) dX11_truth_9 rfl rfl ?_
        refine wp_eqst (st' := [vI 1]) rfl ?_
        refine wp_iret (pc := 231) dX11_done_231 rfl rfl ?_
        exfalso; omega
  refine wp_tout (pc := 1) 215 dX11_done_1 (by omega) (by omega) (by decide) ?_
  refine wp_iload_n (pc := 215) 1 dX11_done_215 rfl rfl ?_
  refine wp_if_ne (pc := 216) 223 dX11_done_216 (by decide) (by omega) (fun h_68 => ?_) (fun h_68 => ?_)
  · refine wp_iconst (pc := 223) dX11_done_223 ?_
    refine wp_goto (pc := 224) 228 dX11_done_224 (by decide) ?_
    refine wp_callS (pc := 228) (st := []) (nf' := 153) [vI 1] [some (vI 1)] dX11_done_228 rfl c_X11_320 rfl rfl (Nat.le_of_ble_eq_true rfl) rfl (Nat.le_of_ble_eq_true rfl) (by omega) (Nat.le_refl _) (Nat.le_refl _) ?_
    refine wp_iload_n (pc := 0) 0 dX11_truth_0 rfl rfl ?_
    refine wp_if_eq (pc := 1) 8 dX11_truth_1 (by decide) (by decide) (fun hh => absurd hh (by decide)) (fun _ => ?_)
    refine wp_iconst (pc := 4) dX11_truth_4 ?_
    refine wp_goto (pc := 5) 9 dX11_truth_5 (by decide) ?_
    refine wp_iret (pc := 9) dX11_truth_9 rfl rfl ?_
    refine wp_eqst (st' := [vI 1]) rfl ?_
    refine wp_iret (pc := 231) dX11_done_231 rfl rfl ?_
    have hc : c = -8 := by omega
    have e1 : jn c x y = 1 := by
      rw [hc]; show truthF (x ≠ 0 ∨ y ≠ 0) = 1; unfold truthF; first | exact if_pos (by omega) | exact if_neg (by omega)
    rw [e1] at hQ; exact hQ
  · refine wp_iload_n (pc := 219) 2 dX11_done_219 rfl rfl ?_
    refine wp_if_eq (pc := 220) 227 dX11_done_220 (by decide) (by omega) (fun h_69 => ?_) (fun h_69 => ?_)
    · refine wp_iconst (pc := 227) dX11_done_227 ?_
      refine wp_callS (pc := 228) (st := []) (nf' := 153) [vI 0] [some (vI 0)] dX11_done_228 rfl c_X11_320 rfl rfl (Nat.le_of_ble_eq_true rfl) rfl (Nat.le_of_ble_eq_true rfl) (by omega) (Nat.le_refl _) (Nat.le_refl _) ?_
      refine wp_iload_n (pc := 0) 0 dX11_truth_0 rfl rfl ?_
      refine wp_if_eq (pc := 1) 8 dX11_truth_1 (by decide) (by decide) (fun _ => ?_) (fun hh => absurd hh (by decide))
      refine wp_iconst (pc := 8) dX11_truth_8 ?_
      refine wp_iret (pc := 9) dX11_truth_9 rfl rfl ?_
      refine wp_eqst (st' := [vI 0]) rfl ?_
      refine wp_iret (pc := 231) dX11_done_231 rfl rfl ?_
      have hc : c = -8 := by omega
      have e1 : jn c x y = 0 := by
        rw [hc]; show truthF (x ≠ 0 ∨ y ≠ 0) = 0; unfold truthF; first | exact if_pos (by omega) | exact if_neg (by omega)
      rw [e1] at hQ; exact hQ
    · refine wp_iconst (pc := 223) dX11_done_223 ?_
      refine wp_goto (pc := 224) 228 dX11_done_224 (by decide) ?_
      refine wp_callS (pc := 228) (st := []) (nf' := 153) [vI 1] [some (vI 1)] dX11_done_228 rfl c_X11_320 rfl rfl (Nat.le_of_ble_eq_true rfl) rfl (Nat.le_of_ble_eq_true rfl) (by omega) (Nat.le_refl _) (Nat.le_refl _) ?_
      refine wp_iload_n (pc := 0) 0 dX11_truth_0 rfl rfl ?_
      refine wp_if_eq (pc := 1) 8 dX11_truth_1 (by decide) (by decide) (fun hh => absurd hh (by decide)) (fun _ => ?_)
      refine wp_iconst (pc := 4) dX11_truth_4 ?_
      refine wp_goto (pc := 5) 9 dX11_truth_5 (by decide) ?_
      refine wp_iret (pc := 9) dX11_truth_9 rfl rfl ?_
      refine wp_eqst (st' := [vI 1]) rfl ?_
      refine wp_iret (pc := 231) dX11_done_231 rfl rfl ?_
      have hc : c = -8 := by omega
      have e1 : jn c x y = 1 := by
        rw [hc]; show truthF (x ≠ 0 ∨ y ≠ 0) = 1; unfold truthF; first | exact if_pos (by omega) | exact if_neg (by omega)
      rw [e1] at hQ; exact hQ

def heardF (T : mT) (env : Nat → Int) : Int := if 0 < (T 17 2).toNat then clamp10 (evV (T 18) (T 17 2).toNat env) else 10
theorem op_of {s a c : Int} (h : codeR s a c) (h0 : ¬ s = 0) (h1 : ¬ s = 1) (h2 : ¬ s = 2) : opR a c := by
  unfold codeR at h
  rcases h with h | h | h | h
  · exact absurd h.2.1 h0
  · exact absurd h.2.1 h1
  · exact absurd h.2 h2
  · exact h.2.2
theorem code_b {s a c : Int} (h : codeR s a c) : (0 ≤ s ∧ s ≤ 3) ∧ (s = 0 → 0 ≤ c ∧ a = c) ∧ (s = 1 → (-5 ≤ c ∧ c ≤ -2) ∧ a = -2 - c) ∧ (s = 2 → c = -6) ∧ (s = 3 → c < -6) := by
  unfold codeR at h
  omega
theorem rl_heard {l : Launch} {G : mG} {d : Nat} {I : mI} {L : Nat → Nat → Int} {D : Nat → Nat} {Q : mQ} {T : mT} {env : Nat → Int} (hX : FX I T) (hw : tw T) (hcd : ∀ j, inR (T 18 j)) (hen : ∀ j, inR (env j)) (he : ∀ j, j < 4 → I 120 j = env j) (hd : 2 ≤ d) (hQ : ∀ g, Q (some (vI (heardF T env))) (upc I 119 g) (XX L D)) : ∀ i : Nat, i ≤ (T 17 2).toNat → WP l G m_X11_heard d 153 (upc I 119 (evN (T 18) env (setF (I 119) 0 10) i).1) (XX L D) 12 [some (vR 111), some (vI (((evN (T 18) env (setF (I 119) 0 10) i).2 : Nat) : Int)), some (vI (i : Int))] [] Q := by
  have b0 := tw_len hw
  refine loop_dn (fun i => WP l G m_X11_heard d 153 (upc I 119 (evN (T 18) env (setF (I 119) 0 10) i).1) (XX L D) 12 [some (vR 111), some (vI (((evN (T 18) env (setF (I 119) 0 10) i).2 : Nat) : Int)), some (vI (i : Int))] [] Q) (T 17 2).toNat ?_ (fun i hi ih => ?_)
  · obtain ⟨hn, hg⟩ := evN_in hcd hen (setF (I 119) 0 10) (T 17 2).toNat
    have hdp := evN_dp (T 18) env (setF (I 119) 0 10) (T 17 2).toNat
    have hn1 : 0 < (T 17 2).toNat → (evN (T 18) env (setF (I 119) 0 10) (T 17 2).toNat).2 = 1 := fun h => hdp.trans (hX.2.2 h)
    have h00 : (T 17 2).toNat = 0 → (evN (T 18) env (setF (I 119) 0 10) (T 17 2).toNat).1 0 = 10 := fun h => by rw [h]; rfl
    have h0b : inR ((evN (T 18) env (setF (I 119) 0 10) (T 17 2).toNat).1 0) := by
      by_cases hl : 0 < (T 17 2).toNat
      · exact hg 0 (by rw [hn1 hl]; decide)
      · rw [h00 (by omega)]; decide
    generalize hgn : evN (T 18) env (setF (I 119) 0 10) (T 17 2).toNat = sgn at hn hg hn1 h00 h0b ⊢
    obtain ⟨g, n⟩ := sgn
    dsimp only at hn hg hn1 h00 h0b ⊢
    refine wp_iload_n (pc := 12) 2 dX11_heard_12 rfl rfl ?_
    refine wp_aload_n (pc := 13) 0 dX11_heard_13 rfl rfl ?_
    refine wp_geti (pc := 14) dX11_heard_14 rfl f_X11_324 kd_111 la_111 (Or.inl rfl) ?_
    refine wp_eqst (st' := [vI (T 17 2), vI ((((T 17 2).toNat) : Nat) : Int)]) (by rw [upc_c (by omega), hX.1]) ?_
    refine wp_icmp_ge (pc := 17) 160 dX11_heard_17 (by decide) (by omega) (by omega) (fun h_1 => ?_) (fun h_1 => ?_)
    · refine wp_aload_n (pc := 160) 0 dX11_heard_160 rfl rfl ?_
      refine wp_getr (pc := 161) dX11_heard_161 rfl f_X11_36 kd_111 la_111 rfl (r_111_16 D) ?_
      refine wp_iconst (pc := 164) dX11_heard_164 ?_
      refine wq_iald (pc := 165) 0 dX11_heard_165 kd_119 la_119 rfl (by decide) ?_
      refine wp_eqst (st' := [vI (g 0)]) (by rw [upc_s]) ?_
      refine wp_if_ge (pc := 166) 173 dX11_heard_166 (by decide) (by omega) (fun h_2 => ?_) (fun h_2 => ?_)
      · refine wp_aload_n (pc := 173) 0 dX11_heard_173 rfl rfl ?_
        refine wp_getr (pc := 174) dX11_heard_174 rfl f_X11_36 kd_111 la_111 rfl (r_111_16 D) ?_
        refine wp_iconst (pc := 177) dX11_heard_177 ?_
        refine wq_iald (pc := 178) 0 dX11_heard_178 kd_119 la_119 rfl (by decide) ?_
        refine wp_eqst (st' := [vI (g 0)]) (by rw [upc_s]) ?_
        refine wp_bipush (pc := 179) dX11_heard_179 (by decide) ?_
        refine wp_icmp_le (pc := 181) 189 dX11_heard_181 (by decide) (by omega) (by decide) (fun h_3 => ?_) (fun h_3 => ?_)
        · refine wp_aload_n (pc := 189) 0 dX11_heard_189 rfl rfl ?_
          refine wp_getr (pc := 190) dX11_heard_190 rfl f_X11_36 kd_111 la_111 rfl (r_111_16 D) ?_
          refine wp_iconst (pc := 193) dX11_heard_193 ?_
          refine wq_iald (pc := 194) 0 dX11_heard_194 kd_119 la_119 rfl (by decide) ?_
          refine wp_eqst (st' := [vI (g 0)]) (by rw [upc_s]) ?_
          refine wp_iret (pc := 195) dX11_heard_195 rfl rfl ?_
          have e1 : heardF T env = g 0 := by
            unfold heardF
            by_cases hl : 0 < (T 17 2).toNat
            · have n1 := hn1 hl
              subst n1
              rw [if_pos hl, evV_of (T 18) (T 17 2).toNat env (setF (I 119) 0 10), hgn]
              show clamp10 (g 0) = _
              unfold clamp10; repeat' split
              all_goals omega
            · rw [if_neg hl] <;> (have g00 := h00 (by omega); omega)
          have hq := hQ g
          rw [e1] at hq; exact hq
        · refine wp_bipush (pc := 184) dX11_heard_184 (by decide) ?_
          refine wp_goto (pc := 186) 195 dX11_heard_186 (by decide) ?_
          refine wp_iret (pc := 195) dX11_heard_195 rfl rfl ?_
          have e1 : heardF T env = 10 := by
            unfold heardF
            by_cases hl : 0 < (T 17 2).toNat
            · have n1 := hn1 hl
              subst n1
              rw [if_pos hl, evV_of (T 18) (T 17 2).toNat env (setF (I 119) 0 10), hgn]
              show clamp10 (g 0) = _
              unfold clamp10; repeat' split
              all_goals omega
            · rw [if_neg hl] <;> (have g00 := h00 (by omega); omega)
          have hq := hQ g
          rw [e1] at hq; exact hq
      · refine wp_iconst (pc := 169) dX11_heard_169 ?_
        refine wp_goto (pc := 170) 195 dX11_heard_170 (by decide) ?_
        refine wp_iret (pc := 195) dX11_heard_195 rfl rfl ?_
        have e1 : heardF T env = 0 := by
          unfold heardF
          by_cases hl : 0 < (T 17 2).toNat
          · have n1 := hn1 hl
            subst n1
            rw [if_pos hl, evV_of (T 18) (T 17 2).toNat env (setF (I 119) 0 10), hgn]
            show clamp10 (g 0) = _
            unfold clamp10; repeat' split
            all_goals omega
          · rw [if_neg hl] <;> (have g00 := h00 (by omega); omega)
        have hq := hQ g
        rw [e1] at hq; exact hq
    · exfalso; omega
  · obtain ⟨hn, hg⟩ := evN_in hcd hen (setF (I 119) 0 10) i
    have hdp := evN_dp (T 18) env (setF (I 119) 0 10) i
    obtain ⟨hcode, hdep⟩ := hX.2.1 i hi
    have hcb := code_b hcode
    rw [← hdp] at hdep
    rw [evN_s] at ih
    generalize hgn : evN (T 18) env (setF (I 119) 0 10) i = sgn at hn hg ih hdep ⊢
    obtain ⟨g, n⟩ := sgn
    dsimp only at hn hg hdep ⊢
    have b1 := hcd i
    have b2 : 1 ≤ n → inR (g (n - 1)) := fun h => hg _ (by omega)
    have b3 : 2 ≤ n → inR (g (n - 1 - 1)) := fun h => hg _ (by omega)
    have b5 : ∀ j, j < 4 → inR (I 120 j) := fun j hj => by rw [he j hj]; exact hen j
    refine wp_iload_n (pc := 12) 2 dX11_heard_12 rfl rfl ?_
    refine wp_aload_n (pc := 13) 0 dX11_heard_13 rfl rfl ?_
    refine wp_geti (pc := 14) dX11_heard_14 rfl f_X11_324 kd_111 la_111 (Or.inl rfl) ?_
    refine wp_eqst (st' := [vI (T 17 2), vI (i : Int)]) (by rw [upc_c (by omega), hX.1]) ?_
    refine wp_icmp_ge (pc := 17) 160 dX11_heard_17 (by decide) (by omega) (by omega) (fun h_1 => ?_) (fun h_1 => ?_)
    · exfalso; omega
    · refine wp_aload_n (pc := 20) 0 dX11_heard_20 rfl rfl ?_
      refine wp_getr (pc := 21) dX11_heard_21 rfl f_X11_27 kd_111 la_111 rfl (r_111_13 D) ?_
      refine wp_iload_n (pc := 24) 2 dX11_heard_24 rfl rfl ?_
      refine wq_iald (pc := 25) i dX11_heard_25 kd_116 la_116 rfl (by omega) ?_
      refine wp_eqst (st' := [vI (I 116 i)]) (by rw [upc_c (by omega)]) ?_
      refine wp_if_eq (pc := 26) 39 dX11_heard_26 (by decide) (by omega) (fun h_2 => ?_) (fun h_2 => ?_)
      · refine wp_aload_n (pc := 39) 0 dX11_heard_39 rfl rfl ?_
        refine wp_getr (pc := 40) dX11_heard_40 rfl f_X11_36 kd_111 la_111 rfl (r_111_16 D) ?_
        refine wp_iload_n (pc := 43) 1 dX11_heard_43 rfl rfl ?_
        refine wp_aload_n (pc := 44) 0 dX11_heard_44 rfl rfl ?_
        refine wp_getr (pc := 45) dX11_heard_45 rfl f_X11_27 kd_111 la_111 rfl (r_111_13 D) ?_
        refine wp_iload_n (pc := 48) 2 dX11_heard_48 rfl rfl ?_
        refine wq_iald (pc := 49) i dX11_heard_49 kd_116 la_116 rfl (by omega) ?_
        refine wp_eqst (st' := [vI (I 116 i), vI (n : Int), vR 119]) (by rw [upc_c (by omega)]) ?_
        refine wp_if_ne (pc := 50) 62 dX11_heard_50 (by decide) (by omega) (fun h_3 => ?_) (fun h_3 => ?_)
        · refine wp_aload_n (pc := 62) 0 dX11_heard_62 rfl rfl ?_
          refine wp_getr (pc := 63) dX11_heard_63 rfl f_X11_39 kd_111 la_111 rfl (r_111_24 D) ?_
          refine wp_aload_n (pc := 66) 0 dX11_heard_66 rfl rfl ?_
          refine wp_getr (pc := 67) dX11_heard_67 rfl f_X11_30 kd_111 la_111 rfl (r_111_14 D) ?_
          refine wp_iload_n (pc := 70) 2 dX11_heard_70 rfl rfl ?_
          refine wq_iald (pc := 71) i dX11_heard_71 kd_117 la_117 rfl (by omega) ?_
          refine wp_eqst (st' := [vI (I 117 i), vR 120, vI (n : Int), vR 119]) (by rw [upc_c (by omega)]) ?_
          refine wq_iald (pc := 72) (Int.toNat (I 117 i)) dX11_heard_72 kd_120 la_120 (by omega) (by omega) ?_
          refine wp_eqst (st' := [vI (I 120 (Int.toNat (I 117 i))), vI (n : Int), vR 119]) (by rw [upc_c (by omega)]) ?_
          refine wq_iast (pc := 73) n dX11_heard_73 kd_119 la_119 rfl (by omega) ?_
          refine wq_iinc (pc := 74) [some (vR 111), some (vI ((n : Int) + 1)), some (vI (i : Int))] dX11_heard_74 rfl rfl (by decide) rfl ?_
          refine wp_goto (pc := 77) 154 dX11_heard_77 (by decide) ?_
          refine wq_iinc (pc := 154) [some (vR 111), some (vI ((n : Int) + 1)), some (vI ((i : Int) + 1))] dX11_heard_154 rfl rfl (by decide) rfl ?_
          refine wp_goto (pc := 157) 12 dX11_heard_157 (by decide) ?_
          exfalso; omega
        · refine wp_aload_n (pc := 53) 0 dX11_heard_53 rfl rfl ?_
          refine wp_getr (pc := 54) dX11_heard_54 rfl f_X11_30 kd_111 la_111 rfl (r_111_14 D) ?_
          refine wp_iload_n (pc := 57) 2 dX11_heard_57 rfl rfl ?_
          refine wq_iald (pc := 58) i dX11_heard_58 kd_117 la_117 rfl (by omega) ?_
          refine wp_eqst (st' := [vI (I 117 i), vI (n : Int), vR 119]) (by rw [upc_c (by omega)]) ?_
          refine wp_goto (pc := 59) 73 dX11_heard_59 (by decide) ?_
          refine wq_iast (pc := 73) n dX11_heard_73 kd_119 la_119 rfl (by omega) ?_
          refine wq_iinc (pc := 74) [some (vR 111), some (vI ((n : Int) + 1)), some (vI (i : Int))] dX11_heard_74 rfl rfl (by decide) rfl ?_
          refine wp_goto (pc := 77) 154 dX11_heard_77 (by decide) ?_
          refine wq_iinc (pc := 154) [some (vR 111), some (vI ((n : Int) + 1)), some (vI ((i : Int) + 1))] dX11_heard_154 rfl rfl (by decide) rfl ?_
          refine wp_goto (pc := 157) 12 dX11_heard_157 (by decide) ?_
          rw [nrm_b]
          rw [evStep_a (by omega) (by omega)] at ih
          have ev : lfF env (T 18 i) = I 117 i := by rw [lfF_num (by omega)]; omega
          rw [ev] at ih
          exact ih
      · refine wp_aload_n (pc := 29) 0 dX11_heard_29 rfl rfl ?_
        refine wp_getr (pc := 30) dX11_heard_30 rfl f_X11_27 kd_111 la_111 rfl (r_111_13 D) ?_
        refine wp_iload_n (pc := 33) 2 dX11_heard_33 rfl rfl ?_
        refine wq_iald (pc := 34) i dX11_heard_34 kd_116 la_116 rfl (by omega) ?_
        refine wp_eqst (st' := [vI (I 116 i)]) (by rw [upc_c (by omega)]) ?_
        refine wp_iconst (pc := 35) dX11_heard_35 ?_
        refine wp_icmp_ne (pc := 36) 80 dX11_heard_36 (by decide) (by omega) (by decide) (fun h_4 => ?_) (fun h_4 => ?_)
        · refine wp_aload_n (pc := 80) 0 dX11_heard_80 rfl rfl ?_
          refine wp_getr (pc := 81) dX11_heard_81 rfl f_X11_27 kd_111 la_111 rfl (r_111_13 D) ?_
          refine wp_iload_n (pc := 84) 2 dX11_heard_84 rfl rfl ?_
          refine wq_iald (pc := 85) i dX11_heard_85 kd_116 la_116 rfl (by omega) ?_
          refine wp_eqst (st' := [vI (I 116 i)]) (by rw [upc_c (by omega)]) ?_
          refine wp_iconst (pc := 86) dX11_heard_86 ?_
          refine wp_icmp_ne (pc := 87) 120 dX11_heard_87 (by decide) (by omega) (by decide) (fun h_5 => ?_) (fun h_5 => ?_)
          · refine wq_iinc (pc := 120) [some (vR 111), some (vI ((n : Int) + (-1))), some (vI (i : Int))] dX11_heard_120 rfl rfl (by decide) rfl ?_
            refine wp_aload_n (pc := 123) 0 dX11_heard_123 rfl rfl ?_
            refine wp_getr (pc := 124) dX11_heard_124 rfl f_X11_36 kd_111 la_111 rfl (r_111_16 D) ?_
            refine wp_iload_n (pc := 127) 1 dX11_heard_127 rfl rfl ?_
            refine wp_iconst (pc := 128) dX11_heard_128 ?_
            refine wp_isub (pc := 129) dX11_heard_129 ?_
            refine wp_aload_n (pc := 130) 0 dX11_heard_130 rfl rfl ?_
            refine wp_getr (pc := 131) dX11_heard_131 rfl f_X11_30 kd_111 la_111 rfl (r_111_14 D) ?_
            refine wp_iload_n (pc := 134) 2 dX11_heard_134 rfl rfl ?_
            refine wq_iald (pc := 135) i dX11_heard_135 kd_117 la_117 rfl (by omega) ?_
            refine wp_eqst (st' := [vI (I 117 i), vI (((n : Int) + (-1)) - 1), vR 119]) (by rw [upc_c (by omega)]) ?_
            refine wp_aload_n (pc := 136) 0 dX11_heard_136 rfl rfl ?_
            refine wp_getr (pc := 137) dX11_heard_137 rfl f_X11_36 kd_111 la_111 rfl (r_111_16 D) ?_
            refine wp_iload_n (pc := 140) 1 dX11_heard_140 rfl rfl ?_
            refine wp_iconst (pc := 141) dX11_heard_141 ?_
            refine wp_isub (pc := 142) dX11_heard_142 ?_
            refine wq_iald (pc := 143) ((n - 1) - 1) dX11_heard_143 kd_119 la_119 (by omega) (by omega) ?_
            refine wp_eqst (st' := [vI (g ((n - 1) - 1)), vI (I 117 i), vI (((n : Int) + (-1)) - 1), vR 119]) (by rw [upc_s]) ?_
            refine wp_aload_n (pc := 144) 0 dX11_heard_144 rfl rfl ?_
            refine wp_getr (pc := 145) dX11_heard_145 rfl f_X11_36 kd_111 la_111 rfl (r_111_16 D) ?_
            refine wp_iload_n (pc := 148) 1 dX11_heard_148 rfl rfl ?_
            refine wq_iald (pc := 149) (n - 1) dX11_heard_149 kd_119 la_119 (by omega) (by omega) ?_
            refine wp_eqst (st' := [vI (g (n - 1)), vI (g ((n - 1) - 1)), vI (I 117 i), vI (((n : Int) + (-1)) - 1), vR 119]) (by rw [upc_s]) ?_
            refine wp_callS (pc := 150) (st := [vI (((n : Int) + (-1)) - 1), vR 119]) (nf' := 153) [vI (I 117 i), vI (g ((n - 1) - 1)), vI (g (n - 1))] [some (vI (I 117 i)), some (vI (g ((n - 1) - 1))), some (vI (g (n - 1)))] dX11_heard_150 rfl c_X11_327 rfl rfl (Nat.le_of_ble_eq_true rfl) rfl (Nat.le_of_ble_eq_true rfl) (by omega) (Nat.le_refl _) (Nat.le_refl _) ?_
            have hop := op_of hcode (by omega) (by omega) (by omega)
            refine rs_done (c := T 18 i) hop (by omega) (by omega) (by omega) ?_
            refine wp_eqst (st' := [vI (jn (T 18 i) (g ((n - 1) - 1)) (g (n - 1))), vI (((n : Int) + (-1)) - 1), vR 119]) rfl ?_
            refine wq_iast (pc := 153) ((n - 1) - 1) dX11_heard_153 kd_119 la_119 (by omega) (by omega) ?_
            refine wq_iinc (pc := 154) [some (vR 111), some (vI ((n : Int) + (-1))), some (vI ((i : Int) + 1))] dX11_heard_154 rfl rfl (by decide) rfl ?_
            refine wp_goto (pc := 157) 12 dX11_heard_157 (by decide) ?_
            rw [nrm_b]
            rw [evStep_c (by omega) (by omega) (by omega)] at ih
            refine wp_eqls (ls' := [some (vR 111), some (vI ((n - 1 : Nat) : Int)), some (vI (((i + 1) : Nat) : Int))]) (by rw [show (n : Int) + (-1) = ((n - 1 : Nat) : Int) from by omega]; rfl) ?_
            rw [show n - 1 - 1 = n - 2 from by omega]
            exact ih
          · refine wp_aload_n (pc := 90) 0 dX11_heard_90 rfl rfl ?_
            refine wp_getr (pc := 91) dX11_heard_91 rfl f_X11_36 kd_111 la_111 rfl (r_111_16 D) ?_
            refine wp_iload_n (pc := 94) 1 dX11_heard_94 rfl rfl ?_
            refine wp_iconst (pc := 95) dX11_heard_95 ?_
            refine wp_isub (pc := 96) dX11_heard_96 ?_
            refine wp_aload_n (pc := 97) 0 dX11_heard_97 rfl rfl ?_
            refine wp_getr (pc := 98) dX11_heard_98 rfl f_X11_36 kd_111 la_111 rfl (r_111_16 D) ?_
            refine wp_iload_n (pc := 101) 1 dX11_heard_101 rfl rfl ?_
            refine wp_iconst (pc := 102) dX11_heard_102 ?_
            refine wp_isub (pc := 103) dX11_heard_103 ?_
            refine wq_iald (pc := 104) (n - 1) dX11_heard_104 kd_119 la_119 (by omega) (by omega) ?_
            refine wp_eqst (st' := [vI (g (n - 1)), vI ((n : Int) - 1), vR 119]) (by rw [upc_s]) ?_
            refine wp_if_ne (pc := 105) 112 dX11_heard_105 (by decide) (by omega) (fun h_6 => ?_) (fun h_6 => ?_)
            · refine wp_iconst (pc := 112) dX11_heard_112 ?_
              refine wp_callS (pc := 113) (st := [vI ((n : Int) - 1), vR 119]) (nf' := 153) [vI 0] [some (vI 0)] dX11_heard_113 rfl c_X11_320 rfl rfl (Nat.le_of_ble_eq_true rfl) rfl (Nat.le_of_ble_eq_true rfl) (by omega) (Nat.le_refl _) (Nat.le_refl _) ?_
              refine wp_iload_n (pc := 0) 0 dX11_truth_0 rfl rfl ?_
              refine wp_if_eq (pc := 1) 8 dX11_truth_1 (by decide) (by decide) (fun _ => ?_) (fun hh => absurd hh (by decide))
              refine wp_iconst (pc := 8) dX11_truth_8 ?_
              refine wp_iret (pc := 9) dX11_truth_9 rfl rfl ?_
              refine wp_eqst (st' := [vI 0, vI ((n : Int) - 1), vR 119]) rfl ?_
              refine wq_iast (pc := 116) (n - 1) dX11_heard_116 kd_119 la_119 (by omega) (by omega) ?_
              refine wp_goto (pc := 117) 154 dX11_heard_117 (by decide) ?_
              refine wq_iinc (pc := 154) [some (vR 111), some (vI (n : Int)), some (vI ((i : Int) + 1))] dX11_heard_154 rfl rfl (by decide) rfl ?_
              refine wp_goto (pc := 157) 12 dX11_heard_157 (by decide) ?_
              rw [nrm_b]
              rw [evStep_b (by omega) (by omega) (by omega)] at ih
              first | (rw [show truthF (g (n - 1) = 0) = 1 from if_pos (by assumption)] at ih; exact ih) | (rw [show truthF (g (n - 1) = 0) = 0 from if_neg (by assumption)] at ih; exact ih)
            · refine wp_iconst (pc := 108) dX11_heard_108 ?_
              refine wp_goto (pc := 109) 113 dX11_heard_109 (by decide) ?_
              refine wp_callS (pc := 113) (st := [vI ((n : Int) - 1), vR 119]) (nf' := 153) [vI 1] [some (vI 1)] dX11_heard_113 rfl c_X11_320 rfl rfl (Nat.le_of_ble_eq_true rfl) rfl (Nat.le_of_ble_eq_true rfl) (by omega) (Nat.le_refl _) (Nat.le_refl _) ?_
              refine wp_iload_n (pc := 0) 0 dX11_truth_0 rfl rfl ?_
              refine wp_if_eq (pc := 1) 8 dX11_truth_1 (by decide) (by decide) (fun hh => absurd hh (by decide)) (fun _ => ?_)
              refine wp_iconst (pc := 4) dX11_truth_4 ?_
              refine wp_goto (pc := 5) 9 dX11_truth_5 (by decide) ?_
              refine wp_iret (pc := 9) dX11_truth_9 rfl rfl ?_
              refine wp_eqst (st' := [vI 1, vI ((n : Int) - 1), vR 119]) rfl ?_
              refine wq_iast (pc := 116) (n - 1) dX11_heard_116 kd_119 la_119 (by omega) (by omega) ?_
              refine wp_goto (pc := 117) 154 dX11_heard_117 (by decide) ?_
              refine wq_iinc (pc := 154) [some (vR 111), some (vI (n : Int)), some (vI ((i : Int) + 1))] dX11_heard_154 rfl rfl (by decide) rfl ?_
              refine wp_goto (pc := 157) 12 dX11_heard_157 (by decide) ?_
              rw [nrm_b]
              rw [evStep_b (by omega) (by omega) (by omega)] at ih
              first | (rw [show truthF (g (n - 1) = 0) = 1 from if_pos (by assumption)] at ih; exact ih) | (rw [show truthF (g (n - 1) = 0) = 0 from if_neg (by assumption)] at ih; exact ih)
        · refine wp_aload_n (pc := 39) 0 dX11_heard_39 rfl rfl ?_
          refine wp_getr (pc := 40) dX11_heard_40 rfl f_X11_36 kd_111 la_111 rfl (r_111_16 D) ?_
          refine wp_iload_n (pc := 43) 1 dX11_heard_43 rfl rfl ?_
          refine wp_aload_n (pc := 44) 0 dX11_heard_44 rfl rfl ?_
          refine wp_getr (pc := 45) dX11_heard_45 rfl f_X11_27 kd_111 la_111 rfl (r_111_13 D) ?_
          refine wp_iload_n (pc := 48) 2 dX11_heard_48 rfl rfl ?_
          refine wq_iald (pc := 49) i dX11_heard_49 kd_116 la_116 rfl (by omega) ?_
          refine wp_eqst (st' := [vI (I 116 i), vI (n : Int), vR 119]) (by rw [upc_c (by omega)]) ?_
          refine wp_if_ne (pc := 50) 62 dX11_heard_50 (by decide) (by omega) (fun h_7 => ?_) (fun h_7 => ?_)
          · refine wp_aload_n (pc := 62) 0 dX11_heard_62 rfl rfl ?_
            refine wp_getr (pc := 63) dX11_heard_63 rfl f_X11_39 kd_111 la_111 rfl (r_111_24 D) ?_
            refine wp_aload_n (pc := 66) 0 dX11_heard_66 rfl rfl ?_
            refine wp_getr (pc := 67) dX11_heard_67 rfl f_X11_30 kd_111 la_111 rfl (r_111_14 D) ?_
            refine wp_iload_n (pc := 70) 2 dX11_heard_70 rfl rfl ?_
            refine wq_iald (pc := 71) i dX11_heard_71 kd_117 la_117 rfl (by omega) ?_
            refine wp_eqst (st' := [vI (I 117 i), vR 120, vI (n : Int), vR 119]) (by rw [upc_c (by omega)]) ?_
            refine wq_iald (pc := 72) (Int.toNat (I 117 i)) dX11_heard_72 kd_120 la_120 (by omega) (by omega) ?_
            refine wp_eqst (st' := [vI (I 120 (Int.toNat (I 117 i))), vI (n : Int), vR 119]) (by rw [upc_c (by omega)]) ?_
            refine wq_iast (pc := 73) n dX11_heard_73 kd_119 la_119 rfl (by omega) ?_
            refine wq_iinc (pc := 74) [some (vR 111), some (vI ((n : Int) + 1)), some (vI (i : Int))] dX11_heard_74 rfl rfl (by decide) rfl ?_
            refine wp_goto (pc := 77) 154 dX11_heard_77 (by decide) ?_
            refine wq_iinc (pc := 154) [some (vR 111), some (vI ((n : Int) + 1)), some (vI ((i : Int) + 1))] dX11_heard_154 rfl rfl (by decide) rfl ?_
            refine wp_goto (pc := 157) 12 dX11_heard_157 (by decide) ?_
            rw [nrm_b]
            rw [evStep_a (by omega) (by omega)] at ih
            have ev : lfF env (T 18 i) = I 120 (Int.toNat (I 117 i)) := by rw [lfF_ask (by omega), ← he _ (by omega)]; congr 1; omega
            rw [ev] at ih
            exact ih
          · refine wp_aload_n (pc := 53) 0 dX11_heard_53 rfl rfl ?_
            refine wp_getr (pc := 54) dX11_heard_54 rfl f_X11_30 kd_111 la_111 rfl (r_111_14 D) ?_
            refine wp_iload_n (pc := 57) 2 dX11_heard_57 rfl rfl ?_
            refine wq_iald (pc := 58) i dX11_heard_58 kd_117 la_117 rfl (by omega) ?_
            refine wp_eqst (st' := [vI (I 117 i), vI (n : Int), vR 119]) (by rw [upc_c (by omega)]) ?_
            refine wp_goto (pc := 59) 73 dX11_heard_59 (by decide) ?_
            refine wq_iast (pc := 73) n dX11_heard_73 kd_119 la_119 rfl (by omega) ?_
            refine wq_iinc (pc := 74) [some (vR 111), some (vI ((n : Int) + 1)), some (vI (i : Int))] dX11_heard_74 rfl rfl (by decide) rfl ?_
            refine wp_goto (pc := 77) 154 dX11_heard_77 (by decide) ?_
            refine wq_iinc (pc := 154) [some (vR 111), some (vI ((n : Int) + 1)), some (vI ((i : Int) + 1))] dX11_heard_154 rfl rfl (by decide) rfl ?_
            refine wp_goto (pc := 157) 12 dX11_heard_157 (by decide) ?_
            exfalso; omega

theorem rs_heard {l : Launch} {G : mG} {d : Nat} {I : mI} {L : Nat → Nat → Int} {D : Nat → Nat} {Q : mQ} {T : mT} {env : Nat → Int}  (hX : FX I T) (hw : tw T) (hcd : ∀ j, inR (T 18 j)) (hen : ∀ j, inR (env j)) (he : ∀ j, j < 4 → I 120 j = env j) (hd : 2 ≤ d) (hQ : ∀ g, Q (some (vI (heardF T env))) (upc I 119 g) (XX L D)) : WP l G m_X11_heard d 153 I (XX L D) 0 [some (vR 111), none, none] [] Q := by
  refine wp_iconst (pc := 0) dX11_heard_0 ?_
  refine wq_istore_n (pc := 1) 1 [some (vR 111), some (vI 0), none] dX11_heard_1 rfl rfl (by decide) rfl ?_
  refine wp_aload_n (pc := 2) 0 dX11_heard_2 rfl rfl ?_
  refine wp_getr (pc := 3) dX11_heard_3 rfl f_X11_36 kd_111 la_111 rfl (r_111_16 D) ?_
  refine wp_iconst (pc := 6) dX11_heard_6 ?_
  refine wp_bipush (pc := 7) dX11_heard_7 (by decide) ?_
  refine wq_iast (pc := 9) 0 dX11_heard_9 kd_119 la_119 rfl (by decide) ?_
  refine wp_iconst (pc := 10) dX11_heard_10 ?_
  refine wq_istore_n (pc := 11) 2 [some (vR 111), some (vI 0), some (vI 0)] dX11_heard_11 rfl rfl (by decide) rfl ?_
  refine wp_eqI (I' := upc I 119 (setF (I 119) 0 10)) (by rw [up_is]; rfl) ?_
  exact rl_heard hX hw hcd hen he hd hQ 0 (Nat.zero_le _)
