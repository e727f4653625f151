/-! the loops of the reference's town() -/
theorem lp_tw1 {l : Launch} {G : mG} {d : Nat} {J : mI} {L : Nat → Nat → Int} {D : Nat → Nat} {Q : mQ} {m : Nat} (h18 : J 111 18 = ((m : Nat) : Int)) (hm : m ≤ 320) (hd : 2 ≤ d) (hQ : ∀ K : mI, (∀ b, b ≠ 116 → b ≠ 117 → K b = J b) → (∀ k, k < m → K 116 k = J 114 k ∧ K 117 k = J 115 k) → WP l G m_X11_town d 153 K (XX L D) 120 [some (vR 111), some (vI (m : Int))] [] Q) : ∀ i, i ≤ m → ∀ K : mI, (∀ b, b ≠ 116 → b ≠ 117 → K b = J b) → (∀ k, k < i → K 116 k = J 114 k ∧ K 117 k = J 115 k) → WP l G m_X11_town d 153 K (XX L D) 82 [some (vR 111), some (vI (i : Int))] [] Q := by
  refine loop_dn (fun i => ∀ K : mI, (∀ b, b ≠ 116 → b ≠ 117 → K b = J b) → (∀ k, k < i → K 116 k = J 114 k ∧ K 117 k = J 115 k) → WP l G m_X11_town d 153 K (XX L D) 82 [some (vR 111), some (vI (i : Int))] [] Q) m ?_ (fun i hi ih => ?_)
  · intro K hK hV
    refine wp_iload_n (pc := 82) 1 dX11_town_82 rfl rfl ?_
    refine wp_aload_n (pc := 83) 0 dX11_town_83 rfl rfl ?_
    refine wp_geti (pc := 84) dX11_town_84 rfl f_X11_324 kd_111 la_111 (Or.inl rfl) ?_
    refine wp_eqst (st' := [vI ((m : Nat) : Int), vI (m : Int)]) (by rw [((congrFun (hK 111 (by decide) (by decide)) 18).trans h18)]) ?_
    refine wp_icmp_ge (pc := 87) 120 dX11_town_87 (by decide) (by omega) (by omega) (fun h_1 => ?_) (fun h_1 => ?_)
    · exact hQ K hK hV
    · exfalso; omega
  · intro K hK hV
    refine wp_iload_n (pc := 82) 1 dX11_town_82 rfl rfl ?_
    refine wp_aload_n (pc := 83) 0 dX11_town_83 rfl rfl ?_
    refine wp_geti (pc := 84) dX11_town_84 rfl f_X11_324 kd_111 la_111 (Or.inl rfl) ?_
    refine wp_eqst (st' := [vI ((m : Nat) : Int), vI (i : Int)]) (by rw [((congrFun (hK 111 (by decide) (by decide)) 18).trans h18)]) ?_
    refine wp_icmp_ge (pc := 87) 120 dX11_town_87 (by decide) (by omega) (by omega) (fun h_1 => ?_) (fun h_1 => ?_)
    · exfalso; omega
    · refine wp_aload_n (pc := 90) 0 dX11_town_90 rfl rfl ?_
      refine wp_getr (pc := 91) dX11_town_91 rfl f_X11_27 kd_111 la_111 rfl (r_111_13 D) ?_
      refine wp_iload_n (pc := 94) 1 dX11_town_94 rfl rfl ?_
      refine wp_aload_n (pc := 95) 0 dX11_town_95 rfl rfl ?_
      refine wp_getr (pc := 96) dX11_town_96 rfl f_X11_21 kd_111 la_111 rfl (r_111_11 D) ?_
      refine wp_iload_n (pc := 99) 1 dX11_town_99 rfl rfl ?_
      refine wq_iald (pc := 100) i dX11_town_100 kd_114 la_114 rfl (by omega) ?_
      refine wq_iast (pc := 101) i dX11_town_101 kd_116 la_116 rfl (by omega) ?_
      refine wp_aload_n (pc := 102) 0 dX11_town_102 rfl rfl ?_
      refine wp_getr (pc := 103) dX11_town_103 rfl f_X11_30 kd_111 la_111 rfl (r_111_14 D) ?_
      refine wp_iload_n (pc := 106) 1 dX11_town_106 rfl rfl ?_
      refine wp_aload_n (pc := 107) 0 dX11_town_107 rfl rfl ?_
      refine wp_getr (pc := 108) dX11_town_108 rfl f_X11_24 kd_111 la_111 rfl (r_111_12 D) ?_
      refine wp_iload_n (pc := 111) 1 dX11_town_111 rfl rfl ?_
      refine wq_iald (pc := 112) i dX11_town_112 kd_115 la_115 rfl (by omega) ?_
      refine wp_eqst (st' := [vI (K 115 i), vI (i : Int), vR 117]) (by rw [up_c (by omega)]) ?_
      refine wq_iast (pc := 113) i dX11_town_113 kd_117 la_117 rfl (by omega) ?_
      refine wq_iinc (pc := 114) [some (vR 111), some (vI ((i : Int) + 1))] dX11_town_114 rfl rfl (by decide) rfl ?_
      refine wp_goto (pc := 117) 82 dX11_town_117 (by decide) ?_
      refine wp_eqls (ls' := [some (vR 111), some (vI ((i + 1 : Nat) : Int))]) rfl (ih _ (fun b g116 g117 => (funext fun k => ?_).trans (hK b g116 g117)) (fun k hk => ?_))
      · rw [up_c g117, up_c g116]
      · by_cases z : k = i
        · subst z
          refine ⟨?_, ?_⟩
          · rw [up_c (by decide), up_s]; exact congrFun (hK 114 (by decide) (by decide)) _
          · rw [up_s]; exact congrFun (hK 115 (by decide) (by decide)) _
        · have hv := hV k (by omega)
          refine ⟨?_, ?_⟩
          · rw [up_c (by decide), up_j (by omega)]; exact hv.1
          · rw [up_j (by omega), up_c (by decide)]; exact hv.2

theorem lp_tw2 {l : Launch} {G : mG} {d : Nat} {J : mI} {L : Nat → Nat → Int} {D : Nat → Nat} {Q : mQ}   (hd : 2 ≤ d) (hQ : ∀ K : mI, (∀ b, b ≠ 139 → K b = J b) → (∀ k, k < 30 → K 139 k = 0) → WP l G m_X11_town d 153 K (XX L D) 141 [some (vR 111), some (vI 30)] [] Q) : ∀ i, i ≤ 30 → ∀ K : mI, (∀ b, b ≠ 139 → K b = J b) → (∀ k, k < i → K 139 k = 0) → WP l G m_X11_town d 153 K (XX L D) 122 [some (vR 111), some (vI (i : Int))] [] Q := by
  refine loop_dn (fun i => ∀ K : mI, (∀ b, b ≠ 139 → K b = J b) → (∀ k, k < i → K 139 k = 0) → WP l G m_X11_town d 153 K (XX L D) 122 [some (vR 111), some (vI (i : Int))] [] Q) 30 ?_ (fun i hi ih => ?_)
  · intro K hK hV
    refine wp_iload_n (pc := 122) 1 dX11_town_122 rfl rfl ?_
    refine wp_bipush (pc := 123) dX11_town_123 (by decide) ?_
    refine wp_icmp_ge (pc := 125) 141 dX11_town_125 (by decide) (by decide) (by decide) (fun _ => ?_) (fun hh => absurd hh (by decide))
    exact hQ K hK hV
  · intro K hK hV
    refine wp_iload_n (pc := 122) 1 dX11_town_122 rfl rfl ?_
    refine wp_bipush (pc := 123) dX11_town_123 (by decide) ?_
    refine wp_icmp_ge (pc := 125) 141 dX11_town_125 (by decide) (by omega) (by decide) (fun h_1 => ?_) (fun h_1 => ?_)
    · exfalso; omega
    · refine wp_aload_n (pc := 128) 0 dX11_town_128 rfl rfl ?_
      refine wp_getr (pc := 129) dX11_town_129 rfl f_X11_103 kd_111 la_111 rfl (r_111_60 D) ?_
      refine wp_iload_n (pc := 132) 1 dX11_town_132 rfl rfl ?_
      refine wp_iconst (pc := 133) dX11_town_133 ?_
      refine wq_iast (pc := 134) i dX11_town_134 kd_139 la_139 rfl (by omega) ?_
      refine wq_iinc (pc := 135) [some (vR 111), some (vI ((i : Int) + 1))] dX11_town_135 rfl rfl (by decide) rfl ?_
      refine wp_goto (pc := 138) 122 dX11_town_138 (by decide) ?_
      refine wp_eqls (ls' := [some (vR 111), some (vI ((i + 1 : Nat) : Int))]) rfl (ih _ (fun b g139 => (funext fun k => ?_).trans (hK b g139)) (fun k hk => ?_))
      · rw [up_c g139]
      · by_cases z : k = i
        · subst z
          skip
          rw [up_s]
        · have hv := hV k (by omega)
          skip
          rw [up_j (by omega)]; exact hv

theorem lp_tw3 {l : Launch} {G : mG} {d : Nat} {J : mI} {L : Nat → Nat → Int} {D : Nat → Nat} {Q : mQ} {np : Nat} (h51 : J 111 51 = ((np : Nat) : Int)) (hnp : np ≤ 8) (hd : 2 ≤ d) (hQ : ∀ K : mI, (∀ b, b ≠ 129 → b ≠ 130 → b ≠ 131 → b ≠ 132 → b ≠ 133 → b ≠ 137 → b ≠ 139 → K b = J b) → (∀ j, 8 ≤ j → K 139 j = J 139 j) → (∀ k, k < 8 → K 129 k = J 121 k ∧ K 130 (2 * k) = J 122 (2 * k) ∧ K 130 ((2 * k) + 1) = J 122 ((2 * k) + 1) ∧ ((J 136 k = 0 ∨ J 136 k = 1) → K 137 k = J 136 k) ∧ K 131 k = J 123 k ∧ K 132 k = J 124 k ∧ K 133 k = J 125 k ∧ K 139 k = (if k < np then J 121 k else 0)) → WP l G m_X11_town d 153 K (XX L D) 275 [some (vR 111), some (vI 8)] [] Q) : ∀ i, i ≤ 8 → ∀ K : mI, (∀ b, b ≠ 129 → b ≠ 130 → b ≠ 131 → b ≠ 132 → b ≠ 133 → b ≠ 137 → b ≠ 139 → K b = J b) → (∀ j, 8 ≤ j → K 139 j = J 139 j) → (∀ k, k < i → K 129 k = J 121 k ∧ K 130 (2 * k) = J 122 (2 * k) ∧ K 130 ((2 * k) + 1) = J 122 ((2 * k) + 1) ∧ ((J 136 k = 0 ∨ J 136 k = 1) → K 137 k = J 136 k) ∧ K 131 k = J 123 k ∧ K 132 k = J 124 k ∧ K 133 k = J 125 k ∧ K 139 k = (if k < np then J 121 k else 0)) → WP l G m_X11_town d 153 K (XX L D) 143 [some (vR 111), some (vI (i : Int))] [] Q := by
  refine loop_dn (fun i => ∀ K : mI, (∀ b, b ≠ 129 → b ≠ 130 → b ≠ 131 → b ≠ 132 → b ≠ 133 → b ≠ 137 → b ≠ 139 → K b = J b) → (∀ j, 8 ≤ j → K 139 j = J 139 j) → (∀ k, k < i → K 129 k = J 121 k ∧ K 130 (2 * k) = J 122 (2 * k) ∧ K 130 ((2 * k) + 1) = J 122 ((2 * k) + 1) ∧ ((J 136 k = 0 ∨ J 136 k = 1) → K 137 k = J 136 k) ∧ K 131 k = J 123 k ∧ K 132 k = J 124 k ∧ K 133 k = J 125 k ∧ K 139 k = (if k < np then J 121 k else 0)) → WP l G m_X11_town d 153 K (XX L D) 143 [some (vR 111), some (vI (i : Int))] [] Q) 8 ?_ (fun i hi ih => ?_)
  · intro K hK hR hV
    refine wp_iload_n (pc := 143) 1 dX11_town_143 rfl rfl ?_
    refine wp_bipush (pc := 144) dX11_town_144 (by decide) ?_
    refine wp_icmp_ge (pc := 146) 275 dX11_town_146 (by decide) (by decide) (by decide) (fun _ => ?_) (fun hh => absurd hh (by decide))
    exact hQ K hK hR hV
  · intro K hK hR hV
    refine wp_iload_n (pc := 143) 1 dX11_town_143 rfl rfl ?_
    refine wp_bipush (pc := 144) dX11_town_144 (by decide) ?_
    refine wp_icmp_ge (pc := 146) 275 dX11_town_146 (by decide) (by omega) (by decide) (fun h_1 => ?_) (fun h_1 => ?_)
    · exfalso; omega
    · refine wp_aload_n (pc := 149) 0 dX11_town_149 rfl rfl ?_
      refine wp_getr (pc := 150) dX11_town_150 rfl f_X11_66 kd_111 la_111 rfl (r_111_33 D) ?_
      refine wp_iload_n (pc := 153) 1 dX11_town_153 rfl rfl ?_
      refine wp_aload_n (pc := 154) 0 dX11_town_154 rfl rfl ?_
      refine wp_getr (pc := 155) dX11_town_155 rfl f_X11_42 kd_111 la_111 rfl (r_111_25 D) ?_
      refine wp_iload_n (pc := 158) 1 dX11_town_158 rfl rfl ?_
      refine wq_iald (pc := 159) i dX11_town_159 kd_121 la_121 rfl (by omega) ?_
      refine wq_iast (pc := 160) i dX11_town_160 kd_129 la_129 rfl (by omega) ?_
      refine wp_aload_n (pc := 161) 0 dX11_town_161 rfl rfl ?_
      refine wp_getr (pc := 162) dX11_town_162 rfl f_X11_69 kd_111 la_111 rfl (r_111_34 D) ?_
      refine wp_iconst (pc := 165) dX11_town_165 ?_
      refine wp_iload_n (pc := 166) 1 dX11_town_166 rfl rfl ?_
      refine wp_imul (pc := 167) dX11_town_167 ?_
      refine wp_aload_n (pc := 168) 0 dX11_town_168 rfl rfl ?_
      refine wp_getr (pc := 169) dX11_town_169 rfl f_X11_45 kd_111 la_111 rfl (r_111_26 D) ?_
      refine wp_iconst (pc := 172) dX11_town_172 ?_
      refine wp_iload_n (pc := 173) 1 dX11_town_173 rfl rfl ?_
      refine wp_imul (pc := 174) dX11_town_174 ?_
      refine wq_iald (pc := 175) (2 * i) dX11_town_175 kd_122 la_122 (by omega) (by omega) ?_
      refine wp_eqst (st' := [vI (K 122 (2 * i)), vI (2 * (i : Int)), vR 130]) (by rw [up_c (by omega)]) ?_
      refine wq_iast (pc := 176) (2 * i) dX11_town_176 kd_130 la_130 (by omega) (by omega) ?_
      refine wp_aload_n (pc := 177) 0 dX11_town_177 rfl rfl ?_
      refine wp_getr (pc := 178) dX11_town_178 rfl f_X11_69 kd_111 la_111 rfl (r_111_34 D) ?_
      refine wp_iconst (pc := 181) dX11_town_181 ?_
      refine wp_iload_n (pc := 182) 1 dX11_town_182 rfl rfl ?_
      refine wp_imul (pc := 183) dX11_town_183 ?_
      refine wp_iconst (pc := 184) dX11_town_184 ?_
      refine wp_iadd (pc := 185) dX11_town_185 ?_
      refine wp_aload_n (pc := 186) 0 dX11_town_186 rfl rfl ?_
      refine wp_getr (pc := 187) dX11_town_187 rfl f_X11_45 kd_111 la_111 rfl (r_111_26 D) ?_
      refine wp_iconst (pc := 190) dX11_town_190 ?_
      refine wp_iload_n (pc := 191) 1 dX11_town_191 rfl rfl ?_
      refine wp_imul (pc := 192) dX11_town_192 ?_
      refine wp_iconst (pc := 193) dX11_town_193 ?_
      refine wp_iadd (pc := 194) dX11_town_194 ?_
      refine wq_iald (pc := 195) ((2 * i) + 1) dX11_town_195 kd_122 la_122 (by omega) (by omega) ?_
      refine wp_eqst (st' := [vI (K 122 ((2 * i) + 1)), vI ((2 * (i : Int)) + 1), vR 130]) (by rw [up_c (by omega), up_c (by omega)]) ?_
      refine wq_iast (pc := 196) ((2 * i) + 1) dX11_town_196 kd_130 la_130 (by omega) (by omega) ?_
      refine wp_aload_n (pc := 197) 0 dX11_town_197 rfl rfl ?_
      refine wp_getr (pc := 198) dX11_town_198 rfl f_X11_91 kd_111 la_111 rfl (r_111_41 D) ?_
      refine wp_iload_n (pc := 201) 1 dX11_town_201 rfl rfl ?_
      refine wp_aload_n (pc := 202) 0 dX11_town_202 rfl rfl ?_
      refine wp_getr (pc := 203) dX11_town_203 rfl f_X11_87 kd_111 la_111 rfl (r_111_40 D) ?_
      refine wp_iload_n (pc := 206) 1 dX11_town_206 rfl rfl ?_
      refine wq_zald (pc := 207) i dX11_town_207 kd_136 la_136 rfl (by omega) ?_
      refine wp_eqst (st' := [vI (K 136 i), vI (i : Int), vR 137]) (by rw [up_c (by omega), up_c (by omega), up_c (by omega)]) ?_
      refine wq_zast_any (pc := 208) i dX11_town_208 kd_137 la_137 rfl (by omega) (fun y hy => ?_)
      refine wp_aload_n (pc := 209) 0 dX11_town_209 rfl rfl ?_
      refine wp_getr (pc := 210) dX11_town_210 rfl f_X11_72 kd_111 la_111 rfl (r_111_35 D) ?_
      refine wp_iload_n (pc := 213) 1 dX11_town_213 rfl rfl ?_
      refine wp_aload_n (pc := 214) 0 dX11_town_214 rfl rfl ?_
      refine wp_getr (pc := 215) dX11_town_215 rfl f_X11_48 kd_111 la_111 rfl (r_111_27 D) ?_
      refine wp_iload_n (pc := 218) 1 dX11_town_218 rfl rfl ?_
      refine wq_iald (pc := 219) i dX11_town_219 kd_123 la_123 rfl (by omega) ?_
      refine wp_eqst (st' := [vI (K 123 i), vI (i : Int), vR 131]) (by rw [up_c (by omega), up_c (by omega), up_c (by omega), up_c (by omega)]) ?_
      refine wq_iast (pc := 220) i dX11_town_220 kd_131 la_131 rfl (by omega) ?_
      refine wp_aload_n (pc := 221) 0 dX11_town_221 rfl rfl ?_
      refine wp_getr (pc := 222) dX11_town_222 rfl f_X11_75 kd_111 la_111 rfl (r_111_36 D) ?_
      refine wp_iload_n (pc := 225) 1 dX11_town_225 rfl rfl ?_
      refine wp_aload_n (pc := 226) 0 dX11_town_226 rfl rfl ?_
      refine wp_getr (pc := 227) dX11_town_227 rfl f_X11_51 kd_111 la_111 rfl (r_111_28 D) ?_
      refine wp_iload_n (pc := 230) 1 dX11_town_230 rfl rfl ?_
      refine wq_iald (pc := 231) i dX11_town_231 kd_124 la_124 rfl (by omega) ?_
      refine wp_eqst (st' := [vI (K 124 i), vI (i : Int), vR 132]) (by rw [up_c (by omega), up_c (by omega), up_c (by omega), up_c (by omega), up_c (by omega)]) ?_
      refine wq_iast (pc := 232) i dX11_town_232 kd_132 la_132 rfl (by omega) ?_
      refine wp_aload_n (pc := 233) 0 dX11_town_233 rfl rfl ?_
      refine wp_getr (pc := 234) dX11_town_234 rfl f_X11_78 kd_111 la_111 rfl (r_111_37 D) ?_
      refine wp_iload_n (pc := 237) 1 dX11_town_237 rfl rfl ?_
      refine wp_aload_n (pc := 238) 0 dX11_town_238 rfl rfl ?_
      refine wp_getr (pc := 239) dX11_town_239 rfl f_X11_54 kd_111 la_111 rfl (r_111_29 D) ?_
      refine wp_iload_n (pc := 242) 1 dX11_town_242 rfl rfl ?_
      refine wq_iald (pc := 243) i dX11_town_243 kd_125 la_125 rfl (by omega) ?_
      refine wp_eqst (st' := [vI (K 125 i), vI (i : Int), vR 133]) (by rw [up_c (by omega), up_c (by omega), up_c (by omega), up_c (by omega), up_c (by omega), up_c (by omega)]) ?_
      refine wq_iast (pc := 244) i dX11_town_244 kd_133 la_133 rfl (by omega) ?_
      refine wp_aload_n (pc := 245) 0 dX11_town_245 rfl rfl ?_
      refine wp_getr (pc := 246) dX11_town_246 rfl f_X11_103 kd_111 la_111 rfl (r_111_60 D) ?_
      refine wp_iload_n (pc := 249) 1 dX11_town_249 rfl rfl ?_
      refine wp_iload_n (pc := 250) 1 dX11_town_250 rfl rfl ?_
      refine wp_aload_n (pc := 251) 0 dX11_town_251 rfl rfl ?_
      refine wp_geti (pc := 252) dX11_town_252 rfl f_X11_412 kd_111 la_111 (Or.inl rfl) ?_
      refine wp_eqst (st' := [vI ((np : Nat) : Int), vI (i : Int), vI (i : Int), vR 139]) (by rw [up_c (by omega), up_c (by omega), up_c (by omega), up_c (by omega), up_c (by omega), up_c (by omega), up_c (by omega), ((congrFun (hK 111 (by decide) (by decide) (by decide) (by decide) (by decide) (by decide) (by decide)) 51).trans h51)]) ?_
      refine wp_icmp_ge (pc := 255) 267 dX11_town_255 (by decide) (by omega) (by omega) (fun h_2 => ?_) (fun h_2 => ?_)
      · refine wp_iconst (pc := 267) dX11_town_267 ?_
        refine wq_iast (pc := 268) i dX11_town_268 kd_139 la_139 rfl (by omega) ?_
        refine wq_iinc (pc := 269) [some (vR 111), some (vI ((i : Int) + 1))] dX11_town_269 rfl rfl (by decide) rfl ?_
        refine wp_goto (pc := 272) 143 dX11_town_272 (by decide) ?_
        refine wp_eqls (ls' := [some (vR 111), some (vI ((i + 1 : Nat) : Int))]) rfl (ih _ (fun b g129 g130 g131 g132 g133 g137 g139 => (funext fun k => ?_).trans (hK b g129 g130 g131 g132 g133 g137 g139)) (fun j r0 => ?_) (fun k hk => ?_))
        · rw [up_c g139, up_c g133, up_c g132, up_c g131, up_c g137, up_c g130, up_c g130, up_c g129]
        · rw [up_j (by omega), up_c (by decide), up_c (by decide), up_c (by decide), up_c (by decide), up_c (by decide), up_c (by decide), up_c (by decide)]; exact hR j r0
        · by_cases z : k = i
          · subst z
            refine ⟨?_, ?_, ?_, ?_, ?_, ?_, ?_, ?_⟩
            · rw [up_c (by decide), up_c (by decide), up_c (by decide), up_c (by decide), up_c (by decide), up_c (by decide), up_c (by decide), up_s]; exact congrFun (hK 121 (by decide) (by decide) (by decide) (by decide) (by decide) (by decide) (by decide)) _
            · rw [up_c (by decide), up_c (by decide), up_c (by decide), up_c (by decide), up_c (by decide), up_j (by omega), up_s]; exact congrFun (hK 122 (by decide) (by decide) (by decide) (by decide) (by decide) (by decide) (by decide)) _
            · rw [up_c (by decide), up_c (by decide), up_c (by decide), up_c (by decide), up_c (by decide), up_s]; exact congrFun (hK 122 (by decide) (by decide) (by decide) (by decide) (by decide) (by decide) (by decide)) _
            · intro hp; rw [up_c (by decide), up_c (by decide), up_c (by decide), up_c (by decide), up_s]; rw [show K 136 k = J 136 k from congrFun (hK 136 (by decide) (by decide) (by decide) (by decide) (by decide) (by decide) (by decide)) _] at hy; exact hy hp
            · rw [up_c (by decide), up_c (by decide), up_c (by decide), up_s]; exact congrFun (hK 123 (by decide) (by decide) (by decide) (by decide) (by decide) (by decide) (by decide)) _
            · rw [up_c (by decide), up_c (by decide), up_s]; exact congrFun (hK 124 (by decide) (by decide) (by decide) (by decide) (by decide) (by decide) (by decide)) _
            · rw [up_c (by decide), up_s]; exact congrFun (hK 125 (by decide) (by decide) (by decide) (by decide) (by decide) (by decide) (by decide)) _
            · rw [up_s, if_neg (by omega)]
          · have hv := hV k (by omega)
            refine ⟨?_, ?_, ?_, ?_, ?_, ?_, ?_, ?_⟩
            · rw [up_c (by decide), up_c (by decide), up_c (by decide), up_c (by decide), up_c (by decide), up_c (by decide), up_c (by decide), up_j (by omega)]; exact hv.1
            · rw [up_c (by decide), up_c (by decide), up_c (by decide), up_c (by decide), up_c (by decide), up_j (by omega), up_j (by omega), up_c (by decide)]; exact hv.2.1
            · rw [up_c (by decide), up_c (by decide), up_c (by decide), up_c (by decide), up_c (by decide), up_j (by omega), up_j (by omega), up_c (by decide)]; exact hv.2.2.1
            · intro hp; rw [up_c (by decide), up_c (by decide), up_c (by decide), up_c (by decide), up_j (by omega), up_c (by decide), up_c (by decide), up_c (by decide)]; exact hv.2.2.2.1 hp
            · rw [up_c (by decide), up_c (by decide), up_c (by decide), up_j (by omega), up_c (by decide), up_c (by decide), up_c (by decide), up_c (by decide)]; exact hv.2.2.2.2.1
            · rw [up_c (by decide), up_c (by decide), up_j (by omega), up_c (by decide), up_c (by decide), up_c (by decide), up_c (by decide), up_c (by decide)]; exact hv.2.2.2.2.2.1
            · rw [up_c (by decide), up_j (by omega), up_c (by decide), up_c (by decide), up_c (by decide), up_c (by decide), up_c (by decide), up_c (by decide)]; exact hv.2.2.2.2.2.2.1
            · rw [up_j (by omega), up_c (by decide), up_c (by decide), up_c (by decide), up_c (by decide), up_c (by decide), up_c (by decide), up_c (by decide)]; exact hv.2.2.2.2.2.2.2
      · refine wp_aload_n (pc := 258) 0 dX11_town_258 rfl rfl ?_
        refine wp_getr (pc := 259) dX11_town_259 rfl f_X11_42 kd_111 la_111 rfl (r_111_25 D) ?_
        refine wp_iload_n (pc := 262) 1 dX11_town_262 rfl rfl ?_
        refine wq_iald (pc := 263) i dX11_town_263 kd_121 la_121 rfl (by omega) ?_
        refine wp_eqst (st' := [vI (K 121 i), vI (i : Int), vR 139]) (by rw [up_c (by omega), up_c (by omega), up_c (by omega), up_c (by omega), up_c (by omega), up_c (by omega), up_c (by omega)]) ?_
        refine wp_goto (pc := 264) 268 dX11_town_264 (by decide) ?_
        refine wq_iast (pc := 268) i dX11_town_268 kd_139 la_139 rfl (by omega) ?_
        refine wq_iinc (pc := 269) [some (vR 111), some (vI ((i : Int) + 1))] dX11_town_269 rfl rfl (by decide) rfl ?_
        refine wp_goto (pc := 272) 143 dX11_town_272 (by decide) ?_
        refine wp_eqls (ls' := [some (vR 111), some (vI ((i + 1 : Nat) : Int))]) rfl (ih _ (fun b g129 g130 g131 g132 g133 g137 g139 => (funext fun k => ?_).trans (hK b g129 g130 g131 g132 g133 g137 g139)) (fun j r0 => ?_) (fun k hk => ?_))
        · rw [up_c g139, up_c g133, up_c g132, up_c g131, up_c g137, up_c g130, up_c g130, up_c g129]
        · rw [up_j (by omega), up_c (by decide), up_c (by decide), up_c (by decide), up_c (by decide), up_c (by decide), up_c (by decide), up_c (by decide)]; exact hR j r0
        · by_cases z : k = i
          · subst z
            refine ⟨?_, ?_, ?_, ?_, ?_, ?_, ?_, ?_⟩
            · rw [up_c (by decide), up_c (by decide), up_c (by decide), up_c (by decide), up_c (by decide), up_c (by decide), up_c (by decide), up_s]; exact congrFun (hK 121 (by decide) (by decide) (by decide) (by decide) (by decide) (by decide) (by decide)) _
            · rw [up_c (by decide), up_c (by decide), up_c (by decide), up_c (by decide), up_c (by decide), up_j (by omega), up_s]; exact congrFun (hK 122 (by decide) (by decide) (by decide) (by decide) (by decide) (by decide) (by decide)) _
            · rw [up_c (by decide), up_c (by decide), up_c (by decide), up_c (by decide), up_c (by decide), up_s]; exact congrFun (hK 122 (by decide) (by decide) (by decide) (by decide) (by decide) (by decide) (by decide)) _
            · intro hp; rw [up_c (by decide), up_c (by decide), up_c (by decide), up_c (by decide), up_s]; rw [show K 136 k = J 136 k from congrFun (hK 136 (by decide) (by decide) (by decide) (by decide) (by decide) (by decide) (by decide)) _] at hy; exact hy hp
            · rw [up_c (by decide), up_c (by decide), up_c (by decide), up_s]; exact congrFun (hK 123 (by decide) (by decide) (by decide) (by decide) (by decide) (by decide) (by decide)) _
            · rw [up_c (by decide), up_c (by decide), up_s]; exact congrFun (hK 124 (by decide) (by decide) (by decide) (by decide) (by decide) (by decide) (by decide)) _
            · rw [up_c (by decide), up_s]; exact congrFun (hK 125 (by decide) (by decide) (by decide) (by decide) (by decide) (by decide) (by decide)) _
            · rw [up_s, if_pos (by omega)]; exact congrFun (hK 121 (by decide) (by decide) (by decide) (by decide) (by decide) (by decide) (by decide)) _
          · have hv := hV k (by omega)
            refine ⟨?_, ?_, ?_, ?_, ?_, ?_, ?_, ?_⟩
            · rw [up_c (by decide), up_c (by decide), up_c (by decide), up_c (by decide), up_c (by decide), up_c (by decide), up_c (by decide), up_j (by omega)]; exact hv.1
            · rw [up_c (by decide), up_c (by decide), up_c (by decide), up_c (by decide), up_c (by decide), up_j (by omega), up_j (by omega), up_c (by decide)]; exact hv.2.1
            · rw [up_c (by decide), up_c (by decide), up_c (by decide), up_c (by decide), up_c (by decide), up_j (by omega), up_j (by omega), up_c (by decide)]; exact hv.2.2.1
            · intro hp; rw [up_c (by decide), up_c (by decide), up_c (by decide), up_c (by decide), up_j (by omega), up_c (by decide), up_c (by decide), up_c (by decide)]; exact hv.2.2.2.1 hp
            · rw [up_c (by decide), up_c (by decide), up_c (by decide), up_j (by omega), up_c (by decide), up_c (by decide), up_c (by decide), up_c (by decide)]; exact hv.2.2.2.2.1
            · rw [up_c (by decide), up_c (by decide), up_j (by omega), up_c (by decide), up_c (by decide), up_c (by decide), up_c (by decide), up_c (by decide)]; exact hv.2.2.2.2.2.1
            · rw [up_c (by decide), up_j (by omega), up_c (by decide), up_c (by decide), up_c (by decide), up_c (by decide), up_c (by decide), up_c (by decide)]; exact hv.2.2.2.2.2.2.1
            · rw [up_j (by omega), up_c (by decide), up_c (by decide), up_c (by decide), up_c (by decide), up_c (by decide), up_c (by decide), up_c (by decide)]; exact hv.2.2.2.2.2.2.2

theorem lp_tw4 {l : Launch} {G : mG} {d : Nat} {J : mI} {L : Nat → Nat → Int} {D : Nat → Nat} {Q : mQ} {nq : Nat} (h52 : J 111 52 = ((nq : Nat) : Int)) (hnq : nq ≤ 5) (hd : 2 ≤ d) (hQ : ∀ K : mI, (∀ b, b ≠ 134 → b ≠ 135 → b ≠ 139 → K b = J b) → (∀ j, ¬ (18 ≤ j ∧ j < 18 + nq) → ¬ (23 ≤ j ∧ j < 23 + nq) → K 139 j = J 139 j) → (∀ k, k < nq → K 134 k = J 126 k ∧ K 135 k = J 127 k ∧ K 139 (18 + k) = J 128 (2 * k) ∧ K 139 (23 + k) = J 128 ((2 * k) + 1)) → WP l G m_X11_town d 153 K (XX L D) 351 [some (vR 111), some (vI (nq : Int))] [] Q) : ∀ i, i ≤ nq → ∀ K : mI, (∀ b, b ≠ 134 → b ≠ 135 → b ≠ 139 → K b = J b) → (∀ j, ¬ (18 ≤ j ∧ j < 18 + nq) → ¬ (23 ≤ j ∧ j < 23 + nq) → K 139 j = J 139 j) → (∀ k, k < i → K 134 k = J 126 k ∧ K 135 k = J 127 k ∧ K 139 (18 + k) = J 128 (2 * k) ∧ K 139 (23 + k) = J 128 ((2 * k) + 1)) → WP l G m_X11_town d 153 K (XX L D) 277 [some (vR 111), some (vI (i : Int))] [] Q := by
  refine loop_dn (fun i => ∀ K : mI, (∀ b, b ≠ 134 → b ≠ 135 → b ≠ 139 → K b = J b) → (∀ j, ¬ (18 ≤ j ∧ j < 18 + nq) → ¬ (23 ≤ j ∧ j < 23 + nq) → K 139 j = J 139 j) → (∀ k, k < i → K 134 k = J 126 k ∧ K 135 k = J 127 k ∧ K 139 (18 + k) = J 128 (2 * k) ∧ K 139 (23 + k) = J 128 ((2 * k) + 1)) → WP l G m_X11_town d 153 K (XX L D) 277 [some (vR 111), some (vI (i : Int))] [] Q) nq ?_ (fun i hi ih => ?_)
  · intro K hK hR hV
    refine wp_iload_n (pc := 277) 1 dX11_town_277 rfl rfl ?_
    refine wp_aload_n (pc := 278) 0 dX11_town_278 rfl rfl ?_
    refine wp_geti (pc := 279) dX11_town_279 rfl f_X11_415 kd_111 la_111 (Or.inl rfl) ?_
    refine wp_eqst (st' := [vI ((nq : Nat) : Int), vI (nq : Int)]) (by rw [((congrFun (hK 111 (by decide) (by decide) (by decide)) 52).trans h52)]) ?_
    refine wp_icmp_ge (pc := 282) 351 dX11_town_282 (by decide) (by omega) (by omega) (fun h_1 => ?_) (fun h_1 => ?_)
    · exact hQ K hK hR hV
    · exfalso; omega
  · intro K hK hR hV
    refine wp_iload_n (pc := 277) 1 dX11_town_277 rfl rfl ?_
    refine wp_aload_n (pc := 278) 0 dX11_town_278 rfl rfl ?_
    refine wp_geti (pc := 279) dX11_town_279 rfl f_X11_415 kd_111 la_111 (Or.inl rfl) ?_
    refine wp_eqst (st' := [vI ((nq : Nat) : Int), vI (i : Int)]) (by rw [((congrFun (hK 111 (by decide) (by decide) (by decide)) 52).trans h52)]) ?_
    refine wp_icmp_ge (pc := 282) 351 dX11_town_282 (by decide) (by omega) (by omega) (fun h_1 => ?_) (fun h_1 => ?_)
    · exfalso; omega
    · refine wp_aload_n (pc := 285) 0 dX11_town_285 rfl rfl ?_
      refine wp_getr (pc := 286) dX11_town_286 rfl f_X11_81 kd_111 la_111 rfl (r_111_38 D) ?_
      refine wp_iload_n (pc := 289) 1 dX11_town_289 rfl rfl ?_
      refine wp_aload_n (pc := 290) 0 dX11_town_290 rfl rfl ?_
      refine wp_getr (pc := 291) dX11_town_291 rfl f_X11_57 kd_111 la_111 rfl (r_111_30 D) ?_
      refine wp_iload_n (pc := 294) 1 dX11_town_294 rfl rfl ?_
      refine wq_iald (pc := 295) i dX11_town_295 kd_126 la_126 rfl (by omega) ?_
      refine wq_iast (pc := 296) i dX11_town_296 kd_134 la_134 rfl (by omega) ?_
      refine wp_aload_n (pc := 297) 0 dX11_town_297 rfl rfl ?_
      refine wp_getr (pc := 298) dX11_town_298 rfl f_X11_84 kd_111 la_111 rfl (r_111_39 D) ?_
      refine wp_iload_n (pc := 301) 1 dX11_town_301 rfl rfl ?_
      refine wp_aload_n (pc := 302) 0 dX11_town_302 rfl rfl ?_
      refine wp_getr (pc := 303) dX11_town_303 rfl f_X11_60 kd_111 la_111 rfl (r_111_31 D) ?_
      refine wp_iload_n (pc := 306) 1 dX11_town_306 rfl rfl ?_
      refine wq_iald (pc := 307) i dX11_town_307 kd_127 la_127 rfl (by omega) ?_
      refine wp_eqst (st' := [vI (K 127 i), vI (i : Int), vR 135]) (by rw [up_c (by omega)]) ?_
      refine wq_iast (pc := 308) i dX11_town_308 kd_135 la_135 rfl (by omega) ?_
      refine wp_aload_n (pc := 309) 0 dX11_town_309 rfl rfl ?_
      refine wp_getr (pc := 310) dX11_town_310 rfl f_X11_103 kd_111 la_111 rfl (r_111_60 D) ?_
      refine wp_bipush (pc := 313) dX11_town_313 (by decide) ?_
      refine wp_iload_n (pc := 315) 1 dX11_town_315 rfl rfl ?_
      refine wp_iadd (pc := 316) dX11_town_316 ?_
      refine wp_aload_n (pc := 317) 0 dX11_town_317 rfl rfl ?_
      refine wp_getr (pc := 318) dX11_town_318 rfl f_X11_63 kd_111 la_111 rfl (r_111_32 D) ?_
      refine wp_iconst (pc := 321) dX11_town_321 ?_
      refine wp_iload_n (pc := 322) 1 dX11_town_322 rfl rfl ?_
      refine wp_imul (pc := 323) dX11_town_323 ?_
      refine wq_iald (pc := 324) (2 * i) dX11_town_324 kd_128 la_128 (by omega) (by omega) ?_
      refine wp_eqst (st' := [vI (K 128 (2 * i)), vI (18 + (i : Int)), vR 139]) (by rw [up_c (by omega), up_c (by omega)]) ?_
      refine wq_iast (pc := 325) (18 + i) dX11_town_325 kd_139 la_139 (by omega) (by omega) ?_
      refine wp_aload_n (pc := 326) 0 dX11_town_326 rfl rfl ?_
      refine wp_getr (pc := 327) dX11_town_327 rfl f_X11_103 kd_111 la_111 rfl (r_111_60 D) ?_
      refine wp_bipush (pc := 330) dX11_town_330 (by decide) ?_
      refine wp_iload_n (pc := 332) 1 dX11_town_332 rfl rfl ?_
      refine wp_iadd (pc := 333) dX11_town_333 ?_
      refine wp_aload_n (pc := 334) 0 dX11_town_334 rfl rfl ?_
      refine wp_getr (pc := 335) dX11_town_335 rfl f_X11_63 kd_111 la_111 rfl (r_111_32 D) ?_
      refine wp_iconst (pc := 338) dX11_town_338 ?_
      refine wp_iload_n (pc := 339) 1 dX11_town_339 rfl rfl ?_
      refine wp_imul (pc := 340) dX11_town_340 ?_
      refine wp_iconst (pc := 341) dX11_town_341 ?_
      refine wp_iadd (pc := 342) dX11_town_342 ?_
      refine wq_iald (pc := 343) ((2 * i) + 1) dX11_town_343 kd_128 la_128 (by omega) (by omega) ?_
      refine wp_eqst (st' := [vI (K 128 ((2 * i) + 1)), vI (23 + (i : Int)), vR 139]) (by rw [up_c (by omega), up_c (by omega), up_c (by omega)]) ?_
      refine wq_iast (pc := 344) (23 + i) dX11_town_344 kd_139 la_139 (by omega) (by omega) ?_
      refine wq_iinc (pc := 345) [some (vR 111), some (vI ((i : Int) + 1))] dX11_town_345 rfl rfl (by decide) rfl ?_
      refine wp_goto (pc := 348) 277 dX11_town_348 (by decide) ?_
      refine wp_eqls (ls' := [some (vR 111), some (vI ((i + 1 : Nat) : Int))]) rfl (ih _ (fun b g134 g135 g139 => (funext fun k => ?_).trans (hK b g134 g135 g139)) (fun j r0 r1 => ?_) (fun k hk => ?_))
      · rw [up_c g139, up_c g139, up_c g135, up_c g134]
      · rw [up_j (by omega), up_j (by omega), up_c (by decide), up_c (by decide)]; exact hR j r0 r1
      · by_cases z : k = i
        · subst z
          refine ⟨?_, ?_, ?_, ?_⟩
          · rw [up_c (by decide), up_c (by decide), up_c (by decide), up_s]; exact congrFun (hK 126 (by decide) (by decide) (by decide)) _
          · rw [up_c (by decide), up_c (by decide), up_s]; exact congrFun (hK 127 (by decide) (by decide) (by decide)) _
          · rw [up_j (by omega), up_s]; exact congrFun (hK 128 (by decide) (by decide) (by decide)) _
          · rw [up_s]; exact congrFun (hK 128 (by decide) (by decide) (by decide)) _
        · have hv := hV k (by omega)
          refine ⟨?_, ?_, ?_, ?_⟩
          · rw [up_c (by decide), up_c (by decide), up_c (by decide), up_j (by omega)]; exact hv.1
          · rw [up_c (by decide), up_c (by decide), up_j (by omega), up_c (by decide)]; exact hv.2.1
          · rw [up_j (by omega), up_j (by omega), up_c (by decide), up_c (by decide)]; exact hv.2.2.1
          · rw [up_j (by omega), up_j (by omega), up_c (by decide), up_c (by decide)]; exact hv.2.2.2
