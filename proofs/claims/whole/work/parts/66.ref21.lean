theorem rl_lay_k0 {l : Launch} {G : mG} {d : Nat} {I : mI} {L : Nat → Nat → Int} {D : Nat → Nat} {Q : mQ} {T : mT} {p c : Nat} {f : Nat → Int} (hw : tw T) (hpo : parOk T) (h51 : I 111 51 = T 0 12) (hp1 : ∀ p, p < nP T → I 130 (2 * p) = T 11 p) (hp2 : ∀ p, p < nP T → I 130 (2 * p + 1) = T 12 p) (hp : p < nP T) (hc : c < nP T) (ha : ∀ r a, r < p → a < nP T → f (8 * r + a) = upT T (r * 8 + a)) (hcp : p = c → f (8 * p + c) = 0) (hci : -1 ≤ f (8 * p + c) ∧ f (8 * p + c) ≤ 8) (hd : 0 ≤ d) (hN : ∀ g : Nat → Int, (∀ j, j ≠ 8 * p + c → g j = f j) → g (8 * p + c) = comb (f (8 * p + c)) (abv (upT T) (T 11 p) p c) → WP l G m_X11_layAncestors d 153 (upc I 138 g) (XX L D) 147 [some (vR 111), some (vI (p : Int)), some (vI (c : Int)), some (vI 0), none, none] [] Q) : WP l G m_X11_layAncestors d 153 (upc I 138 f) (XX L D) 43 [some (vR 111), some (vI (p : Int)), some (vI (c : Int)), some (vI 0), none, none] [] Q := by
  have b_p := tw_p hw
  have eP : nP T = (T 0 12).toNat := rfl
  have bq := tw_par1 hw p
  have bo := hpo p hp
  have eq := hp1 p hp
  have bu := (closeN_ok hw (nP T) (nP_le hw)).2 (Int.toNat (T 11 p) * 8 + c)
  have eu : upT T = (closeN T (nP T)).2 := rfl
  rw [← eu] at bu
  have ef : 0 ≤ T 11 p → f (8 * Int.toNat (T 11 p) + c) = upT T (Int.toNat (T 11 p) * 8 + c) := fun z => ha _ c (by omega) hc
  have ea : 0 ≤ T 11 p → abv (upT T) (T 11 p) p c = upT T (Int.toNat (T 11 p) * 8 + c) := fun z => if_pos ⟨z, by omega⟩
  have en : ¬ 0 ≤ T 11 p → abv (upT T) (T 11 p) p c = -1 := fun z => if_neg (fun y => z y.1)
  refine wp_iload_n (pc := 43) 3 dX11_layAncestors_43 rfl rfl ?_
  refine wp_iconst (pc := 44) dX11_layAncestors_44 ?_
  refine wp_icmp_ge (pc := 45) 153 dX11_layAncestors_45 (by decide) (by decide) (by decide) (fun hh => absurd hh (by decide)) (fun _ => ?_)
  refine wp_aload_n (pc := 48) 0 dX11_layAncestors_48 rfl rfl ?_
  refine wp_getr (pc := 49) dX11_layAncestors_49 rfl f_X11_69 kd_111 la_111 rfl (r_111_34 D) ?_
  refine wp_iconst (pc := 52) dX11_layAncestors_52 ?_
  refine wp_iload_n (pc := 53) 1 dX11_layAncestors_53 rfl rfl ?_
  refine wp_imul (pc := 54) dX11_layAncestors_54 ?_
  refine wp_iload_n (pc := 55) 3 dX11_layAncestors_55 rfl rfl ?_
  refine wp_iadd (pc := 56) dX11_layAncestors_56 ?_
  refine wq_iald (pc := 57) (2 * p) dX11_layAncestors_57 kd_130 la_130 (by omega) (by omega) ?_
  refine wp_eqst (st' := [vI (T 11 p)]) (by rw [upc_c (by omega), eq]) ?_
  refine wq_istore (pc := 58) [some (vR 111), some (vI (p : Int)), some (vI (c : Int)), some (vI 0), some (vI (T 11 p)), none] dX11_layAncestors_58 rfl (by decide) rfl ?_
  refine wp_iload_n (pc := 60) 1 dX11_layAncestors_60 rfl rfl ?_
  refine wp_iload_n (pc := 61) 2 dX11_layAncestors_61 rfl rfl ?_
  refine wp_icmp_eq (pc := 62) 147 dX11_layAncestors_62 (by decide) (by omega) (by omega) (fun h_1 => ?_) (fun h_1 => ?_)
  · refine wp_none 4 [some (vR 111), some (vI (p : Int)), some (vI (c : Int)), some (vI 0), none, none] rfl ?_
    refine hN f (fun _ _ => rfl) ?_
    unfold comb; by_cases z : 0 ≤ T 11 p
    · have z1 := ef z; have z2 := ea z; rw [z2, if_neg]; intro y; by_cases pc_ : p = c
      · have z3 := hcp pc_; omega
      · omega
    · rw [en z, if_neg (fun y => y.1 rfl)]
  · refine wp_iload (pc := 65) dX11_layAncestors_65 rfl ?_
    refine wp_if_lt (pc := 67) 147 dX11_layAncestors_67 (by decide) (by omega) (fun h_2 => ?_) (fun h_2 => ?_)
    · refine wp_none 4 [some (vR 111), some (vI (p : Int)), some (vI (c : Int)), some (vI 0), none, none] rfl ?_
      refine hN f (fun _ _ => rfl) ?_
      unfold comb; by_cases z : 0 ≤ T 11 p
      · have z1 := ef z; have z2 := ea z; rw [z2, if_neg]; intro y; by_cases pc_ : p = c
        · have z3 := hcp pc_; omega
        · omega
      · rw [en z, if_neg (fun y => y.1 rfl)]
    · refine wp_aload_n (pc := 70) 0 dX11_layAncestors_70 rfl rfl ?_
      refine wp_getr (pc := 71) dX11_layAncestors_71 rfl f_X11_100 kd_111 la_111 rfl (r_111_59 D) ?_
      refine wp_bipush (pc := 74) dX11_layAncestors_74 (by decide) ?_
      refine wp_iload (pc := 76) dX11_layAncestors_76 rfl ?_
      refine wp_imul (pc := 78) dX11_layAncestors_78 ?_
      refine wp_iload_n (pc := 79) 2 dX11_layAncestors_79 rfl rfl ?_
      refine wp_iadd (pc := 80) dX11_layAncestors_80 ?_
      refine wq_iald (pc := 81) ((8 * (Int.toNat (T 11 p))) + c) dX11_layAncestors_81 kd_138 la_138 (by omega) (by omega) ?_
      refine wp_eqst (st' := [vI (f ((8 * (Int.toNat (T 11 p))) + c))]) (by rw [upc_s]) ?_
      refine wp_if_ge (pc := 82) 88 dX11_layAncestors_82 (by decide) (by omega) (fun h_3 => ?_) (fun h_3 => ?_)
      · refine wp_aload_n (pc := 88) 0 dX11_layAncestors_88 rfl rfl ?_
        refine wp_getr (pc := 89) dX11_layAncestors_89 rfl f_X11_100 kd_111 la_111 rfl (r_111_59 D) ?_
        refine wp_bipush (pc := 92) dX11_layAncestors_92 (by decide) ?_
        refine wp_iload (pc := 94) dX11_layAncestors_94 rfl ?_
        refine wp_imul (pc := 96) dX11_layAncestors_96 ?_
        refine wp_iload_n (pc := 97) 2 dX11_layAncestors_97 rfl rfl ?_
        refine wp_iadd (pc := 98) dX11_layAncestors_98 ?_
        refine wq_iald (pc := 99) ((8 * (Int.toNat (T 11 p))) + c) dX11_layAncestors_99 kd_138 la_138 (by omega) (by omega) ?_
        refine wp_eqst (st' := [vI (f ((8 * (Int.toNat (T 11 p))) + c))]) (by rw [upc_s]) ?_
        refine wp_iconst (pc := 100) dX11_layAncestors_100 ?_
        refine wp_iadd (pc := 101) dX11_layAncestors_101 ?_
        refine wq_istore (pc := 102) [some (vR 111), some (vI (p : Int)), some (vI (c : Int)), some (vI 0), some (vI (T 11 p)), some (vI ((f ((8 * (Int.toNat (T 11 p))) + c)) + 1))] dX11_layAncestors_102 rfl (by decide) rfl ?_
        refine wp_aload_n (pc := 104) 0 dX11_layAncestors_104 rfl rfl ?_
        refine wp_getr (pc := 105) dX11_layAncestors_105 rfl f_X11_100 kd_111 la_111 rfl (r_111_59 D) ?_
        refine wp_bipush (pc := 108) dX11_layAncestors_108 (by decide) ?_
        refine wp_iload_n (pc := 110) 1 dX11_layAncestors_110 rfl rfl ?_
        refine wp_imul (pc := 111) dX11_layAncestors_111 ?_
        refine wp_iload_n (pc := 112) 2 dX11_layAncestors_112 rfl rfl ?_
        refine wp_iadd (pc := 113) dX11_layAncestors_113 ?_
        refine wq_iald (pc := 114) ((8 * p) + c) dX11_layAncestors_114 kd_138 la_138 (by omega) (by omega) ?_
        refine wp_eqst (st' := [vI (f ((8 * p) + c))]) (by rw [upc_s]) ?_
        refine wp_if_lt (pc := 115) 134 dX11_layAncestors_115 (by decide) (by omega) (fun h_4 => ?_) (fun h_4 => ?_)
        · refine wp_aload_n (pc := 134) 0 dX11_layAncestors_134 rfl rfl ?_
          refine wp_getr (pc := 135) dX11_layAncestors_135 rfl f_X11_100 kd_111 la_111 rfl (r_111_59 D) ?_
          refine wp_bipush (pc := 138) dX11_layAncestors_138 (by decide) ?_
          refine wp_iload_n (pc := 140) 1 dX11_layAncestors_140 rfl rfl ?_
          refine wp_imul (pc := 141) dX11_layAncestors_141 ?_
          refine wp_iload_n (pc := 142) 2 dX11_layAncestors_142 rfl rfl ?_
          refine wp_iadd (pc := 143) dX11_layAncestors_143 ?_
          refine wp_iload (pc := 144) dX11_layAncestors_144 rfl ?_
          refine wq_iast (pc := 146) ((8 * p) + c) dX11_layAncestors_146 kd_138 la_138 (by omega) (by omega) ?_
          refine wp_none 4 [some (vR 111), some (vI (p : Int)), some (vI (c : Int)), some (vI 0), none, some (vI ((f ((8 * (Int.toNat (T 11 p))) + c)) + 1))] rfl ?_
          refine wp_none 5 [some (vR 111), some (vI (p : Int)), some (vI (c : Int)), some (vI 0), none, none] rfl ?_
          refine wp_eqI (I' := upc I 138 (setF f (8 * p + c) (f (8 * Int.toNat (T 11 p) + c) + 1))) nrm_b ?_
          refine hN _ (fun j hj => setF_n hj) ?_
          have z1 := ef (by omega); have z2 := ea (by omega); rw [setF_s, z2, z1]; unfold comb; rw [if_pos (by omega)]
        · refine wp_iload (pc := 118) dX11_layAncestors_118 rfl ?_
          refine wp_aload_n (pc := 120) 0 dX11_layAncestors_120 rfl rfl ?_
          refine wp_getr (pc := 121) dX11_layAncestors_121 rfl f_X11_100 kd_111 la_111 rfl (r_111_59 D) ?_
          refine wp_bipush (pc := 124) dX11_layAncestors_124 (by decide) ?_
          refine wp_iload_n (pc := 126) 1 dX11_layAncestors_126 rfl rfl ?_
          refine wp_imul (pc := 127) dX11_layAncestors_127 ?_
          refine wp_iload_n (pc := 128) 2 dX11_layAncestors_128 rfl rfl ?_
          refine wp_iadd (pc := 129) dX11_layAncestors_129 ?_
          refine wq_iald (pc := 130) ((8 * p) + c) dX11_layAncestors_130 kd_138 la_138 (by omega) (by omega) ?_
          refine wp_eqst (st' := [vI (f ((8 * p) + c)), vI ((f ((8 * (Int.toNat (T 11 p))) + c)) + 1)]) (by rw [upc_s]) ?_
          refine wp_icmp_ge (pc := 131) 147 dX11_layAncestors_131 (by decide) (by omega) (by omega) (fun h_5 => ?_) (fun h_5 => ?_)
          · refine wp_none 4 [some (vR 111), some (vI (p : Int)), some (vI (c : Int)), some (vI 0), none, some (vI ((f ((8 * (Int.toNat (T 11 p))) + c)) + 1))] rfl ?_
            refine wp_none 5 [some (vR 111), some (vI (p : Int)), some (vI (c : Int)), some (vI 0), none, none] rfl ?_
            refine hN f (fun _ _ => rfl) ?_
            unfold comb; by_cases z : 0 ≤ T 11 p
            · have z1 := ef z; have z2 := ea z; rw [z2, if_neg]; intro y; by_cases pc_ : p = c
              · have z3 := hcp pc_; omega
              · omega
            · rw [en z, if_neg (fun y => y.1 rfl)]
          · refine wp_aload_n (pc := 134) 0 dX11_layAncestors_134 rfl rfl ?_
            refine wp_getr (pc := 135) dX11_layAncestors_135 rfl f_X11_100 kd_111 la_111 rfl (r_111_59 D) ?_
            refine wp_bipush (pc := 138) dX11_layAncestors_138 (by decide) ?_
            refine wp_iload_n (pc := 140) 1 dX11_layAncestors_140 rfl rfl ?_
            refine wp_imul (pc := 141) dX11_layAncestors_141 ?_
            refine wp_iload_n (pc := 142) 2 dX11_layAncestors_142 rfl rfl ?_
            refine wp_iadd (pc := 143) dX11_layAncestors_143 ?_
            refine wp_iload (pc := 144) dX11_layAncestors_144 rfl ?_
            refine wq_iast (pc := 146) ((8 * p) + c) dX11_layAncestors_146 kd_138 la_138 (by omega) (by omega) ?_
            refine wp_none 4 [some (vR 111), some (vI (p : Int)), some (vI (c : Int)), some (vI 0), none, some (vI ((f ((8 * (Int.toNat (T 11 p))) + c)) + 1))] rfl ?_
            refine wp_none 5 [some (vR 111), some (vI (p : Int)), some (vI (c : Int)), some (vI 0), none, none] rfl ?_
            refine wp_eqI (I' := upc I 138 (setF f (8 * p + c) (f (8 * Int.toNat (T 11 p) + c) + 1))) nrm_b ?_
            refine hN _ (fun j hj => setF_n hj) ?_
            have z1 := ef (by omega); have z2 := ea (by omega); rw [setF_s, z2, z1]; unfold comb; rw [if_pos (by omega)]
      · refine wp_goto (pc := 85) 147 dX11_layAncestors_85 (by decide) ?_
        refine wp_none 4 [some (vR 111), some (vI (p : Int)), some (vI (c : Int)), some (vI 0), none, none] rfl ?_
        refine hN f (fun _ _ => rfl) ?_
        unfold comb; by_cases z : 0 ≤ T 11 p
        · have z1 := ef z; have z2 := ea z; rw [z2, if_neg]; intro y; by_cases pc_ : p = c
          · have z3 := hcp pc_; omega
          · omega
        · rw [en z, if_neg (fun y => y.1 rfl)]

theorem rl_lay_k1 {l : Launch} {G : mG} {d : Nat} {I : mI} {L : Nat → Nat → Int} {D : Nat → Nat} {Q : mQ} {T : mT} {p c : Nat} {f : Nat → Int} (hw : tw T) (hpo : parOk T) (h51 : I 111 51 = T 0 12) (hp1 : ∀ p, p < nP T → I 130 (2 * p) = T 11 p) (hp2 : ∀ p, p < nP T → I 130 (2 * p + 1) = T 12 p) (hp : p < nP T) (hc : c < nP T) (ha : ∀ r a, r < p → a < nP T → f (8 * r + a) = upT T (r * 8 + a)) (hcp : p = c → f (8 * p + c) = 0) (hci : -1 ≤ f (8 * p + c) ∧ f (8 * p + c) ≤ 8) (hd : 0 ≤ d) (hN : ∀ g : Nat → Int, (∀ j, j ≠ 8 * p + c → g j = f j) → g (8 * p + c) = comb (f (8 * p + c)) (abv (upT T) (T 12 p) p c) → WP l G m_X11_layAncestors d 153 (upc I 138 g) (XX L D) 147 [some (vR 111), some (vI (p : Int)), some (vI (c : Int)), some (vI 1), none, none] [] Q) : WP l G m_X11_layAncestors d 153 (upc I 138 f) (XX L D) 43 [some (vR 111), some (vI (p : Int)), some (vI (c : Int)), some (vI 1), none, none] [] Q := by
  have b_p := tw_p hw
  have eP : nP T = (T 0 12).toNat := rfl
  have bq := tw_par2 hw p
  have bo := hpo p hp
  have eq := hp2 p hp
  have bu := (closeN_ok hw (nP T) (nP_le hw)).2 (Int.toNat (T 12 p) * 8 + c)
  have eu : upT T = (closeN T (nP T)).2 := rfl
  rw [← eu] at bu
  have ef : 0 ≤ T 12 p → f (8 * Int.toNat (T 12 p) + c) = upT T (Int.toNat (T 12 p) * 8 + c) := fun z => ha _ c (by omega) hc
  have ea : 0 ≤ T 12 p → abv (upT T) (T 12 p) p c = upT T (Int.toNat (T 12 p) * 8 + c) := fun z => if_pos ⟨z, by omega⟩
  have en : ¬ 0 ≤ T 12 p → abv (upT T) (T 12 p) p c = -1 := fun z => if_neg (fun y => z y.1)
  refine wp_iload_n (pc := 43) 3 dX11_layAncestors_43 rfl rfl ?_
  refine wp_iconst (pc := 44) dX11_layAncestors_44 ?_
  refine wp_icmp_ge (pc := 45) 153 dX11_layAncestors_45 (by decide) (by decide) (by decide) (fun hh => absurd hh (by decide)) (fun _ => ?_)
  refine wp_aload_n (pc := 48) 0 dX11_layAncestors_48 rfl rfl ?_
  refine wp_getr (pc := 49) dX11_layAncestors_49 rfl f_X11_69 kd_111 la_111 rfl (r_111_34 D) ?_
  refine wp_iconst (pc := 52) dX11_layAncestors_52 ?_
  refine wp_iload_n (pc := 53) 1 dX11_layAncestors_53 rfl rfl ?_
  refine wp_imul (pc := 54) dX11_layAncestors_54 ?_
  refine wp_iload_n (pc := 55) 3 dX11_layAncestors_55 rfl rfl ?_
  refine wp_iadd (pc := 56) dX11_layAncestors_56 ?_
  refine wq_iald (pc := 57) ((2 * p) + 1) dX11_layAncestors_57 kd_130 la_130 (by omega) (by omega) ?_
  refine wp_eqst (st' := [vI (T 12 p)]) (by rw [upc_c (by omega), eq]) ?_
  refine wq_istore (pc := 58) [some (vR 111), some (vI (p : Int)), some (vI (c : Int)), some (vI 1), some (vI (T 12 p)), none] dX11_layAncestors_58 rfl (by decide) rfl ?_
  refine wp_iload_n (pc := 60) 1 dX11_layAncestors_60 rfl rfl ?_
  refine wp_iload_n (pc := 61) 2 dX11_layAncestors_61 rfl rfl ?_
  refine wp_icmp_eq (pc := 62) 147 dX11_layAncestors_62 (by decide) (by omega) (by omega) (fun h_1 => ?_) (fun h_1 => ?_)
  · refine wp_none 4 [some (vR 111), some (vI (p : Int)), some (vI (c : Int)), some (vI 1), none, none] rfl ?_
    refine hN f (fun _ _ => rfl) ?_
    unfold comb; by_cases z : 0 ≤ T 12 p
    · have z1 := ef z; have z2 := ea z; rw [z2, if_neg]; intro y; by_cases pc_ : p = c
      · have z3 := hcp pc_; omega
      · omega
    · rw [en z, if_neg (fun y => y.1 rfl)]
  · refine wp_iload (pc := 65) dX11_layAncestors_65 rfl ?_
    refine wp_if_lt (pc := 67) 147 dX11_layAncestors_67 (by decide) (by omega) (fun h_2 => ?_) (fun h_2 => ?_)
    · refine wp_none 4 [some (vR 111), some (vI (p : Int)), some (vI (c : Int)), some (vI 1), none, none] rfl ?_
      refine hN f (fun _ _ => rfl) ?_
      unfold comb; by_cases z : 0 ≤ T 12 p
      · have z1 := ef z; have z2 := ea z; rw [z2, if_neg]; intro y; by_cases pc_ : p = c
        · have z3 := hcp pc_; omega
        · omega
      · rw [en z, if_neg (fun y => y.1 rfl)]
    · refine wp_aload_n (pc := 70) 0 dX11_layAncestors_70 rfl rfl ?_
      refine wp_getr (pc := 71) dX11_layAncestors_71 rfl f_X11_100 kd_111 la_111 rfl (r_111_59 D) ?_
      refine wp_bipush (pc := 74) dX11_layAncestors_74 (by decide) ?_
      refine wp_iload (pc := 76) dX11_layAncestors_76 rfl ?_
      refine wp_imul (pc := 78) dX11_layAncestors_78 ?_
      refine wp_iload_n (pc := 79) 2 dX11_layAncestors_79 rfl rfl ?_
      refine wp_iadd (pc := 80) dX11_layAncestors_80 ?_
      refine wq_iald (pc := 81) ((8 * (Int.toNat (T 12 p))) + c) dX11_layAncestors_81 kd_138 la_138 (by omega) (by omega) ?_
      refine wp_eqst (st' := [vI (f ((8 * (Int.toNat (T 12 p))) + c))]) (by rw [upc_s]) ?_
      refine wp_if_ge (pc := 82) 88 dX11_layAncestors_82 (by decide) (by omega) (fun h_3 => ?_) (fun h_3 => ?_)
      · refine wp_aload_n (pc := 88) 0 dX11_layAncestors_88 rfl rfl ?_
        refine wp_getr (pc := 89) dX11_layAncestors_89 rfl f_X11_100 kd_111 la_111 rfl (r_111_59 D) ?_
        refine wp_bipush (pc := 92) dX11_layAncestors_92 (by decide) ?_
        refine wp_iload (pc := 94) dX11_layAncestors_94 rfl ?_
        refine wp_imul (pc := 96) dX11_layAncestors_96 ?_
        refine wp_iload_n (pc := 97) 2 dX11_layAncestors_97 rfl rfl ?_
        refine wp_iadd (pc := 98) dX11_layAncestors_98 ?_
        refine wq_iald (pc := 99) ((8 * (Int.toNat (T 12 p))) + c) dX11_layAncestors_99 kd_138 la_138 (by omega) (by omega) ?_
        refine wp_eqst (st' := [vI (f ((8 * (Int.toNat (T 12 p))) + c))]) (by rw [upc_s]) ?_
        refine wp_iconst (pc := 100) dX11_layAncestors_100 ?_
        refine wp_iadd (pc := 101) dX11_layAncestors_101 ?_
        refine wq_istore (pc := 102) [some (vR 111), some (vI (p : Int)), some (vI (c : Int)), some (vI 1), some (vI (T 12 p)), some (vI ((f ((8 * (Int.toNat (T 12 p))) + c)) + 1))] dX11_layAncestors_102 rfl (by decide) rfl ?_
        refine wp_aload_n (pc := 104) 0 dX11_layAncestors_104 rfl rfl ?_
        refine wp_getr (pc := 105) dX11_layAncestors_105 rfl f_X11_100 kd_111 la_111 rfl (r_111_59 D) ?_
        refine wp_bipush (pc := 108) dX11_layAncestors_108 (by decide) ?_
        refine wp_iload_n (pc := 110) 1 dX11_layAncestors_110 rfl rfl ?_
        refine wp_imul (pc := 111) dX11_layAncestors_111 ?_
        refine wp_iload_n (pc := 112) 2 dX11_layAncestors_112 rfl rfl ?_
        refine wp_iadd (pc := 113) dX11_layAncestors_113 ?_
        refine wq_iald (pc := 114) ((8 * p) + c) dX11_layAncestors_114 kd_138 la_138 (by omega) (by omega) ?_
        refine wp_eqst (st' := [vI (f ((8 * p) + c))]) (by rw [upc_s]) ?_
        refine wp_if_lt (pc := 115) 134 dX11_layAncestors_115 (by decide) (by omega) (fun h_4 => ?_) (fun h_4 => ?_)
        · refine wp_aload_n (pc := 134) 0 dX11_layAncestors_134 rfl rfl ?_
          refine wp_getr (pc := 135) dX11_layAncestors_135 rfl f_X11_100 kd_111 la_111 rfl (r_111_59 D) ?_
          refine wp_bipush (pc := 138) dX11_layAncestors_138 (by decide) ?_
          refine wp_iload_n (pc := 140) 1 dX11_layAncestors_140 rfl rfl ?_
          refine wp_imul (pc := 141) dX11_layAncestors_141 ?_
          refine wp_iload_n (pc := 142) 2 dX11_layAncestors_142 rfl rfl ?_
          refine wp_iadd (pc := 143) dX11_layAncestors_143 ?_
          refine wp_iload (pc := 144) dX11_layAncestors_144 rfl ?_
          refine wq_iast (pc := 146) ((8 * p) + c) dX11_layAncestors_146 kd_138 la_138 (by omega) (by omega) ?_
          refine wp_none 4 [some (vR 111), some (vI (p : Int)), some (vI (c : Int)), some (vI 1), none, some (vI ((f ((8 * (Int.toNat (T 12 p))) + c)) + 1))] rfl ?_
          refine wp_none 5 [some (vR 111), some (vI (p : Int)), some (vI (c : Int)), some (vI 1), none, none] rfl ?_
          refine wp_eqI (I' := upc I 138 (setF f (8 * p + c) (f (8 * Int.toNat (T 12 p) + c) + 1))) nrm_b ?_
          refine hN _ (fun j hj => setF_n hj) ?_
          have z1 := ef (by omega); have z2 := ea (by omega); rw [setF_s, z2, z1]; unfold comb; rw [if_pos (by omega)]
        · refine wp_iload (pc := 118) dX11_layAncestors_118 rfl ?_
          refine wp_aload_n (pc := 120) 0 dX11_layAncestors_120 rfl rfl ?_
          refine wp_getr (pc := 121) dX11_layAncestors_121 rfl f_X11_100 kd_111 la_111 rfl (r_111_59 D) ?_
          refine wp_bipush (pc := 124) dX11_layAncestors_124 (by decide) ?_
          refine wp_iload_n (pc := 126) 1 dX11_layAncestors_126 rfl rfl ?_
          refine wp_imul (pc := 127) dX11_layAncestors_127 ?_
          refine wp_iload_n (pc := 128) 2 dX11_layAncestors_128 rfl rfl ?_
          refine wp_iadd (pc := 129) dX11_layAncestors_129 ?_
          refine wq_iald (pc := 130) ((8 * p) + c) dX11_layAncestors_130 kd_138 la_138 (by omega) (by omega) ?_
          refine wp_eqst (st' := [vI (f ((8 * p) + c)), vI ((f ((8 * (Int.toNat (T 12 p))) + c)) + 1)]) (by rw [upc_s]) ?_
          refine wp_icmp_ge (pc := 131) 147 dX11_layAncestors_131 (by decide) (by omega) (by omega) (fun h_5 => ?_) (fun h_5 => ?_)
          · refine wp_none 4 [some (vR 111), some (vI (p : Int)), some (vI (c : Int)), some (vI 1), none, some (vI ((f ((8 * (Int.toNat (T 12 p))) + c)) + 1))] rfl ?_
            refine wp_none 5 [some (vR 111), some (vI (p : Int)), some (vI (c : Int)), some (vI 1), none, none] rfl ?_
            refine hN f (fun _ _ => rfl) ?_
            unfold comb; by_cases z : 0 ≤ T 12 p
            · have z1 := ef z; have z2 := ea z; rw [z2, if_neg]; intro y; by_cases pc_ : p = c
              · have z3 := hcp pc_; omega
              · omega
            · rw [en z, if_neg (fun y => y.1 rfl)]
          · refine wp_aload_n (pc := 134) 0 dX11_layAncestors_134 rfl rfl ?_
            refine wp_getr (pc := 135) dX11_layAncestors_135 rfl f_X11_100 kd_111 la_111 rfl (r_111_59 D) ?_
            refine wp_bipush (pc := 138) dX11_layAncestors_138 (by decide) ?_
            refine wp_iload_n (pc := 140) 1 dX11_layAncestors_140 rfl rfl ?_
            refine wp_imul (pc := 141) dX11_layAncestors_141 ?_
            refine wp_iload_n (pc := 142) 2 dX11_layAncestors_142 rfl rfl ?_
            refine wp_iadd (pc := 143) dX11_layAncestors_143 ?_
            refine wp_iload (pc := 144) dX11_layAncestors_144 rfl ?_
            refine wq_iast (pc := 146) ((8 * p) + c) dX11_layAncestors_146 kd_138 la_138 (by omega) (by omega) ?_
            refine wp_none 4 [some (vR 111), some (vI (p : Int)), some (vI (c : Int)), some (vI 1), none, some (vI ((f ((8 * (Int.toNat (T 12 p))) + c)) + 1))] rfl ?_
            refine wp_none 5 [some (vR 111), some (vI (p : Int)), some (vI (c : Int)), some (vI 1), none, none] rfl ?_
            refine wp_eqI (I' := upc I 138 (setF f (8 * p + c) (f (8 * Int.toNat (T 12 p) + c) + 1))) nrm_b ?_
            refine hN _ (fun j hj => setF_n hj) ?_
            have z1 := ef (by omega); have z2 := ea (by omega); rw [setF_s, z2, z1]; unfold comb; rw [if_pos (by omega)]
      · refine wp_goto (pc := 85) 147 dX11_layAncestors_85 (by decide) ?_
        refine wp_none 4 [some (vR 111), some (vI (p : Int)), some (vI (c : Int)), some (vI 1), none, none] rfl ?_
        refine hN f (fun _ _ => rfl) ?_
        unfold comb; by_cases z : 0 ≤ T 12 p
        · have z1 := ef z; have z2 := ea z; rw [z2, if_neg]; intro y; by_cases pc_ : p = c
          · have z3 := hcp pc_; omega
          · omega
        · rw [en z, if_neg (fun y => y.1 rfl)]
