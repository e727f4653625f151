theorem rl_lay_k0 {l : Launch} {G : mG} {d : Nat} {I : mI} {L : Nat → Nat → Int} {D : Nat → Nat} {Q : mQ} {T : mT} {p c : Nat} {f : Nat → Int} (hw : tw T) (hpo : parOk T) (h51 : I 111 51 = T 0 12) (hp1 : ∀ p, p < nP T → I 130 (2 * p) = T 11 p) (hp2 : ∀ p, p < nP T → I 130 (2 * p + 1) = T 12 p) (hp : p < nP T) (hc : c < nP T) (ha : ∀ r a, r < p → a < nP T → f (8 * r + a) = upT T (r * 8 + a)) (hcp : p = c → f (8 * p + c) = 0) (hci : -1 ≤ f (8 * p + c) ∧ f (8 * p + c) ≤ 8) (hd : 0 ≤ d) (hN : ∀ g : Nat → Int, (∀ j, j ≠ 8 * p + c → g j = f j) → g (8 * p + c) = comb (f (8 * p + c)) (abv (upT T) (T 11 p) p c) → WP l G m_X11_layAncestors d 153 (upc I 138 g) (XX L D) 147 [some (vR 111), some (vI (p : Int)), some (vI (c : Int)), some (vI 0), none, none] [] Q) : WP l G m_X11_layAncestors d 153 (upc I 138 f) (XX L D) 43 [some (vR 111), some (vI (p : Int)), some (vI (c : Int)), some (vI 0), none, none] [] Q := by
  have b_p := tw_p hw
  have eP : nP T = (T 0 12).toNat := rfl
  have bq := tw_par1 hw p
  have bo := hpo p hp
  have eq := hp1 p hp
  have bu := (closeN_ok hw (nP T) (nP_le hw)).2 (Int.toNat (T 11 p) * 8 + c)
  have eu : upT T = (closeN T (nP T)).2 := rfl
  rw [← eu] at bu
  have ef : 0 ≤ T 11 p → f (8 * Int.toNat (T 11 p) + c) = upT T (Int.toNat (T 11 p) * 8 + c) := fun z => ha _ c (by omega) hc
  have ea : 0 ≤ T 11 p → abv (upT T) (T 11 p) p c = upT T (Int.toNat (T 11 p) * 8 + c) := fun z => if_pos ⟨z, by omega⟩
  have en : ¬ 0 ≤ T 11 p → abv (upT T) (T 11 p) p c = -1 := fun z => if_neg (fun y => z y.1)
  refine wp_iload_n (pc := 43) 3 dX11_layAncestors_43 rfl rfl ?_
  refine wp_iconst (pc := 44) dX11_layAncestors_44 ?_
  refine wp_icmp_ge (pc := 45) 153 dX11_layAncestors_45 (by decide) (by decide) (by decide) (fun hh => absurd hh (by decide)) (fun _ => ?_)
  refine wp_aload_n (pc := 48) 0 dX11_layAncestors_48 rfl rfl ?_
  refine wp_getr (pc := 49) dX11_layAncestors_49 rfl f_X11_69 kd_111 la_111 rfl (r_111_34 D) ?_
  refine wp_iconst (pc := 52) dX11_layAncestors_52 ?_
  refine wp_iload_n (pc := 53) 1 dX11_layAncestors_53 rfl rfl ?_
  refine wp_imul (pc := 54) dX11_layAncestors_54 ?_
  refine wp_iload_n (pc := 55) 3 dX11_layAncestors_55 rfl rfl ?_
  refine wp_iadd (pc := 56) dX11_layAncestors_56 ?_
  refine wq_iald (pc := 57) (2 * p) dX11_layAncestors_57 kd_130 la_130 (by omega) (by omega) ?_
  refine wp_eqst (st' := [vI (T 11 p)]) (by rw [upc_c (by omega), eq]) ?_
  refine wq_istore (pc := 58) [some (vR 111), some (vI (p : Int)), some (vI (c : Int)), some (vI 0), some (vI (T 11 p)), none] dX11_layAncestors_58 rfl (by decide) rfl ?_
  refine wp_iload_n (pc := 60) 1 dX11_layAncestors_60 rfl rfl ?_
  refine wp_iload_n (pc := 61) 2 dX11_layAncestors_61 rfl rfl ?_
  refine wp_icmp_eq (pc := 62) 147 dX11_layAncestors_62 (by decide) (by omega) (by omega) (fun h_1 => ?_) (fun h_1 => ?_)
  · refine wp_none 4 [some (vR 111), some (vI (p : Int)), some (vI (c : Int)), some (vI 0), none, none] rfl ?_
    refine hN f (fun _ _ => rfl) ?_
    unfold comb; by_cases z : 0 ≤ T 11 p
    · have z1 := ef z; have z2 := ea z; rw [z2, if_neg]; intro y; by_cases pc_ : p = c
      · have z3 := hcp pc_; omega
      · omega
    · rw [en z, if_neg (fun y => y.1 rfl)]
  · refine wp_iload (pc := 65) dX11_layAncestors_65 rfl ?_
    refine wp_if_lt (pc := 67) 147 dX11_layAncestors_67 (by decide) (by omega) (fun h_2 => ?_) (fun h_2 => ?_)
    · refine wp_none 4 [some (vR 111), some (vI (p : Int)), some (vI (c : Int)), some (vI 0), none, none] rfl ?_
      refine hN f (fun _ _ => rfl) ?_
      unfold comb; by_cases z : 0 ≤ T 11 p
      · have z1 := ef z; have z2 := ea z; rw [z2, if_neg]; intro y; by_cases pc_ : p = c
        · have z3 := hcp pc_; omega
        · omega
      · rw [en z, if_neg (fun y => y.1 rfl)]
    · refine wp_aload_n (pc := 70) 0 dX11_layAncestors_70 rfl rfl ?_
      refine wp_getr (pc := 71) dX11_layAncestors_71 rfl f_X11_100 kd_111 la_111 rfl (r_111_59 D) ?_
      refine wp_bipush (pc := 74) dX11_layAncestors_74 (by decide) ?_
      refine wp_iload (pc := 76) dX11_layAncestors_76 rfl ?_
      refine wp_imul (pc := 78) dX11_layAncestors_78 ?_
      refine wp_iload_n (pc := 79) 2 dX11_layAncestors_79 rfl rfl ?_
      refine wp_iadd (pc := 80) dX11_layAncestors_80 ?_
      refine wq_iald (pc := 81) ((8 * (Int.toNat (T 11 p))) + c) dX11_layAncestors_81 kd_138 la_138 (by omega) (by omega) ?_
      refine wp_eqst (st' := [vI (f ((8 * (Int.toNat (T 11 p))) + c))]) (by rw [upc_s]) ?_
      refine wp_if_ge (pc := 82) 88 dX11_layAncestors_82 (by decide) (by omega) (fun h_3 => ?_) (fun h_3 => ?_)
      · refine wp_aload_n (pc := 88) 0 dX11_layAncestors_88 rfl rfl ?_
        refine wp_getr (pc := 89) dX11_layAncestors_89 rfl f_X11_100 kd_111 la_111 rfl (r_111_59 D) ?_
        refine wp_bipush (pc := 92) dX11_layAncestors_92 (by decide) ?_
        refine wp_iload (pc := 94) dX11_layAncestors_94 rfl ?_
        refine wp_imul (pc := 96) dX11_layAncestors_96 ?_
        refine wp_iload_n (pc := 97) 2 dX11_layAncestors_97 rfl rfl ?_
        refine wp_iadd (pc := 98) dX11_layAncestors_98 ?_
        refine wq_iald (pc := 99) ((8 * (Int.toNat (T 11 p))) + c) dX11_layAncestors_99 kd_138 la_138 (by omega) (by omega) ?_
        refine wp_eqst (st' := [vI (f ((8 * (Int.toNat (T 11 p))) + c))]) (by rw [upc_s]) ?_
        refine wp_iconst (pc := 100) dX11_layAncestors_100 ?_
        refine wp_iadd (pc := 101) dX11_layAncestors_101 ?_
        refine wq_istore (pc := 102) [some (vR 111), some (vI (p : Int)), some (vI (c : Int)), some (vI 0), some (vI (T 11 p)), some (vI ((f ((8 * (Int.toNat (T 11 p))) + c)) + 1))] dX11_layAncestors_102 rfl (by decide) rfl ?_
        refine wp_aload_n (pc := 104) 0 dX11_layAncestors_104 rfl rfl ?_
        refine wp_getr (pc := 105) dX11_layAncestors_105 rfl f_X11_100 kd_111 la_111 rfl (r_111_59 D) ?_
        refine wp_bipush (pc := 108) dX11_layAncestors_108 (by decide) ?_
        refine wp_iload_n (pc := 110) 1 dX11_layAncestors_110 rfl rfl ?_
        refine wp_imul (pc := 111) dX11_layAncestors_111 ?_
        refine wp_iload_n (pc := 112) 2 dX11_layAncestors_112 rfl rfl ?_
        refine wp_iadd (pc := 113) dX11_layAncestors_113 ?_
        refine wq_iald (pc := 114) ((8 * p) + c) dX11_layAncestors_114 kd_138 la_138 (by omega) (by omega) ?_
        refine wp_eqst (st' := [vI (f ((8 * p) + c))]) (by rw [upc_s]) ?_
        refine wp_if_lt (pc := 115) 134 dX11_layAncestors_115 (by decide) (by omega) (fun h_4 => ?_) (fun h_4 => ?_)
        · refine wp_aload_n (pc := 134) 0 dX11_layAncestors_134 rfl rfl ?_
          refine wp_getr (pc := 135) dX11_layAncestors_135 rfl f_X11_100 kd_111 la_111 rfl (r_111_59 D) ?_
          refine wp_bipush (pc := 138) dX11_layAncestors_138 (by decide) ?_
          refine wp_iload_n (pc := 140) 1 dX11_layAncestors_140 rfl rfl ?_
          refine wp_imul (pc := 141) dX11_layAncestors_141 ?_
          refine wp_iload_n (pc := 142) 2 dX11_layAncestors_142 rfl rfl ?_
          refine wp_iadd (pc := 143) dX11_layAncestors_143 ?_
          refine wp_iload (pc := 144) dX11_layAncestors_144 rfl ?_
          refine wq_iast (pc := 146) ((8 * p) + c) dX11_layAncestors_146 kd_138 la_138 (by omega) (by omega) ?_
          refine wp_none 4 [some (vR 111), some (vI (p : Int)), some (vI (c : Int)), some (vI 0), none, some (vI ((f ((8 * (Int.toNat (T 11 p))) + c)) + 1))] rfl ?_
          refine wp_none 5 [some (vR 111), some (vI (p : Int)), some (vI (c : Int)), some (vI 0), none, none] rfl ?_
          refine wp_eqI (I' := upc I 138 (setF f (8 * p + c) (f (8 * Int.toNat (T 11 p) + c) + 1))) nrm_b ?_
          refine hN _ (fun j hj => setF_n hj) ?_
          have z1 := ef (by omega); have z2 := ea (by omega); rw [setF_s, z2, z1]; unfold comb; rw [if_pos (by omega)]
        · refine wp_iload (pc := 118) dX11_layAncestors_118 rfl ?_
          refine wp_aload_n (pc := 120) 0 dX11_layAncestors_120 rfl rfl ?_
          refine wp_getr (pc := 121) dX11_layAncestors_121 rfl f_X11_100 kd_111 la_111 rfl (r_111_59 D) ?_
          refine wp_bipush (pc := 124) dX11_layAncestors_124 (by decide) ?_
          refine wp_iload_n (pc := 126) 1 dX11_layAncestors_126 rfl rfl ?_
          refine wp_imul (pc := 127) dX11_layAncestors_127 ?_
          refine wp_iload_n (pc := 128) 2 dX11_layAncestors_128 rfl rfl ?_
          refine wp_iadd (pc := 129) dX11_layAncestors_129 ?_
          refine wq_iald (pc := 130) ((8 * p) + c) dX11_layAncestors_130 kd_138 la_138 (by omega) (by omega) ?_
          refine wp_eqst (st' := [vI (f ((8 * p) + c)), vI ((f ((8 * (Int.toNat (T 11 p))) + c)) + 1)]) (by rw [upc_s]) ?_
          refine wp_icmp_ge (pc := 131) 147 dX11_layAncestors_131 (by decide) (by omega) (by omega) (fun h_5 => ?_) (fun h_5 => ?_)
          · refine wp_none 4 [some (vR 111), some (vI (p : Int)), some (vI (c : Int)), some (vI 0), none, some (vI ((f ((8 * (Int.toNat (T 11 p))) + c)) + 1))] rfl ?_
            refine wp_none 5 [some (vR 111), some (vI (p : Int)), some (vI (c : Int)), some (vI 0), none, none] rfl ?_
            refine hN f (fun _ _ => rfl) ?_
            unfold comb; by_cases z : 0 ≤ T 11 p
            · have z1 := ef z; have z2 := ea z; rw [z2, if_neg]; intro y; by_cases pc_ : p = c
              · have z3 := hcp pc_; omega
              · omega
            · rw [en z, if_neg (fun y => y.1 rfl)]
          · refine wp_aload_n (pc := 134) 0 dX11_layAncestors_134 rfl rfl ?_
            refine wp_getr (pc := 135) dX11_layAncestors_135 rfl f_X11_100 kd_111 la_111 rfl (r_111_59 D) ?_
            refine wp_bipush (pc := 138) dX11_layAncestors_138 (by decide) ?_
            refine wp_iload_n (pc := 140) 1 dX11_layAncestors_140 rfl rfl ?_
            refine wp_imul (pc := 141) dX11_layAncestors_141 ?_
            refine wp_iload_n (pc := 142) 2 dX11_layAncestors_142 rfl rfl ?_
            refine wp_iadd (pc := 143) dX11_layAncestors_143 ?_
            refine wp_iload (pc := 144) dX11_layAncestors_144 rfl ?_
            refine wq_iast (pc := 146) ((8 * p) + c) dX11_layAncestors_146 kd_138 la_138 (by omega) (by omega) ?_
            refine wp_none 4 [some (vR 111), some (vI (p : Int)), some (vI (c : Int)), some (vI 0), none, some (vI ((f ((8 * (Int.toNat (T 11 p))) + c)) + 1))] rfl ?_
            refine wp_none 5 [some (vR 111), some (vI (p : Int)), some (vI (c : Int)), some (vI 0), none, none] rfl ?_
            refine wp_eqI (I' := upc I 138 (setF f (8 * p + c) (f (8 * Int.toNat (T 11 p) + c) + 1))) nrm_b ?_
            refine hN _ (fun j hj => setF_n hj) ?_
            have z1 := ef (by omega); have z2 := ea (by omega); rw [setF_s, z2, z1]; unfold comb; rw [if_pos (by omega)]
      · refine wp_goto (pc := 85) 147 dX11_layAncestors_85 (by decide) ?_
        refine wp_none 4 [some (vR 111), some (vI (p : Int)), some (vI (c : Int)), some (vI 0), none, none] rfl ?_
        refine hN f (fun _ _ => rfl) ?_
        unfold comb; by_cases z : 0 ≤ T 11 p
        · have z1 := ef z; have z2 := ea z; rw [z2, if_neg]; intro y; by_cases pc_ : p = c
          · have z3 := hcp pc_; omega
          · omega
        · rw [en z, if_neg (fun y => y.1 rfl)]

theorem rl_lay_k1 {l : Launch} {G : mG} {d : Nat} {I : mI} {L : Nat → Nat → Int} {D : Nat → Nat} {Q : mQ} {T : mT} {p c : Nat} {f : Nat → Int} (hw : tw T) (hpo : parOk T) (h51 : I 111 51 = T 0 12) (hp1 : ∀ p, p < nP T → I 130 (2 * p) = T 11 p) (hp2 : ∀ p, p < nP T → I 130 (2 * p + 1) = T 12 p) (hp : p < nP T) (hc : c < nP T) (ha : ∀ r a, r < p → a < nP T → f (8 * r + a) = upT T (r * 8 + a)) (hcp : p = c → f (8 * p + c) = 0) (hci : -1 ≤ f (8 * p + c) ∧ f (8 * p + c) ≤ 8) (hd : 0 ≤ d) (hN : ∀ g : Nat → Int, (∀ j, j ≠ 8 * p + c → g j = f j) → g (8 * p + c) = comb (f (8 * p + c)) (abv (upT T) (T 12 p) p c) → WP l G m_X11_layAncestors d 153 (upc I 138 g) (XX L D) 147 [some (vR 111), some (vI (p : Int)), some (vI (c : Int)), some (vI 1), none, none] [] Q) : WP l G m_X11_layAncestors d 153 (upc I 138 f) (XX L D) 43 [some (vR 111), some (vI (p : Int)), some (vI (c : Int)), some (vI 1), none, none] [] Q := by
  have b_p := tw_p hw
  have eP : nP T = (T 0 12).toNat := rfl
  have bq := tw_par2 hw p
  have bo := hpo p hp
  have eq := hp2 p hp
  have bu := (closeN_ok hw (nP T) (nP_le hw)).2 (Int.toNat (T 12 p) * 8 + c)
  have eu : upT T = (closeN T (nP T)).2 := rfl
  rw [← eu] at bu
  have ef : 0 ≤ T 12 p → f (8 * Int.toNat (T 12 p) + c) = upT T (Int.toNat (T 12 p) * 8 + c) := fun z => ha _ c (by omega) hc
  have ea : 0 ≤ T 12 p → abv (upT T) (T 12 p) p c = upT T (Int.toNat (T 12 p) * 8 + c) := fun z => if_pos ⟨z, by omega⟩
  have en : ¬ 0 ≤ T 12 p → abv (upT T) (T 12 p) p c = -1 := fun z => if_neg (fun y => z y.1)
  refine wp_iload_n (pc := 43) 3 dX11_layAncestors_43 rfl rfl ?_
  refine wp_iconst (pc := 44) dX11_layAncestors_44 ?_
  refine wp_icmp_ge (pc := 45) 153 dX11_layAncestors_45 (by decide) (by decide) (by decide) (fun hh => absurd hh (by decide)) (fun _ => ?_)
  refine wp_aload_n (pc := 48) 0 dX11_layAncestors_48 rfl rfl ?_
  refine wp_getr (pc := 49) dX11_layAncestors_49 rfl f_X11_69 kd_111 la_111 rfl (r_111_34 D) ?_
  refine wp_iconst (pc := 52) dX11_layAncestors_52 ?_
  refine wp_iload_n (pc := 53) 1 dX11_layAncestors_53 rfl rfl ?_
  refine wp_imul (pc := 54) dX11_layAncestors_54 ?_
  refine wp_iload_n (pc := 55) 3 dX11_layAncestors_55 rfl rfl ?_
  refine wp_iadd (pc := 56) dX11_layAncestors_56 ?_
  refine wq_iald (pc := 57) ((2 * p) + 1) dX11_layAncestors_57 kd_130 la_130 (by omega) (by omega) ?_
  refine wp_eqst (st' := [vI (T 12 p)]) (by rw [upc_c (by omega), eq]) ?_
  refine wq_istore (pc := 58) [some (vR 111), some (vI (p : Int)), some (vI (c : Int)), some (vI 1), some (vI (T 12 p)), none] dX11_layAncestors_58 rfl (by decide) rfl ?_
  refine wp_iload_n (pc := 60) 1 dX11_layAncestors_60 rfl rfl ?_
  refine wp_iload_n (pc := 61) 2 dX11_layAncestors_61 rfl rfl ?_
  refine wp_icmp_eq (pc := 62) 147 dX11_layAncestors_62 (by decide) (by omega) (by omega) (fun h_1 => ?_) (fun h_1 => ?_)
  · refine wp_none 4 [some (vR 111), some (vI (p : Int)), some (vI (c : Int)), some (vI 1), none, none] rfl ?_
    refine hN f (fun _ _ => rfl) ?_
    unfold comb; by_cases z : 0 ≤ T 12 p
    · have z1 := ef z; have z2 := ea z; rw [z2, if_neg]; intro y; by_cases pc_ : p = c
      · have z3 := hcp pc_; omega
      · omega
    · rw [en z, if_neg (fun y => y.1 rfl)]
  · refine wp_iload (pc := 65) dX11_layAncestors_65 rfl ?_
    refine wp_if_lt (pc := 67) 147 dX11_layAncestors_67 (by decide) (by omega) (fun h_2 => ?_) (fun h_2 => ?_)
    · refine wp_none 4 [some (vR 111), some (vI (p : Int)), some (vI (c : Int)), some (vI 1), none, none] rfl ?_
      refine hN f (fun _ _ => rfl) ?_
      unfold comb; by_cases z : 0 ≤ T 12 p
      · have z1 := ef z; have z2 := ea z; rw [z2, if_neg]; intro y; by_cases pc_ : p = c
        · have z3 := hcp pc_; omega
        · omega
      · rw [en z, if_neg (fun y => y.1 rfl)]
    · refine wp_aload_n (pc := 70) 0 dX11_layAncestors_70 rfl rfl ?_
      refine wp_getr (pc := 71) dX11_layAncestors_71 rfl f_X11_100 kd_111 la_111 rfl (r_111_59 D) ?_
      refine wp_bipush (pc := 74) dX11_layAncestors_74 (by decide) ?_
      refine wp_iload (pc := 76) dX11_layAncestors_76 rfl ?_
      refine wp_imul (pc := 78) dX11_layAncestors_78 ?_
      refine wp_iload_n (pc := 79) 2 dX11_layAncestors_79 rfl rfl ?_
      refine wp_iadd (pc := 80) dX11_layAncestors_80 ?_
      refine wq_iald (pc := 81) ((8 * (Int.toNat (T 12 p))) + c) dX11_layAncestors_81 kd_138 la_138 (by omega) (by omega) ?_
      refine wp_eqst (st' := [vI (f ((8 * (Int.toNat (T 12 p))) + c))]) (by rw [upc_s]) ?_
      refine wp_if_ge (pc := 82) 88 dX11_layAncestors_82 (by decide) (by omega) (fun h_3 => ?_) (fun h_3 => ?_)
      · refine wp_aload_n (pc := 88) 0 dX11_layAncestors_88 rfl rfl ?_
        refine wp_getr (pc := 89) dX11_layAncestors_89 rfl f_X11_100 kd_111 la_111 rfl (r_111_59 D) ?_
        refine wp_bipush (pc := 92) dX11_layAncestors_92 (by decide) ?_
        refine wp_iload (pc := 94) dX11_layAncestors_94 rfl ?_
        refine wp_imul (pc := 96) dX11_layAncestors_96 ?_
        refine wp_iload_n (pc := 97) 2 dX11_layAncestors_97 rfl rfl ?_
        refine wp_iadd (pc := 98) dX11_layAncestors_98 ?_
        refine wq_iald (pc := 99) ((8 * (Int.toNat (T 12 p))) + c) dX11_layAncestors_99 kd_138 la_138 (by omega) (by omega) ?_
        refine wp_eqst (st' := [vI (f ((8 * (Int.toNat (T 12 p))) + c))]) (by rw [upc_s]) ?_
        refine wp_iconst (pc := 100) dX11_layAncestors_100 ?_
        refine wp_iadd (pc := 101) dX11_layAncestors_101 ?_
        refine wq_istore (pc := 102) [some (vR 111), some (vI (p : Int)), some (vI (c : Int)), some (vI 1), some (vI (T 12 p)), some (vI ((f ((8 * (Int.toNat (T 12 p))) + c)) + 1))] dX11_layAncestors_102 rfl (by decide) rfl ?_
        refine wp_aload_n (pc := 104) 0 dX11_layAncestors_104 rfl rfl ?_
        refine wp_getr (pc := 105) dX11_layAncestors_105 rfl f_X11_100 kd_111 la_111 rfl (r_111_59 D) ?_
        refine wp_bipush (pc := 108) dX11_layAncestors_108 (by decide) ?_
        refine wp_iload_n (pc := 110) 1 dX11_layAncestors_110 rfl rfl ?_
        refine wp_imul (pc := 111) dX11_layAncestors_111 ?_
        refine wp_iload_n (pc := 112) 2 dX11_layAncestors_112 rfl rfl ?_
        refine wp_iadd (pc := 113) dX11_layAncestors_113 ?_
        refine wq_iald (pc := 114) ((8 * p) + c) dX11_layAncestors_114 kd_138 la_138 (by omega) (by omega) ?_
        refine wp_eqst (st' := [vI (f ((8 * p) + c))]) (by rw [upc_s]) ?_
        refine wp_if_lt (pc := 115) 134 dX11_layAncestors_115 (by decide) (by omega) (fun h_4 => ?_) (fun h_4 => ?_)
        · refine wp_aload_n (pc := 134) 0 dX11_layAncestors_134 rfl rfl ?_
          refine wp_getr (pc := 135) dX11_layAncestors_135 rfl f_X11_100 kd_111 la_111 rfl (r_111_59 D) ?_
          refine wp_bipush (pc := 138) dX11_layAncestors_138 (by decide) ?_
          refine wp_iload_n (pc := 140) 1 dX11_layAncestors_140 rfl rfl ?_
          refine wp_imul (pc := 141) dX11_layAncestors_141 ?_
          refine wp_iload_n (pc := 142) 2 dX11_layAncestors_142 rfl rfl ?_
          refine wp_iadd (pc := 143) dX11_layAncestors_143 ?_
          refine wp_iload (pc := 144) dX11_layAncestors_144 rfl ?_
          refine wq_iast (pc := 146) ((8 * p) + c) dX11_layAncestors_146 kd_138 la_138 (by omega) (by omega) ?_
          refine wp_none 4 [some (vR 111), some (vI (p : Int)), some (vI (c : Int)), some (vI 1), none, some (vI ((f ((8 * (Int.toNat (T 12 p))) + c)) + 1))] rfl ?_
          refine wp_none 5 [some (vR 111), some (vI (p : Int)), some (vI (c : Int)), some (vI 1), none, none] rfl ?_
          refine wp_eqI (I' := upc I 138 (setF f (8 * p + c) (f (8 * Int.toNat (T 12 p) + c) + 1))) nrm_b ?_
          refine hN _ (fun j hj => setF_n hj) ?_
          have z1 := ef (by omega); have z2 := ea (by omega); rw [setF_s, z2, z1]; unfold comb; rw [if_pos (by omega)]
        · refine wp_iload (pc := 118) dX11_layAncestors_118 rfl ?_
          refine wp_aload_n (pc := 120) 0 dX11_layAncestors_120 rfl rfl ?_
          refine wp_getr (pc := 121) dX11_layAncestors_121 rfl f_X11_100 kd_111 la_111 rfl (r_111_59 D) ?_
          refine wp_bipush (pc := 124) dX11_layAncestors_124 (by decide) ?_
          refine wp_iload_n (pc := 126) 1 dX11_layAncestors_126 rfl rfl ?_
          refine wp_imul (pc := 127) dX11_layAncestors_127 ?_
          refine wp_iload_n (pc := 128) 2 dX11_layAncestors_128 rfl rfl ?_
          refine wp_iadd (pc := 129) dX11_layAncestors_129 ?_
          refine wq_iald (pc := 130) ((8 * p) + c) dX11_layAncestors_130 kd_138 la_138 (by omega) (by omega) ?_
          refine wp_eqst (st' := [vI (f ((8 * p) + c)), vI ((f ((8 * (Int.toNat (T 12 p))) + c)) + 1)]) (by rw [upc_s]) ?_
          refine wp_icmp_ge (pc := 131) 147 dX11_layAncestors_131 (by decide) (by omega) (by omega) (fun h_5 => ?_) (fun h_5 => ?_)
          · refine wp_none 4 [some (vR 111), some (vI (p : Int)), some (vI (c : Int)), some (vI 1), none, some (vI ((f ((8 * (Int.toNat (T 12 p))) + c)) + 1))] rfl ?_
            refine wp_none 5 [some (vR 111), some (vI (p : Int)), some (vI (c : Int)), some (vI 1), none, none] rfl ?_
            refine hN f (fun _ _ => rfl) ?_
            unfold comb; by_cases z : 0 ≤ T 12 p
            · have z1 := ef z; have z2 := ea z; rw [z2, if_neg]; intro y; by_cases pc_ : p = c
              · have z3 := hcp pc_; omega
              · omega
            · rw [en z, if_neg (fun y => y.1 rfl)]
          · refine wp_aload_n (pc := 134) 0 dX11_layAncestors_134 rfl rfl ?_
            refine wp_getr (pc := 135) dX11_layAncestors_135 rfl f_X11_100 kd_111 la_111 rfl (r_111_59 D) ?_
            refine wp_bipush (pc := 138) dX11_layAncestors_138 (by decide) ?_
            refine wp_iload_n (pc := 140) 1 dX11_layAncestors_140 rfl rfl ?_
            refine wp_imul (pc := 141) dX11_layAncestors_141 ?_
            refine wp_iload_n (pc := 142) 2 dX11_layAncestors_142 rfl rfl ?_
            refine wp_iadd (pc := 143) dX11_layAncestors_143 ?_
            refine wp_iload (pc := 144) dX11_layAncestors_144 rfl ?_
            refine wq_iast (pc := 146) ((8 * p) + c) dX11_layAncestors_146 kd_138 la_138 (by omega) (by omega) ?_
            refine wp_none 4 [some (vR 111), some (vI (p : Int)), some (vI (c : Int)), some (vI 1), none, some (vI ((f ((8 * (Int.toNat (T 12 p))) + c)) + 1))] rfl ?_
            refine wp_none 5 [some (vR 111), some (vI (p : Int)), some (vI (c : Int)), some (vI 1), none, none] rfl ?_
            refine wp_eqI (I' := upc I 138 (setF f (8 * p + c) (f (8 * Int.toNat (T 12 p) + c) + 1))) nrm_b ?_
            refine hN _ (fun j hj => setF_n hj) ?_
            have z1 := ef (by omega); have z2 := ea (by omega); rw [setF_s, z2, z1]; unfold comb; rw [if_pos (by omega)]
      · refine wp_goto (pc := 85) 147 dX11_layAncestors_85 (by decide) ?_
        refine wp_none 4 [some (vR 111), some (vI (p : Int)), some (vI (c : Int)), some (vI 1), none, none] rfl ?_
        refine hN f (fun _ _ => rfl) ?_
        unfold comb; by_cases z : 0 ≤ T 12 p
        · have z1 := ef z; have z2 := ea z; rw [z2, if_neg]; intro y; by_cases pc_ : p = c
          · have z3 := hcp pc_; omega
          · omega
        · rw [en z, if_neg (fun y => y.1 rfl)]

theorem abv_ge {T : mT} (hw : tw T) (q : Int) (p a : Nat) : -1 ≤ abv (upT T) q p a ∧ abv (upT T) q p a ≤ 7 := by
  unfold abv
  split
  · exact ((closeN_ok hw (nP T) (nP_le hw)).2 _).1
  · decide
theorem cmb_in {T : mT} (hw : tw T) {p a : Nat} {q v : Int} (hv : -1 ≤ v ∧ v ≤ 0) : -1 ≤ comb v (abv (upT T) q p a) ∧ comb v (abv (upT T) q p a) ≤ 8 := by
  have h := abv_ge hw q p a
  unfold comb
  split <;> omega

theorem rl_lay_c {l : Launch} {G : mG} {d : Nat} {I : mI} {L : Nat → Nat → Int} {D : Nat → Nat} {Q : mQ} {T : mT} {p : Nat} (hw : tw T) (hpo : parOk T) (h51 : I 111 51 = T 0 12) (hp1 : ∀ p, p < nP T → I 130 (2 * p) = T 11 p) (hp2 : ∀ p, p < nP T → I 130 (2 * p + 1) = T 12 p) (hp : p < nP T) (hd : 0 ≤ d) (hN : ∀ f : Nat → Int, (∀ r a, r < (p + 1) → a < nP T → f (8 * r + a) = upT T (r * 8 + a)) → WP l G m_X11_layAncestors d 153 (upc I 138 f) (XX L D) 2 [some (vR 111), some (vI (((p + 1) : Nat) : Int)), none, none, none, none] [] Q) : ∀ i : Nat, i ≤ nP T → ∀ f : Nat → Int, (∀ r a, r < p → a < nP T → f (8 * r + a) = upT T (r * 8 + a)) → (∀ a, a < i → f (8 * p + a) = upT T (p * 8 + a)) → WP l G m_X11_layAncestors d 153 (upc I 138 f) (XX L D) 12 [some (vR 111), some (vI (p : Int)), some (vI (i : Int)), none, none, none] [] Q := by
  have b_p := tw_p hw
  have eP : nP T = (T 0 12).toNat := rfl
  refine loop_dn (fun i => ∀ f : Nat → Int, (∀ r a, r < p → a < nP T → f (8 * r + a) = upT T (r * 8 + a)) → (∀ a, a < i → f (8 * p + a) = upT T (p * 8 + a)) → WP l G m_X11_layAncestors d 153 (upc I 138 f) (XX L D) 12 [some (vR 111), some (vI (p : Int)), some (vI (i : Int)), none, none, none] [] Q) (nP T) ?_ (fun i hi ih => ?_)
  · intro f h1 h2
    refine wp_iload_n (pc := 12) 2 dX11_layAncestors_12 rfl rfl ?_
    refine wp_aload_n (pc := 13) 0 dX11_layAncestors_13 rfl rfl ?_
    refine wp_geti (pc := 14) dX11_layAncestors_14 rfl f_X11_412 kd_111 la_111 (Or.inl rfl) ?_
    refine wp_eqst (st' := [vI (T 0 12), vI (((nP T) : Nat) : Int)]) (by rw [upc_c (by omega), h51]) ?_
    refine wp_icmp_ge (pc := 17) 159 dX11_layAncestors_17 (by decide) (by omega) (by omega) (fun h_1 => ?_) (fun h_1 => ?_)
    · refine wq_iinc (pc := 159) [some (vR 111), some (vI ((p : Int) + 1)), some (vI (((nP T) : Nat) : Int)), none, none, none] dX11_layAncestors_159 rfl rfl (by decide) rfl ?_
      refine wp_goto (pc := 162) 2 dX11_layAncestors_162 (by decide) ?_
      refine wp_none 2 [some (vR 111), some (vI ((p : Int) + 1)), none, none, none, none] rfl ?_
      refine wp_eqls (ls' := [some (vR 111), some (vI (((p + 1) : Nat) : Int)), none, none, none, none]) rfl (hN f (fun r a hr ha => ?_))
      by_cases e : r = p
      · subst e; exact h2 a ha
      · exact h1 r a (by omega) ha
    · exfalso; omega
  · intro f h1 h2
    refine wp_iload_n (pc := 12) 2 dX11_layAncestors_12 rfl rfl ?_
    refine wp_aload_n (pc := 13) 0 dX11_layAncestors_13 rfl rfl ?_
    refine wp_geti (pc := 14) dX11_layAncestors_14 rfl f_X11_412 kd_111 la_111 (Or.inl rfl) ?_
    refine wp_eqst (st' := [vI (T 0 12), vI (i : Int)]) (by rw [upc_c (by omega), h51]) ?_
    refine wp_icmp_ge (pc := 17) 159 dX11_layAncestors_17 (by decide) (by omega) (by omega) (fun h_1 => ?_) (fun h_1 => ?_)
    · exfalso; omega
    · refine wp_aload_n (pc := 20) 0 dX11_layAncestors_20 rfl rfl ?_
      refine wp_getr (pc := 21) dX11_layAncestors_21 rfl f_X11_100 kd_111 la_111 rfl (r_111_59 D) ?_
      refine wp_bipush (pc := 24) dX11_layAncestors_24 (by decide) ?_
      refine wp_iload_n (pc := 26) 1 dX11_layAncestors_26 rfl rfl ?_
      refine wp_imul (pc := 27) dX11_layAncestors_27 ?_
      refine wp_iload_n (pc := 28) 2 dX11_layAncestors_28 rfl rfl ?_
      refine wp_iadd (pc := 29) dX11_layAncestors_29 ?_
      refine wp_iload_n (pc := 30) 1 dX11_layAncestors_30 rfl rfl ?_
      refine wp_iload_n (pc := 31) 2 dX11_layAncestors_31 rfl rfl ?_
      refine wp_icmp_ne (pc := 32) 39 dX11_layAncestors_32 (by decide) (by omega) (by omega) (fun h_2 => ?_) (fun h_2 => ?_)
      · refine wp_iconst (pc := 39) dX11_layAncestors_39 ?_
        refine wq_iast (pc := 40) ((8 * p) + i) dX11_layAncestors_40 kd_138 la_138 (by omega) (by omega) ?_
        refine wp_iconst (pc := 41) dX11_layAncestors_41 ?_
        refine wq_istore_n (pc := 42) 3 [some (vR 111), some (vI (p : Int)), some (vI (i : Int)), some (vI 0), none, none] dX11_layAncestors_42 rfl rfl (by decide) rfl ?_
        refine wp_eqI (I' := upc I 138 (setF f (8 * p + i) (-1))) nrm_b ?_
        have g1 : ∀ r a, r < p → a < nP T → (setF f (8 * p + i) (-1)) (8 * r + a) = upT T (r * 8 + a) := fun r a hr ha => (setF_n (by omega)).trans (h1 r a hr ha)
        have g0 : (setF f (8 * p + i) (-1)) (8 * p + i) = (-1) := setF_s
        refine rl_lay_k0 (f := (setF f (8 * p + i) (-1))) hw hpo h51 hp1 hp2 hp hi g1 (fun z => by omega) (by rw [g0]; decide) hd (fun g e1 e2 => ?_)
        refine wq_iinc (pc := 147) [some (vR 111), some (vI (p : Int)), some (vI (i : Int)), some (vI 1), none, none] dX11_layAncestors_147 rfl rfl (by decide) rfl ?_
        refine wp_goto (pc := 150) 43 dX11_layAncestors_150 (by decide) ?_
        have g2 : ∀ r a, r < p → a < nP T → g (8 * r + a) = upT T (r * 8 + a) := fun r a hr ha => (e1 _ (by omega)).trans (g1 r a hr ha)
        rw [g0] at e2
        have bc := cmb_in hw (p := p) (q := T 11 p) (a := i) (v := (-1)) (by decide)
        have b0 := abv_ge hw (T 11 p) p i
        refine rl_lay_k1 (f := g) hw hpo h51 hp1 hp2 hp hi g2 (fun z => ?_) (by rw [e2]; exact bc) hd (fun h e3 e4 => ?_)
        · rw [e2]; unfold comb; rw [if_neg (by omega)] <;> omega
        refine wq_iinc (pc := 147) [some (vR 111), some (vI (p : Int)), some (vI (i : Int)), some (vI 2), none, none] dX11_layAncestors_147 rfl rfl (by decide) rfl ?_
        refine wp_goto (pc := 150) 43 dX11_layAncestors_150 (by decide) ?_
        refine wp_iload_n (pc := 43) 3 dX11_layAncestors_43 rfl rfl ?_
        refine wp_iconst (pc := 44) dX11_layAncestors_44 ?_
        refine wp_icmp_ge (pc := 45) 153 dX11_layAncestors_45 (by decide) (by decide) (by decide) (fun _ => ?_) (fun hh => absurd hh (by decide))
        refine wq_iinc (pc := 153) [some (vR 111), some (vI (p : Int)), some (vI ((i : Int) + 1)), some (vI 2), none, none] dX11_layAncestors_153 rfl rfl (by decide) rfl ?_
        refine wp_goto (pc := 156) 12 dX11_layAncestors_156 (by decide) ?_
        refine wp_none 3 [some (vR 111), some (vI (p : Int)), some (vI ((i : Int) + 1)), none, none, none] rfl ?_
        refine wp_eqls (ls' := [some (vR 111), some (vI (p : Int)), some (vI (((i + 1) : Nat) : Int)), none, none, none]) rfl (ih h (fun r a hr ha => (e3 _ (by omega)).trans (g2 r a hr ha)) (fun a ha => ?_))
        by_cases e : a = i
        · subst e; rw [e4, e2, up_row hw hp (by omega)]; congr 2; first | exact (if_pos (by omega)).symm | exact (if_neg (by omega)).symm
        · rw [e3 _ (by omega), e1 _ (by omega), setF_n (by omega)]; exact h2 a (by omega)
      · refine wp_iconst (pc := 35) dX11_layAncestors_35 ?_
        refine wp_goto (pc := 36) 40 dX11_layAncestors_36 (by decide) ?_
        refine wq_iast (pc := 40) ((8 * p) + i) dX11_layAncestors_40 kd_138 la_138 (by omega) (by omega) ?_
        refine wp_iconst (pc := 41) dX11_layAncestors_41 ?_
        refine wq_istore_n (pc := 42) 3 [some (vR 111), some (vI (p : Int)), some (vI (i : Int)), some (vI 0), none, none] dX11_layAncestors_42 rfl rfl (by decide) rfl ?_
        refine wp_eqI (I' := upc I 138 (setF f (8 * p + i) 0)) nrm_b ?_
        have g1 : ∀ r a, r < p → a < nP T → (setF f (8 * p + i) 0) (8 * r + a) = upT T (r * 8 + a) := fun r a hr ha => (setF_n (by omega)).trans (h1 r a hr ha)
        have g0 : (setF f (8 * p + i) 0) (8 * p + i) = 0 := setF_s
        refine rl_lay_k0 (f := (setF f (8 * p + i) 0)) hw hpo h51 hp1 hp2 hp hi g1 (fun z => by omega) (by rw [g0]; decide) hd (fun g e1 e2 => ?_)
        refine wq_iinc (pc := 147) [some (vR 111), some (vI (p : Int)), some (vI (i : Int)), some (vI 1), none, none] dX11_layAncestors_147 rfl rfl (by decide) rfl ?_
        refine wp_goto (pc := 150) 43 dX11_layAncestors_150 (by decide) ?_
        have g2 : ∀ r a, r < p → a < nP T → g (8 * r + a) = upT T (r * 8 + a) := fun r a hr ha => (e1 _ (by omega)).trans (g1 r a hr ha)
        rw [g0] at e2
        have bc := cmb_in hw (p := p) (q := T 11 p) (a := i) (v := 0) (by decide)
        have b0 := abv_ge hw (T 11 p) p i
        refine rl_lay_k1 (f := g) hw hpo h51 hp1 hp2 hp hi g2 (fun z => ?_) (by rw [e2]; exact bc) hd (fun h e3 e4 => ?_)
        · rw [e2]; unfold comb; rw [if_neg (by omega)] <;> omega
        refine wq_iinc (pc := 147) [some (vR 111), some (vI (p : Int)), some (vI (i : Int)), some (vI 2), none, none] dX11_layAncestors_147 rfl rfl (by decide) rfl ?_
        refine wp_goto (pc := 150) 43 dX11_layAncestors_150 (by decide) ?_
        refine wp_iload_n (pc := 43) 3 dX11_layAncestors_43 rfl rfl ?_
        refine wp_iconst (pc := 44) dX11_layAncestors_44 ?_
        refine wp_icmp_ge (pc := 45) 153 dX11_layAncestors_45 (by decide) (by decide) (by decide) (fun _ => ?_) (fun hh => absurd hh (by decide))
        refine wq_iinc (pc := 153) [some (vR 111), some (vI (p : Int)), some (vI ((i : Int) + 1)), some (vI 2), none, none] dX11_layAncestors_153 rfl rfl (by decide) rfl ?_
        refine wp_goto (pc := 156) 12 dX11_layAncestors_156 (by decide) ?_
        refine wp_none 3 [some (vR 111), some (vI (p : Int)), some (vI ((i : Int) + 1)), none, none, none] rfl ?_
        refine wp_eqls (ls' := [some (vR 111), some (vI (p : Int)), some (vI (((i + 1) : Nat) : Int)), none, none, none]) rfl (ih h (fun r a hr ha => (e3 _ (by omega)).trans (g2 r a hr ha)) (fun a ha => ?_))
        by_cases e : a = i
        · subst e; rw [e4, e2, up_row hw hp (by omega)]; congr 2; first | exact (if_pos (by omega)).symm | exact (if_neg (by omega)).symm
        · rw [e3 _ (by omega), e1 _ (by omega), setF_n (by omega)]; exact h2 a (by omega)

theorem rl_lay_p {l : Launch} {G : mG} {d : Nat} {I : mI} {L : Nat → Nat → Int} {D : Nat → Nat} {Q : mQ} {T : mT} (hw : tw T) (hpo : parOk T) (h51 : I 111 51 = T 0 12) (hp1 : ∀ p, p < nP T → I 130 (2 * p) = T 11 p) (hp2 : ∀ p, p < nP T → I 130 (2 * p + 1) = T 12 p) (hd : 0 ≤ d) (hQ : ∀ f : Nat → Int, (∀ r a, r < (nP T) → a < nP T → f (8 * r + a) = upT T (r * 8 + a)) → Q none (upc I 138 f) (XX L D)) : ∀ i : Nat, i ≤ nP T → ∀ f : Nat → Int, (∀ r a, r < i → a < nP T → f (8 * r + a) = upT T (r * 8 + a)) → WP l G m_X11_layAncestors d 153 (upc I 138 f) (XX L D) 2 [some (vR 111), some (vI (i : Int)), none, none, none, none] [] Q := by
  have b_p := tw_p hw
  have eP : nP T = (T 0 12).toNat := rfl
  refine loop_dn (fun i => ∀ f : Nat → Int, (∀ r a, r < i → a < nP T → f (8 * r + a) = upT T (r * 8 + a)) → WP l G m_X11_layAncestors d 153 (upc I 138 f) (XX L D) 2 [some (vR 111), some (vI (i : Int)), none, none, none, none] [] Q) (nP T) ?_ (fun i hi ih => ?_)
  · intro f h1
    refine wp_iload_n (pc := 2) 1 dX11_layAncestors_2 rfl rfl ?_
    refine wp_aload_n (pc := 3) 0 dX11_layAncestors_3 rfl rfl ?_
    refine wp_geti (pc := 4) dX11_layAncestors_4 rfl f_X11_412 kd_111 la_111 (Or.inl rfl) ?_
    refine wp_eqst (st' := [vI (T 0 12), vI (((nP T) : Nat) : Int)]) (by rw [upc_c (by omega), h51]) ?_
    refine wp_icmp_ge (pc := 7) 165 dX11_layAncestors_7 (by decide) (by omega) (by omega) (fun h_1 => ?_) (fun h_1 => ?_)
    · refine wp_vret (pc := 165) dX11_layAncestors_165 rfl rfl ?_
      exact hQ f h1
    · exfalso; omega
  · intro f h1
    refine wp_iload_n (pc := 2) 1 dX11_layAncestors_2 rfl rfl ?_
    refine wp_aload_n (pc := 3) 0 dX11_layAncestors_3 rfl rfl ?_
    refine wp_geti (pc := 4) dX11_layAncestors_4 rfl f_X11_412 kd_111 la_111 (Or.inl rfl) ?_
    refine wp_eqst (st' := [vI (T 0 12), vI (i : Int)]) (by rw [upc_c (by omega), h51]) ?_
    refine wp_icmp_ge (pc := 7) 165 dX11_layAncestors_7 (by decide) (by omega) (by omega) (fun h_1 => ?_) (fun h_1 => ?_)
    · exfalso; omega
    · refine wp_iconst (pc := 10) dX11_layAncestors_10 ?_
      refine wq_istore_n (pc := 11) 2 [some (vR 111), some (vI (i : Int)), some (vI 0), none, none, none] dX11_layAncestors_11 rfl rfl (by decide) rfl ?_
      exact rl_lay_c hw hpo h51 hp1 hp2 hi hd ih 0 (Nat.zero_le _) f h1 (fun a ha => absurd ha (Nat.not_lt_zero a))

theorem rs_layAncestors {l : Launch} {G : mG} {d : Nat} {I : mI} {L : Nat → Nat → Int} {D : Nat → Nat} {Q : mQ} {T : mT}  (hw : tw T) (hpo : parOk T) (h51 : I 111 51 = T 0 12) (hp1 : ∀ p, p < nP T → I 130 (2 * p) = T 11 p) (hp2 : ∀ p, p < nP T → I 130 (2 * p + 1) = T 12 p) (hd : 0 ≤ d) (hQ : ∀ f : Nat → Int, (∀ r a, r < (nP T) → a < nP T → f (8 * r + a) = upT T (r * 8 + a)) → Q none (upc I 138 f) (XX L D)) : WP l G m_X11_layAncestors d 153 I (XX L D) 0 [some (vR 111), none, none, none, none, none] [] Q := by
  refine wp_iconst (pc := 0) dX11_layAncestors_0 ?_
  refine wq_istore_n (pc := 1) 1 [some (vR 111), some (vI 0), none, none, none, none] dX11_layAncestors_1 rfl rfl (by decide) rfl ?_
  refine wp_eqI (I' := upc I 138 (I 138)) (by rw [upc_id]) (rl_lay_p hw hpo h51 hp1 hp2 hd hQ 0 (Nat.zero_le _) (I 138) (fun r a hr _ => absurd hr (Nat.not_lt_zero r)))
