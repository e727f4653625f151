/-! the loops of the reference's town() -/
theorem lp_tw1 {l : Launch} {G : mG} {d : Nat} {J : mI} {L : Nat → Nat → Int} {D : Nat → Nat} {Q : mQ} {m : Nat} (h18 : J 111 18 = ((m : Nat) : Int)) (hm : m ≤ 320) (hd : 2 ≤ d) (hQ : ∀ K : mI, (∀ b, b ≠ 116 → b ≠ 117 → K b = J b) → (∀ k, k < m → K 116 k = J 114 k ∧ K 117 k = J 115 k) → WP l G m_X11_town d 153 K (XX L D) 120 [some (vR 111), some (vI (m : Int))] [] Q) : ∀ i, i ≤ m → ∀ K : mI, (∀ b, b ≠ 116 → b ≠ 117 → K b = J b) → (∀ k, k < i → K 116 k = J 114 k ∧ K 117 k = J 115 k) → WP l G m_X11_town d 153 K (XX L D) 82 [some (vR 111), some (vI (i : Int))] [] Q := by
  refine loop_dn (fun i => ∀ K : mI, (∀ b, b ≠ 116 → b ≠ 117 → K b = J b) → (∀ k, k < i → K 116 k = J 114 k ∧ K 117 k = J 115 k) → WP l G m_X11_town d 153 K (XX L D) 82 [some (vR 111), some (vI (i : Int))] [] Q) m ?_ (fun i hi ih => ?_)
  · intro K hK hV
    refine wp_iload_n (pc := 82) 1 dX11_town_82 rfl rfl ?_
    refine wp_aload_n (pc := 83) 0 dX11_town_83 rfl rfl ?_
    refine wp_geti (pc := 84) dX11_town_84 rfl f_X11_324 kd_111 la_111 (Or.inl rfl) ?_
    refine wp_eqst (st' := [vI ((m : Nat) : Int), vI (m : Int)]) (by rw [((congrFun (hK 111 (by decide) (by decide)) 18).trans h18)]) ?_
    refine wp_icmp_ge (pc := 87) 120 dX11_town_87 (by decide) (by omega) (by omega) (fun h_1 => ?_) (fun h_1 => ?_)
    · exact hQ K hK hV
    · exfalso; omega
  · intro K hK hV
    refine wp_iload_n (pc := 82) 1 dX11_town_82 rfl rfl ?_
    refine wp_aload_n (pc := 83) 0 dX11_town_83 rfl rfl ?_
    refine wp_geti (pc := 84) dX11_town_84 rfl f_X11_324 kd_111 la_111 (Or.inl rfl) ?_
    refine wp_eqst (st' := [vI ((m : Nat) : Int), vI (i : Int)]) (by rw [((congrFun (hK 111 (by decide) (by decide)) 18).trans h18)]) ?_
    refine wp_icmp_ge (pc := 87) 120 dX11_town_87 (by decide) (by omega) (by omega) (fun h_1 => ?_) (fun h_1 => ?_)
    · exfalso; omega
    · refine wp_aload_n (pc := 90) 0 dX11_town_90 rfl rfl ?_
      refine wp_getr (pc := 91) dX11_town_91 rfl f_X11_27 kd_111 la_111 rfl (r_111_13 D) ?_
      refine wp_iload_n (pc := 94) 1 dX11_town_94 rfl rfl ?_
      refine wp_aload_n (pc := 95) 0 dX11_town_95 rfl rfl ?_
      refine wp_getr (pc := 96) dX11_town_96 rfl f_X11_21 kd_111 la_111 rfl (r_111_11 D) ?_
      refine wp_iload_n (pc := 99) 1 dX11_town_99 rfl rfl ?_
      refine wq_iald (pc := 100) i dX11_town_100 kd_114 la_114 rfl (by omega) ?_
      refine wq_iast (pc := 101) i dX11_town_101 kd_116 la_116 rfl (by omega) ?_
      refine wp_aload_n (pc := 102) 0 dX11_town_102 rfl rfl ?_
      refine wp_getr (pc := 103) dX11_town_103 rfl f_X11_30 kd_111 la_111 rfl (r_111_14 D) ?_
      refine wp_iload_n (pc := 106) 1 dX11_town_106 rfl rfl ?_
      refine wp_aload_n (pc := 107) 0 dX11_town_107 rfl rfl ?_
      refine wp_getr (pc := 108) dX11_town_108 rfl f_X11_24 kd_111 la_111 rfl (r_111_12 D) ?_
      refine wp_iload_n (pc := 111) 1 dX11_town_111 rfl rfl ?_
      refine wq_iald (pc := 112) i dX11_town_112 kd_115 la_115 rfl (by omega) ?_
      refine wp_eqst (st' := [vI (K 115 i), vI (i : Int), vR 117]) (by rw [up_c (by omega)]) ?_
      refine wq_iast (pc := 113) i dX11_town_113 kd_117 la_117 rfl (by omega) ?_
      refine wq_iinc (pc := 114) [some (vR 111), some (vI ((i : Int) + 1))] dX11_town_114 rfl rfl (by decide) rfl ?_
      refine wp_goto (pc := 117) 82 dX11_town_117 (by decide) ?_
      refine wp_eqls (ls' := [some (vR 111), some (vI ((i + 1 : Nat) : Int))]) rfl (ih _ (fun b g116 g117 => (funext fun k => ?_).trans (hK b g116 g117)) (fun k hk => ?_))
      · rw [up_c g117, up_c g116]
      · by_cases z : k = i
        · subst z
          refine ⟨?_, ?_⟩
          · rw [up_c (by decide), up_s]; exact congrFun (hK 114 (by decide) (by decide)) _
          · rw [up_s]; exact congrFun (hK 115 (by decide) (by decide)) _
        · have hv := hV k (by omega)
          refine ⟨?_, ?_⟩
          · rw [up_c (by decide), up_j (by omega)]; exact hv.1
          · rw [up_j (by omega), up_c (by decide)]; exact hv.2

theorem lp_tw2 {l : Launch} {G : mG} {d : Nat} {J : mI} {L : Nat → Nat → Int} {D : Nat → Nat} {Q : mQ}   (hd : 2 ≤ d) (hQ : ∀ K : mI, (∀ b, b ≠ 139 → K b = J b) → (∀ k, k < 30 → K 139 k = 0) → WP l G m_X11_town d 153 K (XX L D) 141 [some (vR 111), some (vI 30)] [] Q) : ∀ i, i ≤ 30 → ∀ K : mI, (∀ b, b ≠ 139 → K b = J b) → (∀ k, k < i → K 139 k = 0) → WP l G m_X11_town d 153 K (XX L D) 122 [some (vR 111), some (vI (i : Int))] [] Q := by
  refine loop_dn (fun i => ∀ K : mI, (∀ b, b ≠ 139 → K b = J b) → (∀ k, k < i → K 139 k = 0) → WP l G m_X11_town d 153 K (XX L D) 122 [some (vR 111), some (vI (i : Int))] [] Q) 30 ?_ (fun i hi ih => ?_)
  · intro K hK hV
    refine wp_iload_n (pc := 122) 1 dX11_town_122 rfl rfl ?_
    refine wp_bipush (pc := 123) dX11_town_123 (by decide) ?_
    refine wp_icmp_ge (pc := 125) 141 dX11_town_125 (by decide) (by decide) (by decide) (fun _ => ?_) (fun hh => absurd hh (by decide))
    exact hQ K hK hV
  · intro K hK hV
    refine wp_iload_n (pc := 122) 1 dX11_town_122 rfl rfl ?_
    refine wp_bipush (pc := 123) dX11_town_123 (by decide) ?_
    refine wp_icmp_ge (pc := 125) 141 dX11_town_125 (by decide) (by omega) (by decide) (fun h_1 => ?_) (fun h_1 => ?_)
    · exfalso; omega
    · refine wp_aload_n (pc := 128) 0 dX11_town_128 rfl rfl ?_
      refine wp_getr (pc := 129) dX11_town_129 rfl f_X11_103 kd_111 la_111 rfl (r_111_60 D) ?_
      refine wp_iload_n (pc := 132) 1 dX11_town_132 rfl rfl ?_
      refine wp_iconst (pc := 133) dX11_town_133 ?_
      refine wq_iast (pc := 134) i dX11_town_134 kd_139 la_139 rfl (by omega) ?_
      refine wq_iinc (pc := 135) [some (vR 111), some (vI ((i : Int) + 1))] dX11_town_135 rfl rfl (by decide) rfl ?_
      refine wp_goto (pc := 138) 122 dX11_town_138 (by decide) ?_
      refine wp_eqls (ls' := [some (vR 111), some (vI ((i + 1 : Nat) : Int))]) rfl (ih _ (fun b g139 => (funext fun k => ?_).trans (hK b g139)) (fun k hk => ?_))
      · rw [up_c g139]
      · by_cases z : k = i
        · subst z
          skip
          rw [up_s]
        · have hv := hV k (by omega)
          skip
          rw [up_j (by omega)]; exact hv

