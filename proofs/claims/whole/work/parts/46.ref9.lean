theorem rs_fault {l : Launch} {G : mG} {d : Nat} {I : mI} {L : Nat → Nat → Int} {D : Nat → Nat} {Q : mQ} {w : Int}  (h_w : inR w) (hd : 0 ≤ d) (hQ : Q (some (vI (faultA (I 111 2) (I 111 3) w))) I (XX L D)) : WP l G m_X11_fault d 153 I (XX L D) 0 [some (vR 111), some (vI w)] [] Q := by
  refine wp_iload_n (pc := 0) 1 dX11_fault_0 rfl rfl ?_
  refine wp_if_ne (pc := 1) 11 dX11_fault_1 (by decide) (by omega) (fun h_1 => ?_) (fun h_1 => ?_)
  · refine wp_iload_n (pc := 11) 1 dX11_fault_11 rfl rfl ?_
    refine wp_iconst (pc := 12) dX11_fault_12 ?_
    refine wp_icmp_ne (pc := 13) 23 dX11_fault_13 (by decide) (by omega) (by decide) (fun h_2 => ?_) (fun h_2 => ?_)
    · refine wp_iconst (pc := 23) dX11_fault_23 ?_
      refine wp_iret (pc := 24) dX11_fault_24 rfl rfl ?_
      have e1 : faultA (I 111 2) (I 111 3) w = (-1) := by unfold faultA; first | (rw [if_pos (by omega)]; done) | (rw [if_neg (by omega), if_pos (by omega)]; done) | (rw [if_neg (by omega), if_neg (by omega)])
      rw [e1] at hQ; exact hQ
    · refine wp_aload_n (pc := 16) 0 dX11_fault_16 rfl rfl ?_
      refine wp_geti (pc := 17) dX11_fault_17 rfl f_X11_13 kd_111 la_111 (Or.inl rfl) ?_
      refine wp_goto (pc := 20) 24 dX11_fault_20 (by decide) ?_
      refine wp_iret (pc := 24) dX11_fault_24 rfl rfl ?_
      have e1 : faultA (I 111 2) (I 111 3) w = I 111 3 := by unfold faultA; first | (rw [if_pos (by omega)]; done) | (rw [if_neg (by omega), if_pos (by omega)]; done) | (rw [if_neg (by omega), if_neg (by omega)])
      rw [e1] at hQ; exact hQ
  · refine wp_aload_n (pc := 4) 0 dX11_fault_4 rfl rfl ?_
    refine wp_geti (pc := 5) dX11_fault_5 rfl f_X11_185 kd_111 la_111 (Or.inl rfl) ?_
    refine wp_goto (pc := 8) 24 dX11_fault_8 (by decide) ?_
    refine wp_iret (pc := 24) dX11_fault_24 rfl rfl ?_
    have e1 : faultA (I 111 2) (I 111 3) w = I 111 2 := by unfold faultA; first | (rw [if_pos (by omega)]; done) | (rw [if_neg (by omega), if_pos (by omega)]; done) | (rw [if_neg (by omega), if_neg (by omega)])
    rw [e1] at hQ; exact hQ

theorem rs_end {l : Launch} {G : mG} {d : Nat} {I : mI} {L : Nat → Nat → Int} {D : Nat → Nat} {Q : mQ} {a : Int}  (h0 : 0 ≤ I 111 1 ∧ I 111 1 ≤ 1600) (h_a : inR a) (hd : 0 ≤ d) (g1 : (0 ≤ a ∧ a ≤ I 111 1) → Q (some (vI a)) (up I 111 1 a) (XX L D)) (g0 : ¬ (0 ≤ a ∧ a ≤ I 111 1) → Q (some (vI (-1))) I (XX L D)) : WP l G m_X11_end d 153 I (XX L D) 0 [some (vR 111), some (vI a)] [] Q := by
  refine wp_iload_n (pc := 0) 1 dX11_end_0 rfl rfl ?_
  refine wp_if_lt (pc := 1) 12 dX11_end_1 (by decide) (by omega) (fun h_1 => ?_) (fun h_1 => ?_)
  · refine wp_iconst (pc := 12) dX11_end_12 ?_
    refine wp_iret (pc := 13) dX11_end_13 rfl rfl ?_
    exact g0 (by omega)
  · refine wp_iload_n (pc := 4) 1 dX11_end_4 rfl rfl ?_
    refine wp_aload_n (pc := 5) 0 dX11_end_5 rfl rfl ?_
    refine wp_geti (pc := 6) dX11_end_6 rfl f_X11_145 kd_111 la_111 (Or.inl rfl) ?_
    refine wp_icmp_le (pc := 9) 14 dX11_end_9 (by decide) (by omega) (by omega) (fun h_2 => ?_) (fun h_2 => ?_)
    · refine wp_aload_n (pc := 14) 0 dX11_end_14 rfl rfl ?_
      refine wp_iload_n (pc := 15) 1 dX11_end_15 rfl rfl ?_
      refine wp_puti (pc := 16) dX11_end_16 rfl f_X11_145 kd_111 la_111 (fun _ h => by cases h; rfl) rfl ?_
      refine wp_iload_n (pc := 19) 1 dX11_end_19 rfl rfl ?_
      refine wp_iret (pc := 20) dX11_end_20 rfl rfl ?_
      exact g1 (by omega)
    · refine wp_iconst (pc := 12) dX11_end_12 ?_
      refine wp_iret (pc := 13) dX11_end_13 rfl rfl ?_
      exact g0 (by omega)
