theorem rl_act2 {l : Launch} {G : mG} {d : Nat} {I : mI} {L : Nat → Nat → Int} {D : Nat → Nat} {Q : mQ} {n : Nat} (h65 : I 111 65 = ((n : Nat) : Int)) (hn : n < 40) (hd : 0 ≤ d) (hQ : Q none (up (up (upc I 142 (wrow (I 142) (I 139) n 30)) 111 65 ((n : Int) + 1)) 111 66 0) (XX L D)) : ∀ i : Nat, i ≤ 30 → WP l G m_X11_act d 153 (upc I 142 (wrow (I 142) (I 139) n i)) (XX L D) 51 [some (vR 111), some (vI (i : Int))] [] Q := by
  refine loop_dn (fun i => WP l G m_X11_act d 153 (upc I 142 (wrow (I 142) (I 139) n i)) (XX L D) 51 [some (vR 111), some (vI (i : Int))] [] Q) 30 ?_ (fun i hi ih => ?_)
  · refine wp_iload_n (pc := 51) 1 dX11_act_51 rfl rfl ?_
    refine wp_bipush (pc := 52) dX11_act_52 (by decide) ?_
    refine wp_icmp_ge (pc := 54) 83 dX11_act_54 (by decide) (by decide) (by decide) (fun _ => ?_) (fun hh => absurd hh (by decide))
    refine wp_aload_n (pc := 83) 0 dX11_act_83 rfl rfl ?_
    refine wp_dup (pc := 84) dX11_act_84 rfl ?_
    refine wp_geti (pc := 85) dX11_act_85 rfl f_X11_424 kd_111 la_111 (Or.inl rfl) ?_
    refine wp_eqst (st' := [vI ((n : Nat) : Int), vR 111]) (by rw [upc_c (by omega), h65]) ?_
    refine wp_iconst (pc := 88) dX11_act_88 ?_
    refine wp_iadd (pc := 89) dX11_act_89 ?_
    refine wp_puti (pc := 90) dX11_act_90 rfl f_X11_424 kd_111 la_111 (fun _ h => by cases h; rfl) rfl ?_
    refine wp_aload_n (pc := 93) 0 dX11_act_93 rfl rfl ?_
    refine wp_iconst (pc := 94) dX11_act_94 ?_
    refine wp_puti (pc := 95) dX11_act_95 rfl f_X11_427 kd_111 la_111 (fun _ h => by cases h; rfl) rfl ?_
    refine wp_vret (pc := 98) dX11_act_98 rfl rfl ?_
    exact hQ
  · refine wp_iload_n (pc := 51) 1 dX11_act_51 rfl rfl ?_
    refine wp_bipush (pc := 52) dX11_act_52 (by decide) ?_
    refine wp_icmp_ge (pc := 54) 83 dX11_act_54 (by decide) (by omega) (by decide) (fun h_1 => ?_) (fun h_1 => ?_)
    · exfalso; omega
    · refine wp_aload_n (pc := 57) 0 dX11_act_57 rfl rfl ?_
      refine wp_getr (pc := 58) dX11_act_58 rfl f_X11_112 kd_111 la_111 rfl (r_111_64 D) ?_
      refine wp_bipush (pc := 61) dX11_act_61 (by decide) ?_
      refine wp_aload_n (pc := 63) 0 dX11_act_63 rfl rfl ?_
      refine wp_geti (pc := 64) dX11_act_64 rfl f_X11_424 kd_111 la_111 (Or.inl rfl) ?_
      refine wp_eqst (st' := [vI ((n : Nat) : Int), vI 30, vR 142]) (by rw [upc_c (by omega), h65]) ?_
      refine wp_imul (pc := 67) dX11_act_67 ?_
      refine wp_iload_n (pc := 68) 1 dX11_act_68 rfl rfl ?_
      refine wp_iadd (pc := 69) dX11_act_69 ?_
      refine wp_aload_n (pc := 70) 0 dX11_act_70 rfl rfl ?_
      refine wp_getr (pc := 71) dX11_act_71 rfl f_X11_103 kd_111 la_111 rfl (r_111_60 D) ?_
      refine wp_iload_n (pc := 74) 1 dX11_act_74 rfl rfl ?_
      refine wq_iald (pc := 75) i dX11_act_75 kd_139 la_139 rfl (by omega) ?_
      refine wp_eqst (st' := [vI (I 139 i), vI ((30 * ((n : Nat) : Int)) + (i : Int)), vR 142]) (by rw [upc_c (by omega)]) ?_
      refine wq_iast (pc := 76) ((30 * n) + i) dX11_act_76 kd_142 la_142 (by omega) (by omega) ?_
      refine wq_iinc (pc := 77) [some (vR 111), some (vI ((i : Int) + 1))] dX11_act_77 rfl rfl (by decide) rfl ?_
      refine wp_goto (pc := 80) 51 dX11_act_80 (by decide) ?_
      refine wp_eqI (I' := upc I 142 (wrow (I 142) (I 139) n (i + 1))) (by rw [up_upc]; exact congrArg (upc I 142) wrow_s) ?_
      exact wp_eqls (ls' := [some (vR 111), some (vI (((i + 1) : Nat) : Int))]) rfl ih

theorem rl_act1 {l : Launch} {G : mG} {d : Nat} {I : mI} {L : Nat → Nat → Int} {D : Nat → Nat} {Q : mQ} {H : mH} (hH : RH I H) (hN : I 139 = pS (H.1 H.2.1)) (h40 : H.2.1 = 40) (hd : 0 ≤ d) (hQ : ∀ J, Rk I J → (∀ S, RH J (hadd H S)) → Q none J (XX L D)) : ∀ i : Nat, i ≤ 1170 → WP l G m_X11_act d 153 (upc I 142 (wsh (I 142) i)) (XX L D) 11 [some (vR 111), some (vI (i : Int))] [] Q := by
  have h65 := hH.1
  refine loop_dn (fun i => WP l G m_X11_act d 153 (upc I 142 (wsh (I 142) i)) (XX L D) 11 [some (vR 111), some (vI (i : Int))] [] Q) 1170 ?_ (fun i hi ih => ?_)
  · refine wp_iload_n (pc := 11) 1 dX11_act_11 rfl rfl ?_
    refine wp_sipush (pc := 12) dX11_act_12 (by decide) ?_
    refine wp_icmp_ge (pc := 15) 39 dX11_act_15 (by decide) (by decide) (by decide) (fun _ => ?_) (fun hh => absurd hh (by decide))
    refine wp_aload_n (pc := 39) 0 dX11_act_39 rfl rfl ?_
    refine wp_dup (pc := 40) dX11_act_40 rfl ?_
    refine wp_geti (pc := 41) dX11_act_41 rfl f_X11_424 kd_111 la_111 (Or.inl rfl) ?_
    refine wp_eqst (st' := [vI ((H.2.1 : Nat) : Int), vR 111]) (by rw [upc_c (by omega), h65]) ?_
    refine wp_iconst (pc := 44) dX11_act_44 ?_
    refine wp_isub (pc := 45) dX11_act_45 ?_
    refine wp_puti (pc := 46) dX11_act_46 rfl f_X11_424 kd_111 la_111 (fun _ h => by cases h; rfl) rfl ?_
    refine wp_iconst (pc := 49) dX11_act_49 ?_
    refine wq_istore_n (pc := 50) 1 [some (vR 111), some (vI 0)] dX11_act_50 rfl rfl (by decide) rfl ?_
    have m1 : (up (upc I 142 (wsh (I 142) 1170)) 111 65 (((H.2.1 : Nat) : Int) - 1)) 142 = wsh (I 142) 1170 := funext fun j => by rw [up_c (by decide), upc_s]
    have m2 : (up (upc I 142 (wsh (I 142) 1170)) 111 65 (((H.2.1 : Nat) : Int) - 1)) 139 = I 139 := funext fun j => by rw [up_c (by decide), upc_c (by decide)]
    refine wp_eqls (ls' := [some (vR 111), some (vI 0)]) rfl (wp_eqI (I' := upc (up (upc I 142 (wsh (I 142) 1170)) 111 65 (((H.2.1 : Nat) : Int) - 1)) 142 (wrow ((up (upc I 142 (wsh (I 142) 1170)) 111 65 (((H.2.1 : Nat) : Int) - 1)) 142) ((up (upc I 142 (wsh (I 142) 1170)) 111 65 (((H.2.1 : Nat) : Int) - 1)) 139) 39 0)) (by rw [wrow_0, upc_id]) (rl_act2 (I := up (upc I 142 (wsh (I 142) 1170)) 111 65 (((H.2.1 : Nat) : Int) - 1)) (n := 39) (by rw [up_s]; omega) (by decide) hd (hQ _ ⟨fun b g1 g2 => funext fun j => ?_, fun j g1 g2 => ?_⟩ (rh_act2 hH hN h40 ?_ ?_ ?_)) 0 (Nat.zero_le _)))
    · rw [up_c g1, up_c g1, upc_c g2, up_c g1, upc_c g2]
    · rw [up_j g2, up_j g1, upc_c (by decide), up_j g1, upc_c (by decide)]
    · rw [up_j (by decide), up_s]; rfl
    · rw [up_s]
    · rw [m1, m2]; exact funext fun j => by rw [up_c (by decide), up_c (by decide), upc_s]
  · refine wp_iload_n (pc := 11) 1 dX11_act_11 rfl rfl ?_
    refine wp_sipush (pc := 12) dX11_act_12 (by decide) ?_
    refine wp_icmp_ge (pc := 15) 39 dX11_act_15 (by decide) (by omega) (by decide) (fun h_1 => ?_) (fun h_1 => ?_)
    · exfalso; omega
    · refine wp_aload_n (pc := 18) 0 dX11_act_18 rfl rfl ?_
      refine wp_getr (pc := 19) dX11_act_19 rfl f_X11_112 kd_111 la_111 rfl (r_111_64 D) ?_
      refine wp_iload_n (pc := 22) 1 dX11_act_22 rfl rfl ?_
      refine wp_aload_n (pc := 23) 0 dX11_act_23 rfl rfl ?_
      refine wp_getr (pc := 24) dX11_act_24 rfl f_X11_112 kd_111 la_111 rfl (r_111_64 D) ?_
      refine wp_bipush (pc := 27) dX11_act_27 (by decide) ?_
      refine wp_iload_n (pc := 29) 1 dX11_act_29 rfl rfl ?_
      refine wp_iadd (pc := 30) dX11_act_30 ?_
      refine wq_iald (pc := 31) (30 + i) dX11_act_31 kd_142 la_142 (by omega) (by omega) ?_
      refine wp_eqst (st' := [vI ((wsh (I 142) i) (30 + i)), vI (i : Int), vR 142]) (by rw [upc_s]) ?_
      refine wq_iast (pc := 32) i dX11_act_32 kd_142 la_142 rfl (by omega) ?_
      refine wq_iinc (pc := 33) [some (vR 111), some (vI ((i : Int) + 1))] dX11_act_33 rfl rfl (by decide) rfl ?_
      refine wp_goto (pc := 36) 11 dX11_act_36 (by decide) ?_
      refine wp_eqI (I' := upc I 142 (wsh (I 142) (i + 1))) (by rw [up_upc]; exact congrArg (upc I 142) wsh_s) ?_
      exact wp_eqls (ls' := [some (vR 111), some (vI (((i + 1) : Nat) : Int))]) rfl ih

theorem rs_act {l : Launch} {G : mG} {d : Nat} {I : mI} {L : Nat → Nat → Int} {D : Nat → Nat} {Q : mQ} {H : mH}  (hH : RH I H) (hN : I 139 = pS (H.1 H.2.1)) (hd : 0 ≤ d) (hQ : ∀ J, Rk I J → (∀ S, RH J (hadd H S)) → Q none J (XX L D)) : WP l G m_X11_act d 153 I (XX L D) 0 [some (vR 111), none] [] Q := by
  have h65 := hH.1
  have h40 := hH.2.2.2.1
  have h41 := hH.2.2.1
  refine wp_aload_n (pc := 0) 0 dX11_act_0 rfl rfl ?_
  refine wp_geti (pc := 1) dX11_act_1 rfl f_X11_424 kd_111 la_111 (Or.inl rfl) ?_
  refine wp_eqst (st' := [vI ((H.2.1 : Nat) : Int)]) (by rw [h65]) ?_
  refine wp_bipush (pc := 4) dX11_act_4 (by decide) ?_
  refine wp_icmp_ne (pc := 6) 49 dX11_act_6 (by decide) (by omega) (by decide) (fun h_1 => ?_) (fun h_1 => ?_)
  · refine wp_iconst (pc := 49) dX11_act_49 ?_
    refine wq_istore_n (pc := 50) 1 [some (vR 111), some (vI 0)] dX11_act_50 rfl rfl (by decide) rfl ?_
    refine wp_eqls (ls' := [some (vR 111), some (vI 0)]) rfl (wp_eqI (I' := upc I 142 (wrow (I 142) (I 139) H.2.1 0)) (by rw [wrow_0, upc_id]) (rl_act2 h65 (by omega) hd (hQ _ ⟨fun b g1 g2 => funext fun j => ?_, fun j g1 g2 => ?_⟩ (rh_act hH hN (by omega) ?_ ?_ ?_)) 0 (Nat.zero_le _)))
    · rw [up_c g1, up_c g1, upc_c g2]
    · rw [up_j g2, up_j g1, upc_c (by decide)]
    · rw [up_j (by decide), up_s]; rfl
    · rw [up_s]
    · exact funext fun j => by rw [up_c (by decide), up_c (by decide), upc_s]
  · refine wp_iconst (pc := 9) dX11_act_9 ?_
    refine wq_istore_n (pc := 10) 1 [some (vR 111), some (vI 0)] dX11_act_10 rfl rfl (by decide) rfl ?_
    refine wp_eqls (ls' := [some (vR 111), some (vI 0)]) rfl (wp_eqI (I' := upc I 142 (wsh (I 142) 0)) (by rw [show wsh (I 142) 0 = I 142 from funext fun j => if_neg (Nat.not_lt_zero j), upc_id]) (rl_act1 hH hN (by omega) hd hQ 0 (Nat.zero_le _)))

theorem xch_s {I : mI} {n i : Nat} : up (up (upc (upc I 142 (wrow (I 142) (I 139) n i)) 139 (fun j => if j < i then I 142 (30 * n + j) else I 139 j)) 142 (30 * n + i) ((fun j => if j < i then I 142 (30 * n + j) else I 139 j) i)) 139 i (wrow (I 142) (I 139) n i (30 * n + i)) = upc (upc I 142 (wrow (I 142) (I 139) n (i + 1))) 139 (fun j => if j < i + 1 then I 142 (30 * n + j) else I 139 j) := by
  funext b j
  by_cases h1 : b = 139
  · subst h1
    rw [upc_s]
    by_cases h2 : j = i
    · subst h2
      rw [up_s, if_pos (by omega)]
      unfold wrow
      rw [if_neg (by omega)]
    · rw [up_j h2, up_c (by decide), upc_s]
      by_cases h3 : j < i
      · rw [if_pos h3, if_pos (by omega)]
      · rw [if_neg h3, if_neg (by omega)]
  · rw [up_c h1, upc_c h1]
    by_cases h2 : b = 142
    · subst h2
      rw [upc_s, ← wrow_s]
      by_cases h3 : j = 30 * n + i
      · subst h3
        rw [up_s]
        show (if i < i then I 142 (30 * n + i) else I 139 i) = if 30 * n + i = 30 * n + i then I 139 i else wrow (I 142) (I 139) n i (30 * n + i)
        rw [if_neg (by omega), if_pos rfl]
      · rw [up_j h3, upc_c (by decide), upc_s]
        exact (if_neg h3).symm
    · rw [up_c h2, upc_c h1, upc_c h2, upc_c h2]

theorem rl_exchange {l : Launch} {G : mG} {d : Nat} {I : mI} {L : Nat → Nat → Int} {D : Nat → Nat} {Q : mQ} {n : Nat} {g : Nat → Int} (hn : n < 40) (hx : ∀ j, j < 30 → I 142 (30 * n + j) = g j) (hd : 0 ≤ d) (hQ : Q none (upc (upc I 142 (wrow (I 142) (I 139) n 30)) 139 g) (XX L D)) : ∀ i : Nat, i ≤ 30 → WP l G m_X11_exchange d 153 (upc (upc I 142 (wrow (I 142) (I 139) n i)) 139 (fun j => if j < i then I 142 (30 * n + j) else I 139 j)) (XX L D) 2 [some (vR 111), some (vI (((30 * n : Nat)) : Int)), some (vI (i : Int)), none] [] Q := by
  refine loop_dn (fun i => WP l G m_X11_exchange d 153 (upc (upc I 142 (wrow (I 142) (I 139) n i)) 139 (fun j => if j < i then I 142 (30 * n + j) else I 139 j)) (XX L D) 2 [some (vR 111), some (vI (((30 * n : Nat)) : Int)), some (vI (i : Int)), none] [] Q) 30 ?_ (fun i hi ih => ?_)
  · refine wp_iload_n (pc := 2) 2 dX11_exchange_2 rfl rfl ?_
    refine wp_bipush (pc := 3) dX11_exchange_3 (by decide) ?_
    refine wp_icmp_ge (pc := 5) 44 dX11_exchange_5 (by decide) (by decide) (by decide) (fun _ => ?_) (fun hh => absurd hh (by decide))
    refine wp_ext (I' := upc (upc I 142 (wrow (I 142) (I 139) n 30)) 139 g) (fun b j hj => ?_) ?_
    · by_cases e : b = 139
      · subst e; have hj : j < 30 := hj; rw [upc_s, upc_s, if_pos hj]; exact (hx j hj).symm
      · rw [upc_c e, upc_c e]
    refine wp_vret (pc := 44) dX11_exchange_44 rfl rfl ?_
    exact hQ
  · refine wp_iload_n (pc := 2) 2 dX11_exchange_2 rfl rfl ?_
    refine wp_bipush (pc := 3) dX11_exchange_3 (by decide) ?_
    refine wp_icmp_ge (pc := 5) 44 dX11_exchange_5 (by decide) (by omega) (by decide) (fun h_1 => ?_) (fun h_1 => ?_)
    · exfalso; omega
    · refine wp_aload_n (pc := 8) 0 dX11_exchange_8 rfl rfl ?_
      refine wp_getr (pc := 9) dX11_exchange_9 rfl f_X11_112 kd_111 la_111 rfl (r_111_64 D) ?_
      refine wp_iload_n (pc := 12) 1 dX11_exchange_12 rfl rfl ?_
      refine wp_iload_n (pc := 13) 2 dX11_exchange_13 rfl rfl ?_
      refine wp_iadd (pc := 14) dX11_exchange_14 ?_
      refine wq_iald (pc := 15) ((30 * n) + i) dX11_exchange_15 kd_142 la_142 (by omega) (by omega) ?_
      refine wp_eqst (st' := [vI ((wrow (I 142) (I 139) n i) ((30 * n) + i))]) (by rw [upc_c (by omega), upc_s]) ?_
      refine wq_istore_n (pc := 16) 3 [some (vR 111), some (vI (((30 * n : Nat)) : Int)), some (vI (i : Int)), some (vI ((wrow (I 142) (I 139) n i) ((30 * n) + i)))] dX11_exchange_16 rfl rfl (by decide) rfl ?_
      refine wp_aload_n (pc := 17) 0 dX11_exchange_17 rfl rfl ?_
      refine wp_getr (pc := 18) dX11_exchange_18 rfl f_X11_112 kd_111 la_111 rfl (r_111_64 D) ?_
      refine wp_iload_n (pc := 21) 1 dX11_exchange_21 rfl rfl ?_
      refine wp_iload_n (pc := 22) 2 dX11_exchange_22 rfl rfl ?_
      refine wp_iadd (pc := 23) dX11_exchange_23 ?_
      refine wp_aload_n (pc := 24) 0 dX11_exchange_24 rfl rfl ?_
      refine wp_getr (pc := 25) dX11_exchange_25 rfl f_X11_103 kd_111 la_111 rfl (r_111_60 D) ?_
      refine wp_iload_n (pc := 28) 2 dX11_exchange_28 rfl rfl ?_
      refine wq_iald (pc := 29) i dX11_exchange_29 kd_139 la_139 rfl (by omega) ?_
      refine wp_eqst (st' := [vI ((fun j => if j < i then I 142 (30 * n + j) else I 139 j) i), vI ((((30 * n : Nat)) : Int) + (i : Int)), vR 142]) (by rw [upc_s]) ?_
      refine wq_iast (pc := 30) ((30 * n) + i) dX11_exchange_30 kd_142 la_142 (by omega) (by omega) ?_
      refine wp_aload_n (pc := 31) 0 dX11_exchange_31 rfl rfl ?_
      refine wp_getr (pc := 32) dX11_exchange_32 rfl f_X11_103 kd_111 la_111 rfl (r_111_60 D) ?_
      refine wp_iload_n (pc := 35) 2 dX11_exchange_35 rfl rfl ?_
      refine wp_iload_n (pc := 36) 3 dX11_exchange_36 rfl rfl ?_
      refine wq_iast (pc := 37) i dX11_exchange_37 kd_139 la_139 rfl (by omega) ?_
      refine wq_iinc (pc := 38) [some (vR 111), some (vI (((30 * n : Nat)) : Int)), some (vI ((i : Int) + 1)), some (vI ((wrow (I 142) (I 139) n i) ((30 * n) + i)))] dX11_exchange_38 rfl rfl (by decide) rfl ?_
      refine wp_goto (pc := 41) 2 dX11_exchange_41 (by decide) ?_
      refine wp_none 3 [some (vR 111), some (vI (((30 * n : Nat)) : Int)), some (vI ((i : Int) + 1)), none] rfl ?_
      refine wp_eqI (I' := upc (upc I 142 (wrow (I 142) (I 139) n (i + 1))) 139 (fun j => if j < (i + 1) then I 142 (30 * n + j) else I 139 j)) ?_ (wp_eqls (ls' := [some (vR 111), some (vI (((30 * n : Nat)) : Int)), some (vI (((i + 1) : Nat) : Int)), none]) rfl ih)
      exact xch_s

theorem rs_exchange {l : Launch} {G : mG} {d : Nat} {I : mI} {L : Nat → Nat → Int} {D : Nat → Nat} {Q : mQ} {n : Nat} {g : Nat → Int} {v : Int}  (hv : v = (((30 * n : Nat)) : Int)) (hn : n < 40) (hx : ∀ j, j < 30 → I 142 (30 * n + j) = g j) (hd : 0 ≤ d) (hQ : Q none (upc (upc I 142 (wrow (I 142) (I 139) n 30)) 139 g) (XX L D)) : WP l G m_X11_exchange d 153 I (XX L D) 0 [some (vR 111), some (vI v), none, none] [] Q := by
  refine wp_iconst (pc := 0) dX11_exchange_0 ?_
  refine wq_istore_n (pc := 1) 2 [some (vR 111), some (vI v), some (vI 0), none] dX11_exchange_1 rfl rfl (by decide) rfl ?_
  refine wp_eqls (ls' := [some (vR 111), some (vI (((30 * n : Nat)) : Int)), some (vI 0), none]) (by rw [hv]) (wp_eqI (I' := upc (upc I 142 (wrow (I 142) (I 139) n 0)) 139 (fun j => if j < 0 then I 142 (30 * n + j) else I 139 j)) ?_ (rl_exchange hn hx hd hQ 0 (Nat.zero_le _)))
  rw [wrow_0, upc_id, show (fun j => if j < 0 then I 142 (30 * n + j) else I 139 j) = I 139 from funext fun j => if_neg (Nat.not_lt_zero j), upc_id]
