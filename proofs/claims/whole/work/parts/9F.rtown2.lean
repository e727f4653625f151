theorem lp_tw5 {l : Launch} {G : mG} {d : Nat} {J : mI} {L : Nat → Nat → Int} {D : Nat → Nat} {Q : mQ}   (hd : 2 ≤ d) (hQ : ∀ K : mI, (∀ b, b ≠ 151 → K b = J b) → (∀ k, k < 3 → K 151 k = 0) → WP l G m_X11_town d 153 K (XX L D) 401 [some (vR 111), some (vI 3)] [] Q) : ∀ i, i ≤ 3 → ∀ K : mI, (∀ b, b ≠ 151 → K b = J b) → (∀ k, k < i → K 151 k = 0) → WP l G m_X11_town d 153 K (XX L D) 383 [some (vR 111), some (vI (i : Int))] [] Q := by
  refine loop_dn (fun i => ∀ K : mI, (∀ b, b ≠ 151 → K b = J b) → (∀ k, k < i → K 151 k = 0) → WP l G m_X11_town d 153 K (XX L D) 383 [some (vR 111), some (vI (i : Int))] [] Q) 3 ?_ (fun i hi ih => ?_)
  · intro K hK hV
    refine wp_iload_n (pc := 383) 1 dX11_town_383 rfl rfl ?_
    refine wp_iconst (pc := 384) dX11_town_384 ?_
    refine wp_icmp_ge (pc := 385) 401 dX11_town_385 (by decide) (by decide) (by decide) (fun _ => ?_) (fun hh => absurd hh (by decide))
    exact hQ K hK hV
  · intro K hK hV
    refine wp_iload_n (pc := 383) 1 dX11_town_383 rfl rfl ?_
    refine wp_iconst (pc := 384) dX11_town_384 ?_
    refine wp_icmp_ge (pc := 385) 401 dX11_town_385 (by decide) (by omega) (by decide) (fun h_1 => ?_) (fun h_1 => ?_)
    · exfalso; omega
    · refine wp_aload_n (pc := 388) 0 dX11_town_388 rfl rfl ?_
      refine wp_getr (pc := 389) dX11_town_389 rfl f_X11_139 kd_111 la_111 rfl (r_111_79 D) ?_
      refine wp_iload_n (pc := 392) 1 dX11_town_392 rfl rfl ?_
      refine wp_iconst (pc := 393) dX11_town_393 ?_
      refine wq_zast (pc := 394) i dX11_town_394 kd_151 la_151 rfl (by omega) (by decide) ?_
      refine wq_iinc (pc := 395) [some (vR 111), some (vI ((i : Int) + 1))] dX11_town_395 rfl rfl (by decide) rfl ?_
      refine wp_goto (pc := 398) 383 dX11_town_398 (by decide) ?_
      refine wp_eqls (ls' := [some (vR 111), some (vI ((i + 1 : Nat) : Int))]) rfl (ih _ (fun b g151 => (funext fun k => ?_).trans (hK b g151)) (fun k hk => ?_))
      · rw [up_c g151]
      · by_cases z : k = i
        · subst z
          skip
          rw [up_s]
        · have hv := hV k (by omega)
          skip
          rw [up_j (by omega)]; exact hv

theorem rs_townbad {l : Launch} {G : mG} {d : Nat} {I : mI} {L : Nat → Nat → Int} {D : Nat → Nat} {Q : mQ} {b g : Nat → Int} {n : Nat} {T1 N : mT} {m : Nat} {q : Nat → mL} {e : Int × Int} (h11 : I 111 1 = (n : Int)) (h112 : ∀ j, I 112 j = g j % 256) (hn : n ≤ 1600) (hb : b = bOf g n) (hw : tw T1) (hL : ∀ j, inL (L 113 j)) (hx : txBad b (0, clrT T1, N, 0) m q e) (hd : 10 ≤ d) (hQ : ∀ J M, Fra I J → Ln L M → RE J e → Q (some (vI (-1))) J (XX M D)) : WP l G m_X11_town d 153 I (XX L D) 0 [some (vR 111), none] [] Q := by
  refine wp_aload_n (pc := 0) 0 dX11_town_0 rfl rfl ?_
  refine wp_callV (pc := 1) (st := []) (nf' := 153) [] [some (vR 111)] dX11_town_1 rfl c_X11_406 rfl kd_111 (by decide) rfl la_111 rfl (Nat.le_of_ble_eq_true rfl) rfl (Nat.le_of_ble_eq_true rfl) (by omega) (Nat.le_refl _) (Nat.le_refl _) ?_
  refine rs_readAllbad h11 h112 hn hb hw hL hx (by omega) (fun J M hF hLn hE => ?_)
  have x2 := hE.1
  have xp := hE.2.2
  refine wp_eqst (st' := []) rfl ?_
  refine wp_aload_n (pc := 4) 0 dX11_town_4 rfl rfl ?_
  refine wp_geti (pc := 5) dX11_town_5 rfl f_X11_185 kd_111 la_111 (Or.inl rfl) ?_
  refine wp_eqst (st' := [vI e.1]) (by rw [x2]) ?_
  refine wp_if_le (pc := 8) 13 dX11_town_8 (by decide) (by omega) (fun hh => absurd hh (by omega)) (fun _ => ?_)
  refine wp_iconst (pc := 11) dX11_town_11 ?_
  refine wp_iret (pc := 12) dX11_town_12 rfl rfl ?_
  exact hQ J M hF hLn hE
