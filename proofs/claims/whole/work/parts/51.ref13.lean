theorem and_bit (m k p o : Nat) : (m / 2 ^ p &&& k / 2 ^ o) % 2 = if (m.testBit p && k.testBit o) = true then 1 else 0 := by
  have h : ((m / 2 ^ p &&& k / 2 ^ o).testBit 0) = (m.testBit p && k.testBit o) := by rw [Nat.testBit_and, Nat.testBit_div_two_pow, Nat.testBit_div_two_pow, Nat.zero_add, Nat.zero_add]
  rw [← h, Nat.testBit_zero]
  have h2 := Nat.mod_lt (m / 2 ^ p &&& k / 2 ^ o) (show 2 > 0 by decide)
  by_cases e : (m / 2 ^ p &&& k / 2 ^ o) % 2 = 1
  · rw [if_pos (decide_eq_true e), e]
  · rw [if_neg (by simpa using e)]; omega
def kbF (T : mT) (m o : Nat) : Nat → Bool := fun p => m.testBit p && (T 14 p).toNat.testBit o
theorem cnt_tb (m : Nat) : ∀ n, cnt m n = cntF (fun p => m.testBit p) n
  | 0 => rfl
  | n + 1 => by
    show cnt m n + m / 2 ^ n % 2 = cntF (fun p => m.testBit p) n + (if m.testBit n = true then 1 else 0)
    rw [cnt_tb m n]
    have e2 := bit_iff m n
    have e3 := bit_lt m n
    cases hf : m.testBit n
    · rw [hf] at e2
      have : ¬ (((m / 2 ^ n % 2 : Nat) : Int) = 1) := fun x => absurd (e2.mp x) (by decide)
      simp only [Bool.false_eq_true, if_false]
      omega
    · rw [hf] at e2
      have := e2.mpr rfl
      simp only [if_true]
      omega
theorem kn_eq {T : mT} {m o : Nat} (hn : nP T ≤ 8) (hm : m < 2 ^ nP T) : pc8 (m &&& knwF T o) = cntF (kbF T m o) (nP T) := by
  show cnt (m &&& knwF T o) 8 = _
  have e2 : 8 = nP T + (8 - nP T) := by omega
  rw [e2, cnt_lt (Nat.lt_of_le_of_lt Nat.and_le_left hm), cnt_tb]
  refine cntF_congr (fun i hi => ?_)
  unfold knwF kbF
  rw [Nat.testBit_and, setOf_tb, decide_eq_true (show i < 8 by omega), Bool.true_and]
def askR (T : mT) (l : Nat) : Nat → Int × Int
  | 0 => (-1, ((pc8 l : Nat) : Int) + 1)
  | n + 1 => if mostF T l n < (askR T l n).2 then ((n : Int), mostF T l n) else askR T l n
theorem cnt_mono {a b : Nat} (h : ∀ i, a.testBit i = true → b.testBit i = true) : ∀ n, cnt a n ≤ cnt b n := by
  intro n
  rw [cnt_tb, cnt_tb]
  induction n with
  | zero => exact Nat.le_refl _
  | succ n ih =>
    rw [cntF, cntF]
    have := h n
    split
    · rw [if_pos (this (by assumption))]; omega
    · split <;> omega
theorem most_le (T : mT) (l n : Nat) : 0 ≤ mostF T l n ∧ mostF T l n ≤ ((pc8 l : Nat) : Int) := by
  have h : pc8 (l &&& knwF T n) ≤ pc8 l := cnt_mono (fun i hi => by rw [Nat.testBit_and, Bool.and_eq_true] at hi; exact hi.1) 8
  unfold mostF
  split <;> omega
theorem ask_eq (T : mT) (l : Nat) : ∀ n, askR T l (n + 1) = askN T l (n + 1)
  | 0 => by
    have h := most_le T l 0
    have h8 : pc8 l ≤ 8 := cnt_le _ 8
    have e1 : askR T l 1 = (((0 : Nat) : Int), mostF T l 0) := if_pos (by show mostF T l 0 < ((pc8 l : Nat) : Int) + 1; omega)
    have e2 : askN T l 1 = (((0 : Nat) : Int), mostF T l 0) := if_pos (by show mostF T l 0 < (9 : Int); omega)
    rw [e1, e2]
  | n + 1 => by
    rw [askR, askN, ask_eq T l n]
theorem askR_in (T : mT) (l : Nat) : ∀ n, (-1 ≤ (askR T l n).1 ∧ (askR T l n).1 ≤ n) ∧ (0 ≤ (askR T l n).2 ∧ (askR T l n).2 ≤ 9)
  | 0 => by
    have h8 : pc8 l ≤ 8 := cnt_le _ 8
    show (-1 ≤ (-1 : Int) ∧ (-1 : Int) ≤ (0 : Nat)) ∧ (0 ≤ ((pc8 l : Nat) : Int) + 1 ∧ ((pc8 l : Nat) : Int) + 1 ≤ 9)
    omega
  | n + 1 => by
    have ih := askR_in T l n
    have h := most_le T l n
    have h8 : pc8 l ≤ 8 := cnt_le _ 8
    rw [askR]
    split
    · exact ⟨⟨by omega, by simp only [] ; omega⟩, by omega, by omega⟩
    · exact ⟨⟨ih.1.1, by omega⟩, ih.2⟩

theorem rl_ask_in {l : Launch} {G : mG} {d : Nat} {I : mI} {L : Nat → Nat → Int} {D : Nat → Nat} {Q : mQ} {T : mT} {m : Nat} {w k : Int} {a : Nat} (hR : RT I T) (hw : tw T) (hC : TC T) (hm : m < 2 ^ nP T) (h_w : inR w) (h_k : inR k) (hd : 5 ≤ d) (ha : a < nP T) (hN : WP l G m_X11_ask d 153 I (XX L D) 86 [some (vR 111), some (vI w), some (vI k), some (vI (m : Int)), some (vI ((askR T m a).1)), some (vI ((askR T m a).2)), some (vI (a : Int)), some (vI ((pc8 (m &&& knwF T a) : Nat) : Int)), none] [] Q) : ∀ i : Nat, i ≤ nP T → WP l G m_X11_ask d 153 I (XX L D) 50 [some (vR 111), some (vI w), some (vI k), some (vI (m : Int)), some (vI ((askR T m a).1)), some (vI ((askR T m a).2)), some (vI (a : Int)), some (vI ((cntF (kbF T m a) i : Nat) : Int)), some (vI (i : Int))] [] Q := by
  have b_p := tw_p hw
  have b_q := tw_q hw
  have b_c := tw_c hw
  have eP : nP T = (T 0 12).toNat := rfl
  have eQ : nQ T = (T 0 13).toNat := rfl
  have eC : nC T = (T 0 11).toNat := rfl
  have hm8 : m < 256 := Nat.lt_of_lt_of_le hm (Nat.pow_le_pow_right (n := 2) (j := 8) (by decide) (nP_le hw))
  refine loop_dn (fun i => WP l G m_X11_ask d 153 I (XX L D) 50 [some (vR 111), some (vI w), some (vI k), some (vI (m : Int)), some (vI ((askR T m a).1)), some (vI ((askR T m a).2)), some (vI (a : Int)), some (vI ((cntF (kbF T m a) i : Nat) : Int)), some (vI (i : Int))] [] Q) (nP T) ?_ (fun i hi ih => ?_)
  · refine wp_iload (pc := 50) dX11_ask_50 rfl ?_
    refine wp_aload_n (pc := 52) 0 dX11_ask_52 rfl rfl ?_
    refine wp_geti (pc := 53) dX11_ask_53 rfl f_X11_412 kd_111 la_111 (Or.inl rfl) ?_
    refine wp_eqst (st' := [vI (T 0 12), vI (((nP T) : Nat) : Int)]) (by rw [rt_p hR]) ?_
    refine wp_icmp_ge (pc := 56) 86 dX11_ask_56 (by decide) (by omega) (by omega) (fun h_1 => ?_) (fun h_1 => ?_)
    · refine wp_none 8 [some (vR 111), some (vI w), some (vI k), some (vI (m : Int)), some (vI ((askR T m a).1)), some (vI ((askR T m a).2)), some (vI (a : Int)), some (vI ((cntF (kbF T m a) (nP T) : Nat) : Int)), none] rfl ?_
      refine wp_eqls (ls' := [some (vR 111), some (vI w), some (vI k), some (vI (m : Int)), some (vI ((askR T m a).1)), some (vI ((askR T m a).2)), some (vI (a : Int)), some (vI ((pc8 (m &&& knwF T a) : Nat) : Int)), none]) (by rw [kn_eq (nP_le hw) hm]) hN
    · exfalso; omega
  · have b1 := tw_knows hw i
    have b2 := cntF_le (kbF T m a) i
    refine wp_iload (pc := 50) dX11_ask_50 rfl ?_
    refine wp_aload_n (pc := 52) 0 dX11_ask_52 rfl rfl ?_
    refine wp_geti (pc := 53) dX11_ask_53 rfl f_X11_412 kd_111 la_111 (Or.inl rfl) ?_
    refine wp_eqst (st' := [vI (T 0 12), vI (i : Int)]) (by rw [rt_p hR]) ?_
    refine wp_icmp_ge (pc := 56) 86 dX11_ask_56 (by decide) (by omega) (by omega) (fun h_1 => ?_) (fun h_1 => ?_)
    · exfalso; omega
    · refine wp_iload (pc := 59) dX11_ask_59 rfl ?_
      refine wp_iload_n (pc := 61) 3 dX11_ask_61 rfl rfl ?_
      refine wp_iload (pc := 62) dX11_ask_62 rfl ?_
      refine wn_shr (pc := 64) m i dX11_ask_64 rfl rfl (by omega) (by omega) ?_
      refine wp_aload_n (pc := 65) 0 dX11_ask_65 rfl rfl ?_
      refine wp_iload (pc := 66) dX11_ask_66 rfl ?_
      refine wp_callV (pc := 68) (st := [vI ((m / 2 ^ i : Nat) : Int), vI ((cntF (kbF T m a) i : Nat) : Int)]) (nf' := 153) [vI (i : Int)] [some (vR 111), some (vI (i : Int)), none, none] dX11_ask_68 rfl c_X11_461 rfl kd_111 (by decide) rfl la_111 rfl (Nat.le_of_ble_eq_true rfl) rfl (Nat.le_of_ble_eq_true rfl) (by omega) (Nat.le_refl _) (Nat.le_refl _) ?_
      refine rs_knownTo i rfl hR hw hC (by omega) (by omega) ?_
      refine wp_eqst (st' := [vI (T 14 i), vI ((m / 2 ^ i : Nat) : Int), vI ((cntF (kbF T m a) i : Nat) : Int)]) rfl ?_
      refine wp_iload (pc := 71) dX11_ask_71 rfl ?_
      refine wn_shr (pc := 73) (Int.toNat (T 14 i)) a dX11_ask_73 (by omega) rfl (by omega) (by omega) ?_
      refine wn_and (pc := 74) (m / 2 ^ i) ((Int.toNat (T 14 i)) / 2 ^ a) dX11_ask_74 rfl rfl ?_
      refine wp_iconst (pc := 75) dX11_ask_75 ?_
      refine wn_mask (pc := 76) ((m / 2 ^ i) &&& ((Int.toNat (T 14 i)) / 2 ^ a)) 1 dX11_ask_76 rfl rfl (by decide) ?_
      refine wp_iadd (pc := 77) dX11_ask_77 ?_
      refine wq_istore (pc := 78) [some (vR 111), some (vI w), some (vI k), some (vI (m : Int)), some (vI ((askR T m a).1)), some (vI ((askR T m a).2)), some (vI (a : Int)), some (vI (((cntF (kbF T m a) i : Nat) : Int) + ((((m / 2 ^ i) &&& ((Int.toNat (T 14 i)) / 2 ^ a)) % 2 ^ 1 : Nat) : Int))), some (vI (i : Int))] dX11_ask_78 rfl (by decide) rfl ?_
      refine wq_iinc (pc := 80) [some (vR 111), some (vI w), some (vI k), some (vI (m : Int)), some (vI ((askR T m a).1)), some (vI ((askR T m a).2)), some (vI (a : Int)), some (vI (((cntF (kbF T m a) i : Nat) : Int) + ((((m / 2 ^ i) &&& ((Int.toNat (T 14 i)) / 2 ^ a)) % 2 ^ 1 : Nat) : Int))), some (vI ((i : Int) + 1))] dX11_ask_80 rfl rfl (by decide) rfl ?_
      refine wp_goto (pc := 83) 50 dX11_ask_83 (by decide) ?_
      refine wp_eqls (ls' := [some (vR 111), some (vI w), some (vI k), some (vI (m : Int)), some (vI ((askR T m a).1)), some (vI ((askR T m a).2)), some (vI (a : Int)), some (vI ((cntF (kbF T m a) (i + 1) : Nat) : Int)), some (vI (((i + 1) : Nat) : Int))]) (by rw [show cntF (kbF T m a) (i + 1) = (cntF (kbF T m a) i) + (((m / 2 ^ i) &&& ((Int.toNat (T 14 i)) / 2 ^ a)) % 2 ^ 1) from by rw [cntF]; exact congrArg _ (and_bit _ _ _ _).symm]; rfl) ih

theorem rl_ask {l : Launch} {G : mG} {d : Nat} {I : mI} {L : Nat → Nat → Int} {D : Nat → Nat} {Q : mQ} {T : mT} {m : Nat} {w k : Int} (hR : RT I T) (hw : tw T) (hC : TC T) (hm : m < 2 ^ nP T) (h_w : inR w) (h_k : inR k) (h0 : ¬ m = 0 ∧ 0 ≤ w ∧ w ≤ 1) (hd : 5 ≤ d) (hQ : Q (some (vI (askA T m w))) I (XX L D)) : ∀ i : Nat, i ≤ nP T → WP l G m_X11_ask d 153 I (XX L D) 35 [some (vR 111), some (vI w), some (vI k), some (vI (m : Int)), some (vI ((askR T m i).1)), some (vI ((askR T m i).2)), some (vI (i : Int)), none, none] [] Q := by
  have b_p := tw_p hw
  have b_q := tw_q hw
  have b_c := tw_c hw
  have eP : nP T = (T 0 12).toNat := rfl
  have eQ : nQ T = (T 0 13).toNat := rfl
  have eC : nC T = (T 0 11).toNat := rfl
  have hm8 : m < 256 := Nat.lt_of_lt_of_le hm (Nat.pow_le_pow_right (n := 2) (j := 8) (by decide) (nP_le hw))
  have hp1 : 0 < nP T := by
    rcases Nat.eq_zero_or_pos (nP T) with e | e
    · rw [e] at hm; simp at hm; exact absurd hm h0.1
    · exact e
  refine loop_dn (fun i => WP l G m_X11_ask d 153 I (XX L D) 35 [some (vR 111), some (vI w), some (vI k), some (vI (m : Int)), some (vI ((askR T m i).1)), some (vI ((askR T m i).2)), some (vI (i : Int)), none, none] [] Q) (nP T) ?_ (fun i hi ih => ?_)
  · refine wp_iload (pc := 35) dX11_ask_35 rfl ?_
    refine wp_aload_n (pc := 37) 0 dX11_ask_37 rfl rfl ?_
    refine wp_geti (pc := 38) dX11_ask_38 rfl f_X11_412 kd_111 la_111 (Or.inl rfl) ?_
    refine wp_eqst (st' := [vI (T 0 12), vI (((nP T) : Nat) : Int)]) (by rw [rt_p hR]) ?_
    refine wp_icmp_ge (pc := 41) 136 dX11_ask_41 (by decide) (by omega) (by omega) (fun h_1 => ?_) (fun h_1 => ?_)
    · refine wp_iload_n (pc := 136) 1 dX11_ask_136 rfl rfl ?_
      refine wp_if_ne (pc := 137) 145 dX11_ask_137 (by decide) (by omega) (fun h_2 => ?_) (fun h_2 => ?_)
      · refine wp_iload (pc := 145) dX11_ask_145 rfl ?_
        refine wp_iret (pc := 147) dX11_ask_147 rfl rfl ?_
        obtain ⟨n, hn⟩ : ∃ n, nP T = n + 1 := ⟨nP T - 1, by omega⟩
        have e1 : askA T m w = (askR T m (nP T)).2 := by
          unfold askA; rw [if_pos (by omega), if_neg (by omega), hn, ask_eq]
        rw [e1] at hQ; exact hQ
      · refine wp_iload (pc := 140) dX11_ask_140 rfl ?_
        refine wp_goto (pc := 142) 147 dX11_ask_142 (by decide) ?_
        refine wp_iret (pc := 147) dX11_ask_147 rfl rfl ?_
        obtain ⟨n, hn⟩ : ∃ n, nP T = n + 1 := ⟨nP T - 1, by omega⟩
        have e1 : askA T m w = (askR T m (nP T)).1 := by
          unfold askA; rw [if_pos (by omega), if_pos (by omega), hn, ask_eq]
        rw [e1] at hQ; exact hQ
    · exfalso; omega
  · have b1 := most_le T m i
    have b2 := askR_in T m i
    have b3 : pc8 m ≤ 8 := cnt_le _ 8
    have b4 : pc8 (m &&& knwF T i) ≤ 8 := cnt_le _ 8
    refine wp_iload (pc := 35) dX11_ask_35 rfl ?_
    refine wp_aload_n (pc := 37) 0 dX11_ask_37 rfl rfl ?_
    refine wp_geti (pc := 38) dX11_ask_38 rfl f_X11_412 kd_111 la_111 (Or.inl rfl) ?_
    refine wp_eqst (st' := [vI (T 0 12), vI (i : Int)]) (by rw [rt_p hR]) ?_
    refine wp_icmp_ge (pc := 41) 136 dX11_ask_41 (by decide) (by omega) (by omega) (fun h_1 => ?_) (fun h_1 => ?_)
    · exfalso; omega
    · refine wp_iconst (pc := 44) dX11_ask_44 ?_
      refine wq_istore (pc := 45) [some (vR 111), some (vI w), some (vI k), some (vI (m : Int)), some (vI ((askR T m i).1)), some (vI ((askR T m i).2)), some (vI (i : Int)), some (vI 0), none] dX11_ask_45 rfl (by decide) rfl ?_
      refine wp_iconst (pc := 47) dX11_ask_47 ?_
      refine wq_istore (pc := 48) [some (vR 111), some (vI w), some (vI k), some (vI (m : Int)), some (vI ((askR T m i).1)), some (vI ((askR T m i).2)), some (vI (i : Int)), some (vI 0), some (vI 0)] dX11_ask_48 rfl (by decide) rfl ?_
      refine rl_ask_in hR hw hC hm h_w h_k hd hi ?_ 0 (Nat.zero_le _)
      refine wp_iload (pc := 86) dX11_ask_86 rfl ?_
      refine wp_iload_n (pc := 88) 3 dX11_ask_88 rfl rfl ?_
      refine wp_callS (pc := 89) (st := [vI ((pc8 (m &&& knwF T i) : Nat) : Int)]) (nf' := 153) [vI (m : Int)] [some (vI (m : Int)), none, none] dX11_ask_89 rfl c_X11_540 rfl rfl (Nat.le_of_ble_eq_true rfl) rfl (Nat.le_of_ble_eq_true rfl) (by omega) (Nat.le_refl _) (Nat.le_refl _) ?_
      refine rs_members m rfl (by omega) (by omega) ?_
      refine wp_eqst (st' := [vI ((pc8 m : Nat) : Int), vI ((pc8 (m &&& knwF T i) : Nat) : Int)]) rfl ?_
      refine wp_iload (pc := 92) dX11_ask_92 rfl ?_
      refine wp_isub (pc := 94) dX11_ask_94 ?_
      refine wp_icmp_le (pc := 95) 103 dX11_ask_95 (by decide) (by omega) (by omega) (fun h_2 => ?_) (fun h_2 => ?_)
      · refine wp_iload_n (pc := 103) 3 dX11_ask_103 rfl rfl ?_
        refine wp_callS (pc := 104) (st := []) (nf' := 153) [vI (m : Int)] [some (vI (m : Int)), none, none] dX11_ask_104 rfl c_X11_540 rfl rfl (Nat.le_of_ble_eq_true rfl) rfl (Nat.le_of_ble_eq_true rfl) (by omega) (Nat.le_refl _) (Nat.le_refl _) ?_
        refine rs_members m rfl (by omega) (by omega) ?_
        refine wp_eqst (st' := [vI ((pc8 m : Nat) : Int)]) rfl ?_
        refine wp_iload (pc := 107) dX11_ask_107 rfl ?_
        refine wp_isub (pc := 109) dX11_ask_109 ?_
        refine wq_istore (pc := 110) [some (vR 111), some (vI w), some (vI k), some (vI (m : Int)), some (vI ((askR T m i).1)), some (vI ((askR T m i).2)), some (vI (i : Int)), some (vI ((pc8 (m &&& knwF T i) : Nat) : Int)), some (vI (((pc8 m : Nat) : Int) - ((pc8 (m &&& knwF T i) : Nat) : Int)))] dX11_ask_110 rfl (by decide) rfl ?_
        refine wp_iload (pc := 112) dX11_ask_112 rfl ?_
        refine wp_iload (pc := 114) dX11_ask_114 rfl ?_
        refine wp_icmp_lt (pc := 116) 122 dX11_ask_116 (by decide) (by omega) (by omega) (fun h_3 => ?_) (fun h_3 => ?_)
        · refine wp_iload (pc := 122) dX11_ask_122 rfl ?_
          refine wq_istore (pc := 124) [some (vR 111), some (vI w), some (vI k), some (vI (m : Int)), some (vI (i : Int)), some (vI ((askR T m i).2)), some (vI (i : Int)), some (vI ((pc8 (m &&& knwF T i) : Nat) : Int)), some (vI (((pc8 m : Nat) : Int) - ((pc8 (m &&& knwF T i) : Nat) : Int)))] dX11_ask_124 rfl (by decide) rfl ?_
          refine wp_iload (pc := 126) dX11_ask_126 rfl ?_
          refine wq_istore (pc := 128) [some (vR 111), some (vI w), some (vI k), some (vI (m : Int)), some (vI (i : Int)), some (vI (((pc8 m : Nat) : Int) - ((pc8 (m &&& knwF T i) : Nat) : Int))), some (vI (i : Int)), some (vI ((pc8 (m &&& knwF T i) : Nat) : Int)), some (vI (((pc8 m : Nat) : Int) - ((pc8 (m &&& knwF T i) : Nat) : Int)))] dX11_ask_128 rfl (by decide) rfl ?_
          refine wq_iinc (pc := 130) [some (vR 111), some (vI w), some (vI k), some (vI (m : Int)), some (vI (i : Int)), some (vI (((pc8 m : Nat) : Int) - ((pc8 (m &&& knwF T i) : Nat) : Int))), some (vI ((i : Int) + 1)), some (vI ((pc8 (m &&& knwF T i) : Nat) : Int)), some (vI (((pc8 m : Nat) : Int) - ((pc8 (m &&& knwF T i) : Nat) : Int)))] dX11_ask_130 rfl rfl (by decide) rfl ?_
          refine wp_goto (pc := 133) 35 dX11_ask_133 (by decide) ?_
          refine wp_none 7 [some (vR 111), some (vI w), some (vI k), some (vI (m : Int)), some (vI (i : Int)), some (vI (((pc8 m : Nat) : Int) - ((pc8 (m &&& knwF T i) : Nat) : Int))), some (vI ((i : Int) + 1)), none, some (vI (((pc8 m : Nat) : Int) - ((pc8 (m &&& knwF T i) : Nat) : Int)))] rfl ?_
          refine wp_none 8 [some (vR 111), some (vI w), some (vI k), some (vI (m : Int)), some (vI (i : Int)), some (vI (((pc8 m : Nat) : Int) - ((pc8 (m &&& knwF T i) : Nat) : Int))), some (vI ((i : Int) + 1)), none, none] rfl ?_
          have em : mostF T m i = ((pc8 m : Nat) : Int) - ((pc8 (m &&& knwF T i) : Nat) : Int) := by unfold mostF; split <;> omega
          refine wp_eqls (ls' := [some (vR 111), some (vI w), some (vI k), some (vI (m : Int)), some (vI ((askR T m (i + 1)).1)), some (vI ((askR T m (i + 1)).2)), some (vI (((i + 1) : Nat) : Int)), none, none]) (by rw [show askR T m (i + 1) = ((i : Int), mostF T m i) from if_pos (by omega), em]; rfl) ih
        · refine wp_goto (pc := 119) 130 dX11_ask_119 (by decide) ?_
          refine wq_iinc (pc := 130) [some (vR 111), some (vI w), some (vI k), some (vI (m : Int)), some (vI ((askR T m i).1)), some (vI ((askR T m i).2)), some (vI ((i : Int) + 1)), some (vI ((pc8 (m &&& knwF T i) : Nat) : Int)), some (vI (((pc8 m : Nat) : Int) - ((pc8 (m &&& knwF T i) : Nat) : Int)))] dX11_ask_130 rfl rfl (by decide) rfl ?_
          refine wp_goto (pc := 133) 35 dX11_ask_133 (by decide) ?_
          refine wp_none 7 [some (vR 111), some (vI w), some (vI k), some (vI (m : Int)), some (vI ((askR T m i).1)), some (vI ((askR T m i).2)), some (vI ((i : Int) + 1)), none, some (vI (((pc8 m : Nat) : Int) - ((pc8 (m &&& knwF T i) : Nat) : Int)))] rfl ?_
          refine wp_none 8 [some (vR 111), some (vI w), some (vI k), some (vI (m : Int)), some (vI ((askR T m i).1)), some (vI ((askR T m i).2)), some (vI ((i : Int) + 1)), none, none] rfl ?_
          have em : mostF T m i = ((pc8 m : Nat) : Int) - ((pc8 (m &&& knwF T i) : Nat) : Int) := by unfold mostF; split <;> omega
          refine wp_eqls (ls' := [some (vR 111), some (vI w), some (vI k), some (vI (m : Int)), some (vI ((askR T m (i + 1)).1)), some (vI ((askR T m (i + 1)).2)), some (vI (((i + 1) : Nat) : Int)), none, none]) (by rw [show askR T m (i + 1) = askR T m i from if_neg (by omega)]; rfl) ih
      · refine wp_iload (pc := 98) dX11_ask_98 rfl ?_
        refine wp_goto (pc := 100) 110 dX11_ask_100 (by decide) ?_
        refine wq_istore (pc := 110) [some (vR 111), some (vI w), some (vI k), some (vI (m : Int)), some (vI ((askR T m i).1)), some (vI ((askR T m i).2)), some (vI (i : Int)), some (vI ((pc8 (m &&& knwF T i) : Nat) : Int)), some (vI ((pc8 (m &&& knwF T i) : Nat) : Int))] dX11_ask_110 rfl (by decide) rfl ?_
        refine wp_iload (pc := 112) dX11_ask_112 rfl ?_
        refine wp_iload (pc := 114) dX11_ask_114 rfl ?_
        refine wp_icmp_lt (pc := 116) 122 dX11_ask_116 (by decide) (by omega) (by omega) (fun h_4 => ?_) (fun h_4 => ?_)
        · refine wp_iload (pc := 122) dX11_ask_122 rfl ?_
          refine wq_istore (pc := 124) [some (vR 111), some (vI w), some (vI k), some (vI (m : Int)), some (vI (i : Int)), some (vI ((askR T m i).2)), some (vI (i : Int)), some (vI ((pc8 (m &&& knwF T i) : Nat) : Int)), some (vI ((pc8 (m &&& knwF T i) : Nat) : Int))] dX11_ask_124 rfl (by decide) rfl ?_
          refine wp_iload (pc := 126) dX11_ask_126 rfl ?_
          refine wq_istore (pc := 128) [some (vR 111), some (vI w), some (vI k), some (vI (m : Int)), some (vI (i : Int)), some (vI ((pc8 (m &&& knwF T i) : Nat) : Int)), some (vI (i : Int)), some (vI ((pc8 (m &&& knwF T i) : Nat) : Int)), some (vI ((pc8 (m &&& knwF T i) : Nat) : Int))] dX11_ask_128 rfl (by decide) rfl ?_
          refine wq_iinc (pc := 130) [some (vR 111), some (vI w), some (vI k), some (vI (m : Int)), some (vI (i : Int)), some (vI ((pc8 (m &&& knwF T i) : Nat) : Int)), some (vI ((i : Int) + 1)), some (vI ((pc8 (m &&& knwF T i) : Nat) : Int)), some (vI ((pc8 (m &&& knwF T i) : Nat) : Int))] dX11_ask_130 rfl rfl (by decide) rfl ?_
          refine wp_goto (pc := 133) 35 dX11_ask_133 (by decide) ?_
          refine wp_none 7 [some (vR 111), some (vI w), some (vI k), some (vI (m : Int)), some (vI (i : Int)), some (vI ((pc8 (m &&& knwF T i) : Nat) : Int)), some (vI ((i : Int) + 1)), none, some (vI ((pc8 (m &&& knwF T i) : Nat) : Int))] rfl ?_
          refine wp_none 8 [some (vR 111), some (vI w), some (vI k), some (vI (m : Int)), some (vI (i : Int)), some (vI ((pc8 (m &&& knwF T i) : Nat) : Int)), some (vI ((i : Int) + 1)), none, none] rfl ?_
          have em : mostF T m i = ((pc8 (m &&& knwF T i) : Nat) : Int) := by unfold mostF; split <;> omega
          refine wp_eqls (ls' := [some (vR 111), some (vI w), some (vI k), some (vI (m : Int)), some (vI ((askR T m (i + 1)).1)), some (vI ((askR T m (i + 1)).2)), some (vI (((i + 1) : Nat) : Int)), none, none]) (by rw [show askR T m (i + 1) = ((i : Int), mostF T m i) from if_pos (by omega), em]; rfl) ih
        · refine wp_goto (pc := 119) 130 dX11_ask_119 (by decide) ?_
          refine wq_iinc (pc := 130) [some (vR 111), some (vI w), some (vI k), some (vI (m : Int)), some (vI ((askR T m i).1)), some (vI ((askR T m i).2)), some (vI ((i : Int) + 1)), some (vI ((pc8 (m &&& knwF T i) : Nat) : Int)), some (vI ((pc8 (m &&& knwF T i) : Nat) : Int))] dX11_ask_130 rfl rfl (by decide) rfl ?_
          refine wp_goto (pc := 133) 35 dX11_ask_133 (by decide) ?_
          refine wp_none 7 [some (vR 111), some (vI w), some (vI k), some (vI (m : Int)), some (vI ((askR T m i).1)), some (vI ((askR T m i).2)), some (vI ((i : Int) + 1)), none, some (vI ((pc8 (m &&& knwF T i) : Nat) : Int))] rfl ?_
          refine wp_none 8 [some (vR 111), some (vI w), some (vI k), some (vI (m : Int)), some (vI ((askR T m i).1)), some (vI ((askR T m i).2)), some (vI ((i : Int) + 1)), none, none] rfl ?_
          have em : mostF T m i = ((pc8 (m &&& knwF T i) : Nat) : Int) := by unfold mostF; split <;> omega
          refine wp_eqls (ls' := [some (vR 111), some (vI w), some (vI k), some (vI (m : Int)), some (vI ((askR T m (i + 1)).1)), some (vI ((askR T m (i + 1)).2)), some (vI (((i + 1) : Nat) : Int)), none, none]) (by rw [show askR T m (i + 1) = askR T m i from if_neg (by omega)]; rfl) ih

theorem rs_ask {l : Launch} {G : mG} {d : Nat} {I : mI} {L : Nat → Nat → Int} {D : Nat → Nat} {Q : mQ} {T : mT} {S : mS} {Z : mT} {w k : Int}  (hR : RT I T) (hN : I 139 = pS S) (hw : tw T) (hv : sw S 999) (hC : TC T) (hZ : RZ I Z) (hz : zw Z) (hzk : ∀ j, j < nZ Z → Z 1 j = 2 → Z 2 j < T 0 12) (h_w : inR w) (hm : inR k) (hd : 5 ≤ d) (hQ : Q (some (vI (askA T (meantF T S Z k) w))) I (XX L D)) : WP l G m_X11_ask d 153 I (XX L D) 0 [some (vR 111), some (vI w), some (vI k), none, none, none, none, none, none] [] Q := by
  have b_p := tw_p hw
  have b_q := tw_q hw
  have b_c := tw_c hw
  have eP : nP T = (T 0 12).toNat := rfl
  have eQ : nQ T = (T 0 13).toNat := rfl
  have eC : nC T = (T 0 11).toNat := rfl
  have b_m := meantF_lt hw S Z k
  refine wp_aload_n (pc := 0) 0 dX11_ask_0 rfl rfl ?_
  refine wp_iload_n (pc := 1) 2 dX11_ask_1 rfl rfl ?_
  refine wp_callV (pc := 2) (st := []) (nf' := 153) [vI k] [some (vR 111), some (vI k), none, none] dX11_ask_2 rfl c_X11_581 rfl kd_111 (by decide) rfl la_111 rfl (Nat.le_of_ble_eq_true rfl) rfl (Nat.le_of_ble_eq_true rfl) (by omega) (Nat.le_refl _) (Nat.le_refl _) ?_
  refine rs_meant hR hN hw hv hC hZ hz hzk (by omega) (by omega) ?_
  refine wp_eqst (st' := [vI ((meantF T S Z k : Nat) : Int)]) rfl ?_
  refine wq_istore_n (pc := 5) 3 [some (vR 111), some (vI w), some (vI k), some (vI ((meantF T S Z k : Nat) : Int)), none, none, none, none, none] dX11_ask_5 rfl rfl (by decide) rfl ?_
  refine wp_iload_n (pc := 6) 1 dX11_ask_6 rfl rfl ?_
  refine wp_iconst (pc := 7) dX11_ask_7 ?_
  refine wp_iconst (pc := 8) dX11_ask_8 ?_
  refine wp_callS (pc := 9) (st := []) (nf' := 153) [vI w, vI 0, vI 1] [some (vI w), some (vI 0), some (vI 1)] dX11_ask_9 rfl c_X11_433 rfl rfl (Nat.le_of_ble_eq_true rfl) rfl (Nat.le_of_ble_eq_true rfl) (by omega) (Nat.le_refl _) (Nat.le_refl _) ?_
  refine wp_iload_n (pc := 0) 0 dX11_isIn_0 rfl rfl ?_
  refine wp_iload_n (pc := 1) 1 dX11_isIn_1 rfl rfl ?_
  refine wp_icmp_lt (pc := 2) 14 dX11_isIn_2 (by decide) (by omega) (by decide) (fun h_1 => ?_) (fun h_1 => ?_)
  · refine wp_iconst (pc := 14) dX11_isIn_14 ?_
    refine wp_zret (pc := 15) dX11_isIn_15 rfl rfl (by decide) ?_
    refine wp_eqst (st' := [vI 0]) rfl ?_
    refine wp_if_eq (pc := 12) 19 dX11_ask_12 (by decide) (by decide) (fun _ => ?_) (fun hh => absurd hh (by decide))
    refine wp_iconst (pc := 19) dX11_ask_19 ?_
    refine wp_iret (pc := 20) dX11_ask_20 rfl rfl ?_
    have e1 : askA T (meantF T S Z k) w = -1 := if_neg (by omega)
    rw [e1] at hQ; exact hQ
  · refine wp_iload_n (pc := 5) 0 dX11_isIn_5 rfl rfl ?_
    refine wp_iload_n (pc := 6) 2 dX11_isIn_6 rfl rfl ?_
    refine wp_icmp_gt (pc := 7) 14 dX11_isIn_7 (by decide) (by omega) (by decide) (fun h_2 => ?_) (fun h_2 => ?_)
    · refine wp_iconst (pc := 14) dX11_isIn_14 ?_
      refine wp_zret (pc := 15) dX11_isIn_15 rfl rfl (by decide) ?_
      refine wp_eqst (st' := [vI 0]) rfl ?_
      refine wp_if_eq (pc := 12) 19 dX11_ask_12 (by decide) (by decide) (fun _ => ?_) (fun hh => absurd hh (by decide))
      refine wp_iconst (pc := 19) dX11_ask_19 ?_
      refine wp_iret (pc := 20) dX11_ask_20 rfl rfl ?_
      have e1 : askA T (meantF T S Z k) w = -1 := if_neg (by omega)
      rw [e1] at hQ; exact hQ
    · refine wp_iconst (pc := 10) dX11_isIn_10 ?_
      refine wp_goto (pc := 11) 15 dX11_isIn_11 (by decide) ?_
      refine wp_zret (pc := 15) dX11_isIn_15 rfl rfl (by decide) ?_
      refine wp_eqst (st' := [vI 1]) rfl ?_
      refine wp_if_eq (pc := 12) 19 dX11_ask_12 (by decide) (by decide) (fun hh => absurd hh (by decide)) (fun _ => ?_)
      refine wp_iload_n (pc := 15) 3 dX11_ask_15 rfl rfl ?_
      refine wp_if_ne (pc := 16) 21 dX11_ask_16 (by decide) (by omega) (fun h_3 => ?_) (fun h_3 => ?_)
      · refine wp_iconst (pc := 21) dX11_ask_21 ?_
        refine wq_istore (pc := 22) [some (vR 111), some (vI w), some (vI k), some (vI ((meantF T S Z k : Nat) : Int)), some (vI (-1)), none, none, none, none] dX11_ask_22 rfl (by decide) rfl ?_
        refine wp_iload_n (pc := 24) 3 dX11_ask_24 rfl rfl ?_
        refine wp_callS (pc := 25) (st := []) (nf' := 153) [vI ((meantF T S Z k : Nat) : Int)] [some (vI ((meantF T S Z k : Nat) : Int)), none, none] dX11_ask_25 rfl c_X11_540 rfl rfl (Nat.le_of_ble_eq_true rfl) rfl (Nat.le_of_ble_eq_true rfl) (by omega) (Nat.le_refl _) (Nat.le_refl _) ?_
        refine rs_members (meantF T S Z k) rfl (by omega) (by omega) ?_
        refine wp_eqst (st' := [vI ((pc8 (meantF T S Z k) : Nat) : Int)]) rfl ?_
        refine wp_iconst (pc := 28) dX11_ask_28 ?_
        refine wp_iadd (pc := 29) dX11_ask_29 ?_
        refine wq_istore (pc := 30) [some (vR 111), some (vI w), some (vI k), some (vI ((meantF T S Z k : Nat) : Int)), some (vI (-1)), some (vI (((pc8 (meantF T S Z k) : Nat) : Int) + 1)), none, none, none] dX11_ask_30 rfl (by decide) rfl ?_
        refine wp_iconst (pc := 32) dX11_ask_32 ?_
        refine wq_istore (pc := 33) [some (vR 111), some (vI w), some (vI k), some (vI ((meantF T S Z k : Nat) : Int)), some (vI (-1)), some (vI (((pc8 (meantF T S Z k) : Nat) : Int) + 1)), some (vI 0), none, none] dX11_ask_33 rfl (by decide) rfl ?_
        refine wp_eqls (ls' := [some (vR 111), some (vI w), some (vI k), some (vI ((meantF T S Z k : Nat) : Int)), some (vI (-1)), some (vI (((pc8 (meantF T S Z k) : Nat) : Int) + 1)), some (vI ((0 : Nat) : Int)), none, none]) rfl ?_
        exact rl_ask (m := meantF T S Z k) hR hw hC (setOf_lt _ _) h_w hm (by omega) hd hQ 0 (Nat.zero_le _)
      · refine wp_iconst (pc := 19) dX11_ask_19 ?_
        refine wp_iret (pc := 20) dX11_ask_20 rfl rfl ?_
        have e1 : askA T (meantF T S Z k) w = -1 := if_neg (by omega)
        rw [e1] at hQ; exact hQ

def TC8 (T : mT) : Prop := ∀ p c, p < nP T → nP T ≤ c → c < 8 → T 15 (p * 8 + c) = -1
theorem setOf_more {f : Nat → Bool} {n : Nat} : ∀ k, (∀ j, n ≤ j → j < n + k → f j = false) → setOf f (n + k) = setOf f n
  | 0, _ => rfl
  | k + 1, h => by
    show setOf f ((n + k) + 1) = _
    rw [setOf_n (h (n + k) (by omega) (by omega))]
    exact setOf_more k (fun j h1 h2 => h j h1 (by omega))

theorem rl_ancestors {l : Launch} {G : mG} {d : Nat} {I : mI} {L : Nat → Nat → Int} {D : Nat → Nat} {Q : mQ} {T : mT} {a : Int} (hR : RT I T) (hw : tw T) (hC8 : TC8 T) (h_a : 0 ≤ a ∧ a < T 0 12) (hd : 2 ≤ d) (hQ : Q (some (vI (((ancF T a.toNat : Nat) : Int)))) I (XX L D)) : ∀ i : Nat, i ≤ nP T → WP l G m_X11_ancestors d 153 I (XX L D) 14 [some (vR 111), some (vI a), some (vI ((setOf (fun c => decide (T 15 (a.toNat * 8 + c) ≠ -1)) i : Nat) : Int)), some (vI (i : Int))] [] Q := by
  have b_p := tw_p hw
  have b_q := tw_q hw
  have b_c := tw_c hw
  have eP : nP T = (T 0 12).toNat := rfl
  have eQ : nQ T = (T 0 13).toNat := rfl
  have eC : nC T = (T 0 11).toNat := rfl
  refine loop_dn (fun i => WP l G m_X11_ancestors d 153 I (XX L D) 14 [some (vR 111), some (vI a), some (vI ((setOf (fun c => decide (T 15 (a.toNat * 8 + c) ≠ -1)) i : Nat) : Int)), some (vI (i : Int))] [] Q) (nP T) ?_ (fun i hi ih => ?_)
  · refine wp_iload_n (pc := 14) 3 dX11_ancestors_14 rfl rfl ?_
    refine wp_aload_n (pc := 15) 0 dX11_ancestors_15 rfl rfl ?_
    refine wp_geti (pc := 16) dX11_ancestors_16 rfl f_X11_412 kd_111 la_111 (Or.inl rfl) ?_
    refine wp_eqst (st' := [vI (T 0 12), vI (((nP T) : Nat) : Int)]) (by rw [rt_p hR]) ?_
    refine wp_icmp_ge (pc := 19) 55 dX11_ancestors_19 (by decide) (by omega) (by omega) (fun h_1 => ?_) (fun h_1 => ?_)
    · refine wp_iload_n (pc := 55) 2 dX11_ancestors_55 rfl rfl ?_
      refine wp_iret (pc := 56) dX11_ancestors_56 rfl rfl ?_
      have e1 : ancF T a.toNat = setOf (fun c => decide (T 15 (a.toNat * 8 + c) ≠ -1)) (nP T) := by
        have e8 := setOf_more (f := (fun c => decide (T 15 (a.toNat * 8 + c) ≠ -1))) (n := nP T) (8 - nP T) (fun j h1 h2 => decide_eq_false (fun x => x (hC8 a.toNat j (by omega) h1 (by omega))))
        rw [show nP T + (8 - nP T) = 8 from by omega] at e8; exact e8
      rw [e1] at hQ; exact hQ
    · exfalso; omega
  · have b1 := tw_steps hw (a.toNat * 8 + i)
    have b2 := Nat.lt_of_lt_of_le (setOf_lt (fun c => decide (T 15 (a.toNat * 8 + c) ≠ -1)) i) (Nat.pow_le_pow_right (n := 2) (j := 8) (by decide) (by omega))
    refine wp_iload_n (pc := 14) 3 dX11_ancestors_14 rfl rfl ?_
    refine wp_aload_n (pc := 15) 0 dX11_ancestors_15 rfl rfl ?_
    refine wp_geti (pc := 16) dX11_ancestors_16 rfl f_X11_412 kd_111 la_111 (Or.inl rfl) ?_
    refine wp_eqst (st' := [vI (T 0 12), vI (i : Int)]) (by rw [rt_p hR]) ?_
    refine wp_icmp_ge (pc := 19) 55 dX11_ancestors_19 (by decide) (by omega) (by omega) (fun h_1 => ?_) (fun h_1 => ?_)
    · exfalso; omega
    · refine wp_iload_n (pc := 22) 2 dX11_ancestors_22 rfl rfl ?_
      refine wp_aload_n (pc := 23) 0 dX11_ancestors_23 rfl rfl ?_
      refine wp_getr (pc := 24) dX11_ancestors_24 rfl f_X11_100 kd_111 la_111 rfl (r_111_59 D) ?_
      refine wp_bipush (pc := 27) dX11_ancestors_27 (by decide) ?_
      refine wp_iload_n (pc := 29) 1 dX11_ancestors_29 rfl rfl ?_
      refine wp_imul (pc := 30) dX11_ancestors_30 ?_
      refine wp_iload_n (pc := 31) 3 dX11_ancestors_31 rfl rfl ?_
      refine wp_iadd (pc := 32) dX11_ancestors_32 ?_
      refine wq_iald (pc := 33) ((8 * a.toNat) + i) dX11_ancestors_33 kd_138 la_138 (by omega) (by omega) ?_
      refine wp_eqst (st' := [vI (T 15 (a.toNat * 8 + i)), vI ((setOf (fun c => decide (T 15 (a.toNat * 8 + c) ≠ -1)) i : Nat) : Int)]) (by rw [rt_up hR (by omega) (by omega)]) ?_
      refine wp_if_lt (pc := 34) 41 dX11_ancestors_34 (by decide) (by omega) (fun h_2 => ?_) (fun h_2 => ?_)
      · refine wp_iconst (pc := 41) dX11_ancestors_41 ?_
        refine wp_callS (pc := 42) (st := [vI ((setOf (fun c => decide (T 15 (a.toNat * 8 + c) ≠ -1)) i : Nat) : Int)]) (nf' := 153) [vI 0] [some (vI 0)] dX11_ancestors_42 rfl c_X11_320 rfl rfl (Nat.le_of_ble_eq_true rfl) rfl (Nat.le_of_ble_eq_true rfl) (by omega) (Nat.le_refl _) (Nat.le_refl _) ?_
        refine wp_iload_n (pc := 0) 0 dX11_truth_0 rfl rfl ?_
        refine wp_if_eq (pc := 1) 8 dX11_truth_1 (by decide) (by decide) (fun _ => ?_) (fun hh => absurd hh (by decide))
        refine wp_iconst (pc := 8) dX11_truth_8 ?_
        refine wp_iret (pc := 9) dX11_truth_9 rfl rfl ?_
        refine wp_eqst (st' := [vI 0, vI ((setOf (fun c => decide (T 15 (a.toNat * 8 + c) ≠ -1)) i : Nat) : Int)]) rfl ?_
        refine wp_iload_n (pc := 45) 3 dX11_ancestors_45 rfl rfl ?_
        refine wn_shl (pc := 46) 0 i dX11_ancestors_46 rfl rfl (by omega) ?_
        refine wn_or (pc := 47) (setOf (fun c => decide (T 15 (a.toNat * 8 + c) ≠ -1)) i) (0 * 2 ^ i) dX11_ancestors_47 rfl rfl ?_
        refine wq_istore_n (pc := 48) 2 [some (vR 111), some (vI a), some (vI (((setOf (fun c => decide (T 15 (a.toNat * 8 + c) ≠ -1)) i) ||| (0 * 2 ^ i) : Nat) : Int)), some (vI (i : Int))] dX11_ancestors_48 rfl rfl (by decide) rfl ?_
        refine wq_iinc (pc := 49) [some (vR 111), some (vI a), some (vI (((setOf (fun c => decide (T 15 (a.toNat * 8 + c) ≠ -1)) i) ||| (0 * 2 ^ i) : Nat) : Int)), some (vI ((i : Int) + 1))] dX11_ancestors_49 rfl rfl (by decide) rfl ?_
        refine wp_goto (pc := 52) 14 dX11_ancestors_52 (by decide) ?_
        refine wp_eqls (ls' := [some (vR 111), some (vI a), some (vI ((setOf (fun c => decide (T 15 (a.toNat * 8 + c) ≠ -1)) (i + 1) : Nat) : Int)), some (vI (((i + 1) : Nat) : Int))]) (by rw [setOf_n (f := (fun c => decide (T 15 (a.toNat * 8 + c) ≠ -1))) (n := i) (decide_eq_false (by omega))]; first | rfl | (rw [Nat.zero_mul, Nat.or_zero]; rfl)) ih
      · refine wp_iconst (pc := 37) dX11_ancestors_37 ?_
        refine wp_goto (pc := 38) 42 dX11_ancestors_38 (by decide) ?_
        refine wp_callS (pc := 42) (st := [vI ((setOf (fun c => decide (T 15 (a.toNat * 8 + c) ≠ -1)) i : Nat) : Int)]) (nf' := 153) [vI 1] [some (vI 1)] dX11_ancestors_42 rfl c_X11_320 rfl rfl (Nat.le_of_ble_eq_true rfl) rfl (Nat.le_of_ble_eq_true rfl) (by omega) (Nat.le_refl _) (Nat.le_refl _) ?_
        refine wp_iload_n (pc := 0) 0 dX11_truth_0 rfl rfl ?_
        refine wp_if_eq (pc := 1) 8 dX11_truth_1 (by decide) (by decide) (fun hh => absurd hh (by decide)) (fun _ => ?_)
        refine wp_iconst (pc := 4) dX11_truth_4 ?_
        refine wp_goto (pc := 5) 9 dX11_truth_5 (by decide) ?_
        refine wp_iret (pc := 9) dX11_truth_9 rfl rfl ?_
        refine wp_eqst (st' := [vI 1, vI ((setOf (fun c => decide (T 15 (a.toNat * 8 + c) ≠ -1)) i : Nat) : Int)]) rfl ?_
        refine wp_iload_n (pc := 45) 3 dX11_ancestors_45 rfl rfl ?_
        refine wn_shl1 (pc := 46) i dX11_ancestors_46 rfl (by omega) ?_
        refine wn_or (pc := 47) (setOf (fun c => decide (T 15 (a.toNat * 8 + c) ≠ -1)) i) (2 ^ i) dX11_ancestors_47 rfl rfl ?_
        refine wq_istore_n (pc := 48) 2 [some (vR 111), some (vI a), some (vI (((setOf (fun c => decide (T 15 (a.toNat * 8 + c) ≠ -1)) i) ||| (2 ^ i) : Nat) : Int)), some (vI (i : Int))] dX11_ancestors_48 rfl rfl (by decide) rfl ?_
        refine wq_iinc (pc := 49) [some (vR 111), some (vI a), some (vI (((setOf (fun c => decide (T 15 (a.toNat * 8 + c) ≠ -1)) i) ||| (2 ^ i) : Nat) : Int)), some (vI ((i : Int) + 1))] dX11_ancestors_49 rfl rfl (by decide) rfl ?_
        refine wp_goto (pc := 52) 14 dX11_ancestors_52 (by decide) ?_
        refine wp_eqls (ls' := [some (vR 111), some (vI a), some (vI ((setOf (fun c => decide (T 15 (a.toNat * 8 + c) ≠ -1)) (i + 1) : Nat) : Int)), some (vI (((i + 1) : Nat) : Int))]) (by rw [setOf_y (f := (fun c => decide (T 15 (a.toNat * 8 + c) ≠ -1))) (n := i) (decide_eq_true (by omega))]; first | rfl | (rw [Nat.one_mul]; rfl)) ih

theorem rs_ancestors {l : Launch} {G : mG} {d : Nat} {I : mI} {L : Nat → Nat → Int} {D : Nat → Nat} {Q : mQ} {T : mT} {a : Int}  (hR : RT I T) (hw : tw T) (hC8 : TC8 T) (h_a : inR a) (hd : 2 ≤ d) (hQ : Q (some (vI (ancestorsA T a))) I (XX L D)) : WP l G m_X11_ancestors d 153 I (XX L D) 0 [some (vR 111), some (vI a), none, none] [] Q := by
  have b_p := tw_p hw
  have b_q := tw_q hw
  have b_c := tw_c hw
  have eP : nP T = (T 0 12).toNat := rfl
  have eQ : nQ T = (T 0 13).toNat := rfl
  have eC : nC T = (T 0 11).toNat := rfl
  refine wp_aload_n (pc := 0) 0 dX11_ancestors_0 rfl rfl ?_
  refine wp_iload_n (pc := 1) 1 dX11_ancestors_1 rfl rfl ?_
  refine wp_callV (pc := 2) (st := []) (nf' := 153) [vI a] [some (vR 111), some (vI a)] dX11_ancestors_2 rfl c_X11_437 rfl kd_111 (by decide) rfl la_111 rfl (Nat.le_of_ble_eq_true rfl) rfl (Nat.le_of_ble_eq_true rfl) (by omega) (Nat.le_refl _) (Nat.le_refl _) ?_
  refine rs_isPerson hR hw (by omega) (by omega) (fun h_1 => ?_) (fun h_1 => ?_)
  · refine wp_eqst (st' := [vI 1]) rfl ?_
    refine wp_if_ne (pc := 5) 10 dX11_ancestors_5 (by decide) (by decide) (fun _ => ?_) (fun hh => absurd hh (by decide))
    refine wp_iconst (pc := 10) dX11_ancestors_10 ?_
    refine wq_istore_n (pc := 11) 2 [some (vR 111), some (vI a), some (vI 0), none] dX11_ancestors_11 rfl rfl (by decide) rfl ?_
    refine wp_iconst (pc := 12) dX11_ancestors_12 ?_
    refine wq_istore_n (pc := 13) 3 [some (vR 111), some (vI a), some (vI 0), some (vI 0)] dX11_ancestors_13 rfl rfl (by decide) rfl ?_
    have e1 : ancestorsA T a = ((ancF T a.toNat : Nat) : Int) := if_pos (by omega)
    rw [e1] at hQ
    exact rl_ancestors hR hw hC8 (by omega) hd hQ 0 (Nat.zero_le _)
  · refine wp_eqst (st' := [vI 0]) rfl ?_
    refine wp_if_ne (pc := 5) 10 dX11_ancestors_5 (by decide) (by decide) (fun hh => absurd hh (by decide)) (fun _ => ?_)
    refine wp_iconst (pc := 8) dX11_ancestors_8 ?_
    refine wp_iret (pc := 9) dX11_ancestors_9 rfl rfl ?_
    have e1 : ancestorsA T a = -1 := if_neg (by omega)
    rw [e1] at hQ; exact hQ
