/-! what a line adds to what the reference was told -/
section PRR
variable {b : Nat → Int} {c n rep : Nat} {N : Nat → Int}
theorem prF_r0 (h : prF b c N n 0 < 0) : prF b c N n rep = prF b c N n 0 := by
  rw [prF_0] at h ⊢
  unfold prF
  split
  · rfl
  · next h1 =>
    rw [if_neg h1] at h
    split
    · rfl
    · next h2 =>
      rw [if_neg h2] at h
      have := fnd_in N (w5 b c) n
      omega
theorem prF_r1 (h : 0 ≤ prF b c N n 0) (hr : rep.testBit (prF b c N n 0).toNat = true) : prF b c N n rep = -3 := by
  have k := prF_ok h
  rw [k.2.1] at hr h
  exact prF_3 k.1 (by omega) hr
theorem prF_r2 (h : 0 ≤ prF b c N n 0) (hr : ¬ rep.testBit (prF b c N n 0).toNat = true) : prF b c N n rep = prF b c N n 0 := by
  have k := prF_ok h
  rw [k.2.1] at hr h ⊢
  exact prF_y k.1 (by omega) hr
end PRR
theorem bit_vow {x p q : Nat} (h : p ≠ q) : (x ||| 2 ^ p) / 2 ^ q % 2 = x / 2 ^ q % 2 := by
  have a1 := bit_iff (x ||| 2 ^ p) q
  have a2 := bit_iff x q
  rw [bit_or h] at a1
  have b1 := Nat.mod_lt ((x ||| 2 ^ p) / 2 ^ q) (show 2 > 0 by decide)
  have b2 := Nat.mod_lt (x / 2 ^ q) (show 2 > 0 by decide)
  by_cases z : x.testBit q = true
  · have := a1.mpr z; have := a2.mpr z; omega
  · have g1 := fun e => z (a1.mp e); have g2 := fun e => z (a2.mp e)
    have h1 : ¬ (((x ||| 2 ^ p) / 2 ^ q % 2 : Nat) : Int) = 1 := g1
    have h2 : ¬ ((x / 2 ^ q % 2 : Nat) : Int) = 1 := g2
    omega
theorem bit_self {x p : Nat} : (x ||| 2 ^ p) / 2 ^ p % 2 = 1 := by
  have := (bit_iff (x ||| 2 ^ p) p).mpr (by rw [Nat.testBit_or, Nat.testBit_two_pow_self, Bool.or_true])
  omega
theorem bit_none {x p : Nat} (h : x < 2 ^ p) : x / 2 ^ p % 2 = 0 := by rw [Nat.div_eq_of_lt h]
section RDA
variable {I J : mI} {L M : Nat → Nat → Int} {b g : Nat → Int} {n c : Nat} {T N : mT} {mo : Nat}
theorem RD.nmr (h : RD I L b g n c T N mo) (h1 : ts b c = 1) : nmR (w5 b c) (L 111 9) := by
  have z := nmR_w (g := g) h.2.1 (by rw [← h.1.1]; exact h1)
  rw [← h.1.1] at z
  rw [h.2.2.1.2.2.2.2.2 h1]
  exact z
theorem RD.nm0 (h : RD I L b g n c T N mo) (h1 : ts b c = 1) (h4 : nC T < 4) : RD I (upL L 113 (nC T) (L 111 9)) b g n c T (setT N 0 (nC T) (w5 b c)) mo := by
  have hl := h.2.2.1.2.2.2.2.1
  obtain ⟨g1, g2, g3, g4, ⟨r1, r2, r3, r4, r5⟩, g6, g7, g8⟩ := h
  have u : ∀ j, j ≠ nC T → upL L 113 (nC T) (L 111 9) 113 j = L 113 j := fun j hj => if_neg (fun z => hj z.2)
  refine ⟨g1, g2, g3.o (fun _ _ => rfl) (if_neg (fun z => absurd z.1 (by decide))), g4, ⟨r1, r2, r3, r4, fun j => ?_, fun k hk => ?_, fun k hk => ?_⟩, g6, dst_o g7 (fun j hj => setT_j (by omega)), g8⟩
  · unfold upL
    split
    · exact hl
    · exact r5.1 j
  · rw [u k (by omega), setT_j (by omega)]; exact r5.2.1 k hk
  · rw [u (4 + k) (by omega)]; exact r5.2.2 k hk
theorem RD.nm1 (h : RD I L b g n c T N mo) (h1 : ts b c = 1) : RD I (upL L 113 (4 + nP T) (L 111 9)) b g n c T (setT N 1 (nP T) (w5 b c)) mo := by
  have hl := h.2.2.1.2.2.2.2.1
  have bc := tw_c h.tw
  have eC : nC T = (T 0 11).toNat := rfl
  obtain ⟨g1, g2, g3, g4, ⟨r1, r2, r3, r4, r5⟩, g6, g7, g8⟩ := h
  have u : ∀ j, j ≠ 4 + nP T → upL L 113 (4 + nP T) (L 111 9) 113 j = L 113 j := fun j hj => if_neg (fun z => hj z.2)
  refine ⟨g1, g2, g3.o (fun _ _ => rfl) (if_neg (fun z => absurd z.1 (by decide))), g4, ⟨r1, r2, r3, r4, fun j => ?_, fun k hk => ?_, fun k hk => ?_⟩, g6, g7, dst_o g8 (fun j hj => setT_j (by omega))⟩
  · unfold upL
    split
    · exact hl
    · exact r5.1 j
  · rw [u k (by omega)]; exact r5.2.1 k hk
  · rw [u (4 + k) (by omega), setT_j (by omega)]; exact r5.2.2 k hk
theorem RBk.up111 {j : Nat} {v : Int} (h : RBk I b g n) (hj : j ≠ 5) : RBk (up I 111 j v) b g n := ⟨h.1, fun k => (up_c (by decide)).trans (h.2.1 k), (up_j (by omega)).trans h.2.2.1, h.2.2.2⟩
theorem TKR.up111 {j : Nat} {v : Int} (h : TKR I L b c) (hj : j ≠ 4 ∧ ¬ (6 ≤ j ∧ j ≤ 8)) : TKR (up I 111 j v) L b c := h.o (fun k hk => up_j (by omega)) rfl
theorem RD.incC (h : RD I L b g n c T N mo) (h4 : T 0 11 < 4) (hn : nmR (N 0 (nC T)) (L 113 (nC T))) (hd : ∀ j, j < nC T → N 0 j ≠ N 0 (nC T)) : RD (up I 111 42 (T 0 11 + 1)) L b g n c (setT T 0 11 (T 0 11 + 1)) N mo := by
  have bc := tw_c h.tw
  have eC : nC T = (T 0 11).toNat := rfl
  obtain ⟨g1, g2, g3, g4, ⟨⟨a1, a2, a3, a4, a5, a6, a7, a8, a9, a10, a11, a12, a13⟩, r2, r3, r4, r5⟩, g6, g7, g8⟩ := h
  have e : nC (setT T 0 11 (T 0 11 + 1)) = nC T + 1 := by show (setT T 0 11 (T 0 11 + 1) 0 11).toNat = _; rw [setT_s]; omega
  refine ⟨g1.up111 (by decide), g2, g3.up111 (by decide), ⟨(up_j (by decide)).trans g4.1, (up_j (by decide)).trans g4.2⟩, ⟨⟨up_s _ _ _ _, (up_j (by decide)).trans a2, (up_j (by decide)).trans a3, (up_j (by decide)).trans a4, (up_j (by decide)).trans a5, (up_j (by decide)).trans a6, (up_j (by decide)).trans a7, (up_j (by decide)).trans a8, (up_j (by decide)).trans a9, (up_j (by decide)).trans a10, (up_j (by decide)).trans a11, (up_j (by decide)).trans a12, (up_j (by decide)).trans a13⟩, r2, r3, r4, r5.1, fun k hk => ?_, r5.2.2⟩, tw_set g6 (by unfold twB; omega), ?_, g8⟩
  · rw [e] at hk
    by_cases z : k = nC T
    · rw [z]; exact hn
    · exact r5.2.1 k (by omega)
  · rw [e]; exact dst_s g7 (fun _ _ => rfl) hd
theorem RD.incP (h : RD I L b g n c T N mo) (h8 : T 0 12 < 8) (hW : rnW I T (nP T)) (hn : nmR (N 1 (nP T)) (L 113 (4 + nP T))) (hd : ∀ j, j < nP T → N 1 j ≠ N 1 (nP T)) : RD (up I 111 43 (T 0 12 + 1)) L b g n c (setT T 0 12 (T 0 12 + 1)) N mo := by
  have bp := tw_p h.tw
  have eP : nP T = (T 0 12).toNat := rfl
  obtain ⟨g1, g2, g3, g4, ⟨⟨a1, a2, a3, a4, a5, a6, a7, a8, a9, a10, a11, a12, a13⟩, r2, r3, r4, r5⟩, g6, g7, g8⟩ := h
  have e : nP (setT T 0 12 (T 0 12 + 1)) = nP T + 1 := by show (setT T 0 12 (T 0 12 + 1) 0 12).toNat = _; rw [setT_s]; omega
  refine ⟨g1.up111 (by decide), g2, g3.up111 (by decide), ⟨(up_j (by decide)).trans g4.1, (up_j (by decide)).trans g4.2⟩, ⟨⟨(up_j (by decide)).trans a1, up_s _ _ _ _, (up_j (by decide)).trans a3, (up_j (by decide)).trans a4, (up_j (by decide)).trans a5, (up_j (by decide)).trans a6, (up_j (by decide)).trans a7, (up_j (by decide)).trans a8, (up_j (by decide)).trans a9, (up_j (by decide)).trans a10, (up_j (by decide)).trans a11, (up_j (by decide)).trans a12, (up_j (by decide)).trans a13⟩, fun p hp => ?_, r3, r4, r5.1, r5.2.1, fun k hk => ?_⟩, tw_set g6 (by unfold twB; omega), g7, ?_⟩
  · rw [e] at hp
    have hx : rnW I T p := by
      by_cases z : p = nP T
      · rw [z]; exact hW
      · exact r2 p (by omega)
    exact hx
  · rw [e] at hk
    by_cases z : k = nP T
    · rw [z]; exact hn
    · exact r5.2.2 k (by omega)
  · rw [e]; exact dst_s g8 (fun _ _ => rfl) hd
theorem RD.sV {v : Int} (h : RD I L b g n c T N mo) (hv : ∀ p, p < nP T → v.toNat / 2 ^ p % 2 = (T 0 14).toNat / 2 ^ p % 2) (hb : 0 ≤ v ∧ v ≤ 255) : RD I L b g n c (setT T 0 14 v) N mo := by
  obtain ⟨g1, g2, g3, g4, ⟨r1, r2, r3, r4, r5⟩, g6, g7, g8⟩ := h
  refine ⟨g1, g2, g3, g4, ⟨r1, fun p hp => ?_, r3, r4, r5⟩, tw_set g6 (by unfold twB; omega), g7, g8⟩
  have := r2 p hp
  refine ⟨this.1, this.2.1, this.2.2.1, this.2.2.2.1, this.2.2.2.2.1, this.2.2.2.2.2.1, this.2.2.2.2.2.2.trans ?_⟩
  unfold vowB
  rw [setT_s, hv p hp]
/-- one more of whom a knows, or spites -/
theorem cnt_add {x e : Nat} (h : ¬ x.testBit e = true) : ∀ k, cnt (x ||| 2 ^ e) k = cnt x k + (if e < k then 1 else 0)
  | 0 => rfl
  | k + 1 => by
    have ih := cnt_add h k
    show cnt (x ||| 2 ^ e) k + (x ||| 2 ^ e) / 2 ^ k % 2 = cnt x k + x / 2 ^ k % 2 + _
    rw [ih]
    by_cases z : e = k
    · subst z
      have h0 : x / 2 ^ e % 2 = 0 := by
        have a := bit_iff x e
        have b2 := Nat.mod_lt (x / 2 ^ e) (show 2 > 0 by decide)
        have h2 : ¬ ((x / 2 ^ e % 2 : Nat) : Int) = 1 := fun y => h (a.mp y)
        omega
      rw [bit_self, h0, if_neg (by omega), if_pos (by omega)]
    · rw [bit_vow z]
      by_cases y : e < k
      · rw [if_pos y, if_pos (by omega)]; omega
      · rw [if_neg y, if_neg (by omega)]; omega
theorem pc8_add {x e : Nat} (he : e < 8) (h : ¬ x.testBit e = true) : pc8 (x ||| 2 ^ e) = pc8 x + 1 := by
  have z := cnt_add h 8
  rw [if_pos he] at z
  exact z
theorem kcN_add {f f' : Nat → Int} {a : Nat} (h : ∀ j, j ≠ a → f' j = f j) (h1 : pc8 (f' a).toNat = pc8 (f a).toNat + 1) : ∀ k, kcN f' k = kcN f k + (if a < k then 1 else 0)
  | 0 => rfl
  | k + 1 => by
    have ih := kcN_add h h1 k
    show kcN f' k + pc8 (f' k).toNat = kcN f k + pc8 (f k).toNat + _
    rw [ih]
    by_cases z : a = k
    · subst z
      rw [h1, if_neg (by omega), if_pos (by omega)]; omega
    · rw [h k (fun y => z y.symm)]
      by_cases y : a < k
      · rw [if_pos y, if_pos (by omega)]; omega
      · rw [if_neg y, if_neg (by omega)]; omega
theorem RD.lk13 {a : Nat} {v : Int} (h : RD I L b g n c T N mo) (ha : a < nP T) (hv : 0 ≤ v ∧ v ≤ 255) (h1 : pc8 v.toNat = pc8 (T 13 a).toNat + 1) : RD (up (up I 124 a v) 111 45 (((kcN (T 13) 8 : Nat) : Int) + 1)) L b g n c (setT T 13 a v) N mo := by
  have bp := tw_p h.tw
  have eP : nP T = (T 0 12).toNat := rfl
  obtain ⟨g1, g2, g3, g4, ⟨⟨a1, a2, a3, a4, a5, a6, a7, a8, a9, a10, a11, a12, a13⟩, r2, r3, r4, r5⟩, g6, g7, g8⟩ := h
  have u : ∀ k, k ≠ 45 → up (up I 124 a v) 111 45 (((kcN (T 13) 8 : Nat) : Int) + 1) 111 k = I 111 k := fun k hk => (up_j (by omega)).trans (up_c (by decide))
  have u2 : ∀ x y, x ≠ 111 → (x = 124 → y ≠ a) → up (up I 124 a v) 111 45 (((kcN (T 13) 8 : Nat) : Int) + 1) x y = I x y := fun x y hx hy => (up_c hx).trans (if_neg (fun z => hy z.1 z.2))
  have hk := kcN_add (f := T 13) (f' := setT T 13 a v 13) (a := a) (fun j hj => setT_j hj) (by rw [setT_s]; exact h1) 8
  rw [if_pos (by omega)] at hk
  refine ⟨⟨g1.1, fun k => (u2 112 k (by decide) (fun z => absurd z (by decide))).trans (g1.2.1 k), (u 5 (by decide)).trans g1.2.2.1, g1.2.2.2⟩, g2, g3.o (fun k hk => u k (by omega)) rfl, ⟨(u 2 (by decide)).trans g4.1, (u 3 (by decide)).trans g4.2⟩, ⟨⟨(u _ (by decide)).trans a1, (u _ (by decide)).trans a2, (u _ (by decide)).trans a3, ?_, (u _ (by decide)).trans a5, (u _ (by decide)).trans a6, (u _ (by decide)).trans a7, (u _ (by decide)).trans a8, (u _ (by decide)).trans a9, (u _ (by decide)).trans a10, (u _ (by decide)).trans a11, (u _ (by decide)).trans a12, (u _ (by decide)).trans a13⟩, fun p hp => ?_, fun q hq => ?_, fun z => ?_, r5⟩, tw_set g6 (by unfold twB; omega), g7, g8⟩
  · rw [up_s, hk]; omega
  · have := r2 p hp
    refine ⟨(u2 121 p (by decide) (by omega)).trans this.1, (u2 122 _ (by decide) (by omega)).trans this.2.1, (u2 122 _ (by decide) (by omega)).trans this.2.2.1, (u2 123 p (by decide) (by omega)).trans this.2.2.2.1, ?_, (u2 125 p (by decide) (by omega)).trans this.2.2.2.2.2.1, (u2 136 p (by decide) (by omega)).trans this.2.2.2.2.2.2⟩
    by_cases z : p = a
    · subst z; rw [up_c (by decide), up_s, setT_s]
    · rw [u2 124 p (by decide) (fun _ => z), setT_j z]; exact this.2.2.2.2.1
  · have := r3 q hq
    exact ⟨(u2 126 q (by decide) (by omega)).trans this.1, (u2 127 q (by decide) (by omega)).trans this.2.1, (u2 128 _ (by decide) (by omega)).trans this.2.2.1, (u2 128 _ (by decide) (by omega)).trans this.2.2.2⟩
  · have := r4 z
    refine ⟨(u 17 (by decide)).trans this.1, fun k hk => ?_⟩
    rw [u2 114 k (by decide) (by omega), u2 115 k (by decide) (by omega)]; exact this.2 k hk
theorem RD.lk5 {a : Nat} {v : Int} (h : RD I L b g n c T N mo) (ha : a < nP T) (hv : 0 ≤ v ∧ v ≤ 255) (h1 : pc8 v.toNat = pc8 (T 5 a).toNat + 1) : RD (up (up I 125 a v) 111 46 (((kcN (T 5) 8 : Nat) : Int) + 1)) L b g n c (setT T 5 a v) N mo := by
  have bp := tw_p h.tw
  have eP : nP T = (T 0 12).toNat := rfl
  obtain ⟨g1, g2, g3, g4, ⟨⟨a1, a2, a3, a4, a5, a6, a7, a8, a9, a10, a11, a12, a13⟩, r2, r3, r4, r5⟩, g6, g7, g8⟩ := h
  have u : ∀ k, k ≠ 46 → up (up I 125 a v) 111 46 (((kcN (T 5) 8 : Nat) : Int) + 1) 111 k = I 111 k := fun k hk => (up_j (by omega)).trans (up_c (by decide))
  have u2 : ∀ x y, x ≠ 111 → (x = 125 → y ≠ a) → up (up I 125 a v) 111 46 (((kcN (T 5) 8 : Nat) : Int) + 1) x y = I x y := fun x y hx hy => (up_c hx).trans (if_neg (fun z => hy z.1 z.2))
  have hk := kcN_add (f := T 5) (f' := setT T 5 a v 5) (a := a) (fun j hj => setT_j hj) (by rw [setT_s]; exact h1) 8
  rw [if_pos (by omega)] at hk
  refine ⟨⟨g1.1, fun k => (u2 112 k (by decide) (fun z => absurd z (by decide))).trans (g1.2.1 k), (u 5 (by decide)).trans g1.2.2.1, g1.2.2.2⟩, g2, g3.o (fun k hk => u k (by omega)) rfl, ⟨(u 2 (by decide)).trans g4.1, (u 3 (by decide)).trans g4.2⟩, ⟨⟨(u _ (by decide)).trans a1, (u _ (by decide)).trans a2, (u _ (by decide)).trans a3, (u _ (by decide)).trans a4, ?_, (u _ (by decide)).trans a6, (u _ (by decide)).trans a7, (u _ (by decide)).trans a8, (u _ (by decide)).trans a9, (u _ (by decide)).trans a10, (u _ (by decide)).trans a11, (u _ (by decide)).trans a12, (u _ (by decide)).trans a13⟩, fun p hp => ?_, fun q hq => ?_, fun z => ?_, r5⟩, tw_set g6 (by unfold twB; omega), g7, g8⟩
  · rw [up_s, hk]; omega
  · have := r2 p hp
    refine ⟨(u2 121 p (by decide) (by omega)).trans this.1, (u2 122 _ (by decide) (by omega)).trans this.2.1, (u2 122 _ (by decide) (by omega)).trans this.2.2.1, (u2 123 p (by decide) (by omega)).trans this.2.2.2.1, (u2 124 p (by decide) (by omega)).trans this.2.2.2.2.1, ?_, (u2 136 p (by decide) (by omega)).trans this.2.2.2.2.2.2⟩
    by_cases z : p = a
    · subst z; rw [up_c (by decide), up_s, setT_s]
    · rw [u2 125 p (by decide) (fun _ => z), setT_j z]; exact this.2.2.2.2.2.1
  · have := r3 q hq
    exact ⟨(u2 126 q (by decide) (by omega)).trans this.1, (u2 127 q (by decide) (by omega)).trans this.2.1, (u2 128 _ (by decide) (by omega)).trans this.2.2.1, (u2 128 _ (by decide) (by omega)).trans this.2.2.2⟩
  · have := r4 z
    refine ⟨(u 17 (by decide)).trans this.1, fun k hk => ?_⟩
    rw [u2 114 k (by decide) (by omega), u2 115 k (by decide) (by omega)]; exact this.2 k hk
theorem RD.incQ {a e x y : Int} (h : RD I L b g n c T N mo) (h5 : T 0 13 < 5) (ha : 0 ≤ a ∧ a < T 0 12) (he : 0 ≤ e ∧ e < T 0 12) (hx : 0 ≤ x ∧ x ≤ 3) (hy : 0 ≤ y ∧ y ≤ 3) (q1 : I 126 (nQ T) = a) (q2 : I 127 (nQ T) = e) (q3 : I 128 (2 * nQ T) = x) (q4 : I 128 (2 * nQ T + 1) = y) : RD (up I 111 44 (T 0 13 + 1)) L b g n c (addP T a e x y) N mo := by
  have bq := tw_q h.tw
  have eq : nQ T = (T 0 13).toNat := rfl
  have q5 := addP_q (T := T) (a := a) (e := e) (x := x) (y := y)
  have f : ∀ k j, (k ≠ 0 ∨ j ≠ 13) → (k = 6 ∨ k = 7 ∨ k = 8 ∨ k = 9 → j ≠ nQ T) → addP T a e x y k j = T k j := fun k j h1 h2 => addP_at k j h1 h2
  have i12 : addP T a e x y 0 12 = T 0 12 := f 0 12 (by omega) (by omega)
  have i11 : addP T a e x y 0 11 = T 0 11 := f 0 11 (by omega) (by omega)
  have eP : nP (addP T a e x y) = nP T := by show (addP T a e x y 0 12).toNat = _; rw [i12]
  have eC : nC (addP T a e x y) = nC T := by show (addP T a e x y 0 11).toNat = _; rw [i11]
  have eQ : nQ (addP T a e x y) = nQ T + 1 := by show (addP T a e x y 0 13).toNat = _; rw [q5.2.2.2.2]; omega
  have e13 : addP T a e x y 13 = T 13 := funext fun j => f 13 j (by omega) (by omega)
  have e5 : addP T a e x y 5 = T 5 := funext fun j => f 5 j (by omega) (by omega)
  obtain ⟨g1, g2, g3, g4, ⟨⟨a1, a2, a3, a4, a5, a6, a7, a8, a9, a10, a11, a12, a13⟩, r2, r3, r4, r5⟩, g6, g7, g8⟩ := h
  have u : ∀ k, k ≠ 44 → up I 111 44 (T 0 13 + 1) 111 k = I 111 k := fun k hk => up_j (by omega)
  refine ⟨g1.up111 (by decide), g2, g3.up111 (by decide), ⟨(up_j (by decide)).trans g4.1, (up_j (by decide)).trans g4.2⟩, ⟨?_, fun p hp => ?_, fun q hq => ?_, fun z => ?_, ⟨r5.1, by rw [eC]; exact r5.2.1, by rw [eP]; exact r5.2.2⟩⟩, addP_tw g6 h5 ha he hx hy, by rw [eC]; exact g7, by rw [eP]; exact g8⟩
  · unfold rnC
    rw [e13, e5, i12, i11, q5.2.2.2.2, f 0 15 (by omega) (by omega), f 0 16 (by omega) (by omega), f 0 17 (by omega) (by omega), f 17 3 (by omega) (by omega)]
    exact ⟨(u _ (by decide)).trans a1, (u _ (by decide)).trans a2, up_s _ _ _ _, (u _ (by decide)).trans a4, (u _ (by decide)).trans a5, (u _ (by decide)).trans a6, (u _ (by decide)).trans a7, (u _ (by decide)).trans a8, (u _ (by decide)).trans a9, (u _ (by decide)).trans a10, (u _ (by decide)).trans a11, (u _ (by decide)).trans a12, (u _ (by decide)).trans a13⟩
  · rw [eP] at hp
    have := r2 p hp
    unfold rnW vowB at this ⊢
    rw [f 3 p (by omega) (by omega), f 11 p (by omega) (by omega), f 12 p (by omega) (by omega), f 4 p (by omega) (by omega), e13, e5, f 0 14 (by omega) (by omega)]
    exact this
  · rw [eQ] at hq
    by_cases z : q = nQ T
    · rw [z]
      exact ⟨q1.trans q5.1.symm, q2.trans q5.2.1.symm, q3.trans q5.2.2.1.symm, q4.trans q5.2.2.2.1.symm⟩
    · have := r3 q (by omega)
      unfold rnQ at this ⊢
      rw [f 6 q (by omega) (by omega), f 7 q (by omega) (by omega), f 8 q (by omega) (by omega), f 9 q (by omega) (by omega)]
      exact this
  · have := r4 z
    rw [f 17 2 (by omega) (by omega)]
    refine ⟨(up_j (by decide)).trans this.1, fun k hk => ?_⟩
    rw [f 18 k (by omega) (by omega)]
    exact this.2 k hk
end RDA
