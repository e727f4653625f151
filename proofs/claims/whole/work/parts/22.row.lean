/-! ROWS: what lies beyond an array's length is nothing; a row copied whole -/
theorem arrV_congr {c : ClassId} {N : Nat} {f g : Nat → Value} (h : ∀ j, j < N → f j = g j) : arrV c N f = arrV c N g := by
  unfold arrV
  rw [show (fun j : Fin N => f j.val) = (fun j : Fin N => g j.val) from funext fun j => h j.val j.isLt]
theorem cellP_ext {G : mG} {I I' : mI} {X : mX} {H : Heap} {b : Nat} (hg : ∀ j, j < (kd b).2 → I' b j = I b j) (h : cellP G I X H b) : cellP G I' X H b := by
  unfold cellP at h ⊢
  split at h
  · next hc =>
    rw [if_pos hc]
    exact h.to (fun k hk => (fV_congr (hg k hk) rfl rfl).symm)
  · next hc =>
    rw [if_neg hc, h]
    exact congrArg some (arrV_congr fun k hk => (aV_congr (hg k hk) rfl rfl).symm)
section ROWS
variable {l : Launch} {G : mG} {μ : mM} {d nf : Nat} {I : mI} {X : mX} {pc : Nat} {ls : List (Option mV)} {st : List mV} {Q : mQ}
theorem wp_ext {I' : mI} (hg : ∀ b j, j < (kd b).2 → I' b j = I b j) (k : WP l G μ d nf I' X pc ls st Q) : WP l G μ d nf I X pc ls st Q := by
  intro p e R s m args below meth c H locs cells slots n0 cl hF hR hH hL
  exact k p e R s m args below meth c H locs cells slots n0 cl hF hR ⟨⟨hH.1.1, hH.1.2.1, fun a ha => cellP_ext (hg a) (hH.1.2.2 a ha)⟩, hH.2⟩ hL
theorem wp_row {own : String} {idx a0 a : Nat} (hd : decode μ.2.1 pc = .ok (.invokestatic idx, 3)) (ho : μ.1.cls = own) (hw : Cond.methodLink own idx arraycopyName ∈ gw) (hk0 : kd a0 = (20, 30)) (hk : kd a = (20, 30)) (ha0 : a0 < X.2.2) (ha : a < X.2.2) (hcat : (st.map mcat).sum ≤ 8) (hdp : 0 < d)
    (k : WP l G μ d nf (upc I a (I a0)) X (pc + 3) ls st Q) : WP l G μ d nf I X pc ls (vI 30 :: vI 0 :: vR a :: vI 0 :: vR a0 :: st) Q := by
  refine wp_copy hd ho hw hk0 hk ha0 ha (by decide) (by decide) (by decide) (by decide) (by decide) hcat hdp (wp_ext (fun b j hj => ?_) k)
  show upc I a (I a0) b j = if b = a ∧ 0 ≤ j ∧ j < 0 + 30 then I a0 (0 + (j - 0)) else I b j
  by_cases e : b = a
  · subst e
    rw [hk] at hj
    rw [upc_s, if_pos ⟨rfl, Nat.zero_le _, by simpa using hj⟩, Nat.zero_add, Nat.sub_zero]
  · rw [upc_c e, if_neg (fun x => e x.1)]
end ROWS
theorem row_r (D : Nat → Nat) : ∀ i, i < 41 → Rf D 52 i = some (53 + i) := by
  intro i hi
  have h : ∀ i, i < 41 → Rs 52 i = some (53 + i) := by decide
  have e : Rf D 52 i = Rs 52 i := by
    unfold Rf
    repeat rw [if_neg (by omega)]
  rw [e]
  exact h i hi
theorem row_k : ∀ i, i < 41 → kd (53 + i) = (20, 30) := by decide
theorem row_l {i : Nat} (h : i < 41) : 53 + i < 153 := by omega
theorem box_r (D : Nat → Nat) : ∀ i, i < 3 → Rf D 94 i = some (95 + 2 * i) := by
  intro i hi
  have h : ∀ i, i < 3 → Rs 94 i = some (95 + 2 * i) := by decide
  have e : Rf D 94 i = Rs 94 i := by
    unfold Rf
    repeat rw [if_neg (by omega)]
  rw [e]
  exact h i hi
theorem box_s {i : Nat} (h : i < 3) : isS (95 + 2 * i) := by
  show 95 + 2 * i = 47 ∨ 95 + 2 * i = 49 ∨ 95 + 2 * i = 95 ∨ 95 + 2 * i = 97 ∨ 95 + 2 * i = 99
  omega
/-! SUNDAYS ahead -/
theorem sunF_28 {T : mT} {S : mS} {B : Int} (hw : tw T) (h : sw S B) (hr : rdOk S) : (sunF T S).1 28 = S 28 + 1 := by
  obtain ⟨h1, h2, h3⟩ := sunN_ok (T := T) h hr (nQ T) (nQ_le hw)
  show setF (sunN T S (nQ T)).1 28 ((sunN T S (nQ T)).1 28 + 1) 28 = _
  rw [setF_s, h2]
theorem sunF_n {T : mT} {S : mS} {j : Nat} (hj : j ≠ 28) : (sunF T S).1 j = (sunN T S (nQ T)).1 j := setF_n hj
theorem sunF_ok {T : mT} {S : mS} {B : Int} (hw : tw T) (h : sw S B) (hr : rdOk S) : sw (sunF T S).1 (B + 1) ∧ rdOk (sunF T S).1 := by
  obtain ⟨h1, h2, h3⟩ := sunN_ok (T := T) h hr (nQ T) (nQ_le hw)
  have e := sunF_28 hw h hr
  have b := sw_sun h
  have hrd : rdOk (sunF T S).1 := fun j hj => by
    rw [e, sunF_n (by omega)]
    have g := sw_read h1 hj
    rw [h2] at g
    exact g.2
  refine ⟨⟨fun j hj => ?_, fun j hj => ?_, fun j hj => ?_, fun j hj => ?_, fun j hj => ?_, ?_, ?_⟩, hrd⟩
  · rw [sunF_n (by omega)]; exact sw_seat h1 hj
  · rw [sunF_n (by omega)]; exact sw_stat h1 hj
  · rw [sunF_n (by omega)]; exact sw_c1 h1 hj
  · rw [sunF_n (by omega)]; exact sw_c2 h1 hj
  · have g := hrd j hj
    have g2 := sw_read h1 hj
    rw [← sunF_n (T := T) (S := S) (j := 23 + j) (by omega)] at g2
    omega
  · rw [e]; omega
  · rw [sunF_n (by omega)]; exact sw_seed h1
def sunK (T : mT) (S : mS) : Nat → mS
  | 0 => S
  | n + 1 => (sunF T (sunK T S n)).1
theorem sunK_ok {T : mT} {S : mS} {B : Int} (hw : tw T) (h : sw S B) (hr : rdOk S) : ∀ n, sw (sunK T S n) (B + n) ∧ rdOk (sunK T S n)
  | 0 => ⟨by have e : B + ((0 : Nat) : Int) = B := by omega
             rw [e]; exact h, hr⟩
  | n + 1 => by
    have ih := sunK_ok hw h hr n
    have g := sunF_ok hw ih.1 ih.2
    have e : B + ((n + 1 : Nat) : Int) = B + n + 1 := by omega
    rw [e]
    exact g
def willA (T : mT) (S : mS) (a n w : Int) : Int := if (0 ≤ a ∧ a < T 0 13) ∧ (0 ≤ n ∧ n ≤ 60) ∧ 0 ≤ w ∧ w ≤ 1 then (if w = 0 then sunK T S n.toNat (8 + a.toNat) else sunK T S n.toNat (23 + a.toNat)) else -1
/-- the first of the Sundays k, k + 1 .., n of them, ahead of which q is not OPEN -/
def setlF (T : mT) (S : mS) (q : Nat) : Nat → Nat → Int
  | 0, _ => -1
  | n + 1, k => if sunK T S k (8 + q) = 0 then setlF T S q n (k + 1) else k
def settlesA (T : mT) (S : mS) (a : Int) : Int := if 0 ≤ a ∧ a < T 0 13 then setlF T S a.toNat 61 0 else -1
/-! QUIET -/
def gcF : Nat → Int → Int → Int
  | 0, h, _ => h
  | n + 1, h, w => if w = 0 then h else gcF n w (Int.tmod h w)
theorem tmod_p {h w : Int} (h0 : 0 ≤ h) (hw : 0 < w) : 0 ≤ Int.tmod h w ∧ Int.tmod h w < w := ⟨Int.tmod_nonneg w h0, Int.tmod_lt_of_pos h hw⟩
theorem gcF_in : ∀ (n : Nat) (h w : Int), (0 ≤ h ∧ h ≤ 100000000) → (0 ≤ w ∧ w ≤ 100000000) → 0 ≤ gcF n h w ∧ gcF n h w ≤ 100000000
  | 0, h, w, g, _ => g
  | n + 1, h, w, g, g2 => by
    rw [gcF]
    split
    · exact g
    · have e := tmod_p g.1 (show 0 < w by omega)
      exact gcF_in n w _ g2 ⟨e.1, by omega⟩
def quietA (T : mT) (S : mS) (a c e w : Int) : Int := if ((0 ≤ a ∧ a < T 0 13) ∧ S (8 + a.toNat) = 0) ∧ (0 ≤ c ∧ c < T 0 11) ∧ (0 ≤ e ∧ e < T 0 11) ∧ 0 ≤ w ∧ w ≤ 1 then (if gcF 100 100000000 (odds T S a.toNat c e) < 1 then -1 else if w = 0 then Int.tdiv (odds T S a.toNat c e) (gcF 100 100000000 (odds T S a.toNat c e)) else Int.tdiv 100000000 (gcF 100 100000000 (odds T S a.toNat c e))) else -1
def qStep (T : mT) (S : mS) (q : Nat) (w : Int) (lo hi : Nat) (s : Int × Int) : Int × Int := if s.1 < odds T S q lo hi then (odds T S q lo hi, if w = 0 then (lo : Int) else (hi : Int)) else s
def qIn (T : mT) (S : mS) (q : Nat) (w : Int) (lo : Nat) : Nat → Nat → Int × Int → Int × Int
  | 0, _, s => s
  | k + 1, hi, s => qIn T S q w lo k (hi + 1) (qStep T S q w lo hi s)
def qOut (T : mT) (S : mS) (q : Nat) (w : Int) : Nat → Nat → Int × Int → Int × Int
  | 0, _, s => s
  | k + 1, lo, s => qOut T S q w k (lo + 1) (qIn T S q w lo (nC T - lo) lo s)
abbrev qB (s : Int × Int) : Prop := (-1 ≤ s.1 ∧ s.1 ≤ 100000000) ∧ (-1 ≤ s.2 ∧ s.2 ≤ 100)
theorem qStep_in {T : mT} {S : mS} {q : Nat} {w : Int} {lo hi : Nat} {s : Int × Int} (h : qB s) (h1 : lo ≤ 50) (h2 : hi ≤ 50) : qB (qStep T S q w lo hi s) := by
  have g : 0 ≤ odds T S q lo hi ∧ odds T S q lo hi ≤ 100000000 := oddsN_in _ _ _ _ _
  unfold qStep
  split
  · refine ⟨⟨by show -1 ≤ odds T S q lo hi; omega, g.2⟩, ?_⟩
    show -1 ≤ (if w = 0 then (lo : Int) else (hi : Int)) ∧ (if w = 0 then (lo : Int) else (hi : Int)) ≤ 100
    split <;> omega
  · exact h
def quietestA (T : mT) (S : mS) (a w : Int) : Int := if ((0 ≤ a ∧ a < T 0 13) ∧ S (8 + a.toNat) = 0) ∧ 0 ≤ w ∧ w ≤ 1 then (qOut T S a.toNat w (nC T) 0 (-1, -1)).2 else -1
