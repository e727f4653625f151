/-! numbers anew: what the machine holds is known by Int32.ofInt alone -/
section NRM
variable {l : Launch} {G : mG} {μ : mM} {d nf : Nat} {I : mI} {X : mX} {pc : Nat} {ls : List (Option mV)} {st : List mV} {Q : mQ}
theorem wp_nrm {x : Int} (k : WP l G μ d nf I X pc ls (vI (w32 x) :: st) Q) : WP l G μ d nf I X pc ls (vI x :: st) Q := by
  intro p e R s m args below meth c H locs cells slots n0 cl hF hR hH hL
  have w := k p e R s m args below meth c H locs cells slots n0 cl hF hR hH hL
  have e1 : (vI (w32 x) :: st).map (cv G) = (vI x :: st).map (cv G) := by
    show Value.int (Int32.ofInt (w32 x)) :: _ = Value.int (Int32.ofInt x) :: _
    rw [oi_w32]
  rw [e1] at w
  exact w
theorem wn_ushr {x y : Int} (a k : Nat) (hd : decode μ.2.1 pc = .ok (.iushr, 1)) (hx : x = (a : Int)) (hy : y = (k : Int)) (h : k < 32) (ha : a < 4294967296) (kk : WP l G μ d nf I X (pc + 1) ls (vI ((a / 2 ^ k : Nat) : Int) :: st) Q) : WP l G μ d nf I X pc ls (vI y :: vI x :: st) Q := by
  subst hx; subst hy
  refine wp_pure (fun p e R s m args below meth c H locs cells slots cl Qw hF hL w => lv_iushr (x := Int32.ofInt a) (y := Int32.ofInt k) (v := Int32.ofInt ((a / 2 ^ k : Nat) : Int)) hF.1 hF.2.1 hd ?_ w) kk
  rw [oi_nat, oi_nat, oi_nat]
  refine pk_ushrN ha (nI k) k ?_
  have h1 : ∀ n, n < 32 → (((nI n).toUInt32 &&& Int32.toUInt32 31).toBitVec % 32).toNat = n := by decide +kernel
  exact h1 k h
end NRM
theorem w32_idem (x : Int) : w32 (w32 x) = w32 x := w32_of (w32_in x)
/-- how many of the first n bits -/
def cnt (m : Nat) : Nat → Nat
  | 0 => 0
  | k + 1 => cnt m k + m / 2 ^ k % 2
theorem cnt_le (m : Nat) : ∀ n, cnt m n ≤ n
  | 0 => Nat.le_refl 0
  | n + 1 => by
    have h := cnt_le m n
    have h2 : m / 2 ^ n % 2 < 2 := Nat.mod_lt _ (by decide)
    show cnt m n + m / 2 ^ n % 2 ≤ n + 1
    omega
abbrev pc8 (m : Nat) : Nat := cnt m 8
/-! the formula -/
abbrev truthF (c : Prop) [Decidable c] : Int := if c then 1 else 0
def jn (c x y : Int) : Int :=
  if c = -62 then truthF (y < x) else if c = -61 then truthF (x = y) else if c = -60 then truthF (x < y) else if c = -47 then (if y = 0 then 0 else w32 (x.tdiv y)) else if c = -45 then w32 (x - y) else if c = -43 then w32 (x + y) else if c = -42 then w32 (x * y) else if c = -37 then (if y = 0 then 0 else x.tmod y) else if c = -8 then truthF (x ≠ 0 ∨ y ≠ 0) else if c = -7 then truthF (x ≠ 0 ∧ y ≠ 0) else 0
theorem truthF_in (c : Prop) [Decidable c] : inR (truthF c) := by
  unfold truthF
  split <;> decide
theorem tmod_in {x y : Int} (hx : inR x) : inR (x.tmod y) := by
  have h0 : (x.tmod y).natAbs ≤ x.natAbs := by rw [Int.natAbs_tmod]; exact Nat.mod_le _ _
  have h1 := hx.1
  have h2 := hx.2
  rcases Int.le_total 0 x with h | h
  · have h3 : 0 ≤ x.tmod y := Int.tmod_nonneg y h
    constructor <;> omega
  · have e : x.tmod y = -((-x).tmod y) := by rw [Int.neg_tmod, Int.neg_neg]
    have h3 : 0 ≤ (-x).tmod y := Int.tmod_nonneg y (by omega)
    constructor <;> omega
theorem jn_in {c x y : Int} (hx : inR x) : inR (jn c x y) := by
  unfold jn
  repeat' split
  all_goals first | exact w32_in _ | exact tmod_in hx | exact truthF_in _ | decide
/-- what a leaf stands for; env: sunday, read, seated, own -/
def lfF (env : Nat → Int) (c : Int) : Int := if c = -5 then env 3 else if c = -4 then env 2 else if c = -3 then env 1 else if c = -2 then env 0 else c
def setF (g : Nat → Int) (k : Nat) (v : Int) : Nat → Int := fun j => if j = k then v else g j
/-- one code: the values g, how many n -/
def evStep (cd : Nat → Int) (env : Nat → Int) (k : Nat) (s : (Nat → Int) × Nat) : (Nat → Int) × Nat :=
  if -5 ≤ cd k ∧ s.2 < 40 then (setF s.1 s.2 (lfF env (cd k)), s.2 + 1)
  else if cd k = -6 ∧ 0 < s.2 then (setF s.1 (s.2 - 1) (truthF (s.1 (s.2 - 1) = 0)), s.2)
  else if 1 < s.2 then (setF s.1 (s.2 - 2) (jn (cd k) (s.1 (s.2 - 2)) (s.1 (s.2 - 1))), s.2 - 1)
  else s
def evN (cd : Nat → Int) (env : Nat → Int) (g0 : Nat → Int) : Nat → (Nat → Int) × Nat := iterN (evStep cd env) (g0, 0)
theorem evStep_a {cd env g : Nat → Int} {k n : Nat} (h1 : -5 ≤ cd k) (h2 : n < 40) : evStep cd env k (g, n) = (setF g n (lfF env (cd k)), n + 1) := if_pos ⟨h1, h2⟩
theorem evStep_b {cd env g : Nat → Int} {k n : Nat} (h : ¬ (-5 ≤ cd k ∧ n < 40)) (h1 : cd k = -6) (h2 : 0 < n) : evStep cd env k (g, n) = (setF g (n - 1) (truthF (g (n - 1) = 0)), n) := (if_neg h).trans (if_pos ⟨h1, h2⟩)
theorem evStep_c {cd env g : Nat → Int} {k n : Nat} (h : ¬ (-5 ≤ cd k ∧ n < 40)) (h1 : ¬ (cd k = -6 ∧ 0 < n)) (h2 : 1 < n) : evStep cd env k (g, n) = (setF g (n - 2) (jn (cd k) (g (n - 2)) (g (n - 1))), n - 1) := (if_neg h).trans ((if_neg h1).trans (if_pos h2))
theorem evStep_d {cd env g : Nat → Int} {k n : Nat} (h : ¬ (-5 ≤ cd k ∧ n < 40)) (h1 : ¬ (cd k = -6 ∧ 0 < n)) (h2 : ¬ 1 < n) : evStep cd env k (g, n) = (g, n) := (if_neg h).trans ((if_neg h1).trans (if_neg h2))
theorem evN_s (cd env g0 : Nat → Int) (k : Nat) : evN cd env g0 (k + 1) = evStep cd env k (evN cd env g0 k) := rfl
theorem evN_in {cd env : Nat → Int} (hc : ∀ j, inR (cd j)) (he : ∀ j, inR (env j)) (g0 : Nat → Int) : ∀ k, (evN cd env g0 k).2 ≤ 40 ∧ ∀ j, j < (evN cd env g0 k).2 → inR ((evN cd env g0 k).1 j)
  | 0 => ⟨Nat.zero_le _, fun j h => absurd h (Nat.not_lt_zero j)⟩
  | k + 1 => by
    obtain ⟨h1, h2⟩ := evN_in hc he g0 k
    rw [evN_s]
    generalize evN cd env g0 k = s at h1 h2 ⊢
    obtain ⟨g, n⟩ := s
    dsimp only at h1 h2
    unfold evStep
    dsimp only
    split
    · rename_i h
      refine ⟨by omega, fun j hj => ?_⟩
      dsimp only at hj ⊢
      unfold setF
      split
      · unfold lfF
        repeat' split
        all_goals first | exact he _ | exact hc _
      · exact h2 j (by omega)
    · split
      · rename_i h
        refine ⟨h1, fun j hj => ?_⟩
        dsimp only at hj ⊢
        unfold setF
        split
        · exact truthF_in _
        · exact h2 j hj
      · split
        · rename_i h
          refine ⟨by dsimp only; omega, fun j hj => ?_⟩
          dsimp only at hj ⊢
          unfold setF
          split
          · exact jn_in (h2 _ (by omega))
          · exact h2 j (by omega)
        · exact ⟨h1, h2⟩
/-- the rows' old contents don't matter -/
theorem evN_g0 (cd env g0 g1 : Nat → Int) : ∀ k, (evN cd env g0 k).2 = (evN cd env g1 k).2 ∧ ∀ j, j < (evN cd env g0 k).2 → (evN cd env g0 k).1 j = (evN cd env g1 k).1 j
  | 0 => ⟨rfl, fun j h => absurd h (Nat.not_lt_zero j)⟩
  | k + 1 => by
    obtain ⟨h1, h2⟩ := evN_g0 cd env g0 g1 k
    rw [evN_s, evN_s]
    generalize evN cd env g0 k = s at h1 h2 ⊢
    generalize evN cd env g1 k = s' at h1 h2 ⊢
    obtain ⟨g, n⟩ := s
    obtain ⟨g', n'⟩ := s'
    dsimp only at h1 h2
    subst h1
    unfold evStep
    dsimp only
    split
    · refine ⟨rfl, fun j hj => ?_⟩
      dsimp only at hj ⊢
      unfold setF
      split
      · rfl
      · exact h2 j (by omega)
    · split
      · rename_i h
        refine ⟨rfl, fun j hj => ?_⟩
        dsimp only at hj ⊢
        unfold setF
        simp only [h2 (n - 1) (by omega)]
        split
        · rfl
        · exact h2 j hj
      · split
        · rename_i h
          refine ⟨rfl, fun j hj => ?_⟩
          dsimp only at hj ⊢
          unfold setF
          simp only [h2 (n - 1) (by omega), h2 (n - 2) (by omega)]
          split
          · rfl
          · exact h2 j (by omega)
        · exact ⟨rfl, h2⟩
/-- what comes of the formula -/
def evV (cd : Nat → Int) (len : Nat) (env : Nat → Int) : Int := if 0 < (evN cd env (fun _ => 0) len).2 then (evN cd env (fun _ => 0) len).1 ((evN cd env (fun _ => 0) len).2 - 1) else 0
theorem evV_of (cd : Nat → Int) (len : Nat) (env g0 : Nat → Int) : evV cd len env = if 0 < (evN cd env g0 len).2 then (evN cd env g0 len).1 ((evN cd env g0 len).2 - 1) else 0 := by
  obtain ⟨h1, h2⟩ := evN_g0 cd env (fun _ => 0) g0 len
  unfold evV
  by_cases h : 0 < (evN cd env (fun _ => 0) len).2
  · rw [if_pos h, if_pos (by rw [← h1]; exact h), h2 _ (by omega), h1]
  · rw [if_neg h, if_neg (by rw [← h1]; exact h)]
theorem evV_in {cd env : Nat → Int} (hc : ∀ j, inR (cd j)) (he : ∀ j, inR (env j)) (len : Nat) : inR (evV cd len env) := by
  unfold evV
  split
  · exact (evN_in hc he _ len).2 _ (by omega)
  · decide
/-- HEARING of one who SITS somewhere -/
abbrev envF (a b c e : Int) : Nat → Int := fun j => if j = 0 then a else if j = 1 then b else if j = 2 then c else e
theorem envF_in {a b c e : Int} (ha : inR a) (hb : inR b) (hc : inR c) (he : inR e) (j : Nat) : inR (envF a b c e j) := by
  show inR (if j = 0 then a else if j = 1 then b else if j = 2 then c else e)
  repeat' split
  all_goals assumption
def clamp10 (v : Int) : Int := if v < 0 then 0 else if 10 < v then 10 else v
def ear (T : mT) (S : mS) (p cl : Nat) : Int :=
  if T 17 2 = 0 then 10 else clamp10 (evV (T 18) (T 17 2).toNat (envF (S 28 + 1) (pc8 (readIn T S (S p) cl)) (pc8 (present T S (S p) (S p))) (truthF (S p = T 3 p))))
theorem clamp10_in (v : Int) : 0 ≤ clamp10 v ∧ clamp10 v ≤ 10 := by
  unfold clamp10
  repeat' split
  all_goals omega
theorem ear_in (T : mT) (S : mS) (p cl : Nat) : 0 ≤ ear T S p cl ∧ ear T S p cl ≤ 10 := by
  unfold ear
  split
  · decide
  · exact clamp10_in _
