/-! SUNDAYS: the state moves -/
/-- all but the scratch rows and the state's row is as it was -/
def Ss (I J : mI) (t s : Nat) : Prop := ∀ b, b ≠ 46 → b ≠ t + 19 → b ≠ s + 1 → J b = I b
theorem Ss.refl {I : mI} {t s : Nat} : Ss I I t s := fun _ _ _ _ => rfl
theorem Ss.trans {I J K : mI} {t s : Nat} (h : Ss I J t s) (h2 : Ss J K t s) : Ss I K t s := fun b h4 h5 h6 => (h2 b h4 h5 h6).trans (h b h4 h5 h6)
theorem Ss.sc {I J K : mI} {t s : Nat} (h : Ss I J t s) (h2 : Sc J K t) : Ss I K t s := fun b h4 h5 h6 => (h2 b h4 h5).trans (h b h4 h5 h6)
theorem Sc.s {I J : mI} {t s : Nat} (h : Sc I J t) : Ss I J t s := fun b h4 h5 _ => h b h4 h5
theorem Ss.tt {I J : mI} {t s : Nat} {T : mT} (h : Ss I J t s) (ht : isT t) (hs : isS s) (hT : TT I t = T) : TT J t = T := by
  rw [← hT]
  funext k j
  unfold TT
  split
  · rw [h (t + k) (by rcases ht with rfl | rfl <;> omega) (by omega) (by rcases ht with rfl | rfl <;> rcases hs with rfl | rfl | rfl | rfl | rfl <;> omega)]
  · rfl
theorem Ss.up {I J : mI} {t s k : Nat} {v : Int} (h : Ss I J t s) : Ss I (up J (s + 1) k v) t s := fun b h4 h5 h6 => by
  rw [← h b h4 h5 h6]
  exact funext fun j => up_c h6
theorem SS_up {J : mI} {s k : Nat} {S : mS} {v : Int} (h : SS J s = S) : SS (up J (s + 1) k v) s = setF S k v := by
  rw [← h]
  funext j
  show up J (s + 1) k v (s + 1) j = setF (SS J s) k v j
  unfold setF
  by_cases e : j = k
  · rw [if_pos e, e, up_s]
  · rw [if_neg e, up_j e]
theorem setF_s {g : Nat → Int} {k : Nat} {v : Int} : setF g k v k = v := if_pos rfl
theorem setF_n {g : Nat → Int} {k j : Nat} {v : Int} (h : j ≠ k) : setF g k v j = g j := if_neg h
theorem sw_29 {S : mS} {B z : Int} (h : sw S B) (h1 : 0 ≤ z ∧ z ≤ 999) : sw (setF S 29 z) B := by
  refine ⟨fun j hj => ?_, fun j hj => ?_, fun j hj => ?_, fun j hj => ?_, fun j hj => ?_, ?_, ?_⟩
  · rw [setF_n (by omega)]; exact sw_seat h hj
  · rw [setF_n (by omega)]; exact sw_stat h hj
  · rw [setF_n (by omega)]; exact sw_c1 h hj
  · rw [setF_n (by omega)]; exact sw_c2 h hj
  · rw [setF_n (by omega), setF_n (by omega)]; exact sw_read h hj
  · rw [setF_n (by omega)]; exact sw_sun h
  · rw [setF_s]; exact h1
/-- what a HEARING rests on -/
theorem readIn_congr {T : mT} {S S' : mS} (hw : tw T) {c : Int} {cl : Nat} (h1 : ∀ j, j < 5 → S' (13 + j) = S (13 + j)) (h2 : ∀ j, j < 5 → S' (18 + j) = S (18 + j)) : readIn T S' c cl = readIn T S c cl := by
  unfold readIn
  have h5 := nQ_le hw
  exact setOf_congr (fun i hi => by rw [h1 i (by omega), h2 i (by omega)])
theorem present_congr {T : mT} {S S' : mS} (hw : tw T) {c e : Int} (h1 : ∀ j, j < 8 → S' j = S j) (h2 : S' 28 = S 28) : present T S' c e = present T S c e := by
  unfold present
  have h5 := nP_le hw
  exact setOf_congr (fun i hi => by rw [h1 i (by omega), h2])
theorem ear_congr {T : mT} {S S' : mS} (hw : tw T) {p cl : Nat} (hp : p < 8) (h0 : ∀ j, j < 8 → S' j = S j) (h1 : ∀ j, j < 5 → S' (13 + j) = S (13 + j)) (h2 : ∀ j, j < 5 → S' (18 + j) = S (18 + j)) (h3 : S' 28 = S 28) : ear T S' p cl = ear T S p cl := by
  unfold ear
  rw [h0 p hp, readIn_congr hw h1 h2, present_congr hw h0 h3, h3]
abbrev nextZ (z : Int) : Int := Int.tmod (z * 137 + 71) 1000
theorem nextZ_in {z : Int} (h : 0 ≤ z ∧ z ≤ 999) : 0 ≤ nextZ z ∧ nextZ z ≤ 999 := by
  show 0 ≤ Int.tmod (z * 137 + 71) 1000 ∧ Int.tmod (z * 137 + 71) 1000 ≤ 999
  rw [Int.tmod_eq_emod_of_nonneg (by omega)]
  omega
/-- from the person i on, k of them: does one of ls rise; the SEED then -/
def rgo (T : mT) (S : mS) (ls cl : Nat) : Nat → Nat → Int → Bool × Int
  | 0, _, z => (false, z)
  | k + 1, i, z => if ls.testBit i then (if (nextZ z).tmod 10 < ear T S i cl then (true, nextZ z) else rgo T S ls cl k (i + 1) (nextZ z)) else rgo T S ls cl k (i + 1) z
theorem rgo_in (T : mT) (S : mS) (ls cl : Nat) : ∀ (k i : Nat) (z : Int), 0 ≤ z ∧ z ≤ 999 → 0 ≤ (rgo T S ls cl k i z).2 ∧ (rgo T S ls cl k i z).2 ≤ 999
  | 0, _, z, h => h
  | k + 1, i, z, h => by
    have h1 := nextZ_in h
    rw [rgo]
    split
    · split
      · exact h1
      · exact rgo_in T S ls cl k (i + 1) _ h1
    · exact rgo_in T S ls cl k (i + 1) z h
abbrev lisF (T : mT) (S : mS) (q : Nat) : Nat := risers T S q &&& present T S (S (13 + q)) (S (18 + q))
abbrev risen (T : mT) (S : mS) (q cl : Nat) : Bool × Int := rgo T S (lisF T S q) cl (nP T) 0 (S 29)
/-- a pair that is READ: the state then, is it WED -/
def wedStep (T : mT) (S : mS) (q cl : Nat) : mS × Bool :=
  if (risen T S q cl).1 = true then (setF (setF S 29 (risen T S q cl).2) (8 + q) 2, false)
  else if S (23 + q) + 1 < 3 ∨ wedB T (setF (setF S 29 (risen T S q cl).2) (23 + q) (S (23 + q) + 1)) q &&& pm T q ≠ 0 then (setF (setF S 29 (risen T S q cl).2) (23 + q) (S (23 + q) + 1), false)
  else (setF (setF (setF S 29 (risen T S q cl).2) (23 + q) (S (23 + q) + 1)) (8 + q) 1, true)
def sunStep (T : mT) (cl : Nat) (q : Nat) (s : mS × Nat) : mS × Nat := if cl.testBit q then ((wedStep T s.1 q cl).1, if (wedStep T s.1 q cl).2 = true then s.2 ||| 2 ^ q else s.2) else s
def sunN (T : mT) (S : mS) : Nat → mS × Nat := iterN (sunStep T (called T S)) (S, 0)
def sunF (T : mT) (S : mS) : mS × Nat := (setF (sunN T S (nQ T)).1 28 ((sunN T S (nQ T)).1 28 + 1), (sunN T S (nQ T)).2)
theorem sw_8 {S : mS} {B z : Int} {q : Nat} (h : sw S B) (hq : q < 5) (h1 : 0 ≤ z ∧ z ≤ 2) : sw (setF S (8 + q) z) B := by
  refine ⟨fun j hj => ?_, fun j hj => ?_, fun j hj => ?_, fun j hj => ?_, fun j hj => ?_, ?_, ?_⟩
  · rw [setF_n (by omega)]; exact sw_seat h hj
  · by_cases e : j = q
    · rw [e, setF_s]; exact h1
    · rw [setF_n (by omega)]; exact sw_stat h hj
  · rw [setF_n (by omega)]; exact sw_c1 h hj
  · rw [setF_n (by omega)]; exact sw_c2 h hj
  · rw [setF_n (by omega), setF_n (by omega)]; exact sw_read h hj
  · rw [setF_n (by omega)]; exact sw_sun h
  · rw [setF_n (by omega)]; exact sw_seed h
theorem sw_23 {S : mS} {B z : Int} {q : Nat} (h : sw S B) (hq : q < 5) (h1 : 0 ≤ z ∧ z ≤ S 28 + 1) : sw (setF S (23 + q) z) B := by
  refine ⟨fun j hj => ?_, fun j hj => ?_, fun j hj => ?_, fun j hj => ?_, fun j hj => ?_, ?_, ?_⟩
  · rw [setF_n (by omega)]; exact sw_seat h hj
  · rw [setF_n (by omega)]; exact sw_stat h hj
  · rw [setF_n (by omega)]; exact sw_c1 h hj
  · rw [setF_n (by omega)]; exact sw_c2 h hj
  · rw [setF_n (j := 28) (by omega)]
    by_cases e : j = q
    · rw [e, setF_s]; exact h1
    · rw [setF_n (by omega)]; exact sw_read h hj
  · rw [setF_n (by omega)]; exact sw_sun h
  · rw [setF_n (by omega)]; exact sw_seed h
/-- a pair's step keeps the bounds; other pairs' readings stay -/
theorem wedStep_ok {T : mT} {S : mS} {B : Int} {q cl : Nat} (h : sw S B) (hq : q < 5) (hr : S (23 + q) ≤ S 28) : sw (wedStep T S q cl).1 B ∧ (wedStep T S q cl).1 28 = S 28 ∧ ∀ j, j < 5 → j ≠ q → (wedStep T S q cl).1 (23 + j) = S (23 + j) := by
  have h0 := sw_read h hq
  have h1 := sw_29 h (rgo_in T S (lisF T S q) cl (nP T) 0 (S 29) (sw_seed h))
  have h28 : setF S 29 (risen T S q cl).2 28 = S 28 := setF_n (by decide)
  have h2 := sw_23 (z := S (23 + q) + 1) h1 hq (by rw [h28]; omega)
  unfold wedStep
  split
  · refine ⟨sw_8 h1 hq (by decide), ?_, fun j hj hne => ?_⟩
    · show setF (setF S 29 _) (8 + q) 2 28 = S 28
      rw [setF_n (by omega), setF_n (by omega)]
    · show setF (setF S 29 _) (8 + q) 2 (23 + j) = _
      rw [setF_n (by omega), setF_n (by omega)]
  · split
    · refine ⟨h2, ?_, fun j hj hne => ?_⟩
      · show setF (setF S 29 _) (23 + q) _ 28 = S 28
        rw [setF_n (by omega), setF_n (by omega)]
      · show setF (setF S 29 _) (23 + q) _ (23 + j) = _
        rw [setF_n (by omega), setF_n (by omega)]
    · refine ⟨sw_8 h2 hq (by decide), ?_, fun j hj hne => ?_⟩
      · show setF (setF (setF S 29 _) (23 + q) _) (8 + q) 1 28 = S 28
        rw [setF_n (by omega), setF_n (by omega), setF_n (by omega)]
      · show setF (setF (setF S 29 _) (23 + q) _) (8 + q) 1 (23 + j) = _
        rw [setF_n (by omega), setF_n (by omega), setF_n (by omega)]
/-- no pair was read more often than there were Sundays -/
abbrev rdOk (S : mS) : Prop := ∀ j, j < 5 → S (23 + j) ≤ S 28
theorem sunN_ok {T : mT} {S : mS} {B : Int} (h : sw S B) (hr : rdOk S) : ∀ n, n ≤ 5 → sw (sunN T S n).1 B ∧ (sunN T S n).1 28 = S 28 ∧ ∀ j, j < 5 → n ≤ j → (sunN T S n).1 (23 + j) = S (23 + j)
  | 0, _ => ⟨h, rfl, fun _ _ _ => rfl⟩
  | n + 1, hn => by
    obtain ⟨h1, h2, h3⟩ := sunN_ok h hr n (by omega)
    rw [show sunN T S (n + 1) = sunStep T (called T S) n (sunN T S n) from rfl]
    unfold sunStep
    split
    · obtain ⟨g1, g2, g3⟩ := wedStep_ok (T := T) (cl := called T S) h1 (show n < 5 by omega) (by rw [h3 n (by omega) (Nat.le_refl n), h2]; exact hr n (by omega))
      exact ⟨g1, g2.trans h2, fun j hj hlt => (g3 j hj (by omega)).trans (h3 j hj (by omega))⟩
    · exact ⟨h1, h2, fun j hj hlt => h3 j hj (by omega)⟩
