/-! LINES: what each does to the draft T and the names N -/
abbrev mP : Type := (Int × Int) ⊕ (Nat × mT × mT)
def setT (T : mT) (k j : Nat) (v : Int) : mT := fun a i => if a = k ∧ i = j then v else T a i
theorem setT_s {T : mT} {k j : Nat} {v : Int} : setT T k j v k j = v := if_pos ⟨rfl, rfl⟩
theorem setT_k {T : mT} {k j a i : Nat} {v : Int} (h : a ≠ k) : setT T k j v a i = T a i := if_neg (fun z => h z.1)
theorem setT_j {T : mT} {k j a i : Nat} {v : Int} (h : i ≠ j) : setT T k j v a i = T a i := if_neg (fun z => h z.2)
def twB (k j : Nat) (v : Int) : Prop := (k = 0 → j = 11 → 0 ≤ v ∧ v ≤ 4) ∧ (k = 0 → j = 12 → 0 ≤ v ∧ v ≤ 8) ∧ (k = 0 → j = 13 → 0 ≤ v ∧ v ≤ 5) ∧ (k = 0 → j = 14 → 0 ≤ v ∧ v ≤ 255) ∧ (k = 0 → j = 15 → 0 ≤ v ∧ v ≤ 8) ∧ (k = 0 → j = 16 → 1 ≤ v ∧ v ≤ 5) ∧ (k = 0 → j = 17 → 0 ≤ v ∧ v ≤ 999) ∧ (k = 3 → 0 ≤ v ∧ v ≤ 3) ∧ (k = 4 → 0 ≤ v ∧ v ≤ 12) ∧ (k = 5 → 0 ≤ v ∧ v ≤ 255) ∧ (k = 6 → 0 ≤ v ∧ v ≤ 7) ∧ (k = 7 → 0 ≤ v ∧ v ≤ 7) ∧ (k = 8 → 0 ≤ v ∧ v ≤ 3) ∧ (k = 9 → 0 ≤ v ∧ v ≤ 3) ∧ (k = 11 → -1 ≤ v ∧ v ≤ 7) ∧ (k = 12 → -1 ≤ v ∧ v ≤ 7) ∧ (k = 13 → 0 ≤ v ∧ v ≤ 255) ∧ (k = 14 → 0 ≤ v ∧ v ≤ 255) ∧ (k = 15 → -1 ≤ v ∧ v ≤ 7) ∧ (k = 16 → -1 ≤ v ∧ v ≤ 14) ∧ (k = 17 → j = 2 → 0 ≤ v ∧ v ≤ 300) ∧ (k = 17 → j = 3 → 0 ≤ v ∧ v ≤ 30)
theorem ite_in {c : Prop} [Decidable c] {v x lo hi : Int} (h1 : c → lo ≤ v ∧ v ≤ hi) (h2 : lo ≤ x ∧ x ≤ hi) : lo ≤ (if c then v else x) ∧ (if c then v else x) ≤ hi := by
  split
  · next e => exact h1 e
  · exact h2
theorem tw_set {T : mT} {k j : Nat} {v : Int} (hw : tw T) (h : twB k j v) : tw (setT T k j v) := ⟨ite_in (fun e => h.1 e.1.symm e.2.symm) hw.1, ite_in (fun e => h.2.1 e.1.symm e.2.symm) hw.2.1, ite_in (fun e => h.2.2.1 e.1.symm e.2.symm) hw.2.2.1, ite_in (fun e => h.2.2.2.1 e.1.symm e.2.symm) hw.2.2.2.1, ite_in (fun e => h.2.2.2.2.1 e.1.symm e.2.symm) hw.2.2.2.2.1, ite_in (fun e => h.2.2.2.2.2.1 e.1.symm e.2.symm) hw.2.2.2.2.2.1, ite_in (fun e => h.2.2.2.2.2.2.1 e.1.symm e.2.symm) hw.2.2.2.2.2.2.1, fun i => ite_in (fun e => h.2.2.2.2.2.2.2.1 e.1.symm) (hw.2.2.2.2.2.2.2.1 i), fun i => ite_in (fun e => h.2.2.2.2.2.2.2.2.1 e.1.symm) (hw.2.2.2.2.2.2.2.2.1 i), fun i => ite_in (fun e => h.2.2.2.2.2.2.2.2.2.1 e.1.symm) (hw.2.2.2.2.2.2.2.2.2.1 i), fun i => ite_in (fun e => h.2.2.2.2.2.2.2.2.2.2.1 e.1.symm) (hw.2.2.2.2.2.2.2.2.2.2.1 i), fun i => ite_in (fun e => h.2.2.2.2.2.2.2.2.2.2.2.1 e.1.symm) (hw.2.2.2.2.2.2.2.2.2.2.2.1 i), fun i => ite_in (fun e => h.2.2.2.2.2.2.2.2.2.2.2.2.1 e.1.symm) (hw.2.2.2.2.2.2.2.2.2.2.2.2.1 i), fun i => ite_in (fun e => h.2.2.2.2.2.2.2.2.2.2.2.2.2.1 e.1.symm) (hw.2.2.2.2.2.2.2.2.2.2.2.2.2.1 i), fun i => ite_in (fun e => h.2.2.2.2.2.2.2.2.2.2.2.2.2.2.1 e.1.symm) (hw.2.2.2.2.2.2.2.2.2.2.2.2.2.2.1 i), fun i => ite_in (fun e => h.2.2.2.2.2.2.2.2.2.2.2.2.2.2.2.1 e.1.symm) (hw.2.2.2.2.2.2.2.2.2.2.2.2.2.2.2.1 i), fun i => ite_in (fun e => h.2.2.2.2.2.2.2.2.2.2.2.2.2.2.2.2.1 e.1.symm) (hw.2.2.2.2.2.2.2.2.2.2.2.2.2.2.2.2.1 i), fun i => ite_in (fun e => h.2.2.2.2.2.2.2.2.2.2.2.2.2.2.2.2.2.1 e.1.symm) (hw.2.2.2.2.2.2.2.2.2.2.2.2.2.2.2.2.2.1 i), fun i => ite_in (fun e => h.2.2.2.2.2.2.2.2.2.2.2.2.2.2.2.2.2.2.1 e.1.symm) (hw.2.2.2.2.2.2.2.2.2.2.2.2.2.2.2.2.2.2.1 i), fun i => ite_in (fun e => h.2.2.2.2.2.2.2.2.2.2.2.2.2.2.2.2.2.2.2.1 e.1.symm) (hw.2.2.2.2.2.2.2.2.2.2.2.2.2.2.2.2.2.2.2.1 i), ite_in (fun e => h.2.2.2.2.2.2.2.2.2.2.2.2.2.2.2.2.2.2.2.2.1 e.1.symm e.2.symm) hw.2.2.2.2.2.2.2.2.2.2.2.2.2.2.2.2.2.2.2.2.1, ite_in (fun e => h.2.2.2.2.2.2.2.2.2.2.2.2.2.2.2.2.2.2.2.2.2 e.1.symm e.2.symm) hw.2.2.2.2.2.2.2.2.2.2.2.2.2.2.2.2.2.2.2.2.2⟩
theorem TT_up {I : mI} {t k j : Nat} {v : Int} (hk : k < 19) : TT (up I (t + k) j v) t = setT (TT I t) k j v := by
  funext a i
  unfold TT setT up
  by_cases h : a < 19
  · simp only [if_pos h]
    by_cases e : a = k ∧ i = j
    · rw [if_pos e, if_pos ⟨by omega, e.2⟩]
    · rw [if_neg e, if_neg (fun z => e ⟨by omega, z.2⟩)]
  · simp only [if_neg h]
    rw [if_neg (fun z => h (by omega))]
theorem TT_up0 {I : mI} {t j : Nat} {v : Int} : TT (up I t j v) t = setT (TT I t) 0 j v := TT_up (k := 0) (by decide)
theorem TT_o {I : mI} {t a j : Nat} {v : Int} (h : ¬ (t ≤ a ∧ a < t + 19)) : TT (up I a j v) t = TT I t := by
  funext k i
  unfold TT
  split
  · exact up_c (by omega)
  · rfl
def NN (M : Nat → Nat → Int) (t : Nat) : mT := fun k j => if k < 2 then M (t + 1 + k) j else 0
theorem NN_up {M : Nat → Nat → Int} {t k j : Nat} {v : Int} (hk : k < 2) : NN (upL M (t + 1 + k) j v) t = setT (NN M t) k j v := by
  funext a i
  unfold NN setT upL
  by_cases h : a < 2
  · simp only [if_pos h]
    by_cases e : a = k ∧ i = j
    · rw [if_pos e, if_pos ⟨by omega, e.2⟩]
    · rw [if_neg e, if_neg (fun z => e ⟨by omega, z.2⟩)]
  · simp only [if_neg h]
    rw [if_neg (fun z => h (by omega))]
theorem NN_o {M M' : Nat → Nat → Int} {t : Nat} (h1 : M' (t + 1) = M (t + 1)) (h2 : M' (t + 2) = M (t + 2)) : NN M' t = NN M t := by
  funext a i
  unfold NN
  split
  · have : a = 0 ∨ a = 1 := by omega
    rcases this with rfl | rfl
    · exact congrFun h1 i
    · exact congrFun h2 i
  · rfl
noncomputable def bad (b : Nat → Int) (c : Nat) (f : Int) : Int × Int := (if ts b c = 3 then 1 else f, ((tp b c : Nat) : Int))
/-- the place of z among the first n, -1 if it isn't there -/
def fnd (N : Nat → Int) (z : Int) : Nat → Int
  | 0 => -1
  | n + 1 => if N n = z then (n : Int) else fnd N z n
theorem fnd_in (N : Nat → Int) (z : Int) : ∀ n, -1 ≤ fnd N z n ∧ fnd N z n < n
  | 0 => (by decide : (-1 : Int) ≤ -1 ∧ (-1 : Int) < 0)
  | n + 1 => by
    have ih := fnd_in N z n
    rw [fnd]
    split <;> omega
def dst (N : Nat → Int) (n : Nat) : Prop := ∀ i j, i < n → j < n → N i = N j → i = j
theorem fnd_y {N : Nat → Int} {z : Int} {i : Nat} : ∀ n, i < n → N i = z → dst N n → fnd N z n = (i : Int)
  | 0, h, _, _ => absurd h (Nat.not_lt_zero i)
  | n + 1, h, hz, hd => by
    rw [fnd]
    by_cases e : N n = z
    · rw [if_pos e, hd i n h (Nat.lt_succ_self n) (hz.trans e.symm)]
    · rw [if_neg e]
      exact fnd_y n (by have : i ≠ n := fun y => e (by rw [← y]; exact hz); omega) hz (fun a c ha hc => hd a c (by omega) (by omega))
theorem fnd_n {N : Nat → Int} {z : Int} : ∀ n, (∀ j, j < n → N j ≠ z) → fnd N z n = -1
  | 0, _ => rfl
  | n + 1, h => by rw [fnd, if_neg (h n (Nat.lt_succ_self n))]; exact fnd_n n (fun j hj => h j (by omega))
theorem fnd_at {N : Nat → Int} {z : Int} : ∀ n (i : Nat), fnd N z n = (i : Int) → i < n ∧ N i = z
  | 0, i, h => by have h : (-1 : Int) = (i : Int) := h; omega
  | n + 1, i, h => by
    rw [fnd] at h
    split at h
    · next y => rw [show i = n by omega]; exact ⟨Nat.lt_succ_self n, y⟩
    · have := fnd_at n i h; exact ⟨by omega, this.2⟩
theorem fnd_m {N : Nat → Int} {z : Int} : ∀ n, fnd N z n = -1 → ∀ j, j < n → N j ≠ z
  | 0, _, j, hj => absurd hj (Nat.not_lt_zero j)
  | n + 1, h, j, hj => by
    rw [fnd] at h
    split at h
    · omega
    · next y =>
      by_cases e : j = n
      · rw [e]; exact y
      · exact fnd_m n h j (by omega)
/-- a person or church that is named, below 0 the fault; a number; a new name -/
noncomputable def prF (b : Nat → Int) (c : Nat) (N : Nat → Int) (n rep : Nat) : Int := if ¬ kC b c = 2 then -2 else if fnd N (w5 b c) n = -1 then -5 else if rep.testBit (fnd N (w5 b c) n).toNat = true then -3 else fnd N (w5 b c) n
noncomputable def nbF (b : Nat → Int) (c : Nat) (lo hi : Int) : Int := if ¬ kC b c = 4 then -2 else if tn b c < lo ∨ hi < tn b c then -4 else tn b c
noncomputable def nwF (b : Nat → Int) (c : Nat) (N : Nat → Int) (n : Nat) : Int := if ¬ kC b c = 2 then 2 else if ¬ fnd N (w5 b c) n = -1 then 3 else 0
def bnd (r : mP) (k : Nat → mT → mT → mP) : mP := match r with
  | .inl e => .inl e
  | .inr (c, T, N) => k c T N
noncomputable def churchF (b : Nat → Int) (c : Nat) (T N : mT) : mP :=
  if 4 ≤ T 0 11 then .inl (bad b c 2)
  else if ¬ nwF b (te b c) (N 0) (nC T) = 0 then .inl (bad b (te b c) (nwF b (te b c) (N 0) (nC T)))
  else .inr (te b (te b c), setT T 0 11 (T 0 11 + 1), setT N 0 (nC T) (w5 b (te b c)))
noncomputable def parF (b : Nat → Int) (c : Nat) (T N : mT) : mP :=
  if ¬ wi b c = 3 then .inr (c, T, N)
  else if prF b (te b c) (N 1) (nP T) 0 < 0 then .inl (bad b (te b c) (-prF b (te b c) (N 1) (nP T) 0))
  else if ¬ wi b (te b (te b c)) = 4 then .inr (te b (te b c), setT T 11 (nP T) (prF b (te b c) (N 1) (nP T) 0), N)
  else if prF b (te b (te b (te b c))) (N 1) (nP T) (2 ^ (prF b (te b c) (N 1) (nP T) 0).toNat) < 0 then .inl (bad b (te b (te b (te b c))) (-prF b (te b (te b (te b c))) (N 1) (nP T) (2 ^ (prF b (te b c) (N 1) (nP T) 0).toNat)))
  else .inr (te b (te b (te b (te b c))), setT (setT T 11 (nP T) (prF b (te b c) (N 1) (nP T) 0)) 12 (nP T) (prF b (te b (te b (te b c))) (N 1) (nP T) (2 ^ (prF b (te b c) (N 1) (nP T) 0).toNat)), N)
noncomputable def vwF (b : Nat → Int) (c : Nat) (T : mT) : Nat × mT := if wi b c = 5 then (te b c, setT T 0 14 (((T 0 14).toNat ||| 2 ^ nP T : Nat) : Int)) else (c, T)
noncomputable def slF (b : Nat → Int) (c : Nat) (T N : mT) : mP :=
  if ¬ wi b c = 6 then .inr (c, T, N)
  else if nbF b (te b c) 1 12 < 0 then .inl (bad b (te b c) (-nbF b (te b c) 1 12))
  else .inr (te b (te b c), setT T 4 (nP T) (nbF b (te b c) 1 12), N)
noncomputable def personF (b : Nat → Int) (c : Nat) (T N : mT) : mP :=
  if 8 ≤ T 0 12 then .inl (bad b c 2)
  else if ¬ nwF b (te b c) (N 1) (nP T) = 0 then .inl (bad b (te b c) (nwF b (te b c) (N 1) (nP T)))
  else if ¬ wi b (te b (te b c)) = 2 then .inl (bad b (te b (te b c)) 2)
  else if prF b (te b (te b (te b c))) (N 0) (nC T) 0 < 0 then .inl (bad b (te b (te b (te b c))) (-prF b (te b (te b (te b c))) (N 0) (nC T) 0))
  else bnd (parF b (te b (te b (te b (te b c)))) (setT T 3 (nP T) (prF b (te b (te b (te b c))) (N 0) (nC T) 0)) (setT N 1 (nP T) (w5 b (te b c))))
    (fun c' T' N' => bnd (slF b (vwF b c' T').1 (vwF b c' T').2 N') (fun c2 T2 N2 => .inr (c2, setT T2 0 12 (T2 0 12 + 1), N2)))
def kcN (f : Nat → Int) : Nat → Nat
  | 0 => 0
  | n + 1 => kcN f n + pc8 (f n).toNat
noncomputable def linkF (b : Nat → Int) (c : Nat) (T N : mT) (k most : Nat) : mP :=
  if most ≤ kcN (T k) 8 then .inl (bad b c 2)
  else if prF b (te b c) (N 1) (nP T) 0 < 0 then .inl (bad b (te b c) (-prF b (te b c) (N 1) (nP T) 0))
  else if prF b (te b (te b c)) (N 1) (nP T) ((T k (prF b (te b c) (N 1) (nP T) 0).toNat).toNat ||| 2 ^ (prF b (te b c) (N 1) (nP T) 0).toNat) < 0 then .inl (bad b (te b (te b c)) (-prF b (te b (te b c)) (N 1) (nP T) ((T k (prF b (te b c) (N 1) (nP T) 0).toNat).toNat ||| 2 ^ (prF b (te b c) (N 1) (nP T) 0).toNat)))
  else .inr (te b (te b (te b c)), setT T k (prF b (te b c) (N 1) (nP T) 0).toNat (((T k (prF b (te b c) (N 1) (nP T) 0).toNat).toNat ||| 2 ^ (prF b (te b (te b c)) (N 1) (nP T) ((T k (prF b (te b c) (N 1) (nP T) 0).toNat).toNat ||| 2 ^ (prF b (te b c) (N 1) (nP T) 0).toNat)).toNat : Nat) : Int), N)
/-- with whom p is told to be a pair, and he himself -/
def pwN (T : mT) (p : Nat) : Nat → Nat
  | 0 => 0
  | n + 1 => if (pm T n).testBit p = true then pwN T p n ||| pm T n else pwN T p n
def addP (T : mT) (a e x y : Int) : mT := setT (setT (setT (setT (setT T 6 (nQ T) a) 7 (nQ T) e) 8 (nQ T) x) 9 (nQ T) y) 0 13 (T 0 13 + 1)
noncomputable def plcF (b : Nat → Int) (c : Nat) (T N : mT) (a e : Int) : mP :=
  if ¬ wi b c = 10 then .inr (c, addP T a e (T 3 a.toNat) (T 3 e.toNat), N)
  else if prF b (te b c) (N 0) (nC T) 0 < 0 then .inl (bad b (te b c) (-prF b (te b c) (N 0) (nC T) 0))
  else if prF b (te b (te b c)) (N 0) (nC T) 0 < 0 then .inl (bad b (te b (te b c)) (-prF b (te b (te b c)) (N 0) (nC T) 0))
  else .inr (te b (te b (te b c)), addP T a e (prF b (te b c) (N 0) (nC T) 0) (prF b (te b (te b c)) (N 0) (nC T) 0), N)
noncomputable def pairF (b : Nat → Int) (c : Nat) (T N : mT) : mP :=
  if 5 ≤ T 0 13 then .inl (bad b c 2)
  else if prF b (te b c) (N 1) (nP T) 0 < 0 then .inl (bad b (te b c) (-prF b (te b c) (N 1) (nP T) 0))
  else if prF b (te b (te b c)) (N 1) (nP T) (pwN T (prF b (te b c) (N 1) (nP T) 0).toNat (nQ T) ||| 2 ^ (prF b (te b c) (N 1) (nP T) 0).toNat) < 0 then .inl (bad b (te b (te b c)) (-prF b (te b (te b c)) (N 1) (nP T) (pwN T (prF b (te b c) (N 1) (nP T) 0).toNat (nQ T) ||| 2 ^ (prF b (te b c) (N 1) (nP T) 0).toNat)))
  else plcF b (te b (te b (te b c))) T N (prF b (te b c) (N 1) (nP T) 0) (prF b (te b (te b c)) (N 1) (nP T) (pwN T (prF b (te b c) (N 1) (nP T) 0).toNat (nQ T) ||| 2 ^ (prF b (te b c) (N 1) (nP T) 0).toNat))
noncomputable def settF (b : Nat → Int) (c : Nat) (T N : mT) (mo which : Nat) (lo hi : Int) : mP :=
  if mo.testBit which = true then .inl (bad b c 2)
  else if nbF b (te b c) lo hi < 0 then .inl (bad b (te b c) (-nbF b (te b c) lo hi))
  else .inr (te b (te b c), setT T 0 (if which = 12 then 15 else if which = 13 then 16 else 17) (nbF b (te b c) lo hi), N)
section PRF
variable {b : Nat → Int} {c n rep : Nat} {N : Nat → Int} {lo hi : Int}
theorem prF_in : -5 ≤ prF b c N n rep ∧ prF b c N n rep < n := by
  have h := fnd_in N (w5 b c) n
  unfold prF
  split
  · omega
  · split
    · omega
    · split <;> omega
theorem prF_ok (h : 0 ≤ prF b c N n rep) : kC b c = 2 ∧ prF b c N n rep = fnd N (w5 b c) n ∧ rep.testBit (prF b c N n rep).toNat = false := by
  unfold prF at h ⊢
  split at h
  · omega
  · next z1 =>
    rw [if_neg z1]
    split at h
    · omega
    · next z2 =>
      rw [if_neg z2]
      split at h
      · omega
      · next z3 =>
        rw [if_neg z3]
        exact ⟨Classical.not_not.mp z1, rfl, by simpa using z3⟩
theorem prF_2 (h : ¬ kC b c = 2) : prF b c N n rep = -2 := if_pos h
theorem prF_5 (h : kC b c = 2) (h2 : fnd N (w5 b c) n = -1) : prF b c N n rep = -5 := by unfold prF; rw [if_neg (fun z => z h), if_pos h2]
theorem prF_3 (h : kC b c = 2) (h2 : ¬ fnd N (w5 b c) n = -1) (h3 : rep.testBit (fnd N (w5 b c) n).toNat = true) : prF b c N n rep = -3 := by unfold prF; rw [if_neg (fun z => z h), if_neg h2, if_pos h3]
theorem prF_y (h : kC b c = 2) (h2 : ¬ fnd N (w5 b c) n = -1) (h3 : ¬ rep.testBit (fnd N (w5 b c) n).toNat = true) : prF b c N n rep = fnd N (w5 b c) n := by unfold prF; rw [if_neg (fun z => z h), if_neg h2, if_neg h3]
theorem prF_0 : prF b c N n 0 = if ¬ kC b c = 2 then -2 else if fnd N (w5 b c) n = -1 then -5 else fnd N (w5 b c) n := by
  unfold prF
  split
  · rfl
  · split
    · rfl
    · rw [if_neg (by rw [Nat.zero_testBit]; decide)]
theorem nbF_2 (h : ¬ kC b c = 4) : nbF b c lo hi = -2 := if_pos h
theorem nbF_4 (h : kC b c = 4) (h2 : tn b c < lo ∨ hi < tn b c) : nbF b c lo hi = -4 := by unfold nbF; rw [if_neg (fun z => z h), if_pos h2]
theorem nbF_y (h : kC b c = 4) (h2 : ¬ (tn b c < lo ∨ hi < tn b c)) : nbF b c lo hi = tn b c := by unfold nbF; rw [if_neg (fun z => z h), if_neg h2]
theorem nbF_ok (h0 : 0 ≤ lo) (h : 0 ≤ nbF b c lo hi) : kC b c = 4 ∧ lo ≤ nbF b c lo hi ∧ nbF b c lo hi ≤ hi := by
  unfold nbF at h ⊢
  split at h
  · omega
  · next z1 =>
    rw [if_neg z1]
    split at h
    · omega
    · next z2 =>
      rw [if_neg z2]
      exact ⟨Classical.not_not.mp z1, by omega, by omega⟩
theorem nwF_2 (h : ¬ kC b c = 2) : nwF b c N n = 2 := if_pos h
theorem nwF_3 (h : kC b c = 2) (h2 : ¬ fnd N (w5 b c) n = -1) : nwF b c N n = 3 := by unfold nwF; rw [if_neg (fun z => z h), if_pos h2]
theorem nwF_0 (h : kC b c = 2) (h2 : fnd N (w5 b c) n = -1) : nwF b c N n = 0 := by unfold nwF; rw [if_neg (fun z => z h), if_neg (fun z => z h2)]
theorem nwF_ok (h : nwF b c N n = 0) : kC b c = 2 ∧ fnd N (w5 b c) n = -1 := by
  unfold nwF at h
  split at h
  · omega
  · next z1 =>
    split at h
    · omega
    · next z2 => exact ⟨Classical.not_not.mp z1, Classical.not_not.mp z2⟩
end PRF
theorem k2_w {b : Nat → Int} {c : Nat} (h : kC b c = 2) : ts b c = 1 := ((kC_ts b c).2.2.2.1.mp h).1
/-! what holds of the class while it reads -/
def PX (I : mI) (M : Nat → Nat → Int) (D : Nat → Nat) (b : Nat → Int) (n : Nat) : Prop := isT (D 2) ∧ TBk I b n ∧ (∀ k, k < 21 → M 43 k = W5 k) ∧ tw (TT I (D 2)) ∧ (∀ j, inR (TT I (D 2) 18 j)) ∧ (∀ k j, inL (NN M (D 2) k j))
def PS (I : mI) (M : Nat → Nat → Int) (D : Nat → Nat) (b : Nat → Int) (n c : Nat) (T N : mT) (mo : Nat) : Prop := PX I M D b n ∧ c ≤ n ∧ TKC I M b c ∧ TT I (D 2) = T ∧ NN M (D 2) = N ∧ I 44 2 = (mo : Int) ∧ (mo < 32768 ∧ I 44 3 = 0 ∧ I 44 4 = -1) ∧ dst (N 0) (nC T) ∧ dst (N 1) (nP T)
def PE (I : mI) (M : Nat → Nat → Int) (D : Nat → Nat) (b : Nat → Int) (n : Nat) (e : Int × Int) : Prop := PX I M D b n ∧ I 44 3 = e.1 ∧ I 44 4 = e.2
/-- all but the Tape, the Parser and the draft is as it was -/
def Fp (I J : mI) (t : Nat) : Prop := (∀ b, b ≠ 41 → b ≠ 44 → ¬ (t ≤ b ∧ b < t + 20) → J b = I b) ∧ J 41 3 = I 41 3
def Lp (L M : Nat → Nat → Int) (t : Nat) : Prop := ∀ a, a ≠ 41 → a ≠ t + 1 → a ≠ t + 2 → M a = L a
theorem Fp.refl {I : mI} {t : Nat} : Fp I I t := ⟨fun _ _ _ _ => rfl, rfl⟩
theorem Lp.refl {L : Nat → Nat → Int} {t : Nat} : Lp L L t := fun _ _ _ _ => rfl
theorem Fp.trans {I J K : mI} {t : Nat} (h : Fp I J t) (h2 : Fp J K t) : Fp I K t := ⟨fun b g1 g2 g3 => (h2.1 b g1 g2 g3).trans (h.1 b g1 g2 g3), h2.2.trans h.2⟩
theorem Lp.trans {L K M : Nat → Nat → Int} {t : Nat} (h : Lp L K t) (h2 : Lp K M t) : Lp L M t := fun a g1 g2 g3 => (h2 a g1 g2 g3).trans (h a g1 g2 g3)
theorem Fa.p {I J : mI} {t : Nat} (h : Fa I J) : Fp I J t := ⟨fun b g _ _ => h.1 b g, h.2⟩
theorem La.p {L M : Nat → Nat → Int} {t : Nat} (h : La L M) : Lp L M t := fun a g _ _ => h a g
theorem Fp.up44 {I J : mI} {t j : Nat} {v : Int} (h : Fp I J t) : Fp I (up J 44 j v) t := ⟨fun b g1 g2 g3 => (funext fun k => up_c g2).trans (h.1 b g1 g2 g3), (up_c (by decide)).trans h.2⟩
theorem Fp.upt {I J : mI} {t a j : Nat} {v : Int} (h : Fp I J t) (ht : isT t) (ha : t ≤ a ∧ a < t + 20) : Fp I (up J a j v) t := ⟨fun b g1 g2 g3 => (funext fun k => up_c (fun e => g3 (by rw [e]; exact ha))).trans (h.1 b g1 g2 g3), (up_c (by rcases ht with rfl | rfl <;> omega)).trans h.2⟩
theorem Lp.upt {L K : Nat → Nat → Int} {t a j : Nat} {v : Int} (h : Lp L K t) (ha : a = t + 1 ∨ a = t + 2) : Lp L (upL K a j v) t := fun q g1 g2 g3 => (funext fun k => if_neg (fun z => by rcases ha with e | e <;> omega)).trans (h q g1 g2 g3)
/-- another token is met -/
theorem PS.adv {I J : mI} {M K : Nat → Nat → Int} {D : Nat → Nat} {b : Nat → Int} {n c c' : Nat} {T N : mT} {mo : Nat} (h : PS I M D b n c T N mo) (hc : c' ≤ n) (hF : Fa I J) (hL : La M K) (hT : TKC J K b c') : PS J K D b n c' T N mo := by
  obtain ⟨⟨h1, h2, h3, h4, h5, h6⟩, -, -, e1, e2, e3, e4, e5, e6⟩ := h
  have ht : TT J (D 2) = TT I (D 2) := by
    funext k j
    unfold TT
    split
    · rw [hF.1 _ (by rcases h1 with z | z <;> omega)]
    · rfl
  have hn : NN K (D 2) = NN M (D 2) := NN_o (hL _ (by rcases h1 with z | z <;> omega)) (hL _ (by rcases h1 with z | z <;> omega))
  exact ⟨⟨h1, hF.tb h2, fun k hk => by rw [hL 43 (by decide)]; exact h3 k hk, by rw [ht]; exact h4, by rw [ht]; exact h5, by rw [hn]; exact h6⟩, hc, hT, ht.trans e1, hn.trans e2, by rw [hF.1 44 (by decide)]; exact e3, by rw [hF.1 44 (by decide)]; exact e4, e5, e6⟩
/-- a write of the Parser's own cell -/
theorem PX.up44 {I : mI} {M : Nat → Nat → Int} {D : Nat → Nat} {b : Nat → Int} {n j : Nat} {v : Int} (h : PX I M D b n) : PX (up I 44 j v) M D b n := by
  obtain ⟨h1, h2, h3, h4, h5, h6⟩ := h
  have ht : TT (up I 44 j v) (D 2) = TT I (D 2) := TT_o (by rcases h1 with z | z <;> omega)
  exact ⟨h1, ⟨by rw [show up I 44 j v 42 = I 42 from funext fun k => up_c (by decide)]; exact h2.1, (up_c (by decide)).trans h2.2.1, h2.2.2⟩, h3, by rw [ht]; exact h4, by rw [ht]; exact h5, h6⟩
theorem TKC.o {I J : mI} {M K : Nat → Nat → Int} {b : Nat → Int} {c : Nat} (h : TKC I M b c) (h1 : J 41 = I 41) (h2 : K 41 = M 41) : TKC J K b c := by
  unfold TKC
  rw [h1, h2]
  exact h
/-- a write of the draft -/
theorem PX.upT {I : mI} {M : Nat → Nat → Int} {D : Nat → Nat} {b : Nat → Int} {n k j : Nat} {v : Int} (h : PX I M D b n) (hk : k < 19) (hb : twB k j v) (h18 : k = 18 → inR v) : PX (up I (D 2 + k) j v) M D b n := by
  obtain ⟨h1, h2, h3, h4, h5, h6⟩ := h
  have g : D 2 = 1 ∨ D 2 = 21 := h1
  refine ⟨h1, ⟨by rw [show up I (D 2 + k) j v 42 = I 42 from funext fun i => up_c (by omega)]; exact h2.1, (up_c (by omega)).trans h2.2.1, h2.2.2⟩, h3, ?_, ?_, h6⟩
  · rw [TT_up hk]; exact tw_set h4 hb
  · rw [TT_up hk]
    intro i
    unfold setT
    split
    · next e => exact h18 e.1.symm
    · exact h5 i
theorem PX.upN {I : mI} {M : Nat → Nat → Int} {D : Nat → Nat} {b : Nat → Int} {n k j : Nat} {v : Int} (h : PX I M D b n) (hk : k < 2) (hv : inL v) : PX I (upL M (D 2 + 1 + k) j v) D b n := by
  obtain ⟨h1, h2, h3, h4, h5, h6⟩ := h
  have g : D 2 = 1 ∨ D 2 = 21 := h1
  refine ⟨h1, h2, fun i hi => (if_neg (fun z => by omega)).trans (h3 i hi), h4, h5, ?_⟩
  rw [NN_up hk]
  intro a i
  unfold setT
  split
  · exact hv
  · exact h6 a i
theorem dst_o {f g : Nat → Int} {n : Nat} (h : dst f n) (e : ∀ j, j < n → g j = f j) : dst g n := fun i j hi hj x => h i j hi hj (by rw [← e i hi, ← e j hj]; exact x)
theorem dst_s {f g : Nat → Int} {n : Nat} (h : dst f n) (e : ∀ j, j < n → g j = f j) (hn : ∀ j, j < n → f j ≠ g n) : dst g (n + 1) := fun i j hi hj x => by
  by_cases a : i = n
  · by_cases c : j = n
    · omega
    · subst a; exact absurd (by rw [← e j (by omega)]; exact x.symm) (hn j (by omega))
  · by_cases c : j = n
    · subst c; exact absurd (by rw [← e i (by omega)]; exact x) (hn i (by omega))
    · exact h i j (by omega) (by omega) (by rw [← e i (by omega), ← e j (by omega)]; exact x)
section PSU
variable {I : mI} {M : Nat → Nat → Int} {D : Nat → Nat} {b : Nat → Int} {n c : Nat} {T N : mT} {mo : Nat}
theorem PS.upT (h : PS I M D b n c T N mo) {k j : Nat} {v : Int} (hk : k < 19) (hb : twB k j v) (h18 : k = 18 → inR v) (h0 : dst (N 0) (nC (setT T k j v))) (h1 : dst (N 1) (nP (setT T k j v))) : PS (up I (D 2 + k) j v) M D b n c (setT T k j v) N mo := by
  have g : D 2 = 1 ∨ D 2 = 21 := h.1.1
  refine ⟨h.1.upT hk hb h18, h.2.1, h.2.2.1.o (funext fun i => up_c (by omega)) rfl, by rw [TT_up hk, h.2.2.2.1], h.2.2.2.2.1, (up_c (by omega)).trans h.2.2.2.2.2.1, ⟨h.2.2.2.2.2.2.1.1, (up_c (by omega)).trans h.2.2.2.2.2.2.1.2.1, (up_c (by omega)).trans h.2.2.2.2.2.2.1.2.2⟩, h0, h1⟩
theorem PS.upT1 (h : PS I M D b n c T N mo) {k j : Nat} {v : Int} (hk : k < 19) (hb : twB k j v) (h18 : k = 18 → inR v) (h0 : k ≠ 0 ∨ (j ≠ 11 ∧ j ≠ 12)) : PS (up I (D 2 + k) j v) M D b n c (setT T k j v) N mo := by
  have e1 : setT T k j v 0 11 = T 0 11 := if_neg (by omega)
  have e2 : setT T k j v 0 12 = T 0 12 := if_neg (by omega)
  refine h.upT hk hb h18 ?_ ?_
  · show dst (N 0) (setT T k j v 0 11).toNat
    rw [e1]; exact h.2.2.2.2.2.2.2.1
  · show dst (N 1) (setT T k j v 0 12).toNat
    rw [e2]; exact h.2.2.2.2.2.2.2.2
theorem PS.upN (h : PS I M D b n c T N mo) {k j : Nat} {v : Int} (hk : k < 2) (hv : inL v) (h0 : dst ((setT N k j v) 0) (nC T)) (h1 : dst ((setT N k j v) 1) (nP T)) : PS I (upL M (D 2 + 1 + k) j v) D b n c T (setT N k j v) mo := by
  have g : D 2 = 1 ∨ D 2 = 21 := h.1.1
  exact ⟨h.1.upN hk hv, h.2.1, h.2.2.1.o rfl (funext fun i => if_neg (fun z => by omega)), h.2.2.2.1, by rw [NN_up hk, h.2.2.2.2.1], h.2.2.2.2.2.1, h.2.2.2.2.2.2.1, h0, h1⟩
theorem PS.upm (h : PS I M D b n c T N mo) {m : Nat} (hm : m < 32768) : PS (up I 44 2 (m : Int)) M D b n c T N m := by
  have g : D 2 = 1 ∨ D 2 = 21 := h.1.1
  exact ⟨h.1.up44, h.2.1, h.2.2.1.o (funext fun i => up_c (by decide)) rfl, by rw [TT_o (by omega)]; exact h.2.2.2.1, h.2.2.2.2.1, up_s _ _ _ _, ⟨hm, (up_j (by decide)).trans h.2.2.2.2.2.2.1.2.1, (up_j (by decide)).trans h.2.2.2.2.2.2.1.2.2⟩, h.2.2.2.2.2.2.2⟩
theorem PS.ref (h : PS I M D b n c T N mo) (f : Int) : PE (up (up I 44 3 (bad b c f).1) 44 4 (bad b c f).2) M D b n (bad b c f) := ⟨h.1.up44.up44, by rw [up_j (by decide), up_s], up_s _ _ _ _⟩
theorem PS.tw (h : PS I M D b n c T N mo) : tw T := h.2.2.2.1 ▸ h.1.2.2.2.1
theorem PS.nm (h : PS I M D b n c T N mo) (k j : Nat) : inL (N k j) := h.2.2.2.2.1 ▸ h.1.2.2.2.2.2 k j
/-- the next cursor -/
theorem PS.nx (h : PS I M D b n c T N mo) : te b c ≤ n := by
  have := (te_in (g := I 42) h.2.1).2.2.1
  rw [← h.1.2.1.1] at this
  exact this
end PSU
