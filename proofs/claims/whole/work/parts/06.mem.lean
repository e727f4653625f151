/-! memory: reading and writing fields and places -/
def up (I : mI) (a j : Nat) (v : Int) : mI := fun b k => if b = a ∧ k = j then v else I b k
def upL (L : Nat → Nat → Int) (a j : Nat) (v : Int) : Nat → Nat → Int := fun b k => if b = a ∧ k = j then v else L b k
def upR (R : Nat → Nat → Option Nat) (a j : Nat) (v : Option Nat) : Nat → Nat → Option Nat := fun b k => if b = a ∧ k = j then v else R b k
theorem up_s (I : mI) (a j : Nat) (v : Int) : up I a j v a j = v := if_pos ⟨rfl, rfl⟩
theorem up_c {I : mI} {a b j k : Nat} {v : Int} (h : b ≠ a) : up I a j v b k = I b k := if_neg (fun q => h q.1)
theorem up_j {I : mI} {a b j k : Nat} {v : Int} (h : k ≠ j) : up I a j v b k = I b k := if_neg (fun q => h q.2)
theorem kd_le (a : Nat) : (kd a).2 ≤ 1600 := by
  unfold kd
  rw [List.getD_eq_getElem?_getD]
  cases h : kdL[a]? with
  | none => decide
  | some q =>
    have h1 : kdL.all (fun q => decide (q.2 ≤ 1600)) = true := by decide +kernel
    have := List.all_eq_true.mp h1 q (List.mem_of_getElem? h)
    simpa using this
/-- the classes' own words are among the tables' -/
theorem cl_all : (clT.all fun q => (u_ws q.1 q.2.1 q.2.2).all fun w => decide (w ∈ tables_1) && goodWord w) = true := by decide +kernel
theorem cl_in {c : Nat} {q : vw_C} (h : clT[c]? = some q) : ∀ w ∈ u_ws q.1 q.2.1 q.2.2, w ∈ gw := by
  intro w hw
  have h1 := List.all_eq_true.mp cl_all q (List.mem_of_getElem? h)
  have h2 := List.all_eq_true.mp h1 w hw
  simp only [Bool.and_eq_true, decide_eq_true_eq] at h2
  exact gw_of h2.1 h2.2
theorem cl_ty {c : Nat} {q : vw_C} (h : clT[c]? = some q) : ∀ k, k < q.2.2 → parseFieldDescriptor (q.2.1 k).2.2.1 = some (tyT c k) := by
  match c, h with
  | 0, h => cases h; exact tyX0_ok
  | 1, h => cases h; exact tyX1_ok
  | 2, h => cases h; exact tyX2_ok
  | 3, h => cases h; exact tyX3_ok
  | 4, h => cases h; exact tyX4_ok
  | 5, h => cases h; exact tyX5_ok
  | 6, h => cases h; exact tyX6_ok
  | 7, h => cases h; exact tyX7_ok
  | 8, h => cases h; exact tyX8_ok
  | 9, h => cases h; exact tyX9_ok
  | 10, h => cases h; exact tyX10_ok
  | 11, h => cases h; exact tyX11_ok
  | c + 12, h => simp at h
theorem cl_nm {c : Nat} {q : vw_C} (h : clT[c]? = some q) : ∀ a, a < q.2.2 → ∀ b, b < q.2.2 → a ≠ b → (q.2.1 a).2.1 ≠ (q.2.1 b).2.1 := by
  match c, h with
  | 0, h => cases h; exact nmX0
  | 1, h => cases h; exact nmX1
  | 2, h => cases h; exact nmX2
  | 3, h => cases h; exact nmX3
  | 4, h => cases h; exact nmX4
  | 5, h => cases h; exact nmX5
  | 6, h => cases h; exact nmX6
  | 7, h => cases h; exact nmX7
  | 8, h => cases h; exact nmX8
  | 9, h => cases h; exact nmX9
  | 10, h => cases h; exact nmX10
  | 11, h => cases h; exact nmX11
  | c + 12, h => simp at h
/-- the entry idx of own's pool is the field j of the class ci, which has n of them -/
def mF (own : String) (idx ci n j : Nat) : Prop := ci < 20 ∧ ∃ q : vw_C, clT[ci]? = some q ∧ q.2.2 = n ∧ j < n ∧ Cond.fieldLink own idx (q.2.1 j).1 (q.2.1 j).2.1 (q.2.1 j).2.2.1 ∈ gw
def isRefTy : FieldType → Bool
  | .object _ => true
  | .array _ => true
  | _ => false
section MEM
variable {l : Launch} {G : mG} {μ : mM} {d nf : Nat} {I : mI} {X : mX} {pc : Nat} {ls : List (Option mV)} {st : List mV} {Q : mQ} {H : Heap}
theorem cellP_ob {a ci n : Nat} (hk : kd a = (ci, n)) (hc : ci < 20) : cellP G I X H a ↔ t_OB (G.1 + a) (G.2.1.1 ci) n (G.2.1.2 ci) H (fun j => fV G I X a (tyT ci j) j) := by
  unfold cellP
  rw [hk, if_pos hc]
theorem cellP_ar {a ci n : Nat} (hk : kd a = (ci, n)) (hc : ¬ ci < 20) : cellP G I X H a ↔ H[G.1 + a]? = some (arrV (G.2.2.1 ci) n (aV G I X ci a)) := by
  unfold cellP
  rw [hk, if_neg hc]
theorem fV_congr {I' : mI} {X' : mX} {a j : Nat} {ty : FieldType} (h1 : I' a j = I a j) (h2 : X'.1 a j = X.1 a j) (h3 : X'.2.1 a j = X.2.1 a j) : fV G I' X' a ty j = fV G I X a ty j := by
  cases ty <;> simp [fV, h1, h2, h3]
theorem aV_congr {I' : mI} {X' : mX} {k a j : Nat} (h1 : I' a j = I a j) (h2 : X'.1 a j = X.1 a j) (h3 : X'.2.1 a j = X.2.1 a j) : aV G I' X' k a j = aV G I X k a j := by
  simp [aV, h1, h2, h3]
theorem cellP_kept {I' : mI} {X' : mX} {H' : Heap} {b : Nat} (h1 : ∀ j, I' b j = I b j) (h2 : ∀ j, X'.1 b j = X.1 b j) (h3 : ∀ j, X'.2.1 b j = X.2.1 b j) (hq : H'[G.1 + b]? = H[G.1 + b]?) (h : cellP G I X H b) : cellP G I' X' H' b := by
  unfold cellP at h ⊢
  split at h
  · next hc =>
    rw [if_pos hc]
    exact (h.kept hq).to (fun k _ => (fV_congr (h1 k) (h2 k) (h3 k)).symm)
  · next hc =>
    rw [if_neg hc, hq, h]
    have : aV G I X (kd b).1 b = aV G I' X' (kd b).1 b := funext fun k => (aV_congr (h1 k) (h2 k) (h3 k)).symm
    rw [this]
/-- one cell is written -/
theorem rep_set {I' : mI} {X' : mX} {H' : Heap} {a : Nat} (h : rep G I X H) (hz : H'.size = H.size) (hn : X'.2.2 = X.2.2) (oq : ∀ q, q ≠ G.1 + a → H'[q]? = H[q]?)
    (h1 : ∀ b j, b ≠ a → I' b j = I b j) (h2 : ∀ b j, b ≠ a → X'.1 b j = X.1 b j) (h3 : ∀ b j, b ≠ a → X'.2.1 b j = X.2.1 b j) (ha : cellP G I' X' H' a) : rep G I' X' H' := by
  refine ⟨by rw [hz, hn]; exact h.1, by rw [hn]; exact h.2.1, fun b hb => ?_⟩
  by_cases e : b = a
  · subst e
    exact ha
  · exact cellP_kept (fun j => h1 b j e) (fun j => h2 b j e) (fun j => h3 b j e) (oq _ (by omega)) (h.2.2 b (by rw [hn] at hb; exact hb))
theorem hp_set {I' : mI} {X' : mX} {H' : Heap} {a : Nat} {s : State} {locs : List Loc} {k : Nat} (h : Hp G I X s H locs) (hz : H'.size = H.size) (hn : X'.2.2 = X.2.2) (oq : ∀ q, q ≠ G.1 + a → H'[q]? = H[q]?)
    (h1 : ∀ b j, b ≠ a → I' b j = I b j) (h2 : ∀ b j, b ≠ a → X'.1 b j = X.1 b j) (h3 : ∀ b j, b ≠ a → X'.2.1 b j = X.2.1 b j) (ha : cellP G I' X' H' a) : Hp G I' X' s H' (locs ++ [⟨G.1 + a, k⟩]) := by
  refine ⟨rep_set h.1 hz hn oq h1 h2 h3 ha, fun q hq => (oq q (by omega)).trans (h.2.1 q hq), fun q hq => ?_, by rw [hz]; exact h.2.2.2⟩
  rcases List.mem_append.mp hq with h4 | h4
  · exact h.2.2.1 q h4
  · rw [List.mem_singleton.mp h4]
    exact Nat.le_add_right _ _
theorem ad_lt {a : Nat} (h : a < NT) : ad G a = G.1 + a := if_pos (Nat.lt_of_lt_of_le h (by decide))
theorem hp_lt {s : State} {locs : List Loc} {a : Nat} (h : Hp G I X s H locs) (ha : a < X.2.2) : ad G a = G.1 + a := ad_lt (Nat.lt_of_lt_of_le ha h.1.2.1)
/-- a field is read: whatever stands there -/
theorem wp_get {own : String} {idx ci n j a : Nat} {v : mV} (hd : decode μ.2.1 pc = .ok (.getfield idx, 3)) (ho : μ.1.cls = own) (hf : mF own idx ci n j) (hk : kd a = (ci, n)) (ha : a < X.2.2) (hv : fV G I X a (tyT ci j) j = cv G v) (k : WP l G μ d nf I X (pc + 3) ls (v :: st) Q) : WP l G μ d nf I X pc ls (vR a :: st) Q := by
  intro p e R s m args below meth c H locs cells slots n0 cl hF hR hH hL
  obtain ⟨hc, q, hq, hn, hj, hw⟩ := hf
  have hP := (cellP_ob hk hc).mp (hH.1.2.2 a ha)
  subst hn
  obtain ⟨C, T, N⟩ := q
  have hP1 : va_P G.2.1 clT [(G.1 + a, .inr (ci, (List.range N).map (fun j => fV G I X a (tyT ci j) j)))] H := by
    intro k0 q0 h0
    have hz : k0 < 1 := (List.getElem?_eq_some_iff.mp h0).1
    rw [show k0 = 0 by omega] at h0
    cases h0
    refine ⟨(C, T, N), hq, hP.to (fun k hk => ?_)⟩
    simp only at hk
    simp [vp_V, List.getD_eq_getElem?_getD, hk]
  have w := k p e R s m args below meth c H locs cells slots n0 cl hF hR hH hL
  refine W.eq (g2 := F0 m pc cl (.ref (G.1 + a) :: st.map (cv G))) (by rw [← hp_lt hH ha]; rfl) ?_
  refine va_get (D := G.2.1) (cl := clT) (ci := ci) (v := cv G v) (C := C) (T := T) (N := N) hF.1 hF.2.1 hF.2.2.2.2.2.2.2.1 (cl_in hq) hF.2.2.2.2.2.1 hF.2.2.2.2.2.2.2.2.1.1 hP1 0 rfl hq j hj (by rw [ho]; exact hF.2.2.2.2.2.2.2.1 _ hw) (fun _ h9 => h9) ?_ hd w
  rw [← hv]
  simp only at hj
  simp [hj]
theorem wp_geti {own : String} {idx ci n j a : Nat} (hd : decode μ.2.1 pc = .ok (.getfield idx, 3)) (ho : μ.1.cls = own) (hf : mF own idx ci n j) (hk : kd a = (ci, n)) (ha : a < X.2.2) (ht : tyT ci j = .int ∨ tyT ci j = .boolean) (k : WP l G μ d nf I X (pc + 3) ls (vI (I a j) :: st) Q) : WP l G μ d nf I X pc ls (vR a :: st) Q :=
  wp_get hd ho hf hk ha (by rcases ht with h | h <;> rw [h] <;> rfl) k
theorem wp_getl {own : String} {idx ci n j a : Nat} (hd : decode μ.2.1 pc = .ok (.getfield idx, 3)) (ho : μ.1.cls = own) (hf : mF own idx ci n j) (hk : kd a = (ci, n)) (ha : a < X.2.2) (ht : tyT ci j = .long) (k : WP l G μ d nf I X (pc + 3) ls (vJ (X.1 a j) :: st) Q) : WP l G μ d nf I X pc ls (vR a :: st) Q :=
  wp_get hd ho hf hk ha (by rw [ht]; rfl) k
theorem wp_getr {own : String} {idx ci n j a r : Nat} (hd : decode μ.2.1 pc = .ok (.getfield idx, 3)) (ho : μ.1.cls = own) (hf : mF own idx ci n j) (hk : kd a = (ci, n)) (ha : a < X.2.2) (ht : isRefTy (tyT ci j) = true) (hr : X.2.1 a j = some r) (k : WP l G μ d nf I X (pc + 3) ls (vR r :: st) Q) : WP l G μ d nf I X pc ls (vR a :: st) Q :=
  wp_get hd ho hf hk ha (by
    revert ht
    generalize tyT ci j = t
    intro ht
    cases t <;> first | (exact absurd ht (by decide)) | (simp [fV, hr]; rfl)) k
/-- a field that isn't final is written -/
theorem wp_put {own : String} {idx ci n j a : Nat} {v : mV} {I' : mI} {X' : mX} (hd : decode μ.2.1 pc = .ok (.putfield idx, 3)) (ho : μ.1.cls = own) (hf : mF own idx ci n j) (hk : kd a = (ci, n)) (ha : a < X.2.2)
    (hfin : ∀ q, clT[ci]? = some q → (q.2.1 j).2.2.2 = false) (hnr : narrow (tyT ci j) (cv G v) = cv G v) (hft : fits (tyT ci j) (cv G v) = true)
    (hn' : X'.2.2 = X.2.2) (h1 : ∀ b i, ¬ (b = a ∧ i = j) → I' b i = I b i) (h2 : ∀ b i, ¬ (b = a ∧ i = j) → X'.1 b i = X.1 b i) (h3 : ∀ b i, ¬ (b = a ∧ i = j) → X'.2.1 b i = X.2.1 b i) (hv : fV G I' X' a (tyT ci j) j = cv G v)
    (k : WP l G μ d nf I' X' (pc + 3) ls st Q) : WP l G μ d nf I X pc ls (v :: vR a :: st) Q := by
  intro p e R s m args below meth c H locs cells slots n0 cl hF hR hH hL
  obtain ⟨hc, q, hq, hn, hj, hw⟩ := hf
  have hP := (cellP_ob hk hc).mp (hH.1.2.2 a ha)
  have hK := hF.2.2.2.2.2.2.2.2.1.1
  have hts := hF.2.2.2.2.2.2.2.1
  subst hn
  have hfin := hfin q hq
  have hty := cl_ty hq
  have hap := va_apart (own := own) hts (cl_in hq) (tyT ci) hty (cl_nm hq) hK hq
  have hcin := cl_in hq
  obtain ⟨C, T, N⟩ := q
  simp only at hj hw hfin hty hap hcin
  obtain ⟨cell, q1, q2, q3, q4⟩ := hP
  obtain ⟨hS, hfc, kC, hkC, hkind⟩ := hK.1 ci _ hq
  obtain ⟨cf, kf, fi, f, hi, hsl⟩ := hS j hj
  have hlay := hts _ (hcin _ (u_in_lay hj))
  unfold u_lay at hlay
  rw [if_neg (by rw [hfin]; decide)] at hlay
  have hst := (u_facts hfc hkC (u_lays hts hcin hj) hi).1
  have h6 := u_store hfc hkC hkind hlay hi (hty j hj) hnr hft
  refine W.eq (g2 := F0 m pc cl (cv G v :: .ref (G.1 + a) :: st.map (cv G))) (by rw [← hp_lt hH ha]; rfl) ?_
  refine W.putK hF.1 hF.2.1 (f := f) ⟨hF.2.2.2.2.2.1, by rw [ho]; exact hts _ hw, ⟨_, _, _, hi⟩, hst⟩ (by rw [q2]; exact h6) q1 q3 (by rw [hsl]; exact k2_hasslot (q4 j hj)) rfl rfl hd fun H' e1 e2 e3 => ?_
  rw [hsl] at e1
  have hcell : cellP G I' X' H' a := (cellP_ob hk hc).mpr (t_OB.to (V := updV (fun j => fV G I X a (tyT ci j) j) j (cv G v)) ⟨_, e1, q2, q3, t_set q4 hap hj (cv G v)⟩ (fun i _ => by
    unfold updV
    by_cases e : i = j
    · rw [if_pos e, e, hv]
    · rw [if_neg e]
      exact (fV_congr (h1 a i (fun z => e z.2)) (h2 a i (fun z => e z.2)) (h3 a i (fun z => e z.2))).symm))
  refine k p e R s m args below meth c H' _ cells slots n0 cl hF (by rw [hn']; exact hR) (hp_set hH e2 hn' e3 (fun b i hb => h1 b i (fun z => hb z.1)) (fun b i hb => h2 b i (fun z => hb z.1)) (fun b i hb => h3 b i (fun z => hb z.1)) hcell) hL
theorem wp_puti {own : String} {idx ci n j a : Nat} {x : Int} (hd : decode μ.2.1 pc = .ok (.putfield idx, 3)) (ho : μ.1.cls = own) (hf : mF own idx ci n j) (hk : kd a = (ci, n)) (ha : a < X.2.2) (hfin : ∀ q, clT[ci]? = some q → (q.2.1 j).2.2.2 = false) (ht : tyT ci j = .int)
    (k : WP l G μ d nf (up I a j x) X (pc + 3) ls st Q) : WP l G μ d nf I X pc ls (vI x :: vR a :: st) Q :=
  wp_put hd ho hf hk ha hfin (by rw [ht]; rfl) (by rw [ht]; rfl) rfl (fun b i h => if_neg h) (fun _ _ _ => rfl) (fun _ _ _ => rfl) (by rw [ht]; show Value.int (Int32.ofInt (up I a j x a j)) = _; rw [up_s]; rfl) k
theorem wp_putz {own : String} {idx ci n j a : Nat} {x : Int} (hd : decode μ.2.1 pc = .ok (.putfield idx, 3)) (ho : μ.1.cls = own) (hf : mF own idx ci n j) (hk : kd a = (ci, n)) (ha : a < X.2.2) (hfin : ∀ q, clT[ci]? = some q → (q.2.1 j).2.2.2 = false) (ht : tyT ci j = .boolean) (hx : x = 0 ∨ x = 1)
    (k : WP l G μ d nf (up I a j x) X (pc + 3) ls st Q) : WP l G μ d nf I X pc ls (vI x :: vR a :: st) Q :=
  wp_put hd ho hf hk ha hfin (by rw [ht]; rcases hx with h | h <;> rw [h] <;> rfl) (by rw [ht]; rcases hx with h | h <;> rw [h] <;> rfl) rfl (fun b i h => if_neg h) (fun _ _ _ => rfl) (fun _ _ _ => rfl) (by rw [ht]; show Value.int (Int32.ofInt (up I a j x a j)) = _; rw [up_s]; rfl) k
theorem wp_putl {own : String} {idx ci n j a : Nat} {x : Int} (hd : decode μ.2.1 pc = .ok (.putfield idx, 3)) (ho : μ.1.cls = own) (hf : mF own idx ci n j) (hk : kd a = (ci, n)) (ha : a < X.2.2) (hfin : ∀ q, clT[ci]? = some q → (q.2.1 j).2.2.2 = false) (ht : tyT ci j = .long)
    (k : WP l G μ d nf I (upL X.1 a j x, X.2) (pc + 3) ls st Q) : WP l G μ d nf I X pc ls (vJ x :: vR a :: st) Q :=
  wp_put (X' := (upL X.1 a j x, X.2)) (I' := I) hd ho hf hk ha hfin (by rw [ht]; rfl) (by rw [ht]; rfl) rfl (fun _ _ _ => rfl) (fun b i h => if_neg h) (fun _ _ _ => rfl) (by rw [ht]; show Value.long (Int64.ofInt (upL X.1 a j x a j)) = _; rw [show upL X.1 a j x a j = x from if_pos ⟨rfl, rfl⟩]; rfl) k
theorem wp_putr {own : String} {idx ci n j a r : Nat} (hd : decode μ.2.1 pc = .ok (.putfield idx, 3)) (ho : μ.1.cls = own) (hf : mF own idx ci n j) (hk : kd a = (ci, n)) (ha : a < X.2.2) (hfin : ∀ q, clT[ci]? = some q → (q.2.1 j).2.2.2 = false) (ht : isRefTy (tyT ci j) = true)
    (k : WP l G μ d nf I (X.1, upR X.2.1 a j (some r), X.2.2) (pc + 3) ls st Q) : WP l G μ d nf I X pc ls (vR r :: vR a :: st) Q := by
  refine wp_put (X' := (X.1, upR X.2.1 a j (some r), X.2.2)) (I' := I) hd ho hf hk ha hfin ?_ ?_ rfl (fun _ _ _ => rfl) (fun _ _ _ => rfl) (fun b i h => if_neg h) ?_ k
  all_goals (revert ht; generalize tyT ci j = t; intro ht)
  · cases t <;> first | (exact absurd ht (by decide)) | rfl
  · cases t <;> first | (exact absurd ht (by decide)) | rfl
  · have hu : upR X.2.1 a j (some r) a j = some r := if_pos ⟨rfl, rfl⟩
    cases t <;> first | (exact absurd ht (by decide)) | (simp [fV, hu]; rfl)
/-! arrays -/
theorem ar_at {a ci n : Nat} {s : State} {locs : List Loc} (hH : Hp G I X s H locs) (hk : kd a = (ci, n)) (hc : ¬ ci < 20) (ha : a < X.2.2) : H[G.1 + a]? = some (arrV (G.2.2.1 ci) n (aV G I X ci a)) := (cellP_ar hk hc).mp (hH.1.2.2 a ha)
theorem wp_iald {a n : Nat} {i : Int} (hd : decode μ.2.1 pc = .ok (.iaload, 1)) (hk : kd a = (20, n)) (ha : a < X.2.2) (h0 : 0 ≤ i) (h1 : i < n) (k : WP l G μ d nf I X (pc + 1) ls (vI (I a i.toNat) :: st) Q) : WP l G μ d nf I X pc ls (vI i :: vR a :: st) Q := by
  intro p e R s m args below meth c H locs cells slots n0 cl hF hR hH hL
  have hn := kd_le a
  rw [hk] at hn
  have hn : n ≤ 1600 := hn
  have hc := ar_at hH hk (by decide) ha
  have w := k p e R s m args below meth c H locs cells slots n0 cl hF hR hH hL
  refine W.eq (g2 := F0 m pc cl (.int (Int32.ofInt i) :: .ref (G.1 + a) :: st.map (cv G))) (by rw [← hp_lt hH ha]; rfl) ?_
  refine W.iald (v := .int (Int32.ofInt (I a i.toNat))) hF.1 hF.2.1 hc ((hF.2.2.2.2.2.2.2.2.1.1.2 0 _ rfl).1 n _) (fun q => by cases q) (by rw [arrV_size]; exact oi_in h0 h1 (by omega)) (by rw [oi_clamp h0 (by omega), arrV_read _ _ (by omega)]; rfl) rfl rfl hd w
theorem wp_bald {a n : Nat} {i : Int} (hd : decode μ.2.1 pc = .ok (.baload, 1)) (hk : kd a = (21, n)) (ha : a < X.2.2) (h0 : 0 ≤ i) (h1 : i < n) (k : WP l G μ d nf I X (pc + 1) ls (vI (I a i.toNat) :: st) Q) : WP l G μ d nf I X pc ls (vI i :: vR a :: st) Q := by
  intro p e R s m args below meth c H locs cells slots n0 cl hF hR hH hL
  have hn := kd_le a
  rw [hk] at hn
  have hn : n ≤ 1600 := hn
  have hc := ar_at hH hk (by decide) ha
  have w := k p e R s m args below meth c H locs cells slots n0 cl hF hR hH hL
  refine W.eq (g2 := F0 m pc cl (.int (Int32.ofInt i) :: .ref (G.1 + a) :: st.map (cv G))) (by rw [← hp_lt hH ha]; rfl) ?_
  refine W.bald (v := .int (Int32.ofInt (I a i.toNat))) hF.1 hF.2.1 hc ((hF.2.2.2.2.2.2.2.2.1.1.2 1 _ rfl).1 n _) (fun q => by cases q) (by rw [arrV_size]; exact oi_in h0 h1 (by omega)) (by rw [oi_clamp h0 (by omega), arrV_read _ _ (by omega)]; rfl) rfl rfl hd w
theorem wp_zald {a n : Nat} {i : Int} (hd : decode μ.2.1 pc = .ok (.baload, 1)) (hk : kd a = (22, n)) (ha : a < X.2.2) (h0 : 0 ≤ i) (h1 : i < n) (k : WP l G μ d nf I X (pc + 1) ls (vI (I a i.toNat) :: st) Q) : WP l G μ d nf I X pc ls (vI i :: vR a :: st) Q := by
  intro p e R s m args below meth c H locs cells slots n0 cl hF hR hH hL
  have hn := kd_le a
  rw [hk] at hn
  have hn : n ≤ 1600 := hn
  have hc := ar_at hH hk (by decide) ha
  have w := k p e R s m args below meth c H locs cells slots n0 cl hF hR hH hL
  refine W.eq (g2 := F0 m pc cl (.int (Int32.ofInt i) :: .ref (G.1 + a) :: st.map (cv G))) (by rw [← hp_lt hH ha]; rfl) ?_
  refine W.zald (v := .int (Int32.ofInt (I a i.toNat))) hF.1 hF.2.1 hc ((hF.2.2.2.2.2.2.2.2.1.1.2 2 _ rfl).1 n _) (fun q => by cases q) (by rw [arrV_size]; exact oi_in h0 h1 (by omega)) (by rw [oi_clamp h0 (by omega), arrV_read _ _ (by omega)]; rfl) rfl rfl hd w
theorem wp_lald {a n : Nat} {i : Int} (hd : decode μ.2.1 pc = .ok (.laload, 1)) (hk : kd a = (23, n)) (ha : a < X.2.2) (h0 : 0 ≤ i) (h1 : i < n) (k : WP l G μ d nf I X (pc + 1) ls (vJ (X.1 a i.toNat) :: st) Q) : WP l G μ d nf I X pc ls (vI i :: vR a :: st) Q := by
  intro p e R s m args below meth c H locs cells slots n0 cl hF hR hH hL
  have hn := kd_le a
  rw [hk] at hn
  have hn : n ≤ 1600 := hn
  have hc := ar_at hH hk (by decide) ha
  have w := k p e R s m args below meth c H locs cells slots n0 cl hF hR hH hL
  refine W.eq (g2 := F0 m pc cl (.int (Int32.ofInt i) :: .ref (G.1 + a) :: st.map (cv G))) (by rw [← hp_lt hH ha]; rfl) ?_
  refine W.lald (v := .long (Int64.ofInt (X.1 a i.toNat))) hF.1 hF.2.1 hc ((hF.2.2.2.2.2.2.2.2.1.1.2 3 _ rfl).1 n _) (fun q => by cases q) (by rw [arrV_size]; exact oi_in h0 h1 (by omega)) (by rw [oi_clamp h0 (by omega), arrV_read _ _ (by omega)]; rfl) rfl rfl hd w
theorem wp_aald {a ci n r : Nat} {i : Int} (hd : decode μ.2.1 pc = .ok (.aaload, 1)) (hk : kd a = (ci, n)) (hci : ci = 24 ∨ ci = 25) (ha : a < X.2.2) (h0 : 0 ≤ i) (h1 : i < n) (hr : X.2.1 a i.toNat = some r) (k : WP l G μ d nf I X (pc + 1) ls (vR r :: st) Q) : WP l G μ d nf I X pc ls (vI i :: vR a :: st) Q := by
  intro p e R s m args below meth c H locs cells slots n0 cl hF hR hH hL
  have hn := kd_le a
  rw [hk] at hn
  have hn : n ≤ 1600 := hn
  have hc := ar_at hH hk (by omega) ha
  have w := k p e R s m args below meth c H locs cells slots n0 cl hF hR hH hL
  refine W.eq (g2 := F0 m pc cl (.int (Int32.ofInt i) :: .ref (G.1 + a) :: st.map (cv G))) (by rw [← hp_lt hH ha]; rfl) ?_
  have hval : aV G I X ci a i.toNat = .ref (ad G r) := by
    unfold aV
    rw [if_neg (by omega), if_neg (by omega), hr]
    rfl
  rcases hci with rfl | rfl
  · refine W.aald (ty := .object "ThreeSundays$State") (v := .ref (ad G r)) hF.1 hF.2.1 hc ((hF.2.2.2.2.2.2.2.2.1.1.2 4 _ rfl).1 n _) rfl (fun q => by cases q) (by rw [arrV_size]; exact oi_in h0 h1 (by omega)) (by rw [oi_clamp h0 (by omega), arrV_read _ _ (by omega), hval]) rfl rfl hd w
  · refine W.aald (ty := .array .int) (v := .ref (ad G r)) hF.1 hF.2.1 hc ((hF.2.2.2.2.2.2.2.2.1.1.2 5 _ rfl).1 n _) rfl (fun q => by cases q) (by rw [arrV_size]; exact oi_in h0 h1 (by omega)) (by rw [oi_clamp h0 (by omega), arrV_read _ _ (by omega), hval]) rfl rfl hd w
theorem aV_up {ci a j i : Nat} {x : Int} (hc : ci < 23) : aV G (up I a j x) X ci a i = updV (aV G I X ci a) j (.int (Int32.ofInt x)) i := by
  have h1 : ∀ J : mI, aV G J X ci a i = .int (Int32.ofInt (J a i)) := fun J => by
    unfold aV
    rw [if_neg (by omega), if_pos hc]
  rw [h1]
  unfold updV
  by_cases e : i = j
  · rw [if_pos e, e, up_s]
  · rw [if_neg e, up_j e, h1]
theorem wp_iast {a n : Nat} {i x : Int} (hd : decode μ.2.1 pc = .ok (.iastore, 1)) (hk : kd a = (20, n)) (ha : a < X.2.2) (h0 : 0 ≤ i) (h1 : i < n) (k : WP l G μ d nf (up I a i.toNat x) X (pc + 1) ls st Q) : WP l G μ d nf I X pc ls (vI x :: vI i :: vR a :: st) Q := by
  intro p e R s m args below meth c H locs cells slots n0 cl hF hR hH hL
  have hn := kd_le a
  rw [hk] at hn
  have hn : n ≤ 1600 := hn
  have hc := ar_at hH hk (by decide) ha
  refine W.eq (g2 := F0 m pc cl (.int (Int32.ofInt x) :: .int (Int32.ofInt i) :: .ref (G.1 + a) :: st.map (cv G))) (by rw [← hp_lt hH ha]; rfl) ?_
  refine W.iast hF.1 hF.2.1 hc ((hF.2.2.2.2.2.2.2.2.1.1.2 0 _ rfl).1 n _) (fun q => by cases q) (by rw [arrV_size]; exact oi_in h0 h1 (by omega)) rfl rfl hd fun H' e1 e2 e3 => ?_
  rw [oi_clamp h0 (by omega), arrV_store] at e1
  refine k p e R s m args below meth c H' _ cells slots n0 cl hF hR (hp_set hH e2 rfl e3 (fun b j hb => up_c hb) (fun _ _ _ => rfl) (fun _ _ _ => rfl) ((cellP_ar hk (by decide)).mpr ?_)) hL
  rw [e1]
  exact congrArg some (congrArg (arrV _ _) (funext fun j => (aV_up (by decide)).symm))
theorem wp_bast {a n : Nat} {i x : Int} (hd : decode μ.2.1 pc = .ok (.bastore, 1)) (hk : kd a = (21, n)) (ha : a < X.2.2) (h0 : 0 ≤ i) (h1 : i < n) (hx : -128 ≤ x ∧ x < 128) (k : WP l G μ d nf (up I a i.toNat x) X (pc + 1) ls st Q) : WP l G μ d nf I X pc ls (vI x :: vI i :: vR a :: st) Q := by
  intro p e R s m args below meth c H locs cells slots n0 cl hF hR hH hL
  have hn := kd_le a
  rw [hk] at hn
  have hn : n ≤ 1600 := hn
  have hc := ar_at hH hk (by decide) ha
  refine W.eq (g2 := F0 m pc cl (.int (Int32.ofInt x) :: .int (Int32.ofInt i) :: .ref (G.1 + a) :: st.map (cv G))) (by rw [← hp_lt hH ha]; rfl) ?_
  refine W.bast hF.1 hF.2.1 hc ((hF.2.2.2.2.2.2.2.2.1.1.2 1 _ rfl).1 n _) (fun q => by cases q) (by rw [arrV_size]; exact oi_in h0 h1 (by omega)) rfl rfl hd fun H' e1 e2 e3 => ?_
  have hb : narrow .byte (.int (Int32.ofInt x)) = .int (Int32.ofInt x) := by
    rw [narrow_byte, oi_i2b, Int.bmod_eq_of_le (by omega) (by omega)]
  rw [oi_clamp h0 (by omega), hb, arrV_store] at e1
  refine k p e R s m args below meth c H' _ cells slots n0 cl hF hR (hp_set hH e2 rfl e3 (fun b j hb => up_c hb) (fun _ _ _ => rfl) (fun _ _ _ => rfl) ((cellP_ar hk (by decide)).mpr ?_)) hL
  rw [e1]
  exact congrArg some (congrArg (arrV _ _) (funext fun j => (aV_up (by decide)).symm))
theorem wp_zast {a n : Nat} {i x : Int} (hd : decode μ.2.1 pc = .ok (.bastore, 1)) (hk : kd a = (22, n)) (ha : a < X.2.2) (h0 : 0 ≤ i) (h1 : i < n) (hx : x = 0 ∨ x = 1) (k : WP l G μ d nf (up I a i.toNat x) X (pc + 1) ls st Q) : WP l G μ d nf I X pc ls (vI x :: vI i :: vR a :: st) Q := by
  intro p e R s m args below meth c H locs cells slots n0 cl hF hR hH hL
  have hn := kd_le a
  rw [hk] at hn
  have hn : n ≤ 1600 := hn
  have hc := ar_at hH hk (by decide) ha
  refine W.eq (g2 := F0 m pc cl (.int (Int32.ofInt x) :: .int (Int32.ofInt i) :: .ref (G.1 + a) :: st.map (cv G))) (by rw [← hp_lt hH ha]; rfl) ?_
  refine W.zast hF.1 hF.2.1 hc ((hF.2.2.2.2.2.2.2.2.1.1.2 2 _ rfl).1 n _) (fun q => by cases q) (by rw [arrV_size]; exact oi_in h0 h1 (by omega)) rfl rfl hd fun H' e1 e2 e3 => ?_
  have hb : narrow .boolean (.int (Int32.ofInt x)) = .int (Int32.ofInt x) := by
    rcases hx with h | h <;> rw [h] <;> rfl
  rw [oi_clamp h0 (by omega), hb, arrV_store] at e1
  refine k p e R s m args below meth c H' _ cells slots n0 cl hF hR (hp_set hH e2 rfl e3 (fun b j hb => up_c hb) (fun _ _ _ => rfl) (fun _ _ _ => rfl) ((cellP_ar hk (by decide)).mpr ?_)) hL
  rw [e1]
  exact congrArg some (congrArg (arrV _ _) (funext fun j => (aV_up (by decide)).symm))
theorem wp_last {a n : Nat} {i x : Int} (hd : decode μ.2.1 pc = .ok (.lastore, 1)) (hk : kd a = (23, n)) (ha : a < X.2.2) (h0 : 0 ≤ i) (h1 : i < n) (k : WP l G μ d nf I (upL X.1 a i.toNat x, X.2) (pc + 1) ls st Q) : WP l G μ d nf I X pc ls (vJ x :: vI i :: vR a :: st) Q := by
  intro p e R s m args below meth c H locs cells slots n0 cl hF hR hH hL
  have hn := kd_le a
  rw [hk] at hn
  have hn : n ≤ 1600 := hn
  have hc := ar_at hH hk (by decide) ha
  refine W.eq (g2 := F0 m pc cl (.long (Int64.ofInt x) :: .int (Int32.ofInt i) :: .ref (G.1 + a) :: st.map (cv G))) (by rw [← hp_lt hH ha]; rfl) ?_
  refine W.last hF.1 hF.2.1 hc ((hF.2.2.2.2.2.2.2.2.1.1.2 3 _ rfl).1 n _) (fun q => by cases q) (by rw [arrV_size]; exact oi_in h0 h1 (by omega)) rfl rfl hd fun H' e1 e2 e3 => ?_
  rw [oi_clamp h0 (by omega), arrV_store] at e1
  refine k p e R s m args below meth c H' _ cells slots n0 cl hF hR (hp_set (X' := (upL X.1 a i.toNat x, X.2)) hH e2 rfl e3 (fun _ _ _ => rfl) (fun b j hb => if_neg (fun z => hb z.1)) (fun _ _ _ => rfl) ((cellP_ar hk (by decide)).mpr ?_)) hL
  rw [e1]
  refine congrArg some (congrArg (arrV _ _) (funext fun j => ?_))
  show updV (fun j => Value.long (Int64.ofInt (X.1 a j))) i.toNat (.long (Int64.ofInt x)) j = Value.long (Int64.ofInt (upL X.1 a i.toNat x a j))
  unfold updV upL
  by_cases e : j = i.toNat
  · rw [if_pos e, if_pos ⟨rfl, e⟩]
  · rw [if_neg e, if_neg (fun z => e z.2)]
theorem wp_alen {a ci n : Nat} (hd : decode μ.2.1 pc = .ok (.arraylength, 1)) (hk : kd a = (ci, n)) (hc : ci = 20 ∨ ci = 21 ∨ ci = 22 ∨ ci = 23) (ha : a < X.2.2) (k : WP l G μ d nf I X (pc + 1) ls (vI n :: st) Q) : WP l G μ d nf I X pc ls (vR a :: st) Q := by
  intro p e R s m args below meth c H locs cells slots n0 cl hF hR hH hL
  have hc2 := ar_at hH hk (by omega) ha
  have w := k p e R s m args below meth c H locs cells slots n0 cl hF hR hH hL
  refine W.eq (g2 := F0 m pc cl (.ref (G.1 + a) :: st.map (cv G))) (by rw [← hp_lt hH ha]; rfl) ?_
  have hz : (arrV (G.2.2.1 ci) n (aV G I X ci a)).slots.size.toInt32 = Int32.ofInt n := by rw [arrV_size, oi_nat]; rfl
  rcases hc with rfl | rfl | rfl | rfl
  · exact W.alen hF.1 hF.2.1 hc2 ((hF.2.2.2.2.2.2.2.2.1.1.2 0 _ rfl).1 n _) hz rfl rfl hd w
  · exact W.alen hF.1 hF.2.1 hc2 ((hF.2.2.2.2.2.2.2.2.1.1.2 1 _ rfl).1 n _) hz rfl rfl hd w
  · exact W.alen hF.1 hF.2.1 hc2 ((hF.2.2.2.2.2.2.2.2.1.1.2 2 _ rfl).1 n _) hz rfl rfl hd w
  · exact W.alen hF.1 hF.2.1 hc2 ((hF.2.2.2.2.2.2.2.2.1.1.2 3 _ rfl).1 n _) hz rfl rfl hd w
end MEM
