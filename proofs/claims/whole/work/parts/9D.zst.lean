/-- any number is stored among booleans as some y, itself if it is 0 or 1 -/
theorem wp_zast_any {l : Launch} {G : mG} {μ : mM} {d nf : Nat} {I : mI} {X : mX} {pc : Nat} {ls : List (Option mV)} {st : List mV} {Q : mQ} {a n : Nat} {i x : Int} (hd : decode μ.2.1 pc = .ok (.bastore, 1)) (hk : kd a = (22, n)) (ha : a < X.2.2) (h0 : 0 ≤ i) (h1 : i < n) (k : ∀ y, (x = 0 ∨ x = 1 → y = x) → WP l G μ d nf (up I a i.toNat y) X (pc + 1) ls st Q) : WP l G μ d nf I X pc ls (vI x :: vI i :: vR a :: st) Q := by
  intro p e R s m args below meth c H locs cells slots n0 cl hF hR hH hL
  have hn := kd_le a
  rw [hk] at hn
  have hn : n ≤ 1600 := hn
  have hc := ar_at hH hk (by decide) ha
  have hv : ∃ v : Int32, narrow .boolean (.int (Int32.ofInt x)) = .int v := ⟨_, rfl⟩
  obtain ⟨v, hv⟩ := hv
  have hb : narrow .boolean (.int (Int32.ofInt x)) = .int (Int32.ofInt v.toInt) := by rw [hv, Int32.ofInt_toInt]
  have hy : x = 0 ∨ x = 1 → v.toInt = x := fun z => by
    have hb2 : narrow .boolean (.int (Int32.ofInt x)) = .int (Int32.ofInt x) := by rcases z with h | h <;> rw [h] <;> rfl
    rw [hb2] at hv
    have hv2 : Int32.ofInt x = v := by injection hv
    rw [← hv2]
    rcases z with h | h <;> rw [h] <;> rfl
  refine W.eq (g2 := F0 m pc cl (.int (Int32.ofInt x) :: .int (Int32.ofInt i) :: .ref (G.1 + a) :: st.map (cv G))) (by rw [← hp_lt hH ha]; rfl) ?_
  refine W.zast hF.1 hF.2.1 hc ((hF.2.2.2.2.2.2.2.2.1.1.2 2 _ rfl).1 n _) (fun q => by cases q) (by rw [arrV_size]; exact oi_in h0 h1 (by omega)) rfl rfl hd fun H' e1 e2 e3 => ?_
  rw [oi_clamp h0 (by omega), hb, arrV_store] at e1
  refine k v.toInt hy p e R s m args below meth c H' _ cells slots n0 cl hF hR (hp_set hH e2 rfl e3 (fun b j hb => up_c hb) (fun _ _ _ => rfl) (fun _ _ _ => rfl) ((cellP_ar hk (by decide)).mpr ?_)) hL
  rw [e1]
  exact congrArg some (congrArg (arrV _ _) (funext fun j => (aV_up (by decide)).symm))
theorem wq_zast_any {l : Launch} {G : mG} {μ : mM} {d nf : Nat} {I : mI} {X : mX} {pc : Nat} {ls : List (Option mV)} {st : List mV} {Q : mQ} {a n : Nat} {i x : Int} (j : Nat) (hd : decode μ.2.1 pc = .ok (.bastore, 1)) (hk : kd a = (22, n)) (ha : a < X.2.2) (hi : i = (j : Int)) (h1 : j < n) (k : ∀ y, (x = 0 ∨ x = 1 → y = x) → WP l G μ d nf (up I a j y) X (pc + 1) ls st Q) : WP l G μ d nf I X pc ls (vI x :: vI i :: vR a :: st) Q := by
  subst hi
  refine wp_zast_any hd hk ha (by omega) (by omega) (fun y hy => ?_)
  rw [Int.toNat_natCast]
  exact k y hy
