/-! THE START: what is made keeps the invariant -/
theorem wp_extR {l : Launch} {G : mG} {μ : mM} {d nf : Nat} {I : mI} {X : mX} {pc : Nat} {ls : List (Option mV)} {st : List mV} {Q : mQ} (R' : Nat → Nat → Option Nat) (hg : ∀ b, b < X.2.2 → ((kd b).1 < 20 ∨ 24 ≤ (kd b).1) → ∀ j, j < (kd b).2 → R' b j = X.2.1 b j) (k : WP l G μ d nf I (X.1, R', X.2.2) pc ls st Q) : WP l G μ d nf I X pc ls st Q := by
  intro p e R s m args below meth c H locs cells slots n0 cl hF hR hH hL
  have hc : ∀ b, b < X.2.2 → cellP G I X H b → cellP G I (X.1, R', X.2.2) H b := by
    intro b hb h
    unfold cellP at h ⊢
    split at h
    · next hc =>
      rw [if_pos hc]
      exact h.to (fun k hk => (fV_congr (I := I) (X := X) (X' := (X.1, R', X.2.2)) rfl rfl (hg b hb (Or.inl hc) k hk)).symm)
    · next hc =>
      rw [if_neg hc, h]
      refine congrArg some (arrV_congr fun k hk => ?_)
      by_cases h24 : 24 ≤ (kd b).1
      · exact (aV_congr (I := I) (X := X) (X' := (X.1, R', X.2.2)) rfl rfl (hg b hb (Or.inr h24) k hk)).symm
      · unfold aV
        by_cases h23 : (kd b).1 = 23
        · rw [if_pos h23, if_pos h23]
        · rw [if_neg h23, if_neg h23, if_pos (by omega), if_pos (by omega)]
  exact k p e R s m args below meth c H locs cells slots n0 cl hF hR ⟨⟨hH.1.1, hH.1.2.1, fun a ha => hc a ha (hH.1.2.2 a ha)⟩, hH.2⟩ hL
def D0 : Nat → Nat := fun k => if k = 1 ∨ k = 2 then 21 else if k = 4 then 102 else if k = 5 then 103 else 1
theorem refs_end : ∀ b, b < 153 → ((kd b).1 < 20 ∨ 24 ≤ (kd b).1) → ∀ j, j < (kd b).2 → Rf D0 b j = lk wk_end b j := by decide +kernel
def T0 : mT := fun k j => if k = 0 ∧ j = 15 then 4 else if k = 0 ∧ j = 16 then 2 else 0
def S0 : mS := fun _ => 0
def Z0 : mT := fun _ _ => 0
theorem T0_n {k j : Nat} (h : k ≠ 0) : T0 k j = 0 := by
  unfold T0
  rw [if_neg (fun z => h z.1), if_neg (fun z => h z.1)]
theorem ik_at (b j : Nat) : ik_end b j = if b = 111 ∧ j = 54 then 2 else if b = 111 ∧ j = 53 then 4 else if b = 111 ∧ j = 3 then -1 else if b = 44 ∧ j = 4 then -1 else if b = 21 ∧ j = 16 then 2 else if b = 21 ∧ j = 15 then 4 else if b = 1 ∧ j = 16 then 2 else if b = 1 ∧ j = 15 then 4 else 0 := rfl
theorem TT_0 {t : Nat} (ht : isT t) : TT ik_end t = T0 := by
  funext k j
  unfold TT T0
  rw [ik_at]
  rcases ht with rfl | rfl
  · repeat' split
    all_goals first | rfl | omega
  · repeat' split
    all_goals first | rfl | omega
theorem ik_z {b : Nat} (h1 : b ≠ 111) (h2 : b ≠ 44) (h3 : b ≠ 21) (h4 : b ≠ 1) : ik_end b = S0 := by
  funext j
  rw [ik_at, if_neg (fun z => h1 z.1), if_neg (fun z => h1 z.1), if_neg (fun z => h1 z.1), if_neg (fun z => h2 z.1), if_neg (fun z => h3 z.1), if_neg (fun z => h3 z.1), if_neg (fun z => h4 z.1), if_neg (fun z => h4 z.1)]
  rfl
theorem tw_0 : tw T0 := by
  have z : ∀ k j, k ≠ 0 → T0 k j = 0 := fun k j h => T0_n h
  refine ⟨by decide, by decide, by decide, by decide, by decide, by decide, by decide, fun j => by rw [z 3 j (by decide)]; decide, fun j => by rw [z 4 j (by decide)]; decide, fun j => by rw [z 5 j (by decide)]; decide, fun j => by rw [z 6 j (by decide)]; decide, fun j => by rw [z 7 j (by decide)]; decide, fun j => by rw [z 8 j (by decide)]; decide, fun j => by rw [z 9 j (by decide)]; decide, fun j => by rw [z 11 j (by decide)]; decide, fun j => by rw [z 12 j (by decide)]; decide, fun j => by rw [z 13 j (by decide)]; decide, fun j => by rw [z 14 j (by decide)]; decide, fun j => by rw [z 15 j (by decide)]; decide, fun j => by rw [z 16 j (by decide)]; decide, by decide, by decide⟩
theorem rw_0 : rwOk T0 S0 := by
  refine ⟨⟨fun j hj => ?_, fun j hj => ?_, fun j hj => ?_, fun j hj => ?_, fun j hj => ?_, ?_, ?_⟩, fun j hj => ?_, fun q r hq => absurd hq (Nat.not_lt_zero q), fun q h1 h2 => rfl, fun q hq => absurd hq (Nat.not_lt_zero q)⟩
  all_goals (unfold S0; decide)
theorem zw_0 : zw Z0 := by
  refine ⟨by decide, by decide, fun j => (by decide : (0 : Int) ≤ 0 ∧ (0 : Int) ≤ 2), fun j => (by decide : (0 : Int) ≤ 0 ∧ (0 : Int) ≤ 7), fun j => (by decide : (0 : Int) ≤ 0 ∧ (0 : Int) ≤ 8), fun j => Or.inl rfl, fun j => (by decide : (0 : Int) ≤ 0 ∧ (0 : Int) ≤ 100000), fun j => (by decide : (-1 : Int) ≤ 0 ∧ (0 : Int) ≤ 100000)⟩
theorem ag_0 : agR T0 S0 S0 := ⟨⟨fun _ _ => rfl, fun _ _ => ⟨rfl, rfl, rfl, rfl⟩, rfl, rfl⟩, rw_0, rw_0⟩
theorem in_0 : inR 0 := by decide
theorem cc_0 : CC ik_end lF D0 T0 S0 Z0 (fun _ => S0, 0, 0) (fun _ => S0) 0 0 S0 (0, -1) := by
  refine ⟨⟨Or.inl rfl, rfl, TT_0 (Or.inl rfl), ?_, ?_, tw_0, rw_0.1, zw_0, rw_0.2.1, fun j => by rw [T0_n (k := 18) (by decide)]; exact in_0⟩, ⟨by decide +kernel, by decide +kernel, by decide +kernel, Nat.le_refl _, Nat.zero_le 40, fun i hi => ?_⟩, ⟨by decide +kernel, by decide, fun i _ hb => by rw [Nat.zero_testBit] at hb; cases hb⟩, by decide +kernel, by decide, ik_z (by decide) (by decide) (by decide) (by decide), ⟨by decide +kernel, by decide +kernel⟩, ⟨Or.inl ⟨rfl, rfl⟩, Or.inl ⟨rfl, rfl⟩⟩, fun k hk => ?_, ?_, fun t ht k j => ?_⟩
  · exact ik_z (by decide) (by decide) (by decide) (by decide)
  · funext k j
    unfold ZZ Z0
    split
    · rw [ik_z (by omega) (by omega) (by omega) (by omega)]
      rfl
    · rfl
  · have hi : i ≤ 0 := hi
    have e : i = 0 := by omega
    subst e
    exact ik_z (by decide +kernel) (by decide +kernel) (by decide +kernel) (by decide +kernel)
  · show lT (tpS 108).2 43 k = W5 k
    unfold lT
    rw [if_pos rfl]
    exact tp_words k hk
  · show tw (TT ik_end 21) ∧ ∀ j, inR (TT ik_end 21 18 j)
    rw [TT_0 (Or.inr rfl)]
    exact ⟨tw_0, fun j => by rw [T0_n (k := 18) (by decide)]; exact in_0⟩
  · unfold NN lF lT
    split
    · rw [if_neg (by omega)]; decide
    · decide
theorem rr_0 : RR ik_end lF T0 S0 Z0 (fun _ => S0, 0, 0) (fun _ => S0) 0 0 S0 (0, -1) := by
  have z : ∀ b, 111 < b → ik_end b = S0 := fun b hb => ik_z (by omega) (by omega) (by omega) (by omega)
  refine ⟨⟨⟨by decide +kernel, by decide +kernel, by decide +kernel, by decide +kernel, by decide +kernel⟩, fun p hp => absurd hp (Nat.not_lt_zero p), fun q hq => absurd hq (Nat.not_lt_zero q), fun p c hp => absurd hp (Nat.not_lt_zero p)⟩, ?_, ⟨by decide +kernel, fun k hk => absurd hk (Nat.not_lt_zero k), fun h => absurd h (Nat.not_lt_zero 0)⟩, ⟨tw_0, rw_0.1, rw_0.2.1, ⟨fun a b ha => absurd ha (Nat.not_lt_zero a), fun p hp => absurd hp (Nat.not_lt_zero p), fun j => ?_, fun q hq => absurd hq (Nat.not_lt_zero q)⟩, fun j => by rw [T0_n (k := 18) (by decide)]; exact in_0, zw_0⟩, ⟨by decide +kernel, by decide +kernel, Nat.le_refl _, Nat.zero_le 40, (fun k j hk => absurd hk (Nat.not_lt_zero k)), fun k j _ hk => absurd hk (Nat.not_lt_zero k)⟩, fun i hi => ⟨?_, fun hb => by rw [Nat.zero_testBit] at hb; cases hb⟩, ⟨by decide +kernel, by decide +kernel, z 145 (by decide), z 146 (by decide), z 147 (by decide), z 150 (by decide), z 148 (by decide), z 149 (by decide)⟩, by decide +kernel, by decide +kernel, fun j => ?_, ⟨by decide +kernel, by decide +kernel⟩, trivial⟩
  · rw [z 139 (by decide)]
    funext j
    unfold pS S0
    split
    · rfl
    · split <;> rfl
  · rw [T0_n (k := 15) (by decide)]
    exact ⟨by decide, fun _ => by omega⟩
  · rw [z 151 (by decide), Nat.zero_testBit, if_neg (by decide)]
    rfl
  · rw [z 112 (by decide)]
    rfl
theorem inv_0 : INV ik_end (XX lF D0) := inv_mk cc_0 rr_0 ⟨fun p c hp => absurd hp (Nat.not_lt_zero p), fun j hj => absurd hj (Nat.not_lt_zero j), rfl, rfl, ⟨rfl, Nat.le_refl _, fun i _ => ag_0⟩, fun i _ hb => by rw [Nat.zero_testBit] at hb; cases hb⟩
