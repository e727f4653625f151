/-! new int[n][m]; the check of an index, which hands a formatter on -/
theorem out_arr (c : ClassId) (N h0 : Nat) : ∀ i : Nat, Jvm.Free.Multi.outerC c N h0 i = arrV c N (fun j => if j < i then Value.ref (h0 + 1 + j) else Value.null)
  | 0 => by
    show ({ cls := c, slots := Array.replicate N .null, vm := .none } : Cell) = _
    rw [arrV_new]
    exact arrV_congr (fun j _ => (if_neg (Nat.not_lt_zero j)).symm)
  | i + 1 => by
    show (Jvm.Free.Multi.outerC c N h0 i).setSlot i (.ref (h0 + 1 + i)) = _
    rw [out_arr c N h0 i, arrV_store]
    refine arrV_congr (fun j _ => ?_)
    unfold updV
    by_cases e : j = i
    · rw [if_pos e, if_pos (by omega), e]
    · rw [if_neg e]
      show (if j < i then Value.ref (h0 + 1 + j) else Value.null) = _
      by_cases h : j < i
      · rw [if_pos h, if_pos (by omega)]
      · rw [if_neg h, if_neg (by omega)]
section MULTI
variable {l : Launch} {G : mG} {μ : mM} {d nf : Nat} {I : mI} {X : mX} {pc : Nat} {ls : List (Option mV)} {st : List mV} {Q : mQ}
theorem wp_multi {own : String} {idx a N K' : Nat} {z1 z2 : Int} (R' : Nat → Nat → Option Nat) (hd : decode μ.2.1 pc = .ok (.multianewarray idx 2, 4)) (ho : μ.1.cls = own) (hw : Cond.classLink own idx ("[" ++ (FieldType.array .int).toString) ∈ gw) (ha : X.2.2 = a) (hk : kd a = (25, N)) (hkr : ∀ i, i < N → kd (a + 1 + i) = (20, K')) (hz1 : z1 = (N : Int)) (hz2 : z2 = (K' : Int)) (hK1 : K' ≤ 1600) (hn : a + 1 + N ≤ nf) (hsl : sl (a + 1 + N) = sl a + (N + N * K'))
    (h1 : ∀ i, i < N → ∀ j, I (a + 1 + i) j = 0) (hR1 : ∀ j, j < N → R' a j = some (a + 1 + j)) (hR2 : ∀ b, b ≠ a → R' b = X.2.1 b)
    (k : WP l G μ d nf I (X.1, R', a + 1 + N) (pc + 4) ls (vR a :: st) Q) : WP l G μ d nf I X pc ls (vI z2 :: vI z1 :: st) Q := by
  intro p e R s m args below meth c H locs cells slots n0 cl hF hR hH hL
  have hts := hF.2.2.2.2.2.2.2.1
  have hK := hF.2.2.2.2.2.2.2.2.1.1
  have hle := kd_le a
  rw [hk] at hle
  have hle : N ≤ 1600 := hle
  rw [ha] at hR
  obtain ⟨r1, r2, r3, r4, r5, r6, r7, r8, r9⟩ := hR
  have hNT : NT = 153 := rfl
  have h2 := sl_mono (a + 1 + N) nf hn r7
  have h3 := sl_mono n0 a r5 (by omega)
  subst hz1; subst hz2
  have hs0 : H.size = G.1 + a := by rw [← ha]; exact hH.1.1
  have eN : (Int32.ofInt (N : Int)).toNatClampNeg = N := by rw [oi_clamp (by omega) (by omega)]; omega
  have eK : (Int32.ofInt (K' : Int)).toNatClampNeg = K' := by rw [oi_clamp (by omega) (by omega)]; omega
  have hkI : s.vm.findClass ("[" ++ FieldType.int.toString) = some (G.2.2.1 20) := (hK.2 0 _ rfl).2
  have hkA : s.vm.findClass ("[" ++ (FieldType.array .int).toString) = some (G.2.2.1 25) := (hK.2 5 _ rfl).2
  intro T hT Xs
  obtain ⟨vm₁, cA, comp, -, fA, fC, -, -, X', step⟩ := Xs.multianewarray2F hF.1 (own := own) (index := idx) (ty := .int) (by rw [← ho]; exact hF.2.2.2.2.2.1) (hts _ hw) hF.2.2.2.2.2.2.2.2.1.2.2.2.1 (hts _ ac_int) (g := F0 m pc cl ((vI (K' : Int) :: vI (N : Int) :: st).map (cv G))) rfl (by rw [hF.2.1]; exact hd) (n := Int32.ofInt (N : Int)) (k := Int32.ofInt (K' : Int)) rfl
    (by rw [← oi_0, oi_lt ⟨by omega, by omega⟩ ⟨by omega, by omega⟩]; omega) (by rw [← oi_0, oi_lt ⟨by omega, by omega⟩ ⟨by omega, by omega⟩]; omega) (by rw [eN]; omega) (by rw [eK]; show K' * 4 ≤ _; omega) (by rw [eK]; omega) rfl rfl (by rw [eN]; omega) (by rw [eN, eK]; omega)
  rw [eN, eK] at X' step
  have ec1 : comp = G.2.2.1 20 := Option.some.inj (fC.symm.trans hkI)
  have ec2 : cA = G.2.2.1 25 := Option.some.inj (fA.symm.trans hkA)
  subst ec1; subst ec2
  generalize hFF : Jvm.Free.Multi.fill (T.setVm vm₁) (G.2.2.1 25) (G.2.2.1 20) N K' (defaultValue .int) N = F at X' step
  have hTh : (T.setVm vm₁).heap = H := hT
  obtain ⟨f1, f2, -, -⟩ := Jvm.Free.Multi.fill_facts (T.setVm vm₁) (G.2.2.1 25) (G.2.2.1 20) N K' (defaultValue .int) N
  rw [hFF, hTh] at f1 f2
  have hold : ∀ x : Nat, x < H.size → F.heap[x]? = H[x]? := fun x hx => by
    have := Jvm.Free.Multi.fill_old (T.setVm vm₁) (G.2.2.1 25) (G.2.2.1 20) N K' (defaultValue .int) (a := x) (by rw [hTh]; exact hx) N
    rw [hFF, hTh] at this
    exact this
  have hrow : ∀ j : Nat, j < N → F.heap[H.size + 1 + j]? = some (Jvm.Free.Multi.innerC (G.2.2.1 20) K' (defaultValue .int)) := fun j hj => by
    have := Jvm.Free.Multi.fill_inner (T.setVm vm₁) (G.2.2.1 25) (G.2.2.1 20) N K' (defaultValue .int) N j hj
    rw [hFF, hTh] at this
    exact this
  have hrep : rep G I (X.1, R', a + 1 + N) F.heap := by
    refine ⟨by rw [f1, hs0]; show _ = G.1 + (a + 1 + N); omega, by show a + 1 + N ≤ NT; omega, fun b hb => ?_⟩
    have hb : b < a + 1 + N := hb
    by_cases c1 : b < a
    · exact cellP_kept (I := I) (X := X) (fun _ => rfl) (fun _ => rfl) (fun j => by show R' b j = _; rw [hR2 b (by omega)]) (hold _ (by omega)) (hH.1.2.2 b (by omega))
    · by_cases c2 : b = a
      · rw [c2]
        refine (cellP_ar hk (by decide)).mpr ?_
        rw [← hs0, f2, out_arr]
        refine congrArg some (arrV_congr fun j hj => ?_)
        rw [if_pos hj]
        unfold aV
        rw [if_neg (by decide), if_neg (by decide)]
        show _ = va_rf ((R' a j).map (ad G))
        rw [hR1 j hj]
        show Value.ref (H.size + 1 + j) = Value.ref (ad G (a + 1 + j))
        have e7 : H.size + 1 + j = G.1 + (a + 1 + j) := by omega
        rw [ad_lt (by omega)]
        exact congrArg Value.ref e7
      · have e3 : b = a + 1 + (b - a - 1) := by omega
        rw [e3]
        refine (cellP_ar (hkr _ (by omega)) (by decide)).mpr ?_
        have e4 : G.1 + (a + 1 + (b - a - 1)) = H.size + 1 + (b - a - 1) := by omega
        rw [e4, hrow _ (by omega)]
        show some ({ cls := G.2.2.1 20, slots := Array.replicate K' (defaultValue .int), vm := .none } : Cell) = _
        rw [arrV_new]
        refine congrArg some (arrV_congr fun j hj => ?_)
        unfold aV
        rw [if_neg (by decide), if_pos (by decide), h1 _ (by omega) j]
        rfl
  have hRm : Rm d nf (a + 1 + N) n0 R (cells + 1 + N) (slots + N + N * K') := ⟨r1, r2, r3, r4, by omega, hn, r7, by omega, by omega⟩
  obtain ⟨t, a1, b1⟩ := k p e R s m args below meth c F.heap locs (cells + 1 + N) (slots + N + N * K') n0 cl hF hRm ⟨hrep, fun q hq => (hold q (by omega)).trans (hH.2.1 q hq), hH.2.2.1, by rw [f1]; have := hH.2.2.2; omega⟩ hL F rfl X'
  refine ⟨t, step t ?_, b1⟩
  have e5 : T.heap.size = G.1 + a := by rw [hT]; exact hs0
  rw [e5]
  have e6 : (vR a :: st).map (cv G) = Value.ref (G.1 + a) :: st.map (cv G) := by
    show Value.ref (ad G a) :: _ = _
    rw [ad_lt (by omega)]
  rw [e6] at a1
  exact a1
end MULTI
