/-! calls and returns -/
theorem aoA_moved {t : FieldType} {u U : State} (hvm : u.vm.Alike U.vm) (h : (Cond.arrayOver (.array t)).before #[] u = true) : (Cond.arrayOver (.array t)).before #[] U = true := by
  obtain ⟨comp, c, k, h1, h2, h3, h4, h5⟩ := arrayOverA_spec h
  obtain ⟨k', hk', he⟩ := hvm.2.2 _ _ h3
  have hi : (U.vm.classes.findIdx? fun (x : Class) => match x.kind with | .array component _ => component == comp | _ => false) = some c := by
    refine (va_idx_bare U.vm comp).symm.trans ?_
    first | rw [hvm.bare_eq] | rw [← hvm.bare_eq]
    exact (va_idx_bare u.vm comp).trans h2
  have hkind : k'.kind = .array comp (.array t) := by rw [he]; exact h4
  have f1 : U.vm.findClass (FieldType.array t).toString = some comp := by rw [hvm.findClass]; exact h1
  have f2 : U.vm.findClass ("[" ++ (FieldType.array t).toString) = some c := by rw [hvm.findClass]; exact h5
  unfold Cond.before Cond.holds
  simp only [Cond.value]
  rw [f1, Option.bind_some]
  refine (congrArg (fun o : Option Nat => (o.bind (fun c => (U.vm.classes[c]?).map fun (k : Class) => match k.kind with | .array _ ty => decide (ty = FieldType.array t) && decide (U.vm.findClass ("[" ++ (FieldType.array t).toString) = some c) | _ => false) == some true)) hi).trans ?_
  simp [hk', hkind, f2]
theorem KK.warm {G : mG} {s U : State} (hW : s.WarmedH U.vm) (h : KK G s) : KK G U := by
  obtain ⟨h1, h2, h3, h4, h5, h6⟩ := h
  refine ⟨h1.moved hW.alike, fun w hw => ?_, va_AO.moved hW.alike h3, aoA_moved hW.alike h4, h5.warm hW, h6.warm hW⟩
  have h9 := h2 w hw
  simp only [nestW, List.mem_cons, List.not_mem_nil, or_false] at hw
  rcases hw with rfl | rfl | rfl | rfl | rfl | rfl | rfl <;> exact va_Nw.warmM hW h9
theorem KH.moved {G : mG} {s U : State} {H : Heap} (hvm : s.vm.Alike U.vm) (h : KH G s H) : KH G U H := ⟨⟨h.1.1.moved hvm, h.1.2⟩, h.2.1.moved hvm, h.2.2.1.moved hvm, h.2.2.2.moved hvm⟩
theorem KH.kept {G : mG} {s : State} {H H1 : Heap} (h : KH G s H) (hq : ∀ q : Nat, q < G.1 → H1[q]? = H[q]?) : KH G s H1 :=
  ⟨⟨h.1.1.kept (hq _ h.1.2), h.1.2⟩, h.2.1.kept (fun a _ ha => hq a (by omega)), h.2.2.1.kept (fun a _ ha => hq a (by omega)), h.2.2.2.kept (fun a _ ha => hq a (by omega))⟩
/-- the locals with which a method begins -/
def entS : List mV → List (Option mV)
  | [] => []
  | v :: vs => if mcat v = 2 then some v :: none :: entS vs else some v :: entS vs
def entL (n : Nat) (vs : List mV) : List (Option mV) := entS vs ++ List.replicate (n - (entS vs).length) none
theorem entS_len (G : mG) : ∀ vs : List mV, (lg_sl (vs.map (cv G))).length = (entS vs).length
  | [] => rfl
  | v :: vs => by
    have ih := entS_len G vs
    show (lg_sl (cv G v :: vs.map (cv G))).length = _
    unfold lg_sl at ih ⊢
    rw [List.flatMap_cons, List.length_append, ih, cv_cat]
    rw [show entS (v :: vs) = if mcat v = 2 then some v :: none :: entS vs else some v :: entS vs from rfl]
    by_cases h : mcat v = 2
    · rw [if_pos h, if_pos h]
      simp
      omega
    · rw [if_neg h, if_neg h]
      simp
      omega
theorem entS_at (G : mG) : ∀ (vs : List mV) (k i : Nat) (v : mV), (entS vs)[i]? = some (some v) → (k + i, cv G v) ∈ lv_args k (vs.map (cv G))
  | [], k, i, v, h => by simp [entS] at h
  | w :: vs, k, i, v, h => by
    show (k + i, cv G v) ∈ (k, cv G w) :: lv_args (if (cv G w).category = 2 then k + 2 else k + 1) (vs.map (cv G))
    rw [cv_cat]
    unfold entS at h
    by_cases hc : mcat w = 2
    · rw [if_pos hc] at h ⊢
      match i, h with
      | 0, h => cases h; exact List.mem_cons_self
      | 1, h => simp at h
      | i + 2, h =>
        have := entS_at G vs (k + 2) i v (by simpa using h)
        rw [show k + (i + 2) = k + 2 + i by omega]
        exact List.mem_cons_of_mem _ this
    · rw [if_neg hc] at h ⊢
      match i, h with
      | 0, h => cases h; exact List.mem_cons_self
      | i + 1, h =>
        have := entS_at G vs (k + 1) i v (by simpa using h)
        rw [show k + (i + 1) = k + 1 + i by omega]
        exact List.mem_cons_of_mem _ this
def PcM (G : mG) (I : mI) (X : mX) (vs : List mV) : Array Value → State → Prop := va_Pc (vs.map (cv G)) (fun U => rep G I X U.heap ∧ KK G U ∧ KH G U U.heap)
theorem PcM_blind (G : mG) (I : mI) (X : mX) (vs : List mV) : FrameBlind (PcM G I X vs) := by
  intro a U g mk h
  obtain ⟨h1, h2, h3, h4⟩ := h
  exact ⟨h1, h2, KK.warm (U := U.calling g mk a) (State.WarmedH.refl U) h3, KH.moved (U := U.calling g mk a) (Vm.Alike.refl U.vm) h4⟩
abbrev rmM (d nf n : Nat) : Room := { frames := d, cells := nf - n, slots := sl nf - sl n, locals := 64 * d }
abbrev cdM (y : mM) : Cond := Cond.code y.1 y.2.1 y.2.2.1 y.2.2.2
section CALL
variable {l : Launch} {G : mG} {μ : mM} {d nf : Nat} {I : mI} {X : mX} {pc : Nat} {ls : List (Option mV)} {st : List mV} {Q : mQ} {H : Heap}
theorem met_of {vs : List mV} (hpn : plainName μ.1.cls = true) (hlen : (entS vs).length ≤ μ.2.2.1) (hn : X.2.2 ≤ nf) (hnT : nf ≤ NT) (k : WP l G μ d nf I X 0 (entL μ.2.2.1 vs) [] Q) :
    Met l μ.1 (cdM μ :: gw) (rmM d nf X.2.2) (PcM G I X vs) (Qc G nf Q) (nf - X.2.2) (sl nf - sl X.2.2) (fun q => G.1 ≤ q) := by
  refine Met.ofW (cc := μ.2.1) (maxL := μ.2.2.1) (ret := μ.2.2.2) hpn rfl ?_
  intro p e s m args below meth c s₁ B hml hv
  obtain ⟨rfl, hP, hK, hH⟩ := hv
  have hts := atoms_spec (ws := cdM μ :: gw) B.pre
  have hl := lv_entry (vs.map (cv G)) (n := μ.2.2.1) (by rw [entS_len]; exact hlen)
  rw [lg_entry_eq]
  generalize (lg_sl (vs.map (cv G)) ++ List.replicate (μ.2.2.1 - (lg_sl (vs.map (cv G))).length) Slot.unset).toArray = cl at hl ⊢
  refine k p e _ s m _ below meth c s.heap [] 0 0 X.2.2 cl ⟨B.exec, B.bytes, B.returns, B.notSynchronized, hml, findClass_of_methodNamed B.named, (name_of_methodNamed B.named B.method).1, fun w hw => hts w (List.mem_cons_of_mem _ hw), hK, hH, by rw [hP.1]; exact Nat.le_add_right _ _⟩
    ⟨Nat.le_refl _, Nat.le_refl _, Nat.le_refl _, Nat.le_refl _, Nat.le_refl _, hn, hnT, (Nat.sub_self _).symm, (Nat.sub_self _).symm⟩ ⟨hP, fun _ _ => rfl, (fun q hq => absurd hq List.not_mem_nil), Nat.le_refl _⟩ ⟨hl.1, hl.2.1, fun i v hv => ?_⟩
  unfold entL at hv
  by_cases hi : i < (entS vs).length
  · rw [List.getElem?_append_left hi] at hv
    have := entS_at G vs 0 i v hv
    rw [Nat.zero_add] at this
    exact hl.2.2 _ this
  · rw [List.getElem?_append_right (by omega)] at hv
    rw [List.getElem?_replicate] at hv
    split at hv
    · cases hv
    · cases hv
theorem sl_mono : ∀ a b, a ≤ b → b ≤ NT → sl a ≤ sl b := by
  have h1 : ∀ a, a < NT → sl a ≤ sl (a + 1) := by decide +kernel
  intro a b hab hb
  induction b with
  | zero => rw [show a = 0 by omega]; exact Nat.le_refl _
  | succ b ih =>
    by_cases e : a = b + 1
    · rw [e]; exact Nat.le_refl _
    · exact Nat.le_trans (ih (by omega) (by omega)) (h1 b (by omega))
/-- behind a call -/
theorem wp_back {y : mM} {nf' : Nat} {Q' : mQ} {p : Program} {e : Env} {R : Room} {s : State} {m : MethodId} {args : Array Value} {below : List Frame} {meth : Method} {c : Code} {locs : List Loc} {cells slots n0 : Nat} {cl : Array Slot} {a : Array Value} {st0 : List Value}
    (hF : Fx G μ p s m args meth c) (hR : Rm d nf X.2.2 n0 R cells slots) (hH : Hp G I X s H locs) (hL : lr G cl μ.2.2.1 ls) (hn1 : X.2.2 ≤ nf') (hn2 : nf' ≤ nf)
    (hr : va_Run p l e R s m args below meth c H locs cells slots (nf' - X.2.2) (sl nf' - sl X.2.2) (F0 m pc cl st0) (st.map (cv G)) (Qc G nf' Q' a) (fun q => G.1 ≤ q))
    (k : ∀ v I' X', Q' v I' X' → X'.2.2 = nf' → WP l G μ d nf I' X' (pc + 3) ls (v.toList ++ st) Q) :
    W p l e R s m args below meth c H locs cells slots (MQ below (Qc G nf Q) args s (nf - n0) (sl nf - sl n0) (fun q => G.1 ≤ q)) (F0 m pc cl st0) := by
  intro T hT Xs
  obtain ⟨v, st₀, t, T', L, h0, X', hL', e1, e2, ⟨w, I', X2, hQ, hn, hv, hrep, hlow⟩, stp⟩ := hr T hT Xs
  have hvw : v = w.map (cv G) := by cases hv; rfl
  subst hvw
  obtain ⟨r1, r2, r3, r4, r5, r6, r7, r8, r9⟩ := hR
  have hsl := sl_mono X.2.2 nf' hn1 (by omega)
  have hsl0 := sl_mono n0 X.2.2 r5 (by omega)
  obtain ⟨t2, a1, b1⟩ := k w I' X2 hQ hn p e R s m args below meth c T'.heap (locs ++ L) (cells + (nf' - X.2.2)) (slots + (sl nf' - sl X.2.2)) n0 cl hF
    ⟨r1, r2, r3, r4, by omega, by omega, r7, by omega, by rw [hn]; omega⟩
    ⟨by rw [e1]; exact hrep, fun q hq => by rw [e1, hlow q hq, h0]; exact hH.2.1 q hq, fun q hq => by
      rcases List.mem_append.mp hq with h | h
      · exact hH.2.2.1 q h
      · exact hL' q h, by
      have h5 := hrep.1
      have h6 := hH.1.1
      have h7 := hH.2.2.2
      rw [e1]
      omega⟩ hL T' rfl X'
  refine ⟨t2, stp t2 ?_, b1⟩
  have ew : (w.map (cv G)).toList ++ st.map (cv G) = (w.toList ++ st).map (cv G) := by
    cases w <;> simp
  show Steps p.tables e below (T'.setTop { method := m, pc := pc + 3, locals := cl, stack := (w.map (cv G)).toList ++ st.map (cv G), locked := none }) t2
  rw [ew]
  exact a1
/-- own's entry idx is the instance method y, of n parameters -/
def mCv (own : String) (idx : Nat) (y : mM) (n : Nat) : Prop := Cond.methodLink own idx y.1 ∈ gw ∧ Cond.instanceMethod y.1 ∈ gw ∧ Cond.selects y.1.cls y.1 y.1 ∈ gw ∧ Cond.initialized y.1.cls ∈ gw ∧ cdM y ∈ gw ∧
  (plainName y.1.cls = true ∧ y.1.cls ≠ "java/lang/invoke/MethodHandle" ∧ y.1.cls ≠ "java/lang/invoke/VarHandle" ∧ (parseMethodDescriptor y.1.desc).map (fun d => d.parameters.length) = some n ∧ y.2.2.1 ≤ 45)
def mCs (own : String) (idx : Nat) (y : mM) (n : Nat) : Prop := Cond.methodLink own idx y.1 ∈ gw ∧ Cond.static y.1 ∈ gw ∧ Cond.initialized y.1.cls ∈ gw ∧ cdM y ∈ gw ∧
  (plainName y.1.cls = true ∧ y.1.cls ≠ "java/lang/invoke/MethodHandle" ∧ y.1.cls ≠ "java/lang/invoke/VarHandle" ∧ (parseMethodDescriptor y.1.desc).map (fun d => d.parameters.length) = some n ∧ y.2.2.1 ≤ 45)
theorem good_cd {y : mM} (h : cdM y ∈ gw) : GoodIn gw (cdM y :: gw) := by
  intro w hw
  rcases List.mem_cons.mp hw with e | e
  · rw [e]; exact ⟨h, gw_good h⟩
  · exact ⟨e, gw_good e⟩
theorem cat_map (st : List mV) : (st.map (cv G)).map (fun v => v.category) = st.map mcat := by
  rw [List.map_map]
  exact List.map_congr_left (fun v _ => cv_cat G v)
/-- a call of an own object's method -/
theorem wp_callV {own : String} {idx n a ci N nf' : Nat} {y : mM} {T : u_T} (vs : List mV) (ls0 : List (Option mV)) {st1 : List mV} (hd : decode μ.2.1 pc = .ok (.invokevirtual idx, 3)) (ho : μ.1.cls = own) (hc : mCv own idx y n) (hvn : vs.length = n) (hk : kd a = (ci, N)) (hci : ci < 20) (hC : clT[ci]? = some (y.1.cls, T, N)) (ha : a < X.2.2)
    (hent : entL y.2.2.1 (vR a :: vs) = ls0) (hel : (entS (vR a :: vs)).length ≤ y.2.2.1) (hst1 : st1 = vs.reverse ++ vR a :: st) (hcat : (st.map mcat).sum ≤ 8) (hdp : 0 < d) (hn1 : X.2.2 ≤ nf') (hn2 : nf' ≤ nf)
    (k : WP l G y (d - 1) nf' I X 0 ls0 [] (fun v I' X' => WP l G μ d nf I' X' (pc + 3) ls (v.toList ++ st) Q)) : WP l G μ d nf I X pc ls st1 Q := by
  intro p e R s m args below meth c H locs cells slots n0 cl hF hR hH hL
  obtain ⟨g1, g2, g3, g4, g5, g6, g7, g8, g9, g10⟩ := hc
  have hts := hF.2.2.2.2.2.2.2.1
  have hnT : nf' ≤ NT := Nat.le_trans hn2 hR.2.2.2.2.2.2.1
  subst hent
  have hM := met_of (vs := vR a :: vs) g6 hel hn1 hnT k
  obtain ⟨cell, q1, q2, q3, -⟩ := (cellP_ob hk hci).mp (hH.1.2.2 a ha)
  have hrecv : ∃ cellB : Cell, H[ad G a]? = some cellB ∧ cellB.vm.isStatics = false ∧ s.vm.findClass y.1.cls = some cellB.cls := by
    refine ⟨cell, by rw [hp_lt hH ha]; exact q1, by rw [q3]; rfl, ?_⟩
    rw [q2]
    exact (hF.2.2.2.2.2.2.2.2.1.1.1 ci _ hC).2.1
  subst hst1
  obtain ⟨r1, r2, r3, r4, r5, r6, r7, r8, r9⟩ := hR
  have hsl := sl_mono X.2.2 nf' hn1 hnT
  have hsl0 := sl_mono n0 X.2.2 r5 (by omega)
  have hsl1 := sl_mono nf' nf hn2 r7
  refine wp_back (Q' := fun v I' X' => WP l G μ d nf I' X' (pc + 3) ls (v.toList ++ st) Q) (y := y) hF ⟨r1, r2, r3, r4, r5, r6, r7, r8, r9⟩ hH hL hn1 hn2 (va_runV (As := vs.map (cv G)) (b := ad G a) (n := n) (C := y.1.cls) (index := idx) (own := own) (Ts := gw) (cc := μ.2.1) (nL := μ.2.2.1) ⟨hF.1, hF.2.1, hF.2.2.2.2.1, by rw [← ho]; exact hF.2.2.2.2.2.1, hts⟩ hM
    ⟨callB_of n hts (good_cd g5) rfl rfl rfl (hts _ g4) (hts _ g1) ⟨g7, g8, g9⟩ ⟨?_, ?_⟩, hts _ g2, hts _ g3⟩ ⟨PcM_blind G I X _, hrecv, fun U hU hW => ⟨rfl, by rw [hU]; exact hH.1, KK.warm hW hF.2.2.2.2.2.2.2.2.1, ?_⟩⟩ rfl (by simpa using hvn) hL.1 ?_ ?_ hd ⟨?_, ?_⟩) (fun v I' X' h _ => h)
  · show d - 1 + 1 ≤ R.frames
    omega
  · show 8 + (y.2.2.1 + 11) + 64 * (d - 1) ≤ R.locals
    omega
  · rw [hU]
    exact KH.moved hW.alike (hF.2.2.2.2.2.2.2.2.2.1.kept (fun q hq => hH.2.1 q hq))
  · show (vs.reverse ++ vR a :: st).map (cv G) = _
    simp [cv]
  · exact lv_room (by rw [cat_map]; exact hcat)
  · show cells + (nf' - X.2.2) ≤ R.cells
    omega
  · show slots + (sl nf' - sl X.2.2) ≤ R.slots
    omega
/-- a call of a static method -/
theorem wp_callS {own : String} {idx n nf' : Nat} {y : mM} (vs : List mV) (ls0 : List (Option mV)) {st1 : List mV} (hd : decode μ.2.1 pc = .ok (.invokestatic idx, 3)) (ho : μ.1.cls = own) (hc : mCs own idx y n) (hvn : vs.length = n)
    (hent : entL y.2.2.1 vs = ls0) (hel : (entS vs).length ≤ y.2.2.1) (hst1 : st1 = vs.reverse ++ st) (hcat : (st.map mcat).sum ≤ 8) (hdp : 0 < d) (hn1 : X.2.2 ≤ nf') (hn2 : nf' ≤ nf)
    (k : WP l G y (d - 1) nf' I X 0 ls0 [] (fun v I' X' => WP l G μ d nf I' X' (pc + 3) ls (v.toList ++ st) Q)) : WP l G μ d nf I X pc ls st1 Q := by
  intro p e R s m args below meth c H locs cells slots n0 cl hF hR hH hL
  obtain ⟨g1, g2, g4, g5, g6, g7, g8, g9, g10⟩ := hc
  have hts := hF.2.2.2.2.2.2.2.1
  have hnT : nf' ≤ NT := Nat.le_trans hn2 hR.2.2.2.2.2.2.1
  subst hent
  have hM := met_of (vs := vs) g6 hel hn1 hnT k
  subst hst1
  obtain ⟨r1, r2, r3, r4, r5, r6, r7, r8, r9⟩ := hR
  have hsl := sl_mono X.2.2 nf' hn1 hnT
  have hsl0 := sl_mono n0 X.2.2 r5 (by omega)
  have hsl1 := sl_mono nf' nf hn2 r7
  refine wp_back (Q' := fun v I' X' => WP l G μ d nf I' X' (pc + 3) ls (v.toList ++ st) Q) (y := y) hF ⟨r1, r2, r3, r4, r5, r6, r7, r8, r9⟩ hH hL hn1 hn2 (va_runS (As := vs.map (cv G)) (n := n) (index := idx) (own := own) (Ts := gw) (cc := μ.2.1) (nL := μ.2.2.1) ⟨hF.1, hF.2.1, hF.2.2.2.2.1, by rw [← ho]; exact hF.2.2.2.2.2.1, hts⟩ hM
    ⟨callB_of n hts (good_cd g5) rfl rfl rfl (hts _ g4) (hts _ g1) ⟨g7, g8, g9⟩ ⟨?_, ?_⟩, hts _ g2⟩ ⟨PcM_blind G I X _, fun U hU hW => ⟨rfl, by rw [hU]; exact hH.1, KK.warm hW hF.2.2.2.2.2.2.2.2.1, ?_⟩⟩ rfl (by simpa using hvn) hL.1 ?_ ?_ hd ⟨?_, ?_⟩) (fun v I' X' h _ => h)
  · show d - 1 + 1 ≤ R.frames
    omega
  · show 8 + (y.2.2.1 + 11) + 64 * (d - 1) ≤ R.locals
    omega
  · rw [hU]
    exact KH.moved hW.alike (hF.2.2.2.2.2.2.2.2.2.1.kept (fun q hq => hH.2.1 q hq))
  · show (vs.reverse ++ st).map (cv G) = _
    simp
  · exact lv_room (by rw [cat_map]; exact hcat)
  · show cells + (nf' - X.2.2) ≤ R.cells
    omega
  · show slots + (sl nf' - sl X.2.2) ≤ R.slots
    omega
/-! returns -/
theorem wp_iret {x : Int} (hd : decode μ.2.1 pc = .ok (.ireturn, 1)) (hr : μ.2.2.2 = some .int) (hn : X.2.2 = nf) (hq : Q (some (vI x)) I X) : WP l G μ d nf I X pc ls [vI x] Q := by
  intro p e R s m args below meth c H locs cells slots n0 cl hF hR hH hL
  obtain ⟨r1, r2, r3, r4, r5, r6, r7, r8, r9⟩ := hR
  subst hn; subst r8; subst r9
  exact W.iret (v := Int32.ofInt x) hF.1 hF.2.1 (hF.2.2.1.trans hr) (fun t ht _ => ⟨some (vI x), I, X, hq, rfl, rfl, by rw [ht]; exact hH.1, fun q hq => by rw [ht]; exact hH.2.1 q hq⟩) hH.2.2.1 hd hF.2.2.2.1
theorem wp_zret {x : Int} (hd : decode μ.2.1 pc = .ok (.ireturn, 1)) (hr : μ.2.2.2 = some .boolean) (hn : X.2.2 = nf) (hx : x = 0 ∨ x = 1) (hq : Q (some (vI x)) I X) : WP l G μ d nf I X pc ls [vI x] Q := by
  intro p e R s m args below meth c H locs cells slots n0 cl hF hR hH hL
  obtain ⟨r1, r2, r3, r4, r5, r6, r7, r8, r9⟩ := hR
  subst hn; subst r8; subst r9
  exact W.zret (v := Int32.ofInt x) (ty := .boolean) hF.1 hF.2.1 (hF.2.2.1.trans hr) (by rcases hx with h | h <;> rw [h] <;> rfl) (fun t ht _ => ⟨some (vI x), I, X, hq, rfl, rfl, by rw [ht]; exact hH.1, fun q hq => by rw [ht]; exact hH.2.1 q hq⟩) hH.2.2.1 hd hF.2.2.2.1
theorem wp_vret (hd : decode μ.2.1 pc = .ok (.return_, 1)) (hr : μ.2.2.2 = none) (hn : X.2.2 = nf) (hq : Q none I X) : WP l G μ d nf I X pc ls [] Q := by
  intro p e R s m args below meth c H locs cells slots n0 cl hF hR hH hL
  obtain ⟨r1, r2, r3, r4, r5, r6, r7, r8, r9⟩ := hR
  subst hn; subst r8; subst r9
  exact W.vret hF.1 hF.2.1 (hF.2.2.1.trans hr) (fun t ht _ => ⟨none, I, X, hq, rfl, rfl, by rw [ht]; exact hH.1, fun q hq => by rw [ht]; exact hH.2.1 q hq⟩) hH.2.2.1 hd hF.2.2.2.1
theorem wp_lret {x : Int} (hd : decode μ.2.1 pc = .ok (.lreturn, 1)) (hr : μ.2.2.2 = some .long) (hn : X.2.2 = nf) (hq : Q (some (vJ x)) I X) : WP l G μ d nf I X pc ls [vJ x] Q := by
  intro p e R s m args below meth c H locs cells slots n0 cl hF hR hH hL
  obtain ⟨r1, r2, r3, r4, r5, r6, r7, r8, r9⟩ := hR
  subst hn; subst r8; subst r9
  exact W.lret (v := Int64.ofInt x) hF.1 hF.2.1 (hF.2.2.1.trans hr) (fun t ht _ => ⟨some (vJ x), I, X, hq, rfl, rfl, by rw [ht]; exact hH.1, fun q hq => by rw [ht]; exact hH.2.1 q hq⟩) hH.2.2.1 hd hF.2.2.2.1
/-- what lies below is as it was -/
theorem hp_S {s : State} {locs : List Loc} (h : Hp G I X s H locs) : va_S (fun q => G.1 ≤ q) s.heap H locs := ⟨h.2.2.2, fun q _ h2 => h.2.1 q (by omega), h.2.2.1⟩
/-! the script is the cell 1000 -/
theorem wp_sld {i : Int} (hd : decode μ.2.1 pc = .ok (.iaload, 1)) (h0 : 0 ≤ i) (h1 : i < G.2.2.2.2.1) (h2 : i ≤ 2147483647) (k : WP l G μ d nf I X (pc + 1) ls (vI (G.2.2.2.2.2 i.toNat).toInt :: st) Q) : WP l G μ d nf I X pc ls (vI i :: vR 1000 :: st) Q := by
  intro p e R s m args below meth c H locs cells slots n0 cl hF hR hH hL
  have w := k p e R s m args below meth c H locs cells slots n0 cl hF hR hH hL
  have hK := hF.2.2.2.2.2.2.2.2.2.1.1
  refine va_sld (i := Int32.ofInt i) (b := ad G 1000) hF.1 hF.2.1 hK.1 (Nat.lt_of_lt_of_le hK.2 hF.2.2.2.2.2.2.2.2.2.2) (by have := hK.2; omega) (hp_S hH) ?_ hd ?_
  · show ¬ (Int32.ofInt i < 0 ∨ G.2.2.2.2.1 ≤ (Int32.ofInt i).toNatClampNeg)
    rw [oi_clamp h0 h2, ← oi_0, oi_lt ⟨by omega, by omega⟩ ⟨by omega, by omega⟩]
    omega
  · rw [oi_clamp h0 h2]
    show W p l e R s m args below meth c H locs cells slots _ (F0 m (pc + 1) cl (.int (G.2.2.2.2.2 i.toNat) :: st.map (cv G)))
    have e2 : Int32.ofInt (G.2.2.2.2.2 i.toNat).toInt = G.2.2.2.2.2 i.toNat := Int32.ofInt_toInt _
    rw [← e2]
    exact w
theorem wp_slen (hd : decode μ.2.1 pc = .ok (.arraylength, 1)) (k : WP l G μ d nf I X (pc + 1) ls (vI (G.2.2.2.2.1 : Nat) :: st) Q) : WP l G μ d nf I X pc ls (vR 1000 :: st) Q := by
  intro p e R s m args below meth c H locs cells slots n0 cl hF hR hH hL
  have w := k p e R s m args below meth c H locs cells slots n0 cl hF hR hH hL
  have hK := hF.2.2.2.2.2.2.2.2.2.1.1
  refine va_slen (b := ad G 1000) hF.1 hF.2.1 hK.1 (Nat.lt_of_lt_of_le hK.2 hF.2.2.2.2.2.2.2.2.2.2) (by have := hK.2; omega) (hp_S hH) hd ?_
  have e2 : Int32.ofInt ((G.2.2.2.2.1 : Nat) : Int) = Int32.ofNat G.2.2.2.2.1 := Int32.ofInt_eq_ofNat
  rw [← e2]
  exact w
/-! System.arraycopy over ints -/
def cpy (I : mI) (a0 a sp dp n : Nat) : mI := fun b k => if b = a ∧ dp ≤ k ∧ k < dp + n then I a0 (sp + (k - dp)) else I b k
theorem wp_copy {own : String} {idx a0 a n0 n1 : Nat} {sp dp n : Int} (hd : decode μ.2.1 pc = .ok (.invokestatic idx, 3)) (ho : μ.1.cls = own) (hw : Cond.methodLink own idx arraycopyName ∈ gw) (hk0 : kd a0 = (20, n0)) (hk : kd a = (20, n1)) (ha0 : a0 < X.2.2) (ha : a < X.2.2)
    (h0 : 0 ≤ sp) (h1 : 0 ≤ dp) (h2 : 0 ≤ n) (h3 : sp + n ≤ n0) (h4 : dp + n ≤ n1) (hcat : (st.map mcat).sum ≤ 8) (hdp : 0 < d)
    (k : WP l G μ d nf (cpy I a0 a sp.toNat dp.toNat n.toNat) X (pc + 3) ls st Q) : WP l G μ d nf I X pc ls (vI n :: vI dp :: vR a :: vI sp :: vR a0 :: st) Q := by
  intro p e R s m args below meth c H locs cells slots nn cl hF hR hH hL
  have hts := hF.2.2.2.2.2.2.2.1
  have hn0 := kd_le a0
  have hn1 := kd_le a
  rw [hk0] at hn0
  rw [hk] at hn1
  simp only at hn0 hn1
  have hc0 := ar_at hH hk0 (by decide) ha0
  have hc1 := ar_at hH hk (by decide) ha
  obtain ⟨-, k0, hkk0, cm0, hkd0⟩ := (hF.2.2.2.2.2.2.2.2.1.1.2 0 _ rfl).1 n0 (aV G I X 20 a0)
  obtain ⟨-, k1, hkk1, cm1, hkd1⟩ := (hF.2.2.2.2.2.2.2.2.1.1.2 0 _ rfl).1 n1 (aV G I X 20 a)
  have gnat : Cond.native arraycopyName ∈ gw := by
    refine gw_of ?_ (by decide)
    decide +kernel
  have gsta : Cond.static arraycopyName ∈ gw := by
    refine gw_of ?_ (by decide)
    decide +kernel
  have gini : Cond.initialized "java/lang/System" ∈ gw := by
    refine gw_of ?_ (by decide)
    decide +kernel
  intro T hT Xs
  obtain ⟨vm', X', step⟩ := Xs.arraycopy hF.1 (by rw [← ho]; exact hF.2.2.2.2.2.1) (hts _ hw) (hts _ gnat) (hts _ gsta) (hts _ gini) (src := G.1 + a0) (dst := G.1 + a) (cs := arrV (G.2.2.1 20) n0 (aV G I X 20 a0)) (cd := arrV (G.2.2.1 20) n1 (aV G I X 20 a)) (srcPos := Int32.ofInt sp) (destPos := Int32.ofInt dp) (n := Int32.ofInt n) (by rw [hT]; exact hc0) (by rw [hT]; exact hc1)
    (fun _ h => by cases h) (fun _ h => by cases h) (fun h => by cases h) (fun h => by cases h) hkk0 hkk1 hkd0 hkd1 (by simp [refKind])
    (by rw [← oi_0, oi_lt ⟨by omega, by omega⟩ ⟨by omega, by omega⟩]; omega) (by rw [← oi_0, oi_lt ⟨by omega, by omega⟩ ⟨by omega, by omega⟩]; omega) (by rw [← oi_0, oi_lt ⟨by omega, by omega⟩ ⟨by omega, by omega⟩]; omega)
    (by rw [oi_toInt ⟨by omega, by omega⟩, oi_toInt ⟨by omega, by omega⟩, arrV_size]; omega)
    (by rw [oi_toInt ⟨by omega, by omega⟩, oi_toInt ⟨by omega, by omega⟩, arrV_size]; omega)
    (fun vm₁ _ i hi => by
      rw [oi_clamp h2 (by omega)] at hi
      have e : (arrV (G.2.2.1 20) n0 (aV G I X 20 a0)).slots.getD ((Int32.ofInt sp).toNatClampNeg + i) .null = .int (Int32.ofInt (I a0 (sp.toNat + i))) := by
        rw [oi_clamp h0 (by omega), Array.getD_eq_getD_getElem?, arrV_read _ _ (by omega)]
        rfl
      refine ⟨?_, ?_⟩
      · rw [e]
        rfl
      · rw [e]
        exact trivial)
    (g := F0 m pc cl ((vI n :: vI dp :: vR a :: vI sp :: vR a0 :: st).map (cv G))) rfl (by rw [hF.2.2.2.2.1]; exact hL.1) (rest := st.map (cv G)) (by rw [← hp_lt hH ha, ← hp_lt hH ha0]; rfl) (by rw [hF.2.1]; exact hd) (by have := hR.1; omega) (by
      have h9 := hR.2.1
      show 2 * 0 + ((st.map (cv G)).map fun v => v.category).sum + (nativeFrameWords "java/lang/System" "arraycopy" 5 + 11) ≤ R.locals
      rw [cat_map]
      have : nativeFrameWords "java/lang/System" "arraycopy" 5 + 11 ≤ 40 := by decide
      omega)
  have e1 : copied (arrV (G.2.2.1 20) n0 (aV G I X 20 a0)) (arrV (G.2.2.1 20) n1 (aV G I X 20 a)) (Int32.ofInt sp) (Int32.ofInt dp) (Int32.ofInt n) = arrV (G.2.2.1 20) n1 (aV G (cpy I a0 a sp.toNat dp.toNat n.toNat) X 20 a) := by
    have h := va_copied (fun z => Value.int z) (G.2.2.1 20) (G.2.2.1 20) (fun j => Int32.ofInt (I a0 j)) (fun j => Int32.ofInt (I a j)) (n0 := n0) (n1 := n1) (sp := (Int32.ofInt sp).toNatClampNeg) (dp := (Int32.ofInt dp).toNatClampNeg) (n := (Int32.ofInt n).toNatClampNeg) (by rw [oi_clamp h0 (by omega), oi_clamp h2 (by omega)]; omega)
    refine Eq.trans h ?_
    refine congrArg (arrV _ _) (funext fun j => ?_)
    show Value.int (va_cpy _ _ _ _ _ j) = Value.int (Int32.ofInt (cpy I a0 a sp.toNat dp.toNat n.toNat a j))
    rw [oi_clamp h0 (by omega), oi_clamp h1 (by omega), oi_clamp h2 (by omega)]
    unfold va_cpy cpy
    by_cases hj : dp.toNat ≤ j ∧ j < dp.toNat + n.toNat
    · rw [if_pos hj, if_pos ⟨rfl, hj⟩]
    · rw [if_neg hj, if_neg (fun z => hj z.2)]
  rw [e1] at X' step
  have hl : G.1 + a < H.size := (Array.getElem?_eq_some_iff.mp hc1).1
  have hHp : ∀ L : List Loc, (∀ q ∈ L, q.base = G.1 + a) → Hp G (cpy I a0 a sp.toNat dp.toNat n.toNat) X s (H.setIfInBounds (G.1 + a) (arrV (G.2.2.1 20) n1 (aV G (cpy I a0 a sp.toNat dp.toNat n.toNat) X 20 a))) (locs ++ L) := by
    intro L hLL
    refine ⟨rep_set hH.1 (by simp) rfl (fun q hq => by simp [Array.getElem?_setIfInBounds, Ne.symm hq]) (fun b j hb => if_neg (fun z => hb z.1)) (fun _ _ _ => rfl) (fun _ _ _ => rfl) ((cellP_ar hk (by decide)).mpr (by simp [Array.getElem?_setIfInBounds, hl])), fun q hq => ?_, fun q hq => ?_, by simpa using hH.2.2.2⟩
    · rw [Array.getElem?_setIfInBounds, if_neg (by omega)]
      exact hH.2.1 q hq
    · rcases List.mem_append.mp hq with h | h
      · exact hH.2.2.1 q h
      · rw [hLL q h]
        exact Nat.le_add_right _ _
  obtain ⟨t, a1, b1⟩ := k p e R s m args below meth c (H.setIfInBounds (G.1 + a) (arrV (G.2.2.1 20) n1 (aV G (cpy I a0 a sp.toNat dp.toNat n.toNat) X 20 a))) _ cells slots nn cl hF hR (hHp _ (fun q hq => by
    obtain ⟨z, -, hz⟩ := List.mem_map.mp hq
    rw [← hz])) hL ((T.setVm vm').setCell (G.1 + a) (arrV (G.2.2.1 20) n1 (aV G (cpy I a0 a sp.toNat dp.toNat n.toNat) X 20 a))) (by rw [← hT]; rfl) X'
  exact ⟨t, step t a1, b1⟩
theorem wp_mono {Q' : mQ} (k : WP l G μ d nf I X pc ls st Q) (h : ∀ v I' X', Q v I' X' → Q' v I' X') : WP l G μ d nf I X pc ls st Q' := by
  intro p e R s m args below meth c H locs cells slots n0 cl hF hR hH hL T hT Xs
  obtain ⟨t, a1, o, b1, b2, ⟨v, I', X', c1, c2⟩, b4⟩ := k p e R s m args below meth c H locs cells slots n0 cl hF hR hH hL T hT Xs
  exact ⟨t, a1, o, b1, b2, ⟨v, I', X', h v I' X' c1, c2⟩, b4⟩
end CALL
