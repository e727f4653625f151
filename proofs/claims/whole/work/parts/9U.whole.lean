/-! THE LAW WHOLE -/
set_option maxRecDepth 100000 in
theorem lw_all {l : Launch} {G : mG} {d : Nat} {Q : mQ} (hd : 200 ≤ d) (hN : G.2.2.2.2.1 ≤ 3072) (hQ : ∀ K Y, Y.2.2 = 153 → Q (some (vI 1)) K Y) : WP l G m_L_law d 153 ik_0 (lz, lk wk_0, 0) 0 [some (vR 1000), none, none, none] [] Q := by
  refine wp_new (pc := 0) (a := 0) dL_law_0 rfl rfl cw_L_7 it_10 ini_10 rfl kd_0 (by decide) (Nat.le_of_ble_eq_true rfl) (fun _ => rfl) (fun _ => rfl) (lk_no (by decide +kernel)) ?_
  refine wp_eqX (X' := (lz, lk wk_0, 1)) rfl ?_
  refine wp_dup (pc := 3) dL_law_3 rfl ?_
  refine wp_callI (pc := 4) (st := [vR 0]) (nf' := 111) (a := 0) [] [some (vR 0)] dL_law_4 rfl ci_L_9 rfl rfl (Nat.le_of_ble_eq_true rfl) rfl (Nat.le_of_ble_eq_true rfl) (by omega) (Nat.le_of_ble_eq_true rfl) (Nat.le_of_ble_eq_true rfl) ?_
  refine mk_X10_0 (by omega) ?_
  refine wp_eqst (st' := [vR 0]) rfl ?_
  refine wq_astore_n (pc := 7) 1 [some (vR 1000), some (vR 0), none, none] dL_law_7 rfl rfl (by decide) rfl ?_
  refine wp_new (pc := 8) (a := 111) dL_law_8 rfl rfl cw_L_10 it_11 ini_11 rfl kd_111 (by decide) (Nat.le_of_ble_eq_true rfl) (fun _ => rfl) (fun _ => rfl) (lk_no (by decide +kernel)) ?_
  refine wp_eqX (X' := (lF, lk wk_73, 112)) rfl ?_
  refine wp_dup (pc := 11) dL_law_11 rfl ?_
  refine wp_callI (pc := 12) (st := [vR 111]) (nf' := 153) (a := 111) [] [some (vR 111)] dL_law_12 rfl ci_L_12 rfl rfl (Nat.le_of_ble_eq_true rfl) rfl (Nat.le_of_ble_eq_true rfl) (by omega) (Nat.le_of_ble_eq_true rfl) (Nat.le_of_ble_eq_true rfl) ?_
  refine mk_X11_111 (by omega) ?_
  refine wp_eqst (st' := [vR 111]) rfl ?_
  refine wq_astore_n (pc := 15) 2 [some (vR 1000), some (vR 0), some (vR 111), none] dL_law_15 rfl rfl (by decide) rfl ?_
  refine wp_iconst (pc := 16) dL_law_16 ?_
  refine wq_istore_n (pc := 17) 3 (lwL 0) dL_law_17 rfl rfl (by decide) rfl ?_
  refine wp_extR (Rf D0) refs_end ?_
  exact lw_loop hd hN hQ 3072 0 (by omega) (by omega) ik_end (XX lF D0) inv_0 rfl
theorem inst_in {c : Nat} {q : vw_C} (h : clT[c]? = some q) : Cond.instantiable q.1 q.2.2 ∈ gw := by
  match c, h with
  | 0, h => cases h; exact it_0
  | 1, h => cases h; exact it_1
  | 2, h => cases h; exact it_2
  | 3, h => cases h; exact it_3
  | 4, h => cases h; exact it_4
  | 5, h => cases h; exact it_5
  | 6, h => cases h; exact it_6
  | 7, h => cases h; exact it_7
  | 8, h => cases h; exact it_8
  | 9, h => cases h; exact it_9
  | 10, h => cases h; exact it_10
  | 11, h => cases h; exact it_11
  | c + 12, h => simp at h
theorem fx_1 : ∀ i, i < 2 → Cond.exactly (Term.string "ThreeSundays$Tape" (if i = 0 then 19 else 81)) "java/lang/String" ∈ flatC (Jvm.Cond.and given_1 narrow_1) := by decide +kernel
theorem fx_2 : ∀ i, i < 2 → Cond.eq (.field (Term.string "ThreeSundays$Tape" (if i = 0 then 19 else 81)) "java/lang/String" "coder" "B") (.int 0) ∈ flatC (Jvm.Cond.and given_1 narrow_1) := by decide +kernel
theorem fx_3 : ∀ i, i < 2 → Cond.arrayOf (.field (Term.string "ThreeSundays$Tape" (if i = 0 then 19 else 81)) "java/lang/String" "value" "[B") .byte ∈ flatC (Jvm.Cond.and given_1 narrow_1) := by decide +kernel
theorem fx_4 : ∀ i, i < 2 → Cond.eq (.length (.field (Term.string "ThreeSundays$Tape" (if i = 0 then 19 else 81)) "java/lang/String" "value" "[B")) (.int (Int32.ofNat (([(strB 0).length, (strB 1).length] : List Nat).getD i 0))) ∈ flatC (Jvm.Cond.and given_1 narrow_1) := by decide +kernel
theorem fx_5 : ∀ i, i < 2 → ∀ j, j < ([(strB 0).length, (strB 1).length] : List Nat).getD i 0 → Cond.eq (.elem (.field (Term.string "ThreeSundays$Tape" (if i = 0 then 19 else 81)) "java/lang/String" "value" "[B") (.int (Int32.ofNat j))) (.int ((([strB 0, strB 1] : List (List Int32)).getD i []).getD j 0)) ∈ flatC (Jvm.Cond.and given_1 narrow_1) := by decide +kernel
theorem fx_6 : Cond.not (Cond.eq (Term.string "ThreeSundays$Tape" 19) (Term.string "ThreeSundays$Tape" 81)) ∈ flatC (Jvm.Cond.and given_1 narrow_1) := by decide +kernel
theorem fx_7 : Cond.eq (.static "java/lang/String" "COMPACT_STRINGS" "Z") (.int 1) ∈ flatC (Jvm.Cond.and given_1 narrow_1) := by decide +kernel
theorem fx_8 : Cond.isRef (.static "jdk/internal/util/Preconditions" "SIOOBE_FORMATTER" "Ljava/util/function/BiFunction;") ∈ flatC (Jvm.Cond.and given_1 narrow_1) := by decide +kernel
theorem nest_in : ∀ w ∈ nestW, w ∈ lw_tbl ∧ w.onTables = true := by
  intro w hw
  simp only [nestW, List.mem_cons, List.not_mem_nil, or_false] at hw
  rcases hw with rfl | rfl | rfl | rfl | rfl | rfl | rfl
  · exact ⟨List.mem_append_right _ (in_1 (List.mem_of_getElem? (i := 32) (by decide +kernel))), rfl⟩
  · exact ⟨List.mem_append_right _ (in_1 (List.mem_of_getElem? (i := 38) (by decide +kernel))), rfl⟩
  · exact ⟨List.mem_append_right _ (in_1 (List.mem_of_getElem? (i := 73) (by decide +kernel))), rfl⟩
  · exact ⟨List.mem_append_right _ (in_2 (List.mem_of_getElem? (i := 78) (by decide +kernel))), rfl⟩
  · exact ⟨List.mem_append_right _ (in_2 (List.mem_of_getElem? (i := 89) (by decide +kernel))), rfl⟩
  · exact ⟨List.mem_append_right _ (in_2 (List.mem_of_getElem? (i := 113) (by decide +kernel))), rfl⟩
  · exact ⟨List.mem_append_right _ (in_2 (List.mem_of_getElem? (i := 129) (by decide +kernel))), rfl⟩
/-! THE CLAIM OUT OF ONE WALK OF THE LAW'S BODY. Your part is whole_start (and what it stands on); all else here is the same for every law, but numbers. -/
def R_law : String := "ThreeSundaysLaw"
def lw_P (b : Addr) (xs : List Int32) (args : Array Value) (s : State) : Prop := args = #[.ref b] ∧ s.IntsAt b xs ∧ xs.length ≤ 3072 ∧ (Jvm.Cond.and given_1 narrow_1).before args s = true
def lw_Q (_ : Array Value) (s : State) (o : Outcome) (t : State) : Prop := o = .returned (some (.int 1)) ∧ Framed s o t [] 600000 7302249
def lw_Z (below : List Frame) (a : Array Value) (s : State) : State → Prop := fun t => ∃ o, t.status = .running ∧ Ended t below o ∧ lw_Q a s o t
/-- the law's own end, with 1 on the stack, nothing written that was there before, its room as the claim has it -/
theorem lw_ret {p : Program} {l : Launch} {e : Env} {s : State} {m : MethodId} {below : List Frame} {meth : Method} {c : Code} {b : Nat} (hx : p.tables.exec = Jvm.exec) (hb : c.code = code) (hr : meth.sig.returnType = ret) (hlocks : meth.locks = false) {pc : Nat} {H : Heap} {ls : Array Slot} (hdg : decode code pc = .ok (.ireturn, 1)) : W p l e room_1 s m #[Value.ref b] below meth c H [] 600000 7302249 (lw_Z below #[Value.ref b] s) (F0 m pc ls [.int 1]) := by
  intro T hT X
  obtain ⟨fs, hret, hrun, hended, hW, hframe⟩ := X.leave (v := some (.int 1)) (hlocks := hlocks) (fun h => by rw [hr] at h; cases h)
  have hmeth' : T.vm.method? m = some meth := X.method'
  refine ⟨T.setFrames fs, ?_, .returned (some (.int 1)), hrun, hended, rfl, ⟨_, rfl⟩, hW, hframe⟩
  jvm_step X.here [X.here.top, hx, hb, hdg, hmeth', hr, ret, narrow_b1]
  (try refine ⟨rfl, ?_⟩); (try refine ⟨rfl, ?_⟩)
  first | (intro acts; rw [hret _ acts rfl rfl rfl]) | rw [hret _ _ rfl rfl rfl]
  exact Steps.refl _
/-- what holds at the law's entry: the machine, the code, the tables' words (any of lw_tbl by 'hts w (by decide +kernel)'), the script of L ints xs at the cell b, what the Statement gives of the start (any of its parts by flat_of_before) -/
def lw_At (p : Program) (s : State) (m : MethodId) (meth : Method) (c : Code) (b L : Nat) (xs : Nat → Int32) : Prop :=
  p.tables.exec = Jvm.exec ∧ c.code = code ∧ meth.sig.returnType = ret ∧ c.maxLocals = 4 ∧ s.vm.findClass R_law = some m.cls ∧ (∀ w ∈ lw_tbl, w.before #[Value.ref b] s = true) ∧ va_X b L xs s s.heap ∧ b < s.heap.size ∧ meth.locks = false ∧ (Jvm.Cond.and given_1 narrow_1).before #[Value.ref b] s = true
theorem whole_start {p : Program} {e : Env} {s : State} {m : MethodId} {below : List Frame} {meth : Method} {c : Code} (l : Launch) {b L : Nat} {xs : Nat → Int32} (hL : L ≤ 3072) (hnm : meth.name = yL_law.name) (C0 : lw_At p s m meth c b L xs) : W p l e room_1 s m #[Value.ref b] below meth c s.heap [] 0 0 (lw_Z below #[Value.ref b] s) (entryFrame m ([Value.ref b] : List Value).toArray 4) := by
  obtain ⟨hx, hcb, hret, hml, hown, hts, hXs, hbl, hlk, hgv⟩ := C0
  have htg : ∀ w ∈ gw, w.before #[Value.ref b] s = true := fun w hw => hts w (List.mem_filter.mp hw).1
  have hs := flat_of_before _ hgv
  have hcl : ∀ c : Nat, ∃ q : ClassId × (Nat → Nat), ∀ r, clT[c]? = some r → u_Kn s r.1 r.2.1 r.2.2 q.1 q.2 := by
    intro c
    cases hc : clT[c]? with
    | none => exact ⟨((0 : Nat), fun _ => 0), fun r h => by cases h⟩
    | some r =>
      obtain ⟨cC, iS, h⟩ := u_known htg (cl_in hc) (htg _ (inst_in hc))
      exact ⟨(cC, iS), fun r' h' => by cases h'; exact h⟩
  obtain ⟨cf, hcf⟩ := Classical.axiomOfChoice hcl
  obtain ⟨cI, kI, pI, aI1, aI2, aI3⟩ := Cond.arrayClass_spec (htg _ ac_int)
  obtain ⟨cB, kB, pB, aB1, aB2, aB3⟩ := Cond.arrayClass_spec (htg _ ac_byte)
  obtain ⟨cZ, kZ, pZ, aZ1, aZ2, aZ3⟩ := Cond.arrayClass_spec (htg _ ac_bool)
  obtain ⟨cJ, kJ, pJ, aJ1, aJ2, aJ3⟩ := Cond.arrayClass_spec (htg _ ac_long)
  have hoS := hts (Cond.arrayOver (.object "ThreeSundays$State")) (List.mem_append_right _ (in_2 (List.mem_of_getElem? (i := 110) (by decide +kernel))))
  have hoI := hts (Cond.arrayOver (.array .int)) (List.mem_append_right _ (in_2 (List.mem_of_getElem? (i := 94) (by decide +kernel))))
  obtain ⟨pS_, cS, kS, s1, s2, s3, s4, s5⟩ := Cond.arrayOver_spec hoS
  obtain ⟨pA, cA, kA, a1, a2, a3, a4, a5⟩ := arrayOverA_spec hoI
  have hA : ∀ a : Nat, a < s.heap.size → ¬ s.heap.size ≤ a := fun a h => Nat.not_le.mpr h
  obtain ⟨adK, adV, hSt, hev⟩ := vk_Sof (args := #[Value.ref b]) (s := s) (N := 2) (tm := fun i => (Term.string "ThreeSundays$Tape" (if i = 0 then 19 else 81))) (len := [(strB 0).length, (strB 1).length]) (byt := [strB 0, strB 1]) (A := fun q => s.heap.size ≤ q) (by decide +kernel) (fun i hi => hs _ (fx_1 i hi)) (fun i hi => hs _ (fx_2 i hi)) (fun i hi => hs _ (fx_3 i hi)) (fun i hi => hs _ (fx_4 i hi)) (fun i hi j hj => hs _ (fx_5 i hi j hj)) (fun i j hi hj hij => by
    have h : (i = 0 ∧ j = 1) ∨ (i = 1 ∧ j = 0) := by omega
    rcases h with ⟨rfl, rfl⟩ | ⟨rfl, rfl⟩
    · exact Or.inl (hs _ fx_6)
    · exact Or.inr (hs _ fx_6)) hA
  obtain ⟨G, hG⟩ : ∃ G : mG, G = (s.heap.size, (fun c => (cf c).1, fun c => (cf c).2), (fun k => if k = 20 then cI else if k = 21 then cB else if k = 22 then cZ else if k = 23 then cJ else if k = 24 then cS else cA), (fun k => if k = 0 then b else if k = 1 then adK 0 else if k = 2 then adK 1 else if k = 3 then adV 0 else adV 1), (L, xs)) := ⟨_, rfl⟩
  have hKK : KK G s := by
    rw [hG]
    refine ⟨⟨fun c q hq => hcf c q hq, fun k q hk => ?_⟩, fun w hw => va_Nw.of (nest_in w hw).2 (hts w (nest_in w hw).1), va_AO.of hoS, hoI, vk_R.of (hts _ (List.mem_append_right _ (in_1 (List.mem_of_getElem? (i := 194) (by decide +kernel))))) (hev 0 (by decide)), vk_R.of (hts _ (List.mem_append_right _ (in_3 (List.mem_of_getElem? (i := 48) (by decide +kernel))))) (hev 1 (by decide))⟩
    match k, hk with
    | 0, hk => cases hk; exact ⟨fun n z => ⟨(fun k h => by cases h), kI, aI2, pI, aI3⟩, aI1⟩
    | 1, hk => cases hk; exact ⟨fun n z => ⟨(fun k h => by cases h), kB, aB2, pB, aB3⟩, aB1⟩
    | 2, hk => cases hk; exact ⟨fun n z => ⟨(fun k h => by cases h), kZ, aZ2, pZ, aZ3⟩, aZ1⟩
    | 3, hk => cases hk; exact ⟨fun n z => ⟨(fun k h => by cases h), kJ, aJ2, pJ, aJ3⟩, aJ1⟩
    | 4, hk => cases hk; exact ⟨fun n z => ⟨(fun k h => by cases h), kS, s3, pS_, s4⟩, kS, pS_, s3, s4, s1, s5⟩
    | 5, hk => cases hk; exact ⟨fun n z => ⟨(fun k h => by cases h), kA, a3, pA, a4⟩, a5⟩
    | k + 6, hk => simp at hk
  have hKH : KH G s s.heap := by
    rw [hG]
    refine ⟨⟨hXs, hbl⟩, ⟨fun i hi => ?_, fun i j hi hj h => ?_⟩, va_Zof (hts _ (List.mem_append_right _ (in_1 (List.mem_of_getElem? (i := 204) (by decide +kernel))))) (hts _ (List.mem_append_right _ (in_1 (List.mem_of_getElem? (i := 6) (by decide +kernel))))) (va_eqt (hs _ fx_7)) hA, va_Zqof (hts _ (List.mem_append_right _ (in_1 (List.mem_of_getElem? (i := 220) (by decide +kernel))))) (hts _ (List.mem_append_right _ (in_1 (List.mem_of_getElem? (i := 8) (by decide +kernel))))) (hs _ fx_8) hA⟩
    · match i, hi with
      | 0, _ => exact hSt.1 0 (by decide)
      | 1, _ => exact hSt.1 1 (by decide)
    · match i, hi, j, hj, h with
      | 0, _, 0, _, _ => rfl
      | 0, _, 1, _, h => exact hSt.2 0 1 (by decide) (by decide) h
      | 1, _, 0, _, h => exact hSt.2 1 0 (by decide) (by decide) h
      | 1, _, 1, _, _ => rfl
  have g1 : G.1 = s.heap.size := by rw [hG]
  have g5 : G.2.2.2.2.1 ≤ 3072 := by rw [hG]; exact hL
  have g0 : ad G 1000 = b := by rw [hG]; rfl
  have hFx : Fx G m_L_law p s m #[Value.ref b] meth c := ⟨hx, hcb, hret, hlk, hml, hown, hnm, htg, hKK, hKH, by rw [g1]; exact Nat.le_refl _⟩
  have hl := lv_entry [Value.ref b] (n := 4) (by simp [lg_sl, Value.category])
  rw [lg_entry_eq]
  generalize (lg_sl [Value.ref b] ++ List.replicate (4 - (lg_sl [Value.ref b]).length) Slot.unset).toArray = cl at hl ⊢
  have hlr : lr G cl 4 [some (vR 1000), none, none, none] := by
    refine ⟨hl.1, hl.2.1, fun i v hv => ?_⟩
    match i, hv with
    | 0, hv =>
      cases hv
      show cl[0]? = some (.val (.ref (ad G 1000)))
      rw [g0]
      exact hl.2.2 (0, .ref b) (by simp [lv_args])
    | 1, hv => cases hv
    | 2, hv => cases hv
    | 3, hv => cases hv
    | i + 4, hv => simp at hv
  have hRm : Rm 1000 153 0 0 room_1 0 0 := ⟨by decide, by decide, by decide, by decide +kernel, Nat.le_refl _, by decide, Nat.le_refl _, rfl, rfl⟩
  have hHp : Hp G ik_0 (lz, lk wk_0, 0) s s.heap [] := ⟨⟨by rw [g1]; rfl, Nat.zero_le _, fun a ha => absurd ha (Nat.not_lt_zero a)⟩, fun _ _ => rfl, (fun q hq => absurd hq List.not_mem_nil), Nat.le_refl _⟩
  have w := lw_all (l := l) (G := G) (d := 1000) (Q := fun v _ _ => v = some (vI 1)) (by decide) g5 (fun _ _ _ => rfl) p e room_1 s m #[Value.ref b] below meth c s.heap [] 0 0 0 cl hFx hRm hHp hlr
  intro T hT X
  obtain ⟨t, w1, o, w2, w3, ⟨v, I', X', hq, -, ho, -, -⟩, Lc, hFE, hfr⟩ := w T hT X
  refine ⟨t, w1, o, w2, w3, ?_, ?_⟩
  · rw [ho, hq]
    rfl
  · refine ⟨hFE.1, hFE.2.1, hFE.2.2.weaken (fun y hy hlt => absurd hlt (Nat.not_lt.mpr (by have := hfr y hy; rw [g1] at this; exact this))) (by decide) (by decide +kernel)⟩
set_option maxHeartbeats 4000000 in
theorem lw_walk (l : Launch) (b : Addr) (xs : List Int32) : MetFree l x (headSpec (Jvm.Cond.code x code maxLocals ret :: tables_1) room_1) (lw_P b xs) (fun _ _ _ _ _ => True) lw_Q := by
  refine MetFree.of_bodyS (code := code) (maxLocals := maxLocals) (ret := ret) (by decide) ?_ ?_
  · intro args s m h hn
    obtain ⟨meth, c, h1, h2, h3, h4, h5, h6, -, -⟩ := Cond.code_spec hn (atoms_spec (ws := Jvm.Cond.code x code maxLocals ret :: tables_1) h _ List.mem_cons_self)
    exact ⟨meth, c, h1, h2, h3, h4, h5, h6⟩
  · intro p e s m args below meth c s₁ B hml0 hP _
    obtain ⟨rfl, hx, hbd, hgv⟩ := hP
    obtain ⟨scr, harrAt, hlist, hof, hsmall⟩ := hx
    obtain ⟨hcb, hkn, -, -⟩ := State.arrayAt?_spec harrAt
    have hown : s.vm.findClass R_law = some m.cls := findClass_of_methodNamed B.named
    have hts0 : ∀ c ∈ (Jvm.Cond.code x code maxLocals ret :: tables_1), c.before #[Value.ref b] s = true := atoms_spec (ws := Jvm.Cond.code x code maxLocals ret :: tables_1) B.pre
    have hts : ∀ w ∈ lw_tbl, w.before #[Value.ref b] s = true := k2_hts_sels lw_privs (fun w hw => hts0 w (List.mem_cons_of_mem _ hw)) lw_privs_ok
    have hml : c.maxLocals = 4 := B.maxLocals_eq (hts0 _ List.mem_cons_self)
    have X₀ : Stand p l e room_1 s m #[Value.ref b] below meth c s₁ [] 0 0 := Stand.of_body B
    have hh0 : s₁.heap = s.heap := by rw [B.state]; rfl
    have hsz : scr.slots.size = xs.length := by rw [← Array.length_toList, hlist, List.length_map]
    have hval : ∀ j : Nat, j < xs.length → scr.slots[j]? = some (.int (xs.getD j 0)) := fun j hj => by
      rw [← Array.getElem?_toList, hlist]
      simp [hj]
    have hbl : b < s.heap.size := (Array.getElem?_eq_some_iff.mp hcb).1
    have hX : va_X b xs.length (fun j => xs.getD j 0) s s.heap := ⟨scr, hcb, hof, hkn, hsz, hval⟩
    have K : W p l e room_1 s m #[Value.ref b] below meth c s₁.heap [] 0 0 (lw_Z below #[Value.ref b] s) (entryFrame m ([Value.ref b] : List Value).toArray 4) := by
      rw [hh0]
      exact whole_start l hbd (name_of_methodNamed B.named B.method).1 ⟨B.exec, B.bytes, B.returns, hml, hown, hts, hX, hbl, B.notSynchronized, hgv⟩
    obtain ⟨t, a1, o, b1, b2, b3⟩ := K s₁ rfl X₀
    exact ⟨t, o, a1, b1, b2, b3⟩
theorem lw_pre_spec {args : Array Value} {s : State} (h : (Jvm.Cond.and given_1 narrow_1).before args s = true) (hr : rest_1_c.before args s = true) : ∃ (b : Addr) (xs : List Int32), lw_P b xs args s := by
  have hs := flat_of_before _ h
  have hq := flat_of_before _ hr
  have hc : (Cond.count 1).before args s = true := hs _ (by decide +kernel)
  have harr : (Cond.arrayOf (.arg 0) .int).before args s = true := hs _ (by decide +kernel)
  have hle : (Cond.le (.length (.arg 0)) (.int 3072)).before args s = true := hs _ (by decide +kernel)
  have hlen : (Cond.isInt (.length (.arg 0))).before args s = true := hq _ (by decide +kernel)
  have hall : (Cond.all (.arg 0) (.isInt (.elem (.arg 0) (.index 0)))).before args s = true := hq _ (by decide +kernel)
  obtain ⟨b, xs, hb, hx⟩ := State.ints_of_pre rfl harr hlen hall
  have hsm : xs.length < 2 ^ 31 := hx.choose_spec.2.2.2
  have hev : (Term.length (.arg 0)).eval args s none [] s = some (.int xs.length.toInt32) := hx.length_eval hb
  have hv := Cond.le_ints hev (show (Term.int 3072).eval args s none [] s = some (.int 3072) from rfl)
  have hd : xs.length.toInt32 ≤ 3072 := by
    simpa [Cond.before, Cond.holds, hv] using hle
  have hN : xs.length ≤ 3072 := (Int32.ofNat_le_ofNat hsm (by decide)).mp (show Int32.ofNat xs.length ≤ Int32.ofNat 3072 from hd)
  exact ⟨b, xs, Cond.one_arg hc (show args[0]? = some (.ref b) from hb), hx, hN, h⟩
theorem lw_comes (l : Launch) : Comes l x (Jvm.Cond.code x code maxLocals ret :: tables_1) room_1 (fun tb e args s => Calls_1 tb e args s ∧ rest_1 tb e args s ∧ Pre_1 tb e args s)
    (fun _ _ args s o t => lw_Q args s o t) := by
  intro p e ha hc hk s m args below hf hfit hheap happ hpre
  obtain ⟨b, xs, hP⟩ := lw_pre_spec hpre.2.2 hpre.2.1
  obtain ⟨k, o, h1, h2, h3, hQ⟩ := lw_walk l b xs p e ha hc hk s m args below hf ((Spec.applies_iff_loose hf).mp happ).1 hP trivial
  exact ⟨k, o, h1, h2, h3, hQ⟩
theorem lw_frame {s t : State} {o : Outcome} {args : Array Value} (h : Framed s o t [] 600000 7302249) :
    Framed s o t (fieldLocs frame_1_writes args s ++ arrayLocs frame_1_arrays args s ++ staticLocs frame_1_statics s) 600000 7302249 := h
theorem lw_limb (L : Cond) (hL : ∀ (args : Array Value) (s t : State), L.after args s (.returned (some (.int 1))) t = true) :
    ArmFor flags0 classFile x code maxLocals ret World_1 tables_1 room_1 Calls_1 rest_1 Pre_1
      (fun tb e a s o t => postC L tb e a s o t ∧ Framed s o t (fieldLocs frame_1_writes a s ++ arrayLocs frame_1_arrays a s ++ staticLocs frame_1_statics s) 600000 7302249) := by
  intro l _ _ _ p e ha hc hk s m args below hf hfit hheap happ hpre
  obtain ⟨k, o, h1, h2, h3, rfl, hF⟩ := lw_comes l p e ha hc hk s m args below hf hfit hheap happ hpre
  exact ⟨k, _, h1, h2, h3, hL args s _, lw_frame hF⟩
theorem i_vc : Claimed_1_1 ∧ Claimed_1_2 := ⟨lw_limb limb_1_1 (fun args s t => by simp [limb_1_1, Cond.after, Cond.holds, Cond.value]), lw_limb limb_1_2 (fun args s t => Cond.after_iff.mpr (by
  first | (rw [show limb_1_2 = Cond.eq .result (.int 1) from rfl, Cond.eq_ints (x := 1) (y := 1) rfl rfl]; simp; done) | (simp [limb_1_2, Cond.value, Term.eval]; done)))⟩
