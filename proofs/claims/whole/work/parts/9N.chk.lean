section MULTI
variable {l : Launch} {G : mG} {μ : mM} {d nf : Nat} {I : mI} {X : mX} {pc : Nat} {ls : List (Option mV)} {st : List mV} {Q : mQ}
/-! the check of an index: it hands a formatter on, whatever that is -/
theorem met_chk (i n : Int) (v : Value) (hv : v = .null ∨ ∃ t, v = .ref t) (hi : 0 ≤ i ∧ i < n) (hn : n ≤ 2147483647) (hnT : X.2.2 ≤ NT) :
    Met l yJ3_checkIndex_8e157 (cdM m_J3_checkIndex_8e157 :: gw) (rmM 0 X.2.2 X.2.2) (va_Pc [.int (Int32.ofInt i), .int (Int32.ofInt n), v] (fun U => rep G I X U.heap ∧ KK G U ∧ KH G U U.heap)) (Qc G X.2.2 (fun w I' X' => w = some (vI i) ∧ I' = I ∧ X' = X)) (X.2.2 - X.2.2) (sl X.2.2 - sl X.2.2) (fun q => G.1 ≤ q) := by
  refine Met.ofW (cc := cJ3_checkIndex_8e157) (maxL := 3) (ret := some .int) (by decide +kernel) rfl ?_
  intro p e s m args below meth c s₁ B hml hv9
  obtain ⟨rfl, hP, hK, hH⟩ := hv9
  have hl := lv_entry [Value.int (Int32.ofInt i), .int (Int32.ofInt n), v] (n := 3) (by rcases hv with rfl | ⟨t, rfl⟩ <;> simp [lg_sl, Value.category])
  rw [lg_entry_eq]
  generalize (lg_sl [Value.int (Int32.ofInt i), .int (Int32.ofInt n), v] ++ List.replicate (3 - (lg_sl [Value.int (Int32.ofInt i), .int (Int32.ofInt n), v]).length) Slot.unset).toArray = cl at hl ⊢
  have l0 : cl[0]? = some (.val (.int (Int32.ofInt i))) := hl.2.2 (0, .int (Int32.ofInt i)) (by simp [lv_args])
  have l1 : cl[1]? = some (.val (.int (Int32.ofInt n))) := hl.2.2 (1, .int (Int32.ofInt n)) (by simp [lv_args, Value.category])
  rw [Nat.sub_self, Nat.sub_self]
  refine lv_iload_n B.exec B.bytes dJ3_checkIndex_8e157_0 rfl l0 ?_
  refine lv_if_lt B.exec B.bytes dJ3_checkIndex_8e157_1 (tgt := 9) (by decide) (fun z => ?_) (fun _ => ?_)
  · exfalso
    rw [← oi_0, oi_lt ⟨by omega, by omega⟩ ⟨by omega, by omega⟩] at z
    omega
  refine lv_iload_n B.exec B.bytes dJ3_checkIndex_8e157_4 rfl l0 ?_
  refine lv_iload_n B.exec B.bytes dJ3_checkIndex_8e157_5 rfl l1 ?_
  refine lv_icmp_lt B.exec B.bytes dJ3_checkIndex_8e157_6 (tgt := 16) (by decide) (fun _ => ?_) (fun z => ?_)
  · refine lv_iload_n B.exec B.bytes dJ3_checkIndex_8e157_16 rfl l0 ?_
    exact W.iret B.exec B.bytes B.returns (fun t ht _ => ⟨some (vI i), I, X, ⟨rfl, rfl, rfl⟩, rfl, rfl, by rw [ht]; exact hP, fun q hq => by rw [ht]⟩) (fun q hq => absurd hq List.not_mem_nil) dJ3_checkIndex_8e157_17 B.notSynchronized
  · exact absurd ((oi_lt ⟨by omega, by omega⟩ ⟨by omega, by omega⟩).mpr hi.2) z
theorem wp_chk {i n : Int} (hd : decode μ.2.1 pc = .ok (.getstatic 1053, 3)) (hd2 : decode μ.2.1 (pc + 3) = .ok (.invokestatic 1059, 3)) (ho : μ.1.cls = "java/lang/String") (hi : 0 ≤ i ∧ i < n) (hn : n ≤ 2147483647) (hcat : (st.map mcat).sum ≤ 8) (hdp : 0 < d) (k : WP l G μ d nf I X (pc + 6) ls (vI i :: st) Q) : WP l G μ d nf I X pc ls (vI n :: vI i :: st) Q := by
  intro p e R s m args below meth c H locs cells slots n0 cl hF hR hH hL
  have hts := hF.2.2.2.2.2.2.2.1
  have fk : Cond.fieldLink "java/lang/String" 1053 "jdk/internal/util/Preconditions" "SIOOBE_FORMATTER" "Ljava/util/function/BiFunction;" ∈ gw := gw_of (in_1 (List.mem_of_getElem? (i := 219) (by decide +kernel))) (by decide +kernel)
  have go : ∀ v : Value, (v = .null ∨ ∃ t, v = .ref t) → va_Z "jdk/internal/util/Preconditions" "SIOOBE_FORMATTER" "Ljava/util/function/BiFunction;" v (fun q => G.1 ≤ q) s s.heap → W p l e R s m args below meth c H locs cells slots (MQ below (Qc G nf Q) args s (nf - n0) (sl nf - sl n0) (fun q => G.1 ≤ q)) (F0 m pc cl ((vI n :: vI i :: st).map (cv G))) := by
    intro v hv hZ
    refine va_gets (A := fun q => G.1 ≤ q) hF.1 hF.2.1 hZ (hp_S hH) (by rw [← ho]; exact hF.2.2.2.2.2.1) (hts _ fk) (fun _ h => h) hd ?_
    obtain ⟨g1, g2, g4, g5, g6, g7, g8, g9, g10⟩ := c_J0_1059
    obtain ⟨r1, r2, r3, r4, r5, r6, r7, r8, r9⟩ := hR
    have hM := met_chk (l := l) (G := G) (I := I) (X := X) i n v hv hi hn (Nat.le_trans r6 r7)
    refine wp_back (pc := pc + 3) (st := st) (nf' := X.2.2) (Q' := fun w I' X' => w = some (vI i) ∧ I' = I ∧ X' = X) (y := m_J3_checkIndex_8e157) hF ⟨r1, r2, r3, r4, r5, r6, r7, r8, r9⟩ hH hL (Nat.le_refl _) r6 (va_runS (As := [Value.int (Int32.ofInt i), .int (Int32.ofInt n), v]) (n := 3) (index := 1059) (own := "java/lang/String") (Ts := gw) (cc := μ.2.1) (nL := μ.2.2.1) ⟨hF.1, hF.2.1, hF.2.2.2.2.1, by rw [← ho]; exact hF.2.2.2.2.2.1, hts⟩ hM
      ⟨callB_of 3 hts (good_cd g5) rfl rfl rfl (hts _ g4) (hts _ g1) ⟨g7, g8, g9⟩ ⟨?_, ?_⟩, hts _ g2⟩ ⟨?_, fun U hU hW => ⟨rfl, by rw [hU]; exact hH.1, KK.warm hW hF.2.2.2.2.2.2.2.2.1, ?_⟩⟩ rfl rfl hL.1 ?_ ?_ hd2 ⟨?_, ?_⟩) (fun w I' X' h _ => ?_)
    · show 0 + 1 ≤ R.frames
      omega
    · show 8 + (3 + 11) + 64 * 0 ≤ R.locals
      omega
    · intro a U g mk h
      obtain ⟨h1, h2, h3, h4⟩ := h
      exact ⟨h1, h2, KK.warm (U := U.calling g mk a) (State.WarmedH.refl U) h3, KH.moved (U := U.calling g mk a) (Vm.Alike.refl U.vm) h4⟩
    · rw [hU]
      exact KH.moved hW.alike (hF.2.2.2.2.2.2.2.2.2.1.kept (fun q hq => hH.2.1 q hq))
    · show v :: (vI n :: vI i :: st).map (cv G) = _
      simp [cv]
    · exact lv_room (by rw [cat_map]; exact hcat)
    · show cells + (X.2.2 - X.2.2) ≤ R.cells
      omega
    · show slots + (sl X.2.2 - sl X.2.2) ≤ R.slots
      have h2 := sl_mono X.2.2 nf r6 r7
      omega
    · obtain ⟨rfl, rfl, rfl⟩ := h
      exact k
  rcases hF.2.2.2.2.2.2.2.2.2.1.2.2.2 with hZ | ⟨t, hZ⟩
  · exact go .null (Or.inl rfl) hZ
  · exact go (.ref t) (Or.inr ⟨t, rfl⟩) hZ
end MULTI
