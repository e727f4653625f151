/-! MAKING: new objects and arrays, constructors -/
def okTy : FieldType → Bool
  | .int => true
  | .boolean => true
  | .long => true
  | .object _ => true
  | .array _ => true
  | _ => false
theorem ok_ty : ∀ ci, ci < 12 → ∀ j, j < 81 → okTy (tyT ci j) = true := by decide +kernel
theorem cl_n : ∀ ci, ci < 12 → ∀ q, clT[ci]? = some q → q.2.2 ≤ 81 := by
  intro ci hc q h
  have h1 : clT.all (fun q => decide (q.2.2 ≤ 81)) = true := by decide +kernel
  have := List.all_eq_true.mp h1 q (List.mem_of_getElem? h)
  simpa using this
theorem ok_df {G : mG} {I : mI} {X : mX} {a j : Nat} {ty : FieldType} (h : okTy ty = true) (h1 : I a j = 0) (h2 : X.1 a j = 0) (h3 : X.2.1 a j = none) : defaultValue ty = fV G I X a ty j := by
  cases ty <;> first | (exact absurd h (by decide)) | (simp only [fV, h1, h2, h3, defaultValue]; rfl)
theorem sl_step : ∀ a, a < NT → sl (a + 1) = sl a + (kd a).2 := by decide +kernel
section MAKE
variable {l : Launch} {G : mG} {μ : mM} {d nf : Nat} {I : mI} {X : mX} {pc : Nat} {ls : List (Option mV)} {st : List mV} {Q : mQ}
theorem rep_more {H H' : Heap} {a : Nat} (ha : X.2.2 = a) (h : rep G I X H) (hn : a < NT) (z1 : H'.size = G.1 + a + 1) (o1 : ∀ q, q < G.1 + a → H'[q]? = H[q]?) (hc : cellP G I X H' a) : rep G I (X.1, X.2.1, a + 1) H' := by
  refine ⟨by rw [z1]; show _ = G.1 + (a + 1); omega, by show a + 1 ≤ NT; omega, fun b hb => ?_⟩
  have hb : b < a + 1 := hb
  by_cases eb : b = a
  · rw [eb]
    exact hc
  · exact cellP_kept (I := I) (X := X) (fun _ => rfl) (fun _ => rfl) (fun _ => rfl) (o1 _ (by omega)) (h.2.2 b (by omega))
theorem cell_X {H : Heap} {a : Nat} {X' : mX} (h1 : X'.1 = X.1) (h2 : X'.2.1 = X.2.1) (h : cellP G I X H a) : cellP G I X' H a := cellP_kept (fun _ => rfl) (fun j => by rw [h1]) (fun j => by rw [h2]) rfl h
theorem rm_more {n0 a : Nat} {R : Room} {cells slots : Nat} (ha : X.2.2 = a) (hR : Rm d nf X.2.2 n0 R cells slots) (hn : a < nf) : cells + 1 ≤ R.cells ∧ slots + (kd a).2 ≤ R.slots ∧ Rm d nf (a + 1) n0 R (cells + 1) (slots + (kd a).2) := by
  rw [ha] at hR
  obtain ⟨r1, r2, r3, r4, r5, r6, r7, r8, r9⟩ := hR
  have hN : NT = 153 := rfl
  have h1 := sl_step a (by omega)
  have h2 := sl_mono (a + 1) nf (by omega) r7
  have h3 := sl_mono n0 a r5 (by omega)
  exact ⟨by omega, by omega, r1, r2, r3, r4, by omega, by omega, r7, by omega, by omega⟩
theorem wp_oinit {own : String} {idx a : Nat} (hd : decode μ.2.1 pc = .ok (.invokespecial idx, 3)) (ho : μ.1.cls = own) (hw : Cond.methodLink own idx Lib.objectInit ∈ gw) (hw2 : Cond.instanceMethod Lib.objectInit ∈ gw) (hw3 : Cond.code Lib.objectInit ⟨#[0xb1]⟩ 1 none ∈ gw) (hcat : (st.map mcat).sum ≤ 8) (hdp : 0 < d) (k : WP l G μ d nf I X (pc + 3) ls st Q) : WP l G μ d nf I X pc ls (vR a :: st) Q := by
  intro p e R s m args below meth c H locs cells slots n0 cl hF hR hH hL
  have hts := hF.2.2.2.2.2.2.2.1
  refine W.objInit (own := own) hF.1 hF.2.1 (by rw [← ho]; exact hF.2.2.2.2.2.1) (hts _ hw) (hts _ hw2) (hts _ hw3) (g := F0 m pc cl ((vR a :: st).map (cv G))) rfl (by rw [hF.2.2.2.2.1]; exact hL.1) (a := ad G a) (rest := st.map (cv G)) rfl hd (by have := hR.1; omega) ?_ (k p e R s m args below meth c H locs cells slots n0 cl hF hR hH hL)
  have h9 := hR.2.1
  show 2 * 0 + ((st.map (cv G)).map fun v => v.category).sum + 12 ≤ R.locals
  rw [cat_map]
  omega
theorem wp_new {own C : String} {idx ci n : Nat} {T : u_T} {a : Nat} (hd : decode μ.2.1 pc = .ok (.new idx, 3)) (ho : μ.1.cls = own) (hC : clT[ci]? = some (C, T, n)) (hw : Cond.classLink own idx C ∈ gw) (hw2 : Cond.instantiable C n ∈ gw) (hw3 : Cond.initialized C ∈ gw) (ha : X.2.2 = a) (hk : kd a = (ci, n)) (hc : ci < 12) (hn : a < nf) (h1 : ∀ j, I a j = 0) (h2 : ∀ j, X.1 a j = 0) (h3 : ∀ j, X.2.1 a j = none)
    (k : WP l G μ d nf I (X.1, X.2.1, a + 1) (pc + 3) ls (vR a :: st) Q) : WP l G μ d nf I X pc ls st Q := by
  intro p e R s m args below meth c H locs cells slots n0 cl hF hR hH hL
  have hts := hF.2.2.2.2.2.2.2.1
  have hK := hF.2.2.2.2.2.2.2.2.1.1
  have hKn := hK.1 ci _ hC
  obtain ⟨c1, c2, c3⟩ := rm_more ha hR hn
  rw [hk] at c2 c3
  have hnT : a < NT := Nat.lt_of_lt_of_le hn hR.2.2.2.2.2.2.1
  have hs0 : H.size = G.1 + a := by rw [← ha]; exact hH.1.1
  refine W.newcK (own := own) (C := C) (index := idx) (n := n) hF.1 hF.2.1 (by rw [← ho]; exact hF.2.2.2.2.2.1) (hts _ hw) (hts _ hw2) (hts _ hw3) (g := F0 m pc cl (st.map (cv G))) rfl hd c1 c2 hKn.2.1 (h := G.1 + a) hs0 fun H' kC hkC e1 z1 o1 => ?_
  have hb := u_born (tyT ci) hts (cl_in hC) hKn hkC e1 (cl_ty hC)
  have hN := cl_n ci hc _ hC
  have hcell : cellP G I X H' a := (cellP_ob hk (by omega)).mpr (hb.to (fun j hj => ok_df (ok_ty ci hc j (by have : n ≤ 81 := hN; omega)) (h1 j) (h2 j) (h3 j)))
  have hrep := rep_more ha hH.1 hnT z1 (fun q hq => (o1 q hq)) hcell
  have w := k p e R s m args below meth c H' locs (cells + 1) (slots + n) n0 cl hF c3 ⟨hrep, fun q hq => (o1 q (by omega)).trans (hH.2.1 q hq), hH.2.2.1, by have := hH.2.2.2; omega⟩ hL
  refine W.eq (g2 := F0 m (pc + 3) cl ((vR a :: st).map (cv G))) ?_ w
  show F0 m (pc + 3) cl (Value.ref (G.1 + a) :: st.map (cv G)) = F0 m (pc + 3) cl (Value.ref (ad G a) :: st.map (cv G))
  rw [ad_lt hnT]
theorem wp_newarr {atype : ArrayType} {ty : FieldType} {n ki t0 a : Nat} {z : Int} (hd : decode μ.2.1 pc = .ok (.newarray atype, 2)) (hty : newarray.typeOf atype = ty) (hw : Cond.arrayClass ty ∈ gw) (ht : (tyG G)[t0]? = some (G.2.2.1 ki, ty)) (hra : ∀ U cA, va_RA U cA ty → U.vm.findClass ("[" ++ ty.toString) = some cA) (hdv : ∀ (X : mX) j, I a j = 0 → X.1 a j = 0 → defaultValue ty = aV G I X ki a j) (hcb : componentBytes ty ≤ 8) (hki : ¬ ki < 20)
    (ha : X.2.2 = a) (hk : kd a = (ki, n)) (hz : z = (n : Int)) (hn : a < nf) (h1 : ∀ j, I a j = 0) (h2 : ∀ j, X.1 a j = 0)
    (k : WP l G μ d nf I (X.1, X.2.1, a + 1) (pc + 2) ls (vR a :: st) Q) : WP l G μ d nf I X pc ls (vI z :: st) Q := by
  intro p e R s m args below meth c H locs cells slots n0 cl hF hR hH hL
  have hts := hF.2.2.2.2.2.2.2.1
  have hK := hF.2.2.2.2.2.2.2.2.1.1
  obtain ⟨c1, c2, c3⟩ := rm_more ha hR hn
  have hle := kd_le a
  rw [hk] at c2 c3 hle
  have hle : n ≤ 1600 := hle
  subst hz
  subst hty
  have hnT : a < NT := Nat.lt_of_lt_of_le hn hR.2.2.2.2.2.2.1
  have hs0 : H.size = G.1 + a := by rw [← ha]; exact hH.1.1
  have hkA := hra _ _ (hK.2 t0 _ ht).2
  refine va_newaK (n := Int32.ofInt (n : Int)) (N := n) hF.1 hF.2.1 (hts _ hw) (g := F0 m pc cl ((vI (n : Int) :: st).map (cv G))) rfl hd rfl ?_ ?_ ?_ c1 c2 (h := G.1 + a) hs0 fun H' cA e1 z1 o1 hAr hNm => ?_
  · rw [← oi_0, oi_lt ⟨by omega, by omega⟩ ⟨by omega, by omega⟩]; omega
  · rw [oi_clamp (by omega) (by omega)]; omega
  · calc n * componentBytes (newarray.typeOf atype) ≤ n * 8 := Nat.mul_le_mul_left n hcb
      _ ≤ 536870912 := by omega
  have ec : cA = G.2.2.1 ki := Option.some.inj (hNm.symm.trans hkA)
  subst ec
  have hcell : cellP G I X H' a := (cellP_ar hk hki).mpr (by
    rw [e1]
    exact congrArg some (arrV_congr fun j hj => hdv X j (h1 j) (h2 j)))
  have hrep := rep_more ha hH.1 hnT z1 (fun q hq => (o1 q hq)) hcell
  have w := k p e R s m args below meth c H' locs (cells + 1) (slots + n) n0 cl hF c3 ⟨hrep, fun q hq => (o1 q (by omega)).trans (hH.2.1 q hq), hH.2.2.1, by have := hH.2.2.2; omega⟩ hL
  refine W.eq (g2 := F0 m (pc + 2) cl ((vR a :: st).map (cv G))) ?_ w
  show F0 m (pc + 2) cl (Value.ref (G.1 + a) :: st.map (cv G)) = F0 m (pc + 2) cl (Value.ref (ad G a) :: st.map (cv G))
  rw [ad_lt hnT]
set_option maxRecDepth 100000 in
theorem ac_int : Cond.arrayClass .int ∈ gw := gw_of (in_1 (List.mem_of_getElem? (i := 70) rfl)) rfl
set_option maxRecDepth 100000 in
theorem ac_long : Cond.arrayClass .long ∈ gw := gw_of (in_1 (List.mem_of_getElem? (i := 69) rfl)) rfl
set_option maxRecDepth 100000 in
theorem ac_byte : Cond.arrayClass .byte ∈ gw := gw_of (in_2 (List.mem_of_getElem? (i := 37) rfl)) rfl
set_option maxRecDepth 100000 in
theorem ac_bool : Cond.arrayClass .boolean ∈ gw := gw_of (in_2 (List.mem_of_getElem? (i := 160) rfl)) rfl
theorem wp_newI {atype : ArrayType} {n a : Nat} {z : Int} (hd : decode μ.2.1 pc = .ok (.newarray atype, 2)) (hty : newarray.typeOf atype = .int) (ha : X.2.2 = a) (hk : kd a = (20, n)) (hz : z = (n : Int)) (hn : a < nf) (h1 : ∀ j, I a j = 0) (h2 : ∀ j, X.1 a j = 0) (k : WP l G μ d nf I (X.1, X.2.1, a + 1) (pc + 2) ls (vR a :: st) Q) : WP l G μ d nf I X pc ls (vI z :: st) Q :=
  wp_newarr (t0 := 0) hd hty ac_int rfl (fun _ _ h => h) (fun X j e1 e2 => by unfold aV; rw [if_neg (by decide), if_pos (by decide), e1]; rfl) (by decide) (by decide) ha hk hz hn h1 h2 k
theorem wp_newB {atype : ArrayType} {n a : Nat} {z : Int} (hd : decode μ.2.1 pc = .ok (.newarray atype, 2)) (hty : newarray.typeOf atype = .byte) (ha : X.2.2 = a) (hk : kd a = (21, n)) (hz : z = (n : Int)) (hn : a < nf) (h1 : ∀ j, I a j = 0) (h2 : ∀ j, X.1 a j = 0) (k : WP l G μ d nf I (X.1, X.2.1, a + 1) (pc + 2) ls (vR a :: st) Q) : WP l G μ d nf I X pc ls (vI z :: st) Q :=
  wp_newarr (t0 := 1) hd hty ac_byte rfl (fun _ _ h => h) (fun X j e1 e2 => by unfold aV; rw [if_neg (by decide), if_pos (by decide), e1]; rfl) (by decide) (by decide) ha hk hz hn h1 h2 k
theorem wp_newZ {atype : ArrayType} {n a : Nat} {z : Int} (hd : decode μ.2.1 pc = .ok (.newarray atype, 2)) (hty : newarray.typeOf atype = .boolean) (ha : X.2.2 = a) (hk : kd a = (22, n)) (hz : z = (n : Int)) (hn : a < nf) (h1 : ∀ j, I a j = 0) (h2 : ∀ j, X.1 a j = 0) (k : WP l G μ d nf I (X.1, X.2.1, a + 1) (pc + 2) ls (vR a :: st) Q) : WP l G μ d nf I X pc ls (vI z :: st) Q :=
  wp_newarr (t0 := 2) hd hty ac_bool rfl (fun _ _ h => h) (fun X j e1 e2 => by unfold aV; rw [if_neg (by decide), if_pos (by decide), e1]; rfl) (by decide) (by decide) ha hk hz hn h1 h2 k
theorem wp_newJ {atype : ArrayType} {n a : Nat} {z : Int} (hd : decode μ.2.1 pc = .ok (.newarray atype, 2)) (hty : newarray.typeOf atype = .long) (ha : X.2.2 = a) (hk : kd a = (23, n)) (hz : z = (n : Int)) (hn : a < nf) (h1 : ∀ j, I a j = 0) (h2 : ∀ j, X.1 a j = 0) (k : WP l G μ d nf I (X.1, X.2.1, a + 1) (pc + 2) ls (vR a :: st) Q) : WP l G μ d nf I X pc ls (vI z :: st) Q :=
  wp_newarr (t0 := 3) hd hty ac_long rfl (fun _ _ h => h) (fun X j e1 e2 => by unfold aV; rw [if_pos (by decide), e2]; rfl) (by decide) (by decide) ha hk hz hn h1 h2 k
theorem wp_anew {own : String} {idx n a : Nat} {z : Int} (hd : decode μ.2.1 pc = .ok (.anewarray idx, 3)) (ho : μ.1.cls = own) (hw : Cond.classLink own idx "ThreeSundays$State" ∈ gw) (ha : X.2.2 = a) (hk : kd a = (24, n)) (hz : z = (n : Int)) (hn : a < nf) (h3 : ∀ j, X.2.1 a j = none)
    (k : WP l G μ d nf I (X.1, X.2.1, a + 1) (pc + 3) ls (vR a :: st) Q) : WP l G μ d nf I X pc ls (vI z :: st) Q := by
  intro p e R s m args below meth c H locs cells slots n0 cl hF hR hH hL
  have hts := hF.2.2.2.2.2.2.2.1
  have hK := hF.2.2.2.2.2.2.2.2.1.1
  obtain ⟨c1, c2, c3⟩ := rm_more ha hR hn
  have hle := kd_le a
  rw [hk] at c2 c3 hle
  have hle : n ≤ 1600 := hle
  subst hz
  have hnT : a < NT := Nat.lt_of_lt_of_le hn hR.2.2.2.2.2.2.1
  have hs0 : H.size = G.1 + a := by rw [← ha]; exact hH.1.1
  obtain ⟨kA0, comp0, -, -, -, hkA⟩ := (hK.2 4 _ rfl).2
  have e0 : (Int32.ofInt (n : Int)).toNatClampNeg = n := by rw [oi_clamp (by omega) (by omega)]; omega
  refine W.anew (own := own) (C := "ThreeSundays$State") (index := idx) (n := Int32.ofInt (n : Int)) hF.1 hF.2.1 (by rw [← ho]; exact hF.2.2.2.2.2.1) (hts _ hw) (va_AO.use hF.2.2.2.2.2.2.2.2.1.2.2.1) (g := F0 m pc cl ((vI (n : Int) :: st).map (cv G))) rfl hd rfl ?_ (by rw [e0]; omega) c1 (by rw [e0]; exact c2) fun cA kA comp f1 f2 f3 f4 => ?_
  · rw [← oi_0, oi_lt ⟨by omega, by omega⟩ ⟨by omega, by omega⟩]; omega
  have ec : cA = G.2.2.1 24 := Option.some.inj (f1.symm.trans hkA)
  subst ec
  rw [e0]
  generalize hH1 : H.push ({ cls := G.2.2.1 24, slots := Array.replicate n .null, vm := .none } : Cell) = H1
  have z1 : H1.size = G.1 + a + 1 := by rw [← hH1, Array.size_push, hs0]
  have e1 : H1[G.1 + a]? = some (arrV (G.2.2.1 24) n (fun _ => .null)) := by rw [← hs0, ← hH1, Array.getElem?_push_size, ← arrV_new]
  have o1 : ∀ q : Nat, q < G.1 + a → H1[q]? = H[q]? := fun q hq => by rw [← hH1, Array.getElem?_push, if_neg (by omega)]
  have hcell : cellP G I X H1 a := (cellP_ar hk (by decide)).mpr (by
    rw [e1]
    exact congrArg some (arrV_congr fun j hj => by unfold aV; rw [if_neg (by decide), if_neg (by decide), h3 j]; rfl))
  have hrep := rep_more ha hH.1 hnT z1 (fun q hq => (o1 q hq)) hcell
  have w := k p e R s m args below meth c H1 locs (cells + 1) (slots + n) n0 cl hF c3 ⟨hrep, fun q hq => (o1 q (by omega)).trans (hH.2.1 q hq), hH.2.2.1, by have := hH.2.2.2; omega⟩ hL
  refine W.eq (g2 := F0 m (pc + 3) cl ((vR a :: st).map (cv G))) ?_ w
  show F0 m (pc + 3) cl (Value.ref H.size :: st.map (cv G)) = F0 m (pc + 3) cl (Value.ref (ad G a) :: st.map (cv G))
  rw [ad_lt hnT, hs0]
/-- a final field is written in a constructor -/
theorem wp_putfr {own : String} {idx ci n j a r : Nat} (hd : decode μ.2.1 pc = .ok (.putfield idx, 3)) (ho : μ.1.cls = own) (hf : mF own idx ci n j) (hk : kd a = (ci, n)) (ha : a < X.2.2) (hini : μ.1.name = "<init>") (hfin : ∀ q, clT[ci]? = some q → (q.2.1 j).2.2.2 = true ∧ (q.2.1 j).1 = own) (ht : isRefTy (tyT ci j) = true)
    (k : WP l G μ d nf I (X.1, upR X.2.1 a j (some r), X.2.2) (pc + 3) ls st Q) : WP l G μ d nf I X pc ls (vR r :: vR a :: st) Q := by
  intro p e R s m args below meth c H locs cells slots n0 cl hF hR hH hL
  obtain ⟨hc, q, hq, hn, hj, hw⟩ := hf
  have hP := (cellP_ob hk hc).mp (hH.1.2.2 a ha)
  have hK := hF.2.2.2.2.2.2.2.2.1.1
  have hts := hF.2.2.2.2.2.2.2.1
  subst hn
  obtain ⟨hfin, hdecl⟩ := hfin q hq
  have hty := cl_ty hq
  have hap := va_apart (own := own) hts (cl_in hq) (tyT ci) hty (cl_nm hq) hK hq
  have hcin := cl_in hq
  obtain ⟨C, T, N⟩ := q
  simp only at hj hw hfin hty hap hcin hdecl
  obtain ⟨cell, q1, q2, q3, q4⟩ := hP
  obtain ⟨hS, hfc, kC, hkC, hkind⟩ := hK.1 ci _ hq
  obtain ⟨cf, kf, fi, f, hi, hsl⟩ := hS j hj
  have hlay := hts _ (hcin _ (u_in_lay hj))
  unfold u_lay at hlay
  rw [if_pos hfin] at hlay
  have hst := (u_facts hfc hkC (u_lays hts hcin hj) hi).1
  have hown : s.vm.findClass own = some m.cls := by rw [← ho]; exact hF.2.2.2.2.2.1
  have hcf : m.cls = cf := by
    obtain ⟨_, _, c', _, _, _, -, -, hf', -, -, -, hown2, -⟩ := Cond.laysFinal_spec hlay
    have e1 : c' = cf := by have := hi.symm.trans hf'; simp at this; exact this.1.symm
    rw [hdecl] at hown2
    rw [← e1]; exact Option.some.inj (hown.symm.trans hown2)
  have hnr : narrow (tyT ci j) (cv G (vR r)) = cv G (vR r) ∧ fits (tyT ci j) (cv G (vR r)) = true := by
    revert ht
    generalize tyT ci j = t
    intro ht
    cases t <;> first | (exact absurd ht (by decide)) | exact ⟨rfl, rfl⟩
  have h6 := u_fits hfc hkC hkind (Or.inr hlay) hi (hty j hj) hnr.1 hnr.2
  refine W.eq (g2 := F0 m pc cl (cv G (vR r) :: .ref (G.1 + a) :: st.map (cv G))) (by rw [← hp_lt hH ha]; rfl) ?_
  refine W.putFinK hF.1 hF.2.1 hown (by exact hts _ hw) hi hst hcf (by rw [hF.2.2.2.2.2.2.1]; exact hini) (by rw [q2]; exact h6) q1 q3 (by rw [hsl]; exact k2_hasslot (q4 j hj)) rfl rfl hd fun H' e1 e2 e3 => ?_
  rw [hsl] at e1
  have hu : upR X.2.1 a j (some r) a j = some r := if_pos ⟨rfl, rfl⟩
  have hv : fV G I (X.1, upR X.2.1 a j (some r), X.2.2) a (tyT ci j) j = cv G (vR r) := by
    revert ht
    generalize tyT ci j = t
    intro ht
    cases t <;> first | (exact absurd ht (by decide)) | (simp [fV, hu]; rfl)
  have hcell : cellP G I (X.1, upR X.2.1 a j (some r), X.2.2) H' a := (cellP_ob hk hc).mpr (t_OB.to (V := updV (fun j => fV G I X a (tyT ci j) j) j (cv G (vR r))) ⟨_, e1, q2, q3, t_set q4 hap hj (cv G (vR r))⟩ (fun i _ => by
    unfold updV
    by_cases e : i = j
    · rw [if_pos e, e, hv]
    · rw [if_neg e]
      have hne : upR X.2.1 a j (some r) a i = X.2.1 a i := if_neg (fun z => e z.2)
      exact (fV_congr (I := I) (X := X) (X' := (X.1, upR X.2.1 a j (some r), X.2.2)) rfl rfl hne).symm))
  exact k p e R s m args below meth c H' _ cells slots n0 cl hF hR (hp_set hH e2 rfl e3 (fun _ _ _ => rfl) (fun _ _ _ => rfl) (fun b i hb => if_neg (fun z => hb z.1)) hcell) hL
/-- a place of an array of States is written -/
theorem wp_aast {a v n : Nat} {i : Int} (hd : decode μ.2.1 pc = .ok (.aastore, 1)) (hk : kd a = (24, n)) (ha : a < X.2.2) (hkv : kd v = (7, 1)) (hv : v < X.2.2) (h0 : 0 ≤ i) (h1 : i < n)
    (k : WP l G μ d nf I (X.1, upR X.2.1 a i.toNat (some v), X.2.2) (pc + 1) ls st Q) : WP l G μ d nf I X pc ls (vR v :: vI i :: vR a :: st) Q := by
  intro p e R s m args below meth c H locs cells slots n0 cl hF hR hH hL
  have hK := hF.2.2.2.2.2.2.2.2.1.1
  have hle := kd_le a
  rw [hk] at hle
  have hle : n ≤ 1600 := hle
  have hca := (cellP_ar hk (by decide)).mp (hH.1.2.2 a ha)
  obtain ⟨cellV, g1, g2, g3, -⟩ := (cellP_ob hkv (by decide)).mp (hH.1.2.2 v hv)
  have hcls := (hK.1 7 _ rfl).2
  obtain ⟨kA, comp, k1, k2, k3, -⟩ := (hK.2 4 _ rfl).2
  have hcomp : comp = G.2.1.1 7 := Option.some.inj (k3.symm.trans hcls.1)
  subst hcomp
  obtain ⟨kC, hkC, hkC2⟩ := hcls.2
  have e0 : (Int32.ofInt i).toNatClampNeg = i.toNat := oi_clamp h0 (by omega)
  refine W.eq (g2 := F0 m pc cl (.ref (G.1 + v) :: .int (Int32.ofInt i) :: .ref (G.1 + a) :: st.map (cv G))) (by rw [← hp_lt hH ha, ← hp_lt hH hv]; rfl) ?_
  refine W.aast hF.1 hF.2.1 hca (fun q h => by cases h) (fun h => by cases h) k1 k2 rfl hkC ⟨?_, ?_⟩ g1 (fun q h => by rw [g3] at h; cases h) (by rw [g2]; exact hkC) (by rw [g2]; exact va_assign hcls) rfl rfl hd fun H1 e1 z1 oq => ?_
  · rw [← oi_0, oi_lt ⟨by omega, by omega⟩ ⟨by omega, by omega⟩]; omega
  · show _ < (arrV _ _ _).slots.size
    rw [arrV_size, e0]
    omega
  rw [e0] at e1 ⊢
  have hcell : cellP G I (X.1, upR X.2.1 a i.toNat (some v), X.2.2) H1 a := (cellP_ar hk (by decide)).mpr (by
    rw [e1, arrV_store]
    refine congrArg some (arrV_congr fun j hj => ?_)
    unfold updV
    by_cases e : j = i.toNat
    · rw [if_pos e, e]
      unfold aV
      rw [if_neg (by decide), if_neg (by decide)]
      show Value.ref (G.1 + v) = va_rf ((upR X.2.1 a i.toNat (some v) a i.toNat).map (ad G))
      rw [show upR X.2.1 a i.toNat (some v) a i.toNat = some v from if_pos ⟨rfl, rfl⟩, ← hp_lt hH hv]
      rfl
    · rw [if_neg e]
      have hne : upR X.2.1 a i.toNat (some v) a j = X.2.1 a j := if_neg (fun z => e z.2)
      exact (aV_congr (I := I) (X := X) (X' := (X.1, upR X.2.1 a i.toNat (some v), X.2.2)) rfl rfl hne).symm)
  exact k p e R s m args below meth c H1 _ cells slots n0 cl hF hR (hp_set hH z1 rfl oq (fun _ _ _ => rfl) (fun _ _ _ => rfl) (fun b i hb => if_neg (fun z => hb z.1)) hcell) hL
/-- own's entry idx is the constructor y, of n parameters -/
def mCi (own : String) (idx : Nat) (y : mM) (n : Nat) : Prop := Cond.methodLink own idx y.1 ∈ gw ∧ Cond.instanceMethod y.1 ∈ gw ∧ y.1.name = "<init>" ∧ Cond.initialized y.1.cls ∈ gw ∧ cdM y ∈ gw ∧
  (plainName y.1.cls = true ∧ y.1.cls ≠ "java/lang/invoke/MethodHandle" ∧ y.1.cls ≠ "java/lang/invoke/VarHandle" ∧ (parseMethodDescriptor y.1.desc).map (fun d => d.parameters.length) = some n ∧ y.2.2.1 ≤ 45)
def mCn (own : String) (idx : Nat) (y : mM) (n : Nat) : Prop := Cond.methodLinkNest own idx y.1 "ThreeSundays" ∈ nestW ∧ Cond.instanceMethod y.1 ∈ gw ∧ y.1.name = "<init>" ∧ Cond.initialized y.1.cls ∈ gw ∧ cdM y ∈ gw ∧
  (plainName y.1.cls = true ∧ y.1.cls ≠ "java/lang/invoke/MethodHandle" ∧ y.1.cls ≠ "java/lang/invoke/VarHandle" ∧ (parseMethodDescriptor y.1.desc).map (fun d => d.parameters.length) = some n ∧ y.2.2.1 ≤ 45)
theorem wp_callI {own : String} {idx n a nf' : Nat} {yn : MethodName} {yc : ByteArray} {yl : Nat} (vs : List mV) (ls0 : List (Option mV)) {st1 : List mV} (hd : decode μ.2.1 pc = .ok (.invokespecial idx, 3)) (ho : μ.1.cls = own) (hc : mCi own idx (yn, yc, yl, none) n) (hvn : vs.length = n)
    (hent : entL yl (vR a :: vs) = ls0) (hel : (entS (vR a :: vs)).length ≤ yl) (hst1 : st1 = vs.reverse ++ vR a :: st) (hcat : (st.map mcat).sum ≤ 8) (hdp : 0 < d) (hn1 : X.2.2 ≤ nf') (hn2 : nf' ≤ nf)
    (k : WP l G (yn, yc, yl, none) (d - 1) nf' I X 0 ls0 [] (fun v I' X' => WP l G μ d nf I' X' (pc + 3) ls (v.toList ++ st) Q)) : WP l G μ d nf I X pc ls st1 Q := by
  intro p e R s m args below meth c H locs cells slots n0 cl hF hR hH hL
  obtain ⟨g1, g2, g3, g4, g5, g6, g7, g8, g9, g10⟩ := hc
  have hts := hF.2.2.2.2.2.2.2.1
  have hnT : nf' ≤ NT := Nat.le_trans hn2 hR.2.2.2.2.2.2.1
  subst hent
  have hM := met_of (vs := vR a :: vs) (μ := (yn, yc, yl, none)) g6 hel hn1 hnT k
  subst hst1
  obtain ⟨r1, r2, r3, r4, r5, r6, r7, r8, r9⟩ := hR
  have hsl := sl_mono X.2.2 nf' hn1 hnT
  have hsl0 := sl_mono n0 X.2.2 r5 (by omega)
  have hsl1 := sl_mono nf' nf hn2 r7
  have g10 : yl ≤ 45 := g10
  refine wp_back (Q' := fun v I' X' => WP l G μ d nf I' X' (pc + 3) ls (v.toList ++ st) Q) (y := (yn, yc, yl, none)) hF ⟨r1, r2, r3, r4, r5, r6, r7, r8, r9⟩ hH hL hn1 hn2 (va_runI (As := vs.map (cv G)) (b := ad G a) (n := n) (index := idx) (own := own) (Ts := gw) (cc := μ.2.1) (nL := μ.2.2.1) ⟨hF.1, hF.2.1, hF.2.2.2.2.1, by rw [← ho]; exact hF.2.2.2.2.2.1, hts⟩ hM
    ⟨callB_of n hts (good_cd g5) rfl rfl rfl (hts _ g4) (hts _ g1) ⟨g7, g8, g9⟩ ⟨?_, ?_⟩, g3, hts _ g2⟩ ⟨PcM_blind G I X _, fun U hU hW => ⟨rfl, by rw [hU]; exact hH.1, KK.warm hW hF.2.2.2.2.2.2.2.2.1, ?_⟩⟩ rfl (by simpa using hvn) hL.1 ?_ ?_ hd ⟨?_, ?_⟩) (fun v I' X' h _ => h)
  · show d - 1 + 1 ≤ R.frames
    omega
  · show 8 + (yl + 11) + 64 * (d - 1) ≤ R.locals
    omega
  · rw [hU]
    exact KH.moved hW.alike (hF.2.2.2.2.2.2.2.2.2.1.kept (fun q hq => hH.2.1 q hq))
  · show (vs.reverse ++ vR a :: st).map (cv G) = _
    simp [cv]
  · exact lv_room (by rw [cat_map]; exact hcat)
  · show cells + (nf' - X.2.2) ≤ R.cells
    omega
  · show slots + (sl nf' - sl X.2.2) ≤ R.slots
    omega
theorem wp_callN {own : String} {idx n a nf' : Nat} {yn : MethodName} {yc : ByteArray} {yl : Nat} (vs : List mV) (ls0 : List (Option mV)) {st1 : List mV} (hd : decode μ.2.1 pc = .ok (.invokespecial idx, 3)) (ho : μ.1.cls = own) (hc : mCn own idx (yn, yc, yl, none) n) (hvn : vs.length = n)
    (hent : entL yl (vR a :: vs) = ls0) (hel : (entS (vR a :: vs)).length ≤ yl) (hst1 : st1 = vs.reverse ++ vR a :: st) (hcat : (st.map mcat).sum ≤ 8) (hdp : 0 < d) (hn1 : X.2.2 ≤ nf') (hn2 : nf' ≤ nf)
    (k : WP l G (yn, yc, yl, none) (d - 1) nf' I X 0 ls0 [] (fun v I' X' => WP l G μ d nf I' X' (pc + 3) ls (v.toList ++ st) Q)) : WP l G μ d nf I X pc ls st1 Q := by
  intro p e R s m args below meth c H locs cells slots n0 cl hF hR hH hL
  obtain ⟨g1, g2, g3, g4, g5, g6, g7, g8, g9, g10⟩ := hc
  have hts := hF.2.2.2.2.2.2.2.1
  have hnT : nf' ≤ NT := Nat.le_trans hn2 hR.2.2.2.2.2.2.1
  subst hent
  have hM := met_of (vs := vR a :: vs) (μ := (yn, yc, yl, none)) g6 hel hn1 hnT k
  subst hst1
  obtain ⟨r1, r2, r3, r4, r5, r6, r7, r8, r9⟩ := hR
  have hsl := sl_mono X.2.2 nf' hn1 hnT
  have hsl0 := sl_mono n0 X.2.2 r5 (by omega)
  have hsl1 := sl_mono nf' nf hn2 r7
  have g10 : yl ≤ 45 := g10
  refine wp_back (Q' := fun v I' X' => WP l G μ d nf I' X' (pc + 3) ls (v.toList ++ st) Q) (y := (yn, yc, yl, none)) hF ⟨r1, r2, r3, r4, r5, r6, r7, r8, r9⟩ hH hL hn1 hn2 (va_runIN (host := "ThreeSundays") (As := vs.map (cv G)) (b := ad G a) (n := n) (index := idx) (own := own) (Ts := gw) (cc := μ.2.1) (nL := μ.2.2.1) ⟨hF.1, hF.2.1, hF.2.2.2.2.1, by rw [← ho]; exact hF.2.2.2.2.2.1, hts⟩ hM
    ⟨va_cnB n hts (good_cd g5) rfl rfl rfl (hF.2.2.2.2.2.2.2.2.1.2.1 _ g1) (hts _ g4) ⟨g7, g8, g9⟩ ⟨?_, ?_⟩, g3, hts _ g2⟩ ⟨PcM_blind G I X _, fun U hU hW => ⟨rfl, by rw [hU]; exact hH.1, KK.warm hW hF.2.2.2.2.2.2.2.2.1, ?_⟩⟩ rfl (by simpa using hvn) hL.1 ?_ ?_ hd ⟨?_, ?_⟩) (fun v I' X' h _ => h)
  · show d - 1 + 1 ≤ R.frames
    omega
  · show 8 + (yl + 11) + 64 * (d - 1) ≤ R.locals
    omega
  · rw [hU]
    exact KH.moved hW.alike (hF.2.2.2.2.2.2.2.2.2.1.kept (fun q hq => hH.2.1 q hq))
  · show (vs.reverse ++ vR a :: st).map (cv G) = _
    simp [cv]
  · exact lv_room (by rw [cat_map]; exact hcat)
  · show cells + (nf' - X.2.2) ≤ R.cells
    omega
  · show slots + (sl nf' - sl X.2.2) ≤ R.slots
    omega
end MAKE
