/-! THE MACHINE: cells by number, ints as Int. kinds 0..11: objects of the classes X0..X11; 20 int[], 21 byte[], 22 boolean[], 23 long[], 24 State[], 25 int[][] -/
abbrev mV : Type := Int ⊕ (Int ⊕ Nat)
abbrev vI (z : Int) : mV := Sum.inl z
abbrev vJ (z : Int) : mV := Sum.inr (Sum.inl z)
abbrev vR (a : Nat) : mV := Sum.inr (Sum.inr a)
abbrev mI : Type := Nat → Nat → Int
abbrev mX : Type := (Nat → Nat → Int) × (Nat → Nat → Option Nat) × Nat
abbrev mM : Type := MethodName × ByteArray × Nat × Option FieldType
abbrev mG : Type := Nat × va_G × (Nat → ClassId) × (Nat → Nat) × (Nat × (Nat → Int32))
abbrev NT : Nat := 153
def kdL : List (Nat × Nat) := [(10, 12), (9, 18), (23, 4), (23, 8), (20, 8), (20, 8), (20, 8), (20, 5), (20, 5), (20, 5), (20, 5), (0, 6), (20, 8), (20, 8), (20, 8), (20, 8), (20, 64), (20, 64), (1, 4), (20, 300), (20, 40), (9, 18), (23, 4), (23, 8), (20, 8), (20, 8), (20, 8), (20, 5), (20, 5), (20, 5), (20, 5), (0, 6), (20, 8), (20, 8), (20, 8), (20, 8), (20, 64), (20, 64), (1, 4), (20, 300), (20, 40), (8, 8), (21, 1600), (23, 21), (4, 5), (3, 2), (20, 4), (7, 1), (20, 30), (7, 1), (20, 30), (2, 4), (25, 41), (20, 30), (20, 30), (20, 30), (20, 30), (20, 30), (20, 30), (20, 30), (20, 30), (20, 30), (20, 30), (20, 30), (20, 30), (20, 30), (20, 30), (20, 30), (20, 30), (20, 30), (20, 30), (20, 30), (20, 30), (20, 30), (20, 30), (20, 30), (20, 30), (20, 30), (20, 30), (20, 30), (20, 30), (20, 30), (20, 30), (20, 30), (20, 30), (20, 30), (20, 30), (20, 30), (20, 30), (20, 30), (20, 30), (20, 30), (20, 30), (20, 30), (24, 3), (7, 1), (20, 30), (7, 1), (20, 30), (7, 1), (20, 30), (6, 3), (20, 32), (20, 32), (5, 8), (20, 30), (20, 30), (20, 30), (22, 30), (20, 30), (20, 30), (11, 81), (20, 1600), (23, 12), (20, 320), (20, 320), (20, 320), (20, 320), (20, 160), (20, 64), (20, 4), (20, 8), (20, 16), (20, 8), (20, 8), (20, 8), (20, 5), (20, 5), (20, 10), (20, 8), (20, 16), (20, 8), (20, 8), (20, 8), (20, 5), (20, 5), (22, 8), (22, 8), (20, 64), (20, 30), (20, 30), (20, 4), (20, 1200), (22, 1024), (22, 1024), (20, 30), (20, 30), (20, 30), (20, 30), (20, 30), (22, 30), (22, 3), (20, 90)]
def kd (a : Nat) : Nat × Nat := kdL.getD a (99, 0)
def slL : List Nat := [0, 12, 30, 34, 42, 50, 58, 66, 71, 76, 81, 86, 92, 100, 108, 116, 124, 188, 252, 256, 556, 596, 614, 618, 626, 634, 642, 650, 655, 660, 665, 670, 676, 684, 692, 700, 708, 772, 836, 840, 1140, 1180, 1188, 2788, 2809, 2814, 2816, 2820, 2821, 2851, 2852, 2882, 2886, 2927, 2957, 2987, 3017, 3047, 3077, 3107, 3137, 3167, 3197, 3227, 3257, 3287, 3317, 3347, 3377, 3407, 3437, 3467, 3497, 3527, 3557, 3587, 3617, 3647, 3677, 3707, 3737, 3767, 3797, 3827, 3857, 3887, 3917, 3947, 3977, 4007, 4037, 4067, 4097, 4127, 4157, 4160, 4161, 4191, 4192, 4222, 4223, 4253, 4256, 4288, 4320, 4328, 4358, 4388, 4418, 4448, 4478, 4508, 4589, 6189, 6201, 6521, 6841, 7161, 7481, 7641, 7705, 7709, 7717, 7733, 7741, 7749, 7757, 7762, 7767, 7777, 7785, 7801, 7809, 7817, 7825, 7830, 7835, 7843, 7851, 7915, 7945, 7975, 7979, 9179, 10203, 11227, 11257, 11287, 11317, 11347, 11377, 11407, 11410, 11500]
def sl (n : Nat) : Nat := slL.getD n 11500
abbrev clT : List vw_C := [(RX0, TX0, 6), (RX1, TX1, 4), (RX2, TX2, 4), (RX3, TX3, 2), (RX4, TX4, 5), (RX5, TX5, 8), (RX6, TX6, 3), (RX7, TX7, 1), (RX8, TX8, 8), (RX9, TX9, 18), (RX10, TX10, 12), (RX11, TX11, 81)]
def tyT (c : Nat) : Nat → FieldType := match c with
  | 0 => tyX0
  | 1 => tyX1
  | 2 => tyX2
  | 3 => tyX3
  | 4 => tyX4
  | 5 => tyX5
  | 6 => tyX6
  | 7 => tyX7
  | 8 => tyX8
  | 9 => tyX9
  | 10 => tyX10
  | _ => tyX11
def gw : List Cond := lw_tbl.filter goodWord
theorem gw_of {w : Cond} (h : w ∈ tables_1) (hg : goodWord w = true) : w ∈ gw := List.mem_filter.mpr ⟨List.mem_append_right _ h, hg⟩
theorem gw_sel {w : Cond} (h : w ∈ k2_sels lw_privs) (hg : goodWord w = true) : w ∈ gw := List.mem_filter.mpr ⟨List.mem_append_left _ h, hg⟩
theorem gw_good {w : Cond} (h : w ∈ gw) : (w.onTables && w.keeps) = true ∨ ∃ ty, w = .arrayClass ty := good_of_word (List.mem_filter.mp h).2
def ad (G : mG) (k : Nat) : Nat := if k < 1000 then G.1 + k else G.2.2.2.1 (k - 1000)
def cv (G : mG) : mV → Value
  | .inl z => .int (Int32.ofInt z)
  | .inr (.inl z) => .long (Int64.ofInt z)
  | .inr (.inr a) => .ref (ad G a)
def mcat : mV → Nat
  | .inl _ => 1
  | .inr (.inl _) => 2
  | .inr (.inr _) => 1
theorem cv_cat (G : mG) (v : mV) : (cv G v).category = mcat v := by
  rcases v with z | z | a <;> rfl
/-- locals -/
def lr (G : mG) (cl : Array Slot) (nL : Nat) (ls : List (Option mV)) : Prop := cl.size = nL ∧ lv_wf cl ∧ ∀ (i : Nat) (v : mV), ls[i]? = some (some v) → cl[i]? = some (.val (cv G v))
/-- what an object's field, an array's place holds -/
def fV (G : mG) (I : mI) (X : mX) (a : Nat) (ty : FieldType) (j : Nat) : Value := match ty with
  | .int => .int (Int32.ofInt (I a j))
  | .boolean => .int (Int32.ofInt (I a j))
  | .long => .long (Int64.ofInt (X.1 a j))
  | _ => va_rf ((X.2.1 a j).map (ad G))
def aV (G : mG) (I : mI) (X : mX) (k a j : Nat) : Value := if k = 23 then .long (Int64.ofInt (X.1 a j)) else if k < 23 then .int (Int32.ofInt (I a j)) else va_rf ((X.2.1 a j).map (ad G))
def cellP (G : mG) (I : mI) (X : mX) (H : Heap) (a : Nat) : Prop :=
  if (kd a).1 < 20 then t_OB (G.1 + a) (G.2.1.1 (kd a).1) (kd a).2 (G.2.1.2 (kd a).1) H (fun j => fV G I X a (tyT (kd a).1 j) j)
  else H[G.1 + a]? = some (arrV (G.2.2.1 (kd a).1) (kd a).2 (aV G I X (kd a).1 a))
def rep (G : mG) (I : mI) (X : mX) (H : Heap) : Prop := H.size = G.1 + X.2.2 ∧ X.2.2 ≤ NT ∧ ∀ a, a < X.2.2 → cellP G I X H a
abbrev tyG (G : mG) : List (ClassId × FieldType) := [(G.2.2.1 20, .int), (G.2.2.1 21, .byte), (G.2.2.1 22, .boolean), (G.2.2.1 23, .long), (G.2.2.1 24, .object "ThreeSundays$State"), (G.2.2.1 25, .array .int)]
/-- the seven constructors that are a nest mate's own -/
def nestW : List Cond := [.methodLinkNest "ThreeSundays" 9 yX9_init "ThreeSundays", .methodLinkNest "ThreeSundays$Town" 42 yX0_init "ThreeSundays", .methodLinkNest "ThreeSundays$Town" 49 yX1_init "ThreeSundays", .methodLinkNest "ThreeSundays" 46 yX7_init "ThreeSundays", .methodLinkNest "ThreeSundays" 56 yX2_init "ThreeSundays", .methodLinkNest "ThreeSundays" 67 yX6_init "ThreeSundays", .methodLinkNest "ThreeSundays" 74 yX5_init "ThreeSundays"]
def strL : List (Nat × String) := [(19, "church person in of and vow sails knows spites pair at hears degree calls draw or not sunday read seated own"), (81, ";()<>=+-*/%")]
def strB (i : Nat) : List Int32 := (((strL.getD i (0, "")).2).toList.map (fun ch => nI ch.toNat))
/-- what the tables and the classes say -/
def KK (G : mG) (U : State) : Prop := va_K G.2.1 clT (tyG G) U ∧ (∀ w ∈ nestW, va_Nw w U) ∧ (Cond.arrayOver (.object "ThreeSundays$State")).before #[] U = true ∧ (Cond.arrayOver (.array .int)).before #[] U = true ∧
  vk_R "ThreeSundays$Tape" 19 (strL.getD 0 (0, "")).2 (ad G 1001) U ∧ vk_R "ThreeSundays$Tape" 81 (strL.getD 1 (0, "")).2 (ad G 1002) U
/-- what lies below: the script, the texts, a static -/
def KH (G : mG) (U : State) (H : Heap) : Prop := (va_X (ad G 1000) G.2.2.2.2.1 G.2.2.2.2.2 U H ∧ ad G 1000 < G.1) ∧
  vk_S 2 [(strB 0).length, (strB 1).length] [strB 0, strB 1] (fun i => ad G (1001 + i)) (fun i => ad G (1003 + i)) (fun q => G.1 ≤ q) U H ∧
  va_Z "java/lang/String" "COMPACT_STRINGS" "Z" (.int 1) (fun q => G.1 ≤ q) U H ∧
  va_Zq "jdk/internal/util/Preconditions" "SIOOBE_FORMATTER" "Ljava/util/function/BiFunction;" (fun q => G.1 ≤ q) U H
def Fx (G : mG) (μ : mM) (p : Program) (s : State) (m : MethodId) (args : Array Value) (meth : Method) (c : Code) : Prop :=
  p.tables.exec = Jvm.exec ∧ c.code = μ.2.1 ∧ meth.sig.returnType = μ.2.2.2 ∧ meth.locks = false ∧ c.maxLocals = μ.2.2.1 ∧ s.vm.findClass μ.1.cls = some m.cls ∧ meth.name = μ.1.name ∧
  (∀ w ∈ gw, w.before args s = true) ∧ KK G s ∧ KH G s s.heap ∧ G.1 ≤ s.heap.size
def Rm (d nf n n0 : Nat) (R : Room) (cells slots : Nat) : Prop :=
  d ≤ R.frames ∧ 64 * d ≤ R.locals ∧ nf - n0 ≤ R.cells ∧ sl nf - sl n0 ≤ R.slots ∧ n0 ≤ n ∧ n ≤ nf ∧ nf ≤ NT ∧ cells = n - n0 ∧ slots = sl n - sl n0
def Hp (G : mG) (I : mI) (X : mX) (s : State) (H : Heap) (locs : List Loc) : Prop :=
  rep G I X H ∧ (∀ q : Nat, q < G.1 → H[q]? = s.heap[q]?) ∧ (∀ q ∈ locs, G.1 ≤ q.base) ∧ s.heap.size ≤ H.size
abbrev mQ : Type := Option mV → mI → mX → Prop
def Qc (G : mG) (nf : Nat) (Q : mQ) : Array Value → State → Outcome → State → Prop := fun _ st oc t =>
  ∃ (v : Option mV) (I : mI) (X : mX), Q v I X ∧ X.2.2 = nf ∧ oc = .returned (v.map (cv G)) ∧ rep G I X t.heap ∧ ∀ q : Nat, q < G.1 → t.heap[q]? = st.heap[q]?
/-- THE JUDGEMENT: from here the method returns, with Q of its answer and the memory -/
def WP (l : Launch) (G : mG) (μ : mM) (d nf : Nat) (I : mI) (X : mX) (pc : Nat) (ls : List (Option mV)) (st : List mV) (Q : mQ) : Prop :=
  ∀ (p : Program) (e : Env) (R : Room) (s : State) (m : MethodId) (args : Array Value) (below : List Frame) (meth : Method) (c : Code) (H : Heap) (locs : List Loc) (cells slots n0 : Nat) (cl : Array Slot),
    Fx G μ p s m args meth c → Rm d nf X.2.2 n0 R cells slots → Hp G I X s H locs → lr G cl μ.2.2.1 ls →
    W p l e R s m args below meth c H locs cells slots (MQ below (Qc G nf Q) args s (nf - n0) (sl nf - sl n0) (fun q => G.1 ≤ q)) (F0 m pc cl (st.map (cv G)))
section MACH
variable {l : Launch} {G : mG} {μ : mM} {d nf : Nat} {I : mI} {X : mX} {pc : Nat} {ls : List (Option mV)} {st : List mV} {Q : mQ}
/-- a step that touches the stack alone -/
theorem wp_pure {pc' : Nat} {st' : List mV}
    (h : ∀ (p : Program) (e : Env) (R : Room) (s : State) (m : MethodId) (args : Array Value) (below : List Frame) (meth : Method) (c : Code) (H : Heap) (locs : List Loc) (cells slots : Nat) (cl : Array Slot) (Qw : State → Prop), Fx G μ p s m args meth c → lr G cl μ.2.2.1 ls →
      W p l e R s m args below meth c H locs cells slots Qw (F0 m pc' cl (st'.map (cv G))) → W p l e R s m args below meth c H locs cells slots Qw (F0 m pc cl (st.map (cv G))))
    (k : WP l G μ d nf I X pc' ls st' Q) : WP l G μ d nf I X pc ls st Q := by
  intro p e R s m args below meth c H locs cells slots n0 cl hF hR hH hL
  exact h p e R s m args below meth c H locs cells slots cl _ hF hL (k p e R s m args below meth c H locs cells slots n0 cl hF hR hH hL)
theorem wp_iconst {n : Int} (hd : decode μ.2.1 pc = .ok (.iconst n, 1)) (k : WP l G μ d nf I X (pc + 1) ls (vI n :: st) Q) : WP l G μ d nf I X pc ls st Q :=
  wp_pure (fun p e R s m args below meth c H locs cells slots cl Qw hF hL w => lv_iconst hF.1 hF.2.1 hd rfl w) k
theorem wp_bipush {n : Int} (hd : decode μ.2.1 pc = .ok (.bipush n, 2)) (hz : (Int8.ofInt n).toInt32 = Int32.ofInt n) (k : WP l G μ d nf I X (pc + 2) ls (vI n :: st) Q) : WP l G μ d nf I X pc ls st Q :=
  wp_pure (fun p e R s m args below meth c H locs cells slots cl Qw hF hL w => lv_bipush hF.1 hF.2.1 hd hz w) k
theorem wp_sipush {n : Int} (hd : decode μ.2.1 pc = .ok (.sipush n, 3)) (hz : (Int16.ofInt n).toInt32 = Int32.ofInt n) (k : WP l G μ d nf I X (pc + 3) ls (vI n :: st) Q) : WP l G μ d nf I X pc ls st Q :=
  wp_pure (fun p e R s m args below meth c H locs cells slots cl Qw hF hL w => lv_sipush hF.1 hF.2.1 hd hz w) k
theorem wp_lconst {n : Fin 2} {z : Int} (hd : decode μ.2.1 pc = .ok (.lconst n, 1)) (hz : ((n : Nat) : Int) = z) (k : WP l G μ d nf I X (pc + 1) ls (vJ z :: st) Q) : WP l G μ d nf I X pc ls st Q :=
  wp_pure (fun p e R s m args below meth c H locs cells slots cl Qw hF hL w => lv_lconst hF.1 hF.2.1 hd (by subst hz; match n with
    | 0 => rfl
    | 1 => rfl) w) k
theorem wp_ldc {own : String} {i : Nat} {v : Int32} {z : Int} (hd : decode μ.2.1 pc = .ok (.ldc i, 2)) (ho : μ.1.cls = own) (hw : Cond.constant own i v ∈ gw) (hz : Int32.ofInt z = v) (k : WP l G μ d nf I X (pc + 2) ls (vI z :: st) Q) : WP l G μ d nf I X pc ls st Q :=
  wp_pure (fun p e R s m args below meth c H locs cells slots cl Qw hF hL w => lv_ldc (own := own) hF.1 hF.2.1 (by rw [← ho]; exact hF.2.2.2.2.2.1) (hF.2.2.2.2.2.2.2.1 _ hw) hd (by rw [← hz]; exact w)) k
theorem wp_ldcw {own : String} {i : Nat} {v : Int32} {z : Int} (hd : decode μ.2.1 pc = .ok (.ldc_w i, 3)) (ho : μ.1.cls = own) (hw : Cond.constant own i v ∈ gw) (hz : Int32.ofInt z = v) (k : WP l G μ d nf I X (pc + 3) ls (vI z :: st) Q) : WP l G μ d nf I X pc ls st Q :=
  wp_pure (fun p e R s m args below meth c H locs cells slots cl Qw hF hL w => lv_ldcw (own := own) hF.1 hF.2.1 (by rw [← ho]; exact hF.2.2.2.2.2.1) (hF.2.2.2.2.2.2.2.1 _ hw) hd (by rw [← hz]; exact w)) k
theorem wp_ldc2 {own : String} {i : Nat} {v : Int64} {z : Int} (hd : decode μ.2.1 pc = .ok (.ldc2_w i, 3)) (ho : μ.1.cls = own) (hw : Cond.constantLong own i v ∈ gw) (hz : Int64.ofInt z = v) (k : WP l G μ d nf I X (pc + 3) ls (vJ z :: st) Q) : WP l G μ d nf I X pc ls st Q :=
  wp_pure (fun p e R s m args below meth c H locs cells slots cl Qw hF hL w => lv_ldc2 (own := own) hF.1 hF.2.1 (by rw [← ho]; exact hF.2.2.2.2.2.1) (hF.2.2.2.2.2.2.2.1 _ hw) hd (by rw [← hz]; exact w)) k
/-! locals -/
theorem wp_iload_n {n : Fin 4} {x : Int} (i : Nat) (hd : decode μ.2.1 pc = .ok (.iload_n n, 1)) (hi : (n : Nat) = i) (hl : ls[i]? = some (some (vI x))) (k : WP l G μ d nf I X (pc + 1) ls (vI x :: st) Q) : WP l G μ d nf I X pc ls st Q :=
  wp_pure (fun p e R s m args below meth c H locs cells slots cl Qw hF hL w => lv_iload_n hF.1 hF.2.1 hd hi (hL.2.2 i (vI x) hl) w) k
theorem wp_iload {i : Nat} {x : Int} (hd : decode μ.2.1 pc = .ok (.iload i, 2)) (hl : ls[i]? = some (some (vI x))) (k : WP l G μ d nf I X (pc + 2) ls (vI x :: st) Q) : WP l G μ d nf I X pc ls st Q :=
  wp_pure (fun p e R s m args below meth c H locs cells slots cl Qw hF hL w => lv_iload hF.1 hF.2.1 hd (hL.2.2 i (vI x) hl) w) k
theorem wp_lload_n {n : Fin 4} {x : Int} (i : Nat) (hd : decode μ.2.1 pc = .ok (.lload_n n, 1)) (hi : (n : Nat) = i) (hl : ls[i]? = some (some (vJ x))) (k : WP l G μ d nf I X (pc + 1) ls (vJ x :: st) Q) : WP l G μ d nf I X pc ls st Q :=
  wp_pure (fun p e R s m args below meth c H locs cells slots cl Qw hF hL w => lv_lload_n hF.1 hF.2.1 hd hi (hL.2.2 i (vJ x) hl) w) k
theorem wp_lload {i : Nat} {x : Int} (hd : decode μ.2.1 pc = .ok (.lload i, 2)) (hl : ls[i]? = some (some (vJ x))) (k : WP l G μ d nf I X (pc + 2) ls (vJ x :: st) Q) : WP l G μ d nf I X pc ls st Q :=
  wp_pure (fun p e R s m args below meth c H locs cells slots cl Qw hF hL w => lv_lload hF.1 hF.2.1 hd (hL.2.2 i (vJ x) hl) w) k
theorem wp_aload_n {n : Fin 4} {x : Nat} (i : Nat) (hd : decode μ.2.1 pc = .ok (.aload_n n, 1)) (hi : (n : Nat) = i) (hl : ls[i]? = some (some (vR x))) (k : WP l G μ d nf I X (pc + 1) ls (vR x :: st) Q) : WP l G μ d nf I X pc ls st Q :=
  wp_pure (fun p e R s m args below meth c H locs cells slots cl Qw hF hL w => lv_aload_n hF.1 hF.2.1 hd hi (hL.2.2 i (vR x) hl) w) k
theorem wp_aload {i : Nat} {x : Nat} (hd : decode μ.2.1 pc = .ok (.aload i, 2)) (hl : ls[i]? = some (some (vR x))) (k : WP l G μ d nf I X (pc + 2) ls (vR x :: st) Q) : WP l G μ d nf I X pc ls st Q :=
  wp_pure (fun p e R s m args below meth c H locs cells slots cl Qw hF hL w => lv_aload hF.1 hF.2.1 hd (hL.2.2 i (vR x) hl) w) k
/-- the locals as the kit lists them -/
def lsA (G : mG) (ls : List (Option mV)) : List (Nat × Value) := (List.range ls.length).filterMap (fun i => (ls[i]?.getD none).map (fun v => (i, cv G v)))
theorem lsA_mem {q : Nat × Value} (h : q ∈ lsA G ls) : ∃ v, ls[q.1]? = some (some v) ∧ q.2 = cv G v := by
  obtain ⟨i, hi, he⟩ := List.mem_filterMap.mp h
  have hlt := List.mem_range.mp hi
  rw [List.getElem?_eq_getElem hlt] at he
  cases hv : ls[i] with
  | none => simp [hv] at he
  | some v =>
    simp [hv] at he
    subst he
    exact ⟨v, by rw [List.getElem?_eq_getElem hlt, hv], rfl⟩
theorem lsA_of {i : Nat} {v : mV} (h : ls[i]? = some (some v)) : (i, cv G v) ∈ lsA G ls := by
  refine List.mem_filterMap.mpr ⟨i, List.mem_range.mpr (List.getElem?_eq_some_iff.mp h).1, ?_⟩
  rw [h]
  rfl
theorem lr_has {cl : Array Slot} {nL : Nat} (h : lr G cl nL ls) : lv_has cl nL (lsA G ls) := ⟨h.1, h.2.1, fun q hq => by
  obtain ⟨v, h1, h2⟩ := lsA_mem hq
  rw [h2]
  exact h.2.2 q.1 v h1⟩
/-- no long begins just ahead of i -/
def nj (ls : List (Option mV)) (i : Nat) : Bool := match i with
  | 0 => true
  | j + 1 => match ls[j]? with
    | some (some (.inr (.inl _))) => false
    | _ => true
theorem nj_spec {i j : Nat} {v : mV} (h : nj ls i = true) (hj : j + 1 = i) (hv : ls[j]? = some (some v)) : mcat v ≠ 2 := by
  subst hj
  rcases v with z | z | a
  · show 1 ≠ 2
    decide
  · simp [nj, hv] at h
  · show 1 ≠ 2
    decide
theorem lr_set1 {cl' : Array Slot} {nL i : Nat} {v : mV} (hn : nj ls i = true)
    (h : lv_has cl' nL ((i, cv G v) :: (lsA G ls).filter (fun q => !(q.1 == i) && !(q.1 + 1 == i && q.2.category == 2)))) : lr G cl' nL (ls.set i (some v)) := by
  refine ⟨h.1, h.2.1, fun j w hj => ?_⟩
  by_cases e : j = i
  · subst e
    have hlt : j < ls.length := by
      have := (List.getElem?_eq_some_iff.mp hj).1
      simpa using this
    rw [List.getElem?_set_self hlt] at hj
    cases hj
    exact h.2.2 (j, cv G v) List.mem_cons_self
  · rw [List.getElem?_set_ne (Ne.symm e)] at hj
    refine h.2.2 (j, cv G w) (List.mem_cons_of_mem _ (List.mem_filter.mpr ⟨lsA_of hj, ?_⟩))
    simp only [Bool.and_eq_true, Bool.not_eq_true', beq_eq_false_iff_ne, ne_eq, Bool.and_eq_false_iff]
    refine ⟨e, ?_⟩
    by_cases e2 : j + 1 = i
    · right
      rw [cv_cat]
      exact nj_spec hn e2 hj
    · left
      exact e2
theorem lr_set2 {cl' : Array Slot} {nL i : Nat} {v : mV} (hn : nj ls i = true)
    (h : lv_has cl' nL ((i, cv G v) :: (lsA G ls).filter (fun q => !(q.1 == i) && (!(q.1 == i + 1) && !(q.1 + 1 == i && q.2.category == 2))))) : lr G cl' nL ((ls.set i (some v)).set (i + 1) none) := by
  refine ⟨h.1, h.2.1, fun j w hj => ?_⟩
  by_cases e1 : j = i + 1
  · subst e1
    have hlt : i + 1 < ls.length := by
      have := (List.getElem?_eq_some_iff.mp hj).1
      simpa using this
    rw [List.getElem?_set_self (by simpa using hlt)] at hj
    cases hj
  · rw [List.getElem?_set_ne (Ne.symm e1)] at hj
    by_cases e : j = i
    · subst e
      have hlt : j < ls.length := by
        have := (List.getElem?_eq_some_iff.mp hj).1
        simpa using this
      rw [List.getElem?_set_self hlt] at hj
      cases hj
      exact h.2.2 (j, cv G v) List.mem_cons_self
    · rw [List.getElem?_set_ne (Ne.symm e)] at hj
      refine h.2.2 (j, cv G w) (List.mem_cons_of_mem _ (List.mem_filter.mpr ⟨lsA_of hj, ?_⟩))
      simp only [Bool.and_eq_true, Bool.not_eq_true', beq_eq_false_iff_ne, ne_eq, Bool.and_eq_false_iff]
      refine ⟨e, e1, ?_⟩
      by_cases e2 : j + 1 = i
      · right
        rw [cv_cat]
        exact nj_spec hn e2 hj
      · left
        exact e2
theorem wp_istore_n {n : Fin 4} {x : Int} (i : Nat) (hd : decode μ.2.1 pc = .ok (.istore_n n, 1)) (hi : (n : Nat) = i) (hn : nj ls i = true) (hm : i < μ.2.2.1) (k : WP l G μ d nf I X (pc + 1) (ls.set i (some (vI x))) st Q) : WP l G μ d nf I X pc ls (vI x :: st) Q := by
  intro p e R s m args below meth c H locs cells slots n0 cl hF hR hH hL
  exact lv_istore_n hF.1 hF.2.1 hd hi (lr_has hL) hm rfl (fun cl' h => k p e R s m args below meth c H locs cells slots n0 cl' hF hR hH (lr_set1 hn h))
theorem wp_istore {i : Nat} {x : Int} (hd : decode μ.2.1 pc = .ok (.istore i, 2)) (hn : nj ls i = true) (hm : i < μ.2.2.1) (k : WP l G μ d nf I X (pc + 2) (ls.set i (some (vI x))) st Q) : WP l G μ d nf I X pc ls (vI x :: st) Q := by
  intro p e R s m args below meth c H locs cells slots n0 cl hF hR hH hL
  exact lv_istore hF.1 hF.2.1 hd (lr_has hL) hm rfl (fun cl' h => k p e R s m args below meth c H locs cells slots n0 cl' hF hR hH (lr_set1 hn h))
theorem wp_astore_n {n : Fin 4} {x : Nat} (i : Nat) (hd : decode μ.2.1 pc = .ok (.astore_n n, 1)) (hi : (n : Nat) = i) (hn : nj ls i = true) (hm : i < μ.2.2.1) (k : WP l G μ d nf I X (pc + 1) (ls.set i (some (vR x))) st Q) : WP l G μ d nf I X pc ls (vR x :: st) Q := by
  intro p e R s m args below meth c H locs cells slots n0 cl hF hR hH hL
  exact lv_astore_n hF.1 hF.2.1 hd hi (lr_has hL) hm rfl (fun cl' h => k p e R s m args below meth c H locs cells slots n0 cl' hF hR hH (lr_set1 hn h))
theorem wp_astore {i : Nat} {x : Nat} (hd : decode μ.2.1 pc = .ok (.astore i, 2)) (hn : nj ls i = true) (hm : i < μ.2.2.1) (k : WP l G μ d nf I X (pc + 2) (ls.set i (some (vR x))) st Q) : WP l G μ d nf I X pc ls (vR x :: st) Q := by
  intro p e R s m args below meth c H locs cells slots n0 cl hF hR hH hL
  exact lv_astore hF.1 hF.2.1 hd (lr_has hL) hm rfl (fun cl' h => k p e R s m args below meth c H locs cells slots n0 cl' hF hR hH (lr_set1 hn h))
theorem wp_lstore_n {n : Fin 4} {x : Int} (i : Nat) (hd : decode μ.2.1 pc = .ok (.lstore_n n, 1)) (hi : (n : Nat) = i) (hn : nj ls i = true) (hm : i + 1 < μ.2.2.1) (k : WP l G μ d nf I X (pc + 1) ((ls.set i (some (vJ x))).set (i + 1) none) st Q) : WP l G μ d nf I X pc ls (vJ x :: st) Q := by
  intro p e R s m args below meth c H locs cells slots n0 cl hF hR hH hL
  exact lv_lstore_n hF.1 hF.2.1 hd hi (lr_has hL) hm rfl (fun cl' h => k p e R s m args below meth c H locs cells slots n0 cl' hF hR hH (lr_set2 hn h))
theorem wp_lstore {i : Nat} {x : Int} (hd : decode μ.2.1 pc = .ok (.lstore i, 2)) (hn : nj ls i = true) (hm : i + 1 < μ.2.2.1) (k : WP l G μ d nf I X (pc + 2) ((ls.set i (some (vJ x))).set (i + 1) none) st Q) : WP l G μ d nf I X pc ls (vJ x :: st) Q := by
  intro p e R s m args below meth c H locs cells slots n0 cl hF hR hH hL
  exact lv_lstore hF.1 hF.2.1 hd (lr_has hL) hm rfl (fun cl' h => k p e R s m args below meth c H locs cells slots n0 cl' hF hR hH (lr_set2 hn h))
theorem wp_iinc {i : Nat} {n x : Int} (hd : decode μ.2.1 pc = .ok (.iinc i n, 3)) (hl : ls[i]? = some (some (vI x))) (hn : nj ls i = true) (hm : i < μ.2.2.1) (k : WP l G μ d nf I X (pc + 3) (ls.set i (some (vI (x + n)))) st Q) : WP l G μ d nf I X pc ls st Q := by
  intro p e R s m args below meth c H locs cells slots n0 cl hF hR hH hL
  obtain ⟨kk, hkk⟩ := List.getElem?_of_mem (lsA_of (G := G) hl)
  exact lv_iinc (x := Int32.ofInt x) (v := Int32.ofInt (x + n)) hF.1 hF.2.1 hd (lr_has hL) hkk (Int32.ofInt_add x n).symm hm rfl (fun cl' h => k p e R s m args below meth c H locs cells slots n0 cl' hF hR hH (lr_set1 (v := vI (x + n)) hn h))
/-- fewer known locals -/
theorem wp_drop {ls' : List (Option mV)} (h : ∀ (i : Nat) (v : mV), ls'[i]? = some (some v) → ls[i]? = some (some v)) (k : WP l G μ d nf I X pc ls' st Q) : WP l G μ d nf I X pc ls st Q := by
  intro p e R s m args below meth c H locs cells slots n0 cl hF hR hH hL
  exact k p e R s m args below meth c H locs cells slots n0 cl hF hR hH ⟨hL.1, hL.2.1, fun i v hv => hL.2.2 i v (h i v hv)⟩
/-! numbers -/
theorem wp_iadd {x y : Int} (hd : decode μ.2.1 pc = .ok (.iadd, 1)) (k : WP l G μ d nf I X (pc + 1) ls (vI (x + y) :: st) Q) : WP l G μ d nf I X pc ls (vI y :: vI x :: st) Q :=
  wp_pure (fun p e R s m args below meth c H locs cells slots cl Qw hF hL w => lv_iadd (x := Int32.ofInt x) (y := Int32.ofInt y) hF.1 hF.2.1 hd (by rw [← Int32.ofInt_add]; exact w)) k
theorem wp_isub {x y : Int} (hd : decode μ.2.1 pc = .ok (.isub, 1)) (k : WP l G μ d nf I X (pc + 1) ls (vI (x - y) :: st) Q) : WP l G μ d nf I X pc ls (vI y :: vI x :: st) Q :=
  wp_pure (fun p e R s m args below meth c H locs cells slots cl Qw hF hL w => lv_isub (x := Int32.ofInt x) (y := Int32.ofInt y) hF.1 hF.2.1 hd (by rw [← Int32.ofInt_sub]; exact w)) k
theorem wp_imul {x y : Int} (hd : decode μ.2.1 pc = .ok (.imul, 1)) (k : WP l G μ d nf I X (pc + 1) ls (vI (x * y) :: st) Q) : WP l G μ d nf I X pc ls (vI y :: vI x :: st) Q :=
  wp_pure (fun p e R s m args below meth c H locs cells slots cl Qw hF hL w => lv_imul (x := Int32.ofInt x) (y := Int32.ofInt y) hF.1 hF.2.1 hd (by rw [← Int32.ofInt_mul]; exact w)) k
theorem wp_ineg {x : Int} (hd : decode μ.2.1 pc = .ok (.ineg, 1)) (k : WP l G μ d nf I X (pc + 1) ls (vI (-x) :: st) Q) : WP l G μ d nf I X pc ls (vI x :: st) Q :=
  wp_pure (fun p e R s m args below meth c H locs cells slots cl Qw hF hL w => lv_ineg (x := Int32.ofInt x) hF.1 hF.2.1 hd (by rw [← Int32.ofInt_neg]; exact w)) k
theorem wp_idiv {x y : Int} (hd : decode μ.2.1 pc = .ok (.idiv, 1)) (hx : inR x) (hy : inR y) (h0 : y ≠ 0) (k : WP l G μ d nf I X (pc + 1) ls (vI (x.tdiv y) :: st) Q) : WP l G μ d nf I X pc ls (vI y :: vI x :: st) Q :=
  wp_pure (fun p e R s m args below meth c H locs cells slots cl Qw hF hL w => lv_idiv (x := Int32.ofInt x) (y := Int32.ofInt y) hF.1 hF.2.1 hd (fun q => h0 ((oi_eq hy (by decide)).mp q)) (by rw [oi_div hx hy]; exact w)) k
theorem wp_irem {x y : Int} (hd : decode μ.2.1 pc = .ok (.irem, 1)) (hx : inR x) (hy : inR y) (h0 : y ≠ 0) (k : WP l G μ d nf I X (pc + 1) ls (vI (x.tmod y) :: st) Q) : WP l G μ d nf I X pc ls (vI y :: vI x :: st) Q :=
  wp_pure (fun p e R s m args below meth c H locs cells slots cl Qw hF hL w => lv_irem (x := Int32.ofInt x) (y := Int32.ofInt y) hF.1 hF.2.1 hd (fun q => h0 ((oi_eq hy (by decide)).mp q)) (by rw [oi_rem hx hy]; exact w)) k
theorem wp_ishl {x y : Int} (hd : decode μ.2.1 pc = .ok (.ishl, 1)) (h0 : 0 ≤ y) (h1 : y < 32) (k : WP l G μ d nf I X (pc + 1) ls (vI (x * 2 ^ y.toNat) :: st) Q) : WP l G μ d nf I X pc ls (vI y :: vI x :: st) Q :=
  wp_pure (fun p e R s m args below meth c H locs cells slots cl Qw hF hL w => lv_ishl (x := Int32.ofInt x) (y := Int32.ofInt y) hF.1 hF.2.1 hd (by rw [oi_shl h0 h1]; exact w)) k
theorem wp_ishr {x y : Int} (hd : decode μ.2.1 pc = .ok (.ishr, 1)) (h0 : 0 ≤ y) (h1 : y < 32) (k : WP l G μ d nf I X (pc + 1) ls (vI (w32 x / 2 ^ y.toNat) :: st) Q) : WP l G μ d nf I X pc ls (vI y :: vI x :: st) Q :=
  wp_pure (fun p e R s m args below meth c H locs cells slots cl Qw hF hL w => lv_ishr (x := Int32.ofInt x) (y := Int32.ofInt y) hF.1 hF.2.1 hd (by rw [oi_shr h0 h1]; exact w)) k
theorem wp_iand {x y : Int} (hd : decode μ.2.1 pc = .ok (.iand, 1)) (hx : 0 ≤ x) (hy : 0 ≤ y) (k : WP l G μ d nf I X (pc + 1) ls (vI ((x.toNat &&& y.toNat : Nat) : Int) :: st) Q) : WP l G μ d nf I X pc ls (vI y :: vI x :: st) Q :=
  wp_pure (fun p e R s m args below meth c H locs cells slots cl Qw hF hL w => lv_iand (x := Int32.ofInt x) (y := Int32.ofInt y) hF.1 hF.2.1 hd (by rw [oi_and hx hy]; exact w)) k
theorem wp_imask {x y : Int} (n : Nat) (hd : decode μ.2.1 pc = .ok (.iand, 1)) (hy : y = ((2 ^ n - 1 : Nat) : Int)) (hn : n ≤ 31) (k : WP l G μ d nf I X (pc + 1) ls (vI (x % (2 ^ n : Nat)) :: st) Q) : WP l G μ d nf I X pc ls (vI y :: vI x :: st) Q :=
  wp_pure (fun p e R s m args below meth c H locs cells slots cl Qw hF hL w => lv_iand (x := Int32.ofInt x) (y := Int32.ofInt y) hF.1 hF.2.1 hd (by rw [hy, oi_mask x n hn]; exact w)) k
theorem wp_iandn {x y : Int} (hd : decode μ.2.1 pc = .ok (.iand, 1)) (hx : 0 ≤ x) (hy : 0 ≤ y) (k : WP l G μ d nf I X (pc + 1) ls (vI ((dif x.toNat y.toNat : Nat) : Int) :: st) Q) : WP l G μ d nf I X pc ls (vI (-y - 1) :: vI x :: st) Q :=
  wp_pure (fun p e R s m args below meth c H locs cells slots cl Qw hF hL w => lv_iand (x := Int32.ofInt x) (y := Int32.ofInt (-y - 1)) hF.1 hF.2.1 hd (by rw [oi_andn hx hy]; exact w)) k
theorem wp_ior {x y : Int} (hd : decode μ.2.1 pc = .ok (.ior, 1)) (hx : 0 ≤ x) (hy : 0 ≤ y) (k : WP l G μ d nf I X (pc + 1) ls (vI ((x.toNat ||| y.toNat : Nat) : Int) :: st) Q) : WP l G μ d nf I X pc ls (vI y :: vI x :: st) Q :=
  wp_pure (fun p e R s m args below meth c H locs cells slots cl Qw hF hL w => lv_ior (x := Int32.ofInt x) (y := Int32.ofInt y) hF.1 hF.2.1 hd (by rw [oi_or hx hy]; exact w)) k
theorem wp_inot {x : Int} (hd : decode μ.2.1 pc = .ok (.ixor, 1)) (k : WP l G μ d nf I X (pc + 1) ls (vI (-x - 1) :: st) Q) : WP l G μ d nf I X pc ls (vI (-1) :: vI x :: st) Q :=
  wp_pure (fun p e R s m args below meth c H locs cells slots cl Qw hF hL w => lv_ixor (x := Int32.ofInt x) (y := Int32.ofInt (-1)) hF.1 hF.2.1 hd (by rw [oi_not]; exact w)) k
theorem wp_i2l {x : Int} (hd : decode μ.2.1 pc = .ok (.i2l, 1)) (hx : inR x) (k : WP l G μ d nf I X (pc + 1) ls (vJ x :: st) Q) : WP l G μ d nf I X pc ls (vI x :: st) Q :=
  wp_pure (fun p e R s m args below meth c H locs cells slots cl Qw hF hL w => lv_i2l (x := Int32.ofInt x) hF.1 hF.2.1 hd (oi_i2l hx) w) k
theorem wp_i2b {x : Int} (hd : decode μ.2.1 pc = .ok (.i2b, 1)) (k : WP l G μ d nf I X (pc + 1) ls (vI (x.bmod 256) :: st) Q) : WP l G μ d nf I X pc ls (vI x :: st) Q :=
  wp_pure (fun p e R s m args below meth c H locs cells slots cl Qw hF hL w => lv_i2b (x := Int32.ofInt x) hF.1 hF.2.1 hd (oi_i2b x) w) k
/-! stack -/
theorem wp_dup {v : mV} (hd : decode μ.2.1 pc = .ok (.dup, 1)) (hc : mcat v = 1) (k : WP l G μ d nf I X (pc + 1) ls (v :: v :: st) Q) : WP l G μ d nf I X pc ls (v :: st) Q :=
  wp_pure (fun p e R s m args below meth c H locs cells slots cl Qw hF hL w => lv_dup hF.1 hF.2.1 hd ((cv_cat G v).trans hc) w) k
theorem wp_pop {v : mV} (hd : decode μ.2.1 pc = .ok (.pop, 1)) (hc : mcat v = 1) (k : WP l G μ d nf I X (pc + 1) ls st Q) : WP l G μ d nf I X pc ls (v :: st) Q :=
  wp_pure (fun p e R s m args below meth c H locs cells slots cl Qw hF hL w => lv_pop hF.1 hF.2.1 hd ((cv_cat G v).trans hc) w) k
theorem wp_dup2 {v w : mV} (hd : decode μ.2.1 pc = .ok (.dup2, 1)) (hc : mcat v = 1) (hc2 : mcat w = 1) (k : WP l G μ d nf I X (pc + 1) ls (v :: w :: v :: w :: st) Q) : WP l G μ d nf I X pc ls (v :: w :: st) Q :=
  wp_pure (fun p e R s m args below meth c H locs cells slots cl Qw hF hL ww => lv_dup2_11 hF.1 hF.2.1 hd ((cv_cat G v).trans hc) ((cv_cat G w).trans hc2) ww) k
/-! branches -/
theorem wp_goto {off : Int} (tgt : Nat) (hd : decode μ.2.1 pc = .ok (.goto off, 3)) (ht : (pc : Int) + off = (tgt : Int)) (k : WP l G μ d nf I X tgt ls st Q) : WP l G μ d nf I X pc ls st Q :=
  wp_pure (fun p e R s m args below meth c H locs cells slots cl Qw hF hL w => lv_goto hF.1 hF.2.1 hd ht w) k
theorem wp_if_eq {x off : Int} (tgt : Nat) (hd : decode μ.2.1 pc = .ok (.ifCond .eq off, 3)) (ht : (pc : Int) + off = (tgt : Int)) (hx : inR x) (kt : x = 0 → WP l G μ d nf I X tgt ls st Q) (kf : ¬ x = 0 → WP l G μ d nf I X (pc + 3) ls st Q) : WP l G μ d nf I X pc ls (vI x :: st) Q := by
  intro p e R s m args below meth c H locs cells slots n0 cl hF hR hH hL
  exact lv_if_eq (x := Int32.ofInt x) hF.1 hF.2.1 hd ht (fun q => kt ((oi_eq hx (by decide)).mp q) p e R s m args below meth c H locs cells slots n0 cl hF hR hH hL) (fun q => kf (fun z => q ((oi_eq hx (by decide)).mpr z)) p e R s m args below meth c H locs cells slots n0 cl hF hR hH hL)
theorem wp_if_ne {x off : Int} (tgt : Nat) (hd : decode μ.2.1 pc = .ok (.ifCond .ne off, 3)) (ht : (pc : Int) + off = (tgt : Int)) (hx : inR x) (kt : ¬ x = 0 → WP l G μ d nf I X tgt ls st Q) (kf : x = 0 → WP l G μ d nf I X (pc + 3) ls st Q) : WP l G μ d nf I X pc ls (vI x :: st) Q := by
  intro p e R s m args below meth c H locs cells slots n0 cl hF hR hH hL
  exact lv_if_ne (x := Int32.ofInt x) hF.1 hF.2.1 hd ht (fun q => kt (fun z => q ((oi_eq hx (by decide)).mpr z)) p e R s m args below meth c H locs cells slots n0 cl hF hR hH hL) (fun q => kf ((oi_eq hx (by decide)).mp q) p e R s m args below meth c H locs cells slots n0 cl hF hR hH hL)
theorem wp_if_lt {x off : Int} (tgt : Nat) (hd : decode μ.2.1 pc = .ok (.ifCond .lt off, 3)) (ht : (pc : Int) + off = (tgt : Int)) (hx : inR x) (kt : x < 0 → WP l G μ d nf I X tgt ls st Q) (kf : 0 ≤ x → WP l G μ d nf I X (pc + 3) ls st Q) : WP l G μ d nf I X pc ls (vI x :: st) Q := by
  intro p e R s m args below meth c H locs cells slots n0 cl hF hR hH hL
  exact lv_if_lt (x := Int32.ofInt x) hF.1 hF.2.1 hd ht (fun q => kt ((oi_lt hx (by decide)).mp q) p e R s m args below meth c H locs cells slots n0 cl hF hR hH hL) (fun q => kf (Int.not_lt.mp (fun z => q ((oi_lt hx (by decide)).mpr z))) p e R s m args below meth c H locs cells slots n0 cl hF hR hH hL)
theorem wp_if_ge {x off : Int} (tgt : Nat) (hd : decode μ.2.1 pc = .ok (.ifCond .ge off, 3)) (ht : (pc : Int) + off = (tgt : Int)) (hx : inR x) (kt : 0 ≤ x → WP l G μ d nf I X tgt ls st Q) (kf : x < 0 → WP l G μ d nf I X (pc + 3) ls st Q) : WP l G μ d nf I X pc ls (vI x :: st) Q := by
  intro p e R s m args below meth c H locs cells slots n0 cl hF hR hH hL
  exact lv_if_ge (x := Int32.ofInt x) hF.1 hF.2.1 hd ht (fun q => kt ((oi_le (by decide) hx).mp q) p e R s m args below meth c H locs cells slots n0 cl hF hR hH hL) (fun q => kf (Int.not_le.mp (fun z => q ((oi_le (by decide) hx).mpr z))) p e R s m args below meth c H locs cells slots n0 cl hF hR hH hL)
theorem wp_if_gt {x off : Int} (tgt : Nat) (hd : decode μ.2.1 pc = .ok (.ifCond .gt off, 3)) (ht : (pc : Int) + off = (tgt : Int)) (hx : inR x) (kt : 0 < x → WP l G μ d nf I X tgt ls st Q) (kf : x ≤ 0 → WP l G μ d nf I X (pc + 3) ls st Q) : WP l G μ d nf I X pc ls (vI x :: st) Q := by
  intro p e R s m args below meth c H locs cells slots n0 cl hF hR hH hL
  exact lv_if_gt (x := Int32.ofInt x) hF.1 hF.2.1 hd ht (fun q => kt ((oi_lt (by decide) hx).mp q) p e R s m args below meth c H locs cells slots n0 cl hF hR hH hL) (fun q => kf (Int.not_lt.mp (fun z => q ((oi_lt (by decide) hx).mpr z))) p e R s m args below meth c H locs cells slots n0 cl hF hR hH hL)
theorem wp_if_le {x off : Int} (tgt : Nat) (hd : decode μ.2.1 pc = .ok (.ifCond .le off, 3)) (ht : (pc : Int) + off = (tgt : Int)) (hx : inR x) (kt : x ≤ 0 → WP l G μ d nf I X tgt ls st Q) (kf : 0 < x → WP l G μ d nf I X (pc + 3) ls st Q) : WP l G μ d nf I X pc ls (vI x :: st) Q := by
  intro p e R s m args below meth c H locs cells slots n0 cl hF hR hH hL
  exact lv_if_le (x := Int32.ofInt x) hF.1 hF.2.1 hd ht (fun q => kt ((oi_le hx (by decide)).mp q) p e R s m args below meth c H locs cells slots n0 cl hF hR hH hL) (fun q => kf (Int.not_le.mp (fun z => q ((oi_le hx (by decide)).mpr z))) p e R s m args below meth c H locs cells slots n0 cl hF hR hH hL)
theorem wp_icmp_eq {x y off : Int} (tgt : Nat) (hd : decode μ.2.1 pc = .ok (.if_icmp .eq off, 3)) (ht : (pc : Int) + off = (tgt : Int)) (hx : inR x) (hy : inR y) (kt : x = y → WP l G μ d nf I X tgt ls st Q) (kf : ¬ x = y → WP l G μ d nf I X (pc + 3) ls st Q) : WP l G μ d nf I X pc ls (vI y :: vI x :: st) Q := by
  intro p e R s m args below meth c H locs cells slots n0 cl hF hR hH hL
  exact lv_icmp_eq (x := Int32.ofInt x) (y := Int32.ofInt y) hF.1 hF.2.1 hd ht (fun q => kt ((oi_eq hx hy).mp q) p e R s m args below meth c H locs cells slots n0 cl hF hR hH hL) (fun q => kf (fun z => q ((oi_eq hx hy).mpr z)) p e R s m args below meth c H locs cells slots n0 cl hF hR hH hL)
theorem wp_icmp_ne {x y off : Int} (tgt : Nat) (hd : decode μ.2.1 pc = .ok (.if_icmp .ne off, 3)) (ht : (pc : Int) + off = (tgt : Int)) (hx : inR x) (hy : inR y) (kt : ¬ x = y → WP l G μ d nf I X tgt ls st Q) (kf : x = y → WP l G μ d nf I X (pc + 3) ls st Q) : WP l G μ d nf I X pc ls (vI y :: vI x :: st) Q := by
  intro p e R s m args below meth c H locs cells slots n0 cl hF hR hH hL
  exact lv_icmp_ne (x := Int32.ofInt x) (y := Int32.ofInt y) hF.1 hF.2.1 hd ht (fun q => kt (fun z => q ((oi_eq hx hy).mpr z)) p e R s m args below meth c H locs cells slots n0 cl hF hR hH hL) (fun q => kf ((oi_eq hx hy).mp q) p e R s m args below meth c H locs cells slots n0 cl hF hR hH hL)
theorem wp_icmp_lt {x y off : Int} (tgt : Nat) (hd : decode μ.2.1 pc = .ok (.if_icmp .lt off, 3)) (ht : (pc : Int) + off = (tgt : Int)) (hx : inR x) (hy : inR y) (kt : x < y → WP l G μ d nf I X tgt ls st Q) (kf : y ≤ x → WP l G μ d nf I X (pc + 3) ls st Q) : WP l G μ d nf I X pc ls (vI y :: vI x :: st) Q := by
  intro p e R s m args below meth c H locs cells slots n0 cl hF hR hH hL
  exact lv_icmp_lt (x := Int32.ofInt x) (y := Int32.ofInt y) hF.1 hF.2.1 hd ht (fun q => kt ((oi_lt hx hy).mp q) p e R s m args below meth c H locs cells slots n0 cl hF hR hH hL) (fun q => kf (Int.not_lt.mp (fun z => q ((oi_lt hx hy).mpr z))) p e R s m args below meth c H locs cells slots n0 cl hF hR hH hL)
theorem wp_icmp_ge {x y off : Int} (tgt : Nat) (hd : decode μ.2.1 pc = .ok (.if_icmp .ge off, 3)) (ht : (pc : Int) + off = (tgt : Int)) (hx : inR x) (hy : inR y) (kt : y ≤ x → WP l G μ d nf I X tgt ls st Q) (kf : x < y → WP l G μ d nf I X (pc + 3) ls st Q) : WP l G μ d nf I X pc ls (vI y :: vI x :: st) Q := by
  intro p e R s m args below meth c H locs cells slots n0 cl hF hR hH hL
  exact lv_icmp_ge (x := Int32.ofInt x) (y := Int32.ofInt y) hF.1 hF.2.1 hd ht (fun q => kt ((oi_le hy hx).mp q) p e R s m args below meth c H locs cells slots n0 cl hF hR hH hL) (fun q => kf (Int.not_le.mp (fun z => q ((oi_le hy hx).mpr z))) p e R s m args below meth c H locs cells slots n0 cl hF hR hH hL)
theorem wp_icmp_gt {x y off : Int} (tgt : Nat) (hd : decode μ.2.1 pc = .ok (.if_icmp .gt off, 3)) (ht : (pc : Int) + off = (tgt : Int)) (hx : inR x) (hy : inR y) (kt : y < x → WP l G μ d nf I X tgt ls st Q) (kf : x ≤ y → WP l G μ d nf I X (pc + 3) ls st Q) : WP l G μ d nf I X pc ls (vI y :: vI x :: st) Q := by
  intro p e R s m args below meth c H locs cells slots n0 cl hF hR hH hL
  exact lv_icmp_gt (x := Int32.ofInt x) (y := Int32.ofInt y) hF.1 hF.2.1 hd ht (fun q => kt ((oi_lt hy hx).mp q) p e R s m args below meth c H locs cells slots n0 cl hF hR hH hL) (fun q => kf (Int.not_lt.mp (fun z => q ((oi_lt hy hx).mpr z))) p e R s m args below meth c H locs cells slots n0 cl hF hR hH hL)
theorem wp_icmp_le {x y off : Int} (tgt : Nat) (hd : decode μ.2.1 pc = .ok (.if_icmp .le off, 3)) (ht : (pc : Int) + off = (tgt : Int)) (hx : inR x) (hy : inR y) (kt : x ≤ y → WP l G μ d nf I X tgt ls st Q) (kf : y < x → WP l G μ d nf I X (pc + 3) ls st Q) : WP l G μ d nf I X pc ls (vI y :: vI x :: st) Q := by
  intro p e R s m args below meth c H locs cells slots n0 cl hF hR hH hL
  exact lv_icmp_le (x := Int32.ofInt x) (y := Int32.ofInt y) hF.1 hF.2.1 hd ht (fun q => kt ((oi_le hx hy).mp q) p e R s m args below meth c H locs cells slots n0 cl hF hR hH hL) (fun q => kf (Int.not_le.mp (fun z => q ((oi_le hx hy).mpr z))) p e R s m args below meth c H locs cells slots n0 cl hF hR hH hL)
theorem wp_tin {x dflt lo hi off : Int} {offs : Array Int} {len : Nat} (i tgt : Nat) (hd : decode μ.2.1 pc = .ok (.tableswitch dflt lo hi offs, len)) (hx : inR x) (he : x = lo + i) (hh : lo + i ≤ hi) (ho : offs[i]? = some off) (ht : (pc : Int) + off = (tgt : Int)) (k : WP l G μ d nf I X tgt ls st Q) : WP l G μ d nf I X pc ls (vI x :: st) Q :=
  wp_pure (fun p e R s m args below meth c H locs cells slots cl Qw hF hL w => lv_tableIn (x := Int32.ofInt x) hF.1 hF.2.1 hd (by rw [oi_toInt hx]; omega) (by rw [oi_toInt hx]; omega) (by rw [oi_toInt hx, he, show (lo + (i : Int) - lo).toNat = i by omega]; exact ho) ht w) k
theorem wp_tout {x dflt lo hi : Int} {offs : Array Int} {len : Nat} (tgt : Nat) (hd : decode μ.2.1 pc = .ok (.tableswitch dflt lo hi offs, len)) (hx : inR x) (he : x < lo ∨ hi < x) (ht : (pc : Int) + dflt = (tgt : Int)) (k : WP l G μ d nf I X tgt ls st Q) : WP l G μ d nf I X pc ls (vI x :: st) Q :=
  wp_pure (fun p e R s m args below meth c H locs cells slots cl Qw hF hL w => lv_tableOut (x := Int32.ofInt x) hF.1 hF.2.1 hd (by rw [oi_toInt hx]; exact he) ht w) k
theorem wp_lsw {x dflt off : Int} {ps : Array (Int × Int)} {len : Nat} (tgt : Nat) (hd : decode μ.2.1 pc = .ok (.lookupswitch dflt ps, len)) (hx : inR x) (hp : (ps.toList.zip (ps.toList.drop 1)).all (fun (a, next) => a.1 < next.1) = true) (ho : Op.lookupswitch.offset ps.toList dflt x = off) (ht : (pc : Int) + off = (tgt : Int)) (k : WP l G μ d nf I X tgt ls st Q) : WP l G μ d nf I X pc ls (vI x :: st) Q :=
  wp_pure (fun p e R s m args below meth c H locs cells slots cl Qw hF hL w => lv_lookup (x := Int32.ofInt x) hF.1 hF.2.1 hd hp (by rw [oi_toInt hx]; exact ho) ht w) k
/-! longs -/
theorem wp_lcmp {x y : Int} (hd : decode μ.2.1 pc = .ok (.lcmp, 1)) (hx : inL x) (hy : inL y) (k : WP l G μ d nf I X (pc + 1) ls (vI (if y < x then 1 else if x = y then 0 else -1) :: st) Q) : WP l G μ d nf I X pc ls (vJ y :: vJ x :: st) Q :=
  wp_pure (fun p e R s m args below meth c H locs cells slots cl Qw hF hL w => W.lcmp (x := Int64.ofInt x) (y := Int64.ofInt y) hF.1 hF.2.1 hd (by
    have e : lg_cmp (Int64.ofInt x) (Int64.ofInt y) = Int32.ofInt (if y < x then 1 else if x = y then 0 else -1) := by
      unfold lg_cmp
      simp only [gt_iff_lt, ol_lt hy hx, ol_lt hx hy, ol_eq hx hy]
      split <;> (try split) <;> (try split) <;> first | rfl | omega
    rw [e]
    exact w)) k
theorem wp_lmul {x y : Int} (hd : decode μ.2.1 pc = .ok (.lmul, 1)) (k : WP l G μ d nf I X (pc + 1) ls (vJ (x * y) :: st) Q) : WP l G μ d nf I X pc ls (vJ y :: vJ x :: st) Q :=
  wp_pure (fun p e R s m args below meth c H locs cells slots cl Qw hF hL w => lv_lmul (x := Int64.ofInt x) (y := Int64.ofInt y) hF.1 hF.2.1 hd (by rw [← Int64.ofInt_mul]; exact w)) k
end MACH
