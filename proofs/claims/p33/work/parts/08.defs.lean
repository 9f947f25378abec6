/-! THE TYPED HEAP AND THE JUDGEMENT V. A heap is told by functions of the address: its kind (0: nothing of ours; 1..10 the classes; 11 int, 12 long, 13 boolean, 14 byte, 15 double, 16.. arrays of references), its length, and what its places hold. -/
abbrev cls : List vw_C := [(RX0, TX0, 10), (RX1, TX1, 2), (RX2, TX2, 8), (RX3, TX3, 4), (RX4, TX4, 5), (RX5, TX5, 4), (RX6, TX6, 3), (RX7, TX7, 3), (RX8, TX8, 14)]
/-- the kinds of a class' fields: 0 int, 1 long, 2 reference, 3 boolean -/
def lay (ci : Nat) : List Nat := match ci with
  | 0 => [2, 0, 2, 0, 0, 0, 0, 0, 0, 0]
  | 1 => [2, 0]
  | 2 => [0, 0, 0, 0, 3, 0, 0, 0]
  | 3 => [2, 2, 2, 0]
  | 4 => [2, 0, 0, 1, 0]
  | 5 => [1, 0, 3, 1]
  | 6 => [0, 0, 0]
  | 7 => [2, 2, 0]
  | 8 => [2, 0, 2, 0, 2, 0, 2, 2, 0, 2, 2, 0, 2, 0]
  | _ => []
abbrev GT : Type := (Nat → Nat) × (Nat → Nat) × (Nat → Nat → Int32) × (Nat → Nat → Int64) × (Nat → Nat → UInt64) × (Nat → Nat → Option Nat)
abbrev DT : Type := va_G × (Nat → ClassId)
def fv (i : Nat → Int32) (j : Nat → Int64) (r : Nat → Option Nat) (k t : Nat) : Value := if t = 1 then .long (j k) else if t = 2 then va_rf (r k) else .int (i k)
def flds (i : Nat → Int32) (j : Nat → Int64) (r : Nat → Option Nat) (l : List Nat) : List Value := l.mapIdx (fun k t => fv i j r k t)
def ent (dA : Nat → ClassId) (G : GT) (a : Nat) : va_E := match G with
  | (T, N, I, J, E, Rf) => if T a ≤ 10 then .inr (T a - 1, flds (I a) (J a) (Rf a) (lay (T a - 1))) else if T a = 12 then .inl (dA 12, N a, .inr (.inl (J a))) else if T a = 15 then .inl (dA 15, N a, .inr (.inr (.inr (.inl (E a))))) else if T a < 16 then .inl (dA (T a), N a, .inl (I a)) else .inl (dA (T a), N a, .inr (.inr (.inr (.inr (Rf a)))))
def tysL (dA : Nat → ClassId) : List (ClassId × FieldType) := [(dA 11, .int), (dA 12, .long), (dA 13, .boolean), (dA 14, .byte), (dA 15, .int), (dA 16, .object RX2), (dA 17, .object RX4), (dA 18, .object RX7), (dA 19, .object RX5), (dA 20, .object RX0)]
def wd (D : DT) (G : GT) (H : Heap) : Prop := ∃ L : List Nat, (∀ a, a ∈ L ↔ G.1 a ≠ 0) ∧ va_P D.1 cls (va_pl L (ent D.2 G)) H ∧ va_D (fun _ => True) (va_pl L (ent D.2 G))
def u2 {α : Type} (f : Nat → Nat → α) (a k : Nat) (v : α) : Nat → Nat → α := fun b j => if b = a ∧ j = k then v else f b j
def u1 {α : Type} (f : Nat → α) (a : Nat) (v : α) : Nat → α := fun b => if b = a then v else f b
def c2 {α : Type} (f : Nat → Nat → α) (a : Nat) (v : α) : Nat → Nat → α := fun b j => if b = a then v else f b j
theorem u2_s {α : Type} (f : Nat → Nat → α) (a k : Nat) (v : α) : u2 f a k v a k = v := by simp [u2]
theorem u2_n {α : Type} (f : Nat → Nat → α) {a b : Nat} (k j : Nat) (v : α) (h : b ≠ a) : u2 f a k v b j = f b j := by simp [u2, h]
theorem u2_k {α : Type} (f : Nat → Nat → α) {a b k j : Nat} (v : α) (h : j ≠ k) : u2 f a k v b j = f b j := by simp [u2, h]
theorem u1_s {α : Type} (f : Nat → α) (a : Nat) (v : α) : u1 f a v a = v := by simp [u1]
theorem u1_n {α : Type} (f : Nat → α) {a b : Nat} (v : α) (h : b ≠ a) : u1 f a v b = f b := by simp [u1, h]
theorem c2_s {α : Type} (f : Nat → Nat → α) (a j : Nat) (v : α) : c2 f a v a j = v := by simp [c2]
theorem c2_at {α : Type} (f : Nat → Nat → α) (a : Nat) (v : α) : c2 f a v a = fun _ => v := funext fun j => by simp [c2]
theorem c2_n {α : Type} (f : Nat → Nat → α) {a b : Nat} (j : Nat) (v : α) (h : b ≠ a) : c2 f a v b j = f b j := by simp [c2, h]
/-- the words that every method of ours is given -/
def lw_all : List Cond := lw_tbl.filter goodWord
theorem lw_mem {w : Cond} (i : Nat) (h : lw_tbl[i]? = some w) (hg : goodWord w = true) : w ∈ lw_all := List.mem_filter.mpr ⟨List.mem_of_getElem? h, hg⟩
theorem lw_good : ∀ w ∈ lw_all, goodWord w = true := fun _ h => (List.mem_filter.mp h).2
/-- words that aren't good ones, but stay -/
def ngW : List Cond := [(Jvm.Cond.arrayOver (Jvm.ClassFile.FieldType.object "BroadseamLoft$Lot")), (Jvm.Cond.arrayOver (Jvm.ClassFile.FieldType.object "BroadseamLoft$Panel")), (Jvm.Cond.arrayOver (Jvm.ClassFile.FieldType.object "BroadseamLoft$Seam")), (Jvm.Cond.arrayOver (Jvm.ClassFile.FieldType.object "BroadseamLoft$Peg")), (Jvm.Cond.methodLinkNest "BroadseamLoft" (42 : Nat) ({ cls := "BroadseamLoft$Sail", name := "<init>", desc := "()V" } : Jvm.MethodName) "BroadseamLoft"), (Jvm.Cond.arrayOver (Jvm.ClassFile.FieldType.object "BroadseamLoft$Canopy")), (Jvm.Cond.methodLinkNest "BroadseamLoft" (55 : Nat) ({ cls := "BroadseamLoft$Log", name := "<init>", desc := "()V" } : Jvm.MethodName) "BroadseamLoft"), (Jvm.Cond.castable "java/lang/IllegalArgumentException" "java/lang/IllegalArgumentException"), (Jvm.Cond.declares ({ cls := "java/lang/RuntimeException", name := "<init>", desc := "()V" } : Jvm.MethodName)), (Jvm.Cond.declares ({ cls := "java/lang/RuntimeException", name := "<init>", desc := "(Ljava/lang/String;)V" } : Jvm.MethodName)), (Jvm.Cond.declares ({ cls := "java/lang/Exception", name := "<init>", desc := "()V" } : Jvm.MethodName)), (Jvm.Cond.declares ({ cls := "java/lang/Exception", name := "<init>", desc := "(Ljava/lang/String;)V" } : Jvm.MethodName)), (Jvm.Cond.declares ({ cls := "java/lang/Throwable", name := "<init>", desc := "()V" } : Jvm.MethodName)), (Jvm.Cond.declares ({ cls := "java/lang/Throwable", name := "<init>", desc := "(Ljava/lang/String;)V" } : Jvm.MethodName)), (Jvm.Cond.castable "java/lang/IllegalStateException" "java/lang/IllegalStateException"), (Jvm.Cond.castable "java/lang/IndexOutOfBoundsException" "java/lang/IndexOutOfBoundsException"), (Jvm.Cond.methodLinkNest "BroadseamLoft$Net" (32 : Nat) ({ cls := "BroadseamLoft", name := "isOutside", desc := "(JJJ)Z" } : Jvm.MethodName) "BroadseamLoft")]
def ngS : List (String × Nat × String) := [("BroadseamLoft", 68, "a strength is out of range"), ("BroadseamLoft", 79, "there are 6 lots"), ("BroadseamLoft", 91, "no such lot"), ("BroadseamLoft", 96, "the hours are out of range"), ("BroadseamLoft", 112, "the panel does not lie on a roll so"), ("BroadseamLoft", 117, "there are 12 panels"), ("BroadseamLoft", 129, "no such panel"), ("BroadseamLoft", 139, "both panels are one, or the kind is out of range"), ("BroadseamLoft", 144, "there were 30 seams"), ("BroadseamLoft", 149, "no such seam"), ("BroadseamLoft", 187, "no such knot"), ("BroadseamLoft", 191, "the height is out of range"), ("BroadseamLoft", 203, "the load is out of range"), ("BroadseamLoft", 210, "the steps are out of range"), ("BroadseamLoft", 239, "there was no such peg"), ("BroadseamLoft", 259, "the halyard, the sheet or the reefs are out of range"), ("BroadseamLoft", 274, "the wind is out of range"), ("BroadseamLoft", 282, "the wind or the limit is out of range"), ("BroadseamLoft", 286, "the days are out of range"), ("BroadseamLoft", 292, "the day would be above 100000"), ("BroadseamLoft", 297, "there are 6 canopies"), ("BroadseamLoft", 306, "no such canopy"), ("BroadseamLoft", 310, "what holds the part is out of range"), ("BroadseamLoft", 321, "the canopy has 8 parts, or is sealed"), ("BroadseamLoft", 328, "no such canopy or rigger"), ("BroadseamLoft", 333, "the canopy cannot be sealed"), ("BroadseamLoft", 354, "the canopy has no seal, it is too old, or the lot is held"), ("BroadseamLoft", 362, "the canopy is sealed"), ("BroadseamLoft", 370, "the lot is so already"), ("BroadseamLoft", 378, "what is asked is out of range"), ("BroadseamLoft", 230, "the force is out of range"), ("BroadseamLoft", 218, "the hold or the stiffness is out of range"), ("BroadseamLoft", 223, "there were 8 pegs")]
def ES (A : Nat → Prop) (U : State) (H : Heap) : Prop := vx_Zq Bundle.tN "UNASSIGNED_STACK" Bundle.steD A U H ∧ vx_Zq Bundle.tN "SUPPRESSED_SENTINEL" Bundle.listD A U H ∧ (∀ w ∈ ngW, va_Nw w U) ∧ (∀ q ∈ ngS, ∃ sa, vk_R q.1 q.2.1 q.2.2 sa U)
theorem ng_warm {s U : State} (hW : s.WarmedH U.vm) {w : Cond} (hw : w ∈ ngW) (h : va_Nw w s) : va_Nw w U := by
  have hAO : ∀ C : String, va_Nw (.arrayOver (.object C)) s → va_Nw (.arrayOver (.object C)) U := fun C h => va_AO.moved hW.alike h
  simp only [ngW, List.mem_cons, List.not_mem_nil, or_false] at hw
  rcases hw with rfl | rfl | rfl | rfl | rfl | rfl | rfl | rfl | rfl | rfl | rfl | rfl | rfl | rfl | rfl | rfl | rfl
  · exact hAO _ h
  · exact hAO _ h
  · exact hAO _ h
  · exact hAO _ h
  · exact va_Nw.warmM hW h
  · exact hAO _ h
  · exact va_Nw.warmM hW h
  · exact va_Nw.warmC hW h
  · exact va_Nw.warmD hW h
  · exact va_Nw.warmD hW h
  · exact va_Nw.warmD hW h
  · exact va_Nw.warmD hW h
  · exact va_Nw.warmD hW h
  · exact va_Nw.warmD hW h
  · exact va_Nw.warmC hW h
  · exact va_Nw.warmC hW h
  · exact va_Nw.warmM hW h
theorem ng_use {w : Cond} (hw : w ∈ ngW) {A : Array Value} {U : State} (h : va_Nw w U) : w.before A U = true := by
  have hAO : ∀ C : String, va_Nw (.arrayOver (.object C)) U → (Cond.arrayOver (.object C)).before A U = true := fun C h => h
  simp only [ngW, List.mem_cons, List.not_mem_nil, or_false] at hw
  rcases hw with rfl | rfl | rfl | rfl | rfl | rfl | rfl | rfl | rfl | rfl | rfl | rfl | rfl | rfl | rfl | rfl | rfl
  · exact hAO _ h
  · exact hAO _ h
  · exact hAO _ h
  · exact hAO _ h
  · exact va_Nw.use rfl h
  · exact hAO _ h
  · exact va_Nw.use rfl h
  · exact va_Nw.use rfl h
  · exact va_Nw.use rfl h
  · exact va_Nw.use rfl h
  · exact va_Nw.use rfl h
  · exact va_Nw.use rfl h
  · exact va_Nw.use rfl h
  · exact va_Nw.use rfl h
  · exact va_Nw.use rfl h
  · exact va_Nw.use rfl h
  · exact va_Nw.use rfl h
theorem ES.warm {A : Nat → Prop} {s U : State} {H : Heap} (hW : s.WarmedH U.vm) (h : ES A s H) : ES A U H := ⟨vx_Zq.moved hW.alike h.1, vx_Zq.moved hW.alike h.2.1, fun w hw => ng_warm hW hw (h.2.2.1 w hw), fun q hq => (h.2.2.2 q hq).elim (fun sa hs => ⟨sa, vk_R.warm hW hs⟩)⟩
theorem ES.kept {A : Nat → Prop} {U : State} {H H1 : Heap} (h : ES A U H) (hq : ∀ a : Nat, a < H.size → ¬ A a → H1[a]? = H[a]?) : ES A U H1 := ⟨vx_Zq.kept h.1 hq, vx_Zq.kept h.2.1 hq, h.2.2⟩
theorem ES.narrow {A B : Nat → Prop} {U : State} {H : Heap} (h : ES A U H) (hAB : ∀ q, B q → A q) : ES B U H := ⟨vx_Zq.narrow h.1 hAB, vx_Zq.narrow h.2.1 hAB, h.2.2⟩
def FL (own : String) (idx ci k : Nat) : Prop := ∃ (C : String) (T : u_T) (N : Nat), cls[ci]? = some (C, T, N) ∧ k < N ∧ Cond.fieldLink own idx (T k).1 (T k).2.1 (T k).2.2.1 ∈ lw_all ∧ ∀ w ∈ u_ws C T N, w ∈ lw_all
def FW (own : String) (idx ci k : Nat) (ty : FieldType) (fin : Bool) : Prop := ∃ (C : String) (T : u_T) (N : Nat) (ty0 : Nat → FieldType), cls[ci]? = some (C, T, N) ∧ k < N ∧ Cond.fieldLink own idx (T k).1 (T k).2.1 (T k).2.2.1 ∈ lw_all ∧ (∀ w ∈ u_ws C T N, w ∈ lw_all) ∧ (∀ k, k < N → parseFieldDescriptor (T k).2.2.1 = some (ty0 k)) ∧ (∀ a, a < N → ∀ b, b < N → a ≠ b → (T a).2.1 ≠ (T b).2.1) ∧ (T k).2.2.2 = fin ∧ ty0 k = ty ∧ (fin = true → (T k).1 = own)
def NW (own : String) (idx ci : Nat) : Prop := ∃ (C : String) (T : u_T) (N : Nat) (ty0 : Nat → FieldType), cls[ci]? = some (C, T, N) ∧ (lay ci).length = N ∧ (∀ w ∈ u_ws C T N, w ∈ lw_all) ∧ (∀ k, k < N → parseFieldDescriptor (T k).2.2.1 = some (ty0 k)) ∧ (∀ j, j < N → defaultValue (ty0 j) = vp_V (flds (fun _ => 0) (fun _ => 0) (fun _ => none) (lay ci)) j) ∧ Cond.classLink own idx C ∈ lw_all ∧ Cond.instantiable C N ∈ lw_all ∧ Cond.initialized C ∈ lw_all
def CWm (own : String) (idx : Nat) (y : MethodName) (bytes : ByteArray) (maxL : Nat) (ret : Option FieldType) (k : Nat) : Prop := Cond.methodLink own idx y ∈ lw_all ∧ Cond.initialized y.cls ∈ lw_all ∧ Cond.code y bytes maxL ret ∈ lw_all ∧ y.cls ≠ "java/lang/invoke/MethodHandle" ∧ y.cls ≠ "java/lang/invoke/VarHandle" ∧ (parseMethodDescriptor y.desc).map (fun d => d.parameters.length) = some k
def TWm (own : String) (ik is ic : Nat) (X text : String) : Prop := Bundle.fit X = true ∧ Cond.classLink own ik X ∈ lw_all ∧ Cond.initialized X ∈ lw_all ∧ (own, is, text) ∈ ngS ∧ (∀ w ∈ (vx_atS own ic X ["java/lang/RuntimeException", "java/lang/Exception"]).filter goodWord, w ∈ lw_all) ∧ (∀ w ∈ (vx_atS own ic X ["java/lang/RuntimeException", "java/lang/Exception"]).filter (fun w => !goodWord w), w ∈ ngW) ∧ (∀ w ∈ Cond.classLink own ik X :: Cond.initialized X :: vx_atS own ic X ["java/lang/RuntimeException", "java/lang/Exception"], vx_ot w = true)
