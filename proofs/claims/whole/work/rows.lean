section
-- ===== PART A: goes FIRST, ahead of the names: the tables' words, and 'selects' of the private methods out of them =====
/-- a private method of a class that the tables say can be made, by its rows of tables_1 -/
def lw_okq (q : MethodName × Nat) : Prop := (q.1.cls ≠ "java/lang/invoke/MethodHandle" ∧ q.1.cls ≠ "java/lang/invoke/VarHandle") ∧ Cond.instantiable q.1.cls q.2 ∈ tables_1 ∧ Cond.privateMethod q.1 ∈ tables_1 ∧ Cond.instanceMethod q.1 ∈ tables_1
theorem lw_p0 : lw_okq (⟨"java/lang/Throwable", "fillInStackTrace", "(I)Ljava/lang/Throwable;"⟩, 6) := ⟨⟨by decide +kernel, by decide +kernel⟩, List.mem_of_getElem? (i := 192) (by decide +kernel), List.mem_of_getElem? (i := 190) (by decide +kernel), List.mem_of_getElem? (i := 191) (by decide +kernel)⟩
theorem lw_p1 : lw_okq (⟨"BroadseamLoft", "lotAt", "(I)LBroadseamLoft$Lot;"⟩, 14) := ⟨⟨by decide +kernel, by decide +kernel⟩, List.mem_of_getElem? (i := 20) (by decide +kernel), List.mem_of_getElem? (i := 277) (by decide +kernel), List.mem_of_getElem? (i := 278) (by decide +kernel)⟩
theorem lw_p2 : lw_okq (⟨"BroadseamLoft", "panelAt", "(I)LBroadseamLoft$Panel;"⟩, 14) := ⟨⟨by decide +kernel, by decide +kernel⟩, List.mem_of_getElem? (i := 20) (by decide +kernel), List.mem_of_getElem? (i := 350) (by decide +kernel), List.mem_of_getElem? (i := 351) (by decide +kernel)⟩
theorem lw_p3 : lw_okq (⟨"BroadseamLoft", "spreadLoadFrom", "(LBroadseamLoft$Panel;)V"⟩, 14) := ⟨⟨by decide +kernel, by decide +kernel⟩, List.mem_of_getElem? (i := 20) (by decide +kernel), List.mem_of_getElem? (i := 425) (by decide +kernel), List.mem_of_getElem? (i := 426) (by decide +kernel)⟩
theorem lw_p4 : lw_okq (⟨"BroadseamLoft", "joinUntilTogether", "(LBroadseamLoft$Panel;LBroadseamLoft$Panel;)J"⟩, 14) := ⟨⟨by decide +kernel, by decide +kernel⟩, List.mem_of_getElem? (i := 20) (by decide +kernel), List.mem_of_getElem? (i := 444) (by decide +kernel), List.mem_of_getElem? (i := 445) (by decide +kernel)⟩
theorem lw_p5 : lw_okq (⟨"BroadseamLoft", "strongestBetweenGroups", "()LBroadseamLoft$Seam;"⟩, 14) := ⟨⟨by decide +kernel, by decide +kernel⟩, List.mem_of_getElem? (i := 20) (by decide +kernel), List.mem_of_getElem? (i := 448) (by decide +kernel), List.mem_of_getElem? (i := 449) (by decide +kernel)⟩
theorem lw_p6 : lw_okq (⟨"BroadseamLoft", "moveGroup", "(II)V"⟩, 14) := ⟨⟨by decide +kernel, by decide +kernel⟩, List.mem_of_getElem? (i := 20) (by decide +kernel), List.mem_of_getElem? (i := 452) (by decide +kernel), List.mem_of_getElem? (i := 453) (by decide +kernel)⟩
theorem lw_p7 : lw_okq (⟨"BroadseamLoft", "shareForce", "(J)V"⟩, 14) := ⟨⟨by decide +kernel, by decide +kernel⟩, List.mem_of_getElem? (i := 20) (by decide +kernel), List.mem_of_getElem? (i := 550) (by decide +kernel), List.mem_of_getElem? (i := 551) (by decide +kernel)⟩
theorem lw_p8 : lw_okq (⟨"BroadseamLoft", "stiffnessTogether", "()J"⟩, 14) := ⟨⟨by decide +kernel, by decide +kernel⟩, List.mem_of_getElem? (i := 20) (by decide +kernel), List.mem_of_getElem? (i := 554) (by decide +kernel), List.mem_of_getElem? (i := 555) (by decide +kernel)⟩
theorem lw_p9 : lw_okq (⟨"BroadseamLoft", "takeOutOverpulled", "()I"⟩, 14) := ⟨⟨by decide +kernel, by decide +kernel⟩, List.mem_of_getElem? (i := 20) (by decide +kernel), List.mem_of_getElem? (i := 558) (by decide +kernel), List.mem_of_getElem? (i := 559) (by decide +kernel)⟩
theorem lw_p10 : lw_okq (⟨"BroadseamLoft", "canopyAt", "(I)LBroadseamLoft$Canopy;"⟩, 14) := ⟨⟨by decide +kernel, by decide +kernel⟩, List.mem_of_getElem? (i := 20) (by decide +kernel), List.mem_of_getElem? (i := 681) (by decide +kernel), List.mem_of_getElem? (i := 682) (by decide +kernel)⟩
theorem lw_p11 : lw_okq (⟨"BroadseamLoft", "takeSealsAway", "(I)I"⟩, 14) := ⟨⟨by decide +kernel, by decide +kernel⟩, List.mem_of_getElem? (i := 20) (by decide +kernel), List.mem_of_getElem? (i := 756) (by decide +kernel), List.mem_of_getElem? (i := 757) (by decide +kernel)⟩
theorem lw_p12 : lw_okq (⟨"BroadseamLoftModel", "goes", "(I)Z"⟩, 39) := ⟨⟨by decide +kernel, by decide +kernel⟩, List.mem_of_getElem? (i := 784) (by decide +kernel), List.mem_of_getElem? (i := 921) (by decide +kernel), List.mem_of_getElem? (i := 922) (by decide +kernel)⟩
theorem lw_p13 : lw_okq (⟨"BroadseamLoftModel", "isLot", "(I)Z"⟩, 39) := ⟨⟨by decide +kernel, by decide +kernel⟩, List.mem_of_getElem? (i := 784) (by decide +kernel), List.mem_of_getElem? (i := 929) (by decide +kernel), List.mem_of_getElem? (i := 930) (by decide +kernel)⟩
theorem lw_p14 : lw_okq (⟨"BroadseamLoftModel", "isPanel", "(I)Z"⟩, 39) := ⟨⟨by decide +kernel, by decide +kernel⟩, List.mem_of_getElem? (i := 784) (by decide +kernel), List.mem_of_getElem? (i := 942) (by decide +kernel), List.mem_of_getElem? (i := 943) (by decide +kernel)⟩
theorem lw_p15 : lw_okq (⟨"BroadseamLoftModel", "strengthOf", "(I)J"⟩, 39) := ⟨⟨by decide +kernel, by decide +kernel⟩, List.mem_of_getElem? (i := 784) (by decide +kernel), List.mem_of_getElem? (i := 946) (by decide +kernel), List.mem_of_getElem? (i := 947) (by decide +kernel)⟩
def lw_privs_1 : List (MethodName × Nat) := [(⟨"java/lang/Throwable", "fillInStackTrace", "(I)Ljava/lang/Throwable;"⟩, 6), (⟨"BroadseamLoft", "lotAt", "(I)LBroadseamLoft$Lot;"⟩, 14), (⟨"BroadseamLoft", "panelAt", "(I)LBroadseamLoft$Panel;"⟩, 14), (⟨"BroadseamLoft", "spreadLoadFrom", "(LBroadseamLoft$Panel;)V"⟩, 14), (⟨"BroadseamLoft", "joinUntilTogether", "(LBroadseamLoft$Panel;LBroadseamLoft$Panel;)J"⟩, 14), (⟨"BroadseamLoft", "strongestBetweenGroups", "()LBroadseamLoft$Seam;"⟩, 14), (⟨"BroadseamLoft", "moveGroup", "(II)V"⟩, 14), (⟨"BroadseamLoft", "shareForce", "(J)V"⟩, 14), (⟨"BroadseamLoft", "stiffnessTogether", "()J"⟩, 14), (⟨"BroadseamLoft", "takeOutOverpulled", "()I"⟩, 14), (⟨"BroadseamLoft", "canopyAt", "(I)LBroadseamLoft$Canopy;"⟩, 14), (⟨"BroadseamLoft", "takeSealsAway", "(I)I"⟩, 14), (⟨"BroadseamLoftModel", "goes", "(I)Z"⟩, 39), (⟨"BroadseamLoftModel", "isLot", "(I)Z"⟩, 39), (⟨"BroadseamLoftModel", "isPanel", "(I)Z"⟩, 39), (⟨"BroadseamLoftModel", "strengthOf", "(I)J"⟩, 39)]
theorem lw_r1 : ∀ q ∈ lw_privs_1, lw_okq q := List.forall_mem_cons.mpr ⟨lw_p0, List.forall_mem_cons.mpr ⟨lw_p1, List.forall_mem_cons.mpr ⟨lw_p2, List.forall_mem_cons.mpr ⟨lw_p3, List.forall_mem_cons.mpr ⟨lw_p4, List.forall_mem_cons.mpr ⟨lw_p5, List.forall_mem_cons.mpr ⟨lw_p6, List.forall_mem_cons.mpr ⟨lw_p7, List.forall_mem_cons.mpr ⟨lw_p8, List.forall_mem_cons.mpr ⟨lw_p9, List.forall_mem_cons.mpr ⟨lw_p10, List.forall_mem_cons.mpr ⟨lw_p11, List.forall_mem_cons.mpr ⟨lw_p12, List.forall_mem_cons.mpr ⟨lw_p13, List.forall_mem_cons.mpr ⟨lw_p14, List.forall_mem_cons.mpr ⟨lw_p15, fun _ h => absurd h List.not_mem_nil⟩⟩⟩⟩⟩⟩⟩⟩⟩⟩⟩⟩⟩⟩⟩⟩
theorem lw_p16 : lw_okq (⟨"BroadseamLoftModel", "across", "(I)I"⟩, 39) := ⟨⟨by decide +kernel, by decide +kernel⟩, List.mem_of_getElem? (i := 784) (by decide +kernel), List.mem_of_getElem? (i := 955) (by decide +kernel), List.mem_of_getElem? (i := 956) (by decide +kernel)⟩
theorem lw_p17 : lw_okq (⟨"BroadseamLoftModel", "length", "(I)I"⟩, 39) := ⟨⟨by decide +kernel, by decide +kernel⟩, List.mem_of_getElem? (i := 784) (by decide +kernel), List.mem_of_getElem? (i := 959) (by decide +kernel), List.mem_of_getElem? (i := 960) (by decide +kernel)⟩
theorem lw_p18 : lw_okq (⟨"BroadseamLoftModel", "seamOf", "(I)J"⟩, 39) := ⟨⟨by decide +kernel, by decide +kernel⟩, List.mem_of_getElem? (i := 784) (by decide +kernel), List.mem_of_getElem? (i := 971) (by decide +kernel), List.mem_of_getElem? (i := 972) (by decide +kernel)⟩
theorem lw_p19 : lw_okq (⟨"BroadseamLoftModel", "bearsOf", "(II)J"⟩, 39) := ⟨⟨by decide +kernel, by decide +kernel⟩, List.mem_of_getElem? (i := 784) (by decide +kernel), List.mem_of_getElem? (i := 983) (by decide +kernel), List.mem_of_getElem? (i := 984) (by decide +kernel)⟩
theorem lw_p20 : lw_okq (⟨"BroadseamLoftModel", "comes", "(III)Z"⟩, 39) := ⟨⟨by decide +kernel, by decide +kernel⟩, List.mem_of_getElem? (i := 784) (by decide +kernel), List.mem_of_getElem? (i := 987) (by decide +kernel), List.mem_of_getElem? (i := 988) (by decide +kernel)⟩
theorem lw_p21 : lw_okq (⟨"BroadseamLoftModel", "steps", "()Z"⟩, 39) := ⟨⟨by decide +kernel, by decide +kernel⟩, List.mem_of_getElem? (i := 784) (by decide +kernel), List.mem_of_getElem? (i := 1010) (by decide +kernel), List.mem_of_getElem? (i := 1011) (by decide +kernel)⟩
theorem lw_p22 : lw_okq (⟨"BroadseamLoftModel", "comesTo", "(I)I"⟩, 39) := ⟨⟨by decide +kernel, by decide +kernel⟩, List.mem_of_getElem? (i := 784) (by decide +kernel), List.mem_of_getElem? (i := 1014) (by decide +kernel), List.mem_of_getElem? (i := 1015) (by decide +kernel)⟩
theorem lw_p23 : lw_okq (⟨"BroadseamLoftModel", "shares", "(J)I"⟩, 39) := ⟨⟨by decide +kernel, by decide +kernel⟩, List.mem_of_getElem? (i := 784) (by decide +kernel), List.mem_of_getElem? (i := 1035) (by decide +kernel), List.mem_of_getElem? (i := 1036) (by decide +kernel)⟩
theorem lw_p24 : lw_okq (⟨"BroadseamLoftModel", "draft", "(I)F"⟩, 39) := ⟨⟨by decide +kernel, by decide +kernel⟩, List.mem_of_getElem? (i := 784) (by decide +kernel), List.mem_of_getElem? (i := 1051) (by decide +kernel), List.mem_of_getElem? (i := 1052) (by decide +kernel)⟩
theorem lw_p25 : lw_okq (⟨"BroadseamLoftModel", "powerWith", "(II)F"⟩, 39) := ⟨⟨by decide +kernel, by decide +kernel⟩, List.mem_of_getElem? (i := 784) (by decide +kernel), List.mem_of_getElem? (i := 1062) (by decide +kernel), List.mem_of_getElem? (i := 1063) (by decide +kernel)⟩
theorem lw_p26 : lw_okq (⟨"BroadseamLoftModel", "isCanopy", "(I)Z"⟩, 39) := ⟨⟨by decide +kernel, by decide +kernel⟩, List.mem_of_getElem? (i := 784) (by decide +kernel), List.mem_of_getElem? (i := 1084) (by decide +kernel), List.mem_of_getElem? (i := 1085) (by decide +kernel)⟩
theorem lw_p27 : lw_okq (⟨"BroadseamLoftModel", "hasSeal", "(I)Z"⟩, 39) := ⟨⟨by decide +kernel, by decide +kernel⟩, List.mem_of_getElem? (i := 784) (by decide +kernel), List.mem_of_getElem? (i := 1088) (by decide +kernel), List.mem_of_getElem? (i := 1089) (by decide +kernel)⟩
theorem lw_p28 : lw_okq (⟨"BroadseamLoftModel", "rounds", "(I)I"⟩, 39) := ⟨⟨by decide +kernel, by decide +kernel⟩, List.mem_of_getElem? (i := 784) (by decide +kernel), List.mem_of_getElem? (i := 1096) (by decide +kernel), List.mem_of_getElem? (i := 1097) (by decide +kernel)⟩
theorem lw_p29 : lw_okq (⟨"BroadseamLoftModel", "canSeal", "(I)Z"⟩, 39) := ⟨⟨by decide +kernel, by decide +kernel⟩, List.mem_of_getElem? (i := 784) (by decide +kernel), List.mem_of_getElem? (i := 1104) (by decide +kernel), List.mem_of_getElem? (i := 1105) (by decide +kernel)⟩
theorem lw_p30 : lw_okq (⟨"BroadseamLoftModel", "unseals", "(I)V"⟩, 39) := ⟨⟨by decide +kernel, by decide +kernel⟩, List.mem_of_getElem? (i := 784) (by decide +kernel), List.mem_of_getElem? (i := 1112) (by decide +kernel), List.mem_of_getElem? (i := 1113) (by decide +kernel)⟩
theorem lw_p31 : lw_okq (⟨"BroadseamLoftModel", "lifeOf", "(II)I"⟩, 39) := ⟨⟨by decide +kernel, by decide +kernel⟩, List.mem_of_getElem? (i := 784) (by decide +kernel), List.mem_of_getElem? (i := 1128) (by decide +kernel), List.mem_of_getElem? (i := 1129) (by decide +kernel)⟩
def lw_privs_2 : List (MethodName × Nat) := [(⟨"BroadseamLoftModel", "across", "(I)I"⟩, 39), (⟨"BroadseamLoftModel", "length", "(I)I"⟩, 39), (⟨"BroadseamLoftModel", "seamOf", "(I)J"⟩, 39), (⟨"BroadseamLoftModel", "bearsOf", "(II)J"⟩, 39), (⟨"BroadseamLoftModel", "comes", "(III)Z"⟩, 39), (⟨"BroadseamLoftModel", "steps", "()Z"⟩, 39), (⟨"BroadseamLoftModel", "comesTo", "(I)I"⟩, 39), (⟨"BroadseamLoftModel", "shares", "(J)I"⟩, 39), (⟨"BroadseamLoftModel", "draft", "(I)F"⟩, 39), (⟨"BroadseamLoftModel", "powerWith", "(II)F"⟩, 39), (⟨"BroadseamLoftModel", "isCanopy", "(I)Z"⟩, 39), (⟨"BroadseamLoftModel", "hasSeal", "(I)Z"⟩, 39), (⟨"BroadseamLoftModel", "rounds", "(I)I"⟩, 39), (⟨"BroadseamLoftModel", "canSeal", "(I)Z"⟩, 39), (⟨"BroadseamLoftModel", "unseals", "(I)V"⟩, 39), (⟨"BroadseamLoftModel", "lifeOf", "(II)I"⟩, 39)]
theorem lw_r2 : ∀ q ∈ lw_privs_2, lw_okq q := List.forall_mem_cons.mpr ⟨lw_p16, List.forall_mem_cons.mpr ⟨lw_p17, List.forall_mem_cons.mpr ⟨lw_p18, List.forall_mem_cons.mpr ⟨lw_p19, List.forall_mem_cons.mpr ⟨lw_p20, List.forall_mem_cons.mpr ⟨lw_p21, List.forall_mem_cons.mpr ⟨lw_p22, List.forall_mem_cons.mpr ⟨lw_p23, List.forall_mem_cons.mpr ⟨lw_p24, List.forall_mem_cons.mpr ⟨lw_p25, List.forall_mem_cons.mpr ⟨lw_p26, List.forall_mem_cons.mpr ⟨lw_p27, List.forall_mem_cons.mpr ⟨lw_p28, List.forall_mem_cons.mpr ⟨lw_p29, List.forall_mem_cons.mpr ⟨lw_p30, List.forall_mem_cons.mpr ⟨lw_p31, fun _ h => absurd h List.not_mem_nil⟩⟩⟩⟩⟩⟩⟩⟩⟩⟩⟩⟩⟩⟩⟩⟩
def lw_privs : List (MethodName × Nat) := lw_privs_1 ++ (lw_privs_2)
def lw_tbl : List Cond := k2_sels lw_privs ++ tables_1
theorem lw_privs_ok : ∀ q ∈ lw_privs, lw_okq q := by
  show ∀ q ∈ lw_privs_1 ++ (lw_privs_2), lw_okq q
  exact List.forall_mem_append.mpr ⟨lw_r1, lw_r2⟩
/-- the streams that the claim lets the run draw from -/
abbrev lw_cs : List Choice := [Jvm.Choice.named "NaN.bits"]
theorem lw_bits : nanBits ∈ lw_cs := by first | decide | exact List.mem_cons_self | simp [lw_cs, nanBits]
end
section
/-! ===== BEGIN words of one list among another's, by their places ===== -/
theorem goodIn_r {big : List Cond} (ws : List Cond) (ps : List Nat) (hp : ws = ps.filterMap (fun i => big[i]?)) (h : ws.all goodWord = true) : GoodIn big ws := by
  intro w hw
  have h1 := List.all_eq_true.mp h w hw
  rw [hp] at hw
  obtain ⟨i, -, hi⟩ := List.mem_filterMap.mp hw
  have hm : w ∈ big := by first | exact List.mem_of_getElem? hi | exact List.getElem?_mem hi
  exact ⟨hm, good_of_word h1⟩
theorem goodIn_app {big a b : List Cond} (ha : GoodIn big a) (hb : GoodIn big b) : GoodIn big (a ++ b) := fun w h => (List.mem_append.mp h).elim (ha w) (hb w)
theorem goodIn_ca {big a b : List Cond} {c : Cond} (ha : GoodIn big (c :: a)) (hb : GoodIn big b) : GoodIn big (c :: (a ++ b)) := fun w h => (List.mem_cons.mp h).elim (fun e => ha w (List.mem_cons.mpr (Or.inl e))) (fun h => (List.mem_append.mp h).elim (fun h => ha w (List.mem_cons.mpr (Or.inr h))) (hb w))
theorem goodIn_sub {big ws : List Cond} (hm : ∀ w ∈ ws, w ∈ big) (h : ws.all goodWord = true) : GoodIn big ws := fun w hw => ⟨hm w hw, good_of_word (List.all_eq_true.mp h w hw)⟩
/-! ===== END ===== -/

/-! ===== BEGIN exceptions that leave a method, and their catching by the caller (launches without stack traces) ===== -/
section VXA
/-! The laws vx_back, vx_callV, vx_callS, vx_callSW, vx_throw0, vx_throwS follow proofs of the library, with one case more: JvmDerived/Free/Laws.lean (Back.of_free), Shelf42/LK1.lean (callV, callS), Shelf/KitTraced.lean (throwNew0V, throwNewS). -/
/-- where a method has thrown q: the class by its name, the cell, what was written, the world -/
def vx_T (XC : String → State → State → Prop) (st : State) (q : Addr) (t : State) (mc ms : Nat) (free : Addr → Prop) : Prop :=
  ∃ (E : String) (ce : Cell) (L : List Loc), XC E st t ∧ t.heap[q]? = some ce ∧ ce.vm = .none ∧ st.vm.findClass E = some ce.cls ∧ st.WarmedH t.vm ∧ st.sameButNew ({ t with vm := st.vm } : State) L mc ms ∧ ∀ z ∈ L, free z.base
def vx_Q (Qc : Array Value → State → Outcome → State → Prop) (XC : String → State → State → Prop) (mc ms : Nat) (free : Addr → Prop) : Array Value → State → Outcome → State → Prop := fun a st o t =>
  (Qc a st o t ∧ ∃ L, FrameEnd st o t L mc ms ∧ ∀ q ∈ L, free q.base) ∨ ∃ q, o = .threw q ∧ vx_T XC st q t mc ms free
/-- a callee that returns or throws -/
def vx_Met (l : Launch) (y : MethodName) (ws : List Cond) (rm : Room) (Pc : Array Value → State → Prop) (Qc : Array Value → State → Outcome → State → Prop) (XC : String → State → State → Prop) (mc ms : Nat) (free : Addr → Prop) : Prop :=
  MetFree l y (headSpec ws rm) Pc (fun _ _ _ _ _ => True) (vx_Q Qc XC mc ms free)
def vx_Post (XC : String → State → State → Prop) (mc ms : Nat) (free : Addr → Prop) : Pt → Array Value → Addr → Pt → Prop := fun A a q B =>
  ∃ (g : JFrame) (mk : MethodId) (t : State) (L : List Loc) (E : String) (ce : Cell), B.U.heap = t.heap ∧ B.U.vm = t.vm ∧ XC E (A.U.calling g mk a) t ∧ t.heap[q]? = some ce ∧ ce.vm = .none ∧ A.U.vm.findClass E = some ce.cls ∧ B.locs = A.locs ++ L ∧ (∀ z ∈ L, free z.base) ∧ B.cells = A.cells + mc ∧ B.slots = A.slots + ms
def vx_Back (l : Launch) (R : Room) (p : Program) (e : Env) (below : List Frame) (s : State) (sargs : Array Value) (y : MethodName) (len W9 : Nat)
    (Pre : Pt → Array Value → Prop) (Post : Pt → Array Value → Option Value → Pt → Prop) (PostX : Pt → Array Value → Addr → Pt → Prop) : Prop :=
  ∀ (m : MethodId) (meth : Method) (c : Code) (A : Pt) (g : JFrame) (ig : Instr) (mk : MethodId) (a : Array Value),
    Stand p l e R s m sargs below meth c A.U A.locs A.cells A.slots → g.method = m → g.locals.size = c.maxLocals → decode c.code g.pc = .ok (ig, len) →
    2 * g.monitorRoom + (g.stack.map fun v => v.category).sum ≤ W9 → A.U.methodNamed? y = some mk → Pre A a →
    (∃ (v : Option Value) (B : Pt), Stand p l e R s m sargs below meth c B.U B.locs B.cells B.slots ∧ Post A a v B ∧
      Steps p.tables e below (doInvoke e (A.U.setTop g) [] mk a).1 (B.U.setTop { g with pc := g.pc + len, stack := v.toList ++ g.stack })) ∨
    (∃ (q : Addr) (B : Pt), Stand p l e R s m sargs below meth c B.U B.locs B.cells B.slots ∧ PostX A a q B ∧
      Steps p.tables e below (doInvoke e (A.U.setTop g) [] mk a).1 ((B.U.setTop g).pushFrame (.throwing q)))
section Payer
variable {l : Launch} {R : Room} {p : Program} {e : Env} {below : List Frame} {s : State} {sargs : Array Value} {y : MethodName} {len W9 : Nat}
theorem vx_back {ws : List Cond} {rm : Room} {Pc : Array Value → State → Prop} {Qc : Array Value → State → Outcome → State → Prop} {XC : String → State → State → Prop} {mc ms : Nat} {free : Addr → Prop} {bytes : ByteArray} {maxL : Nat} {ret : Option FieldType}
    (hM : vx_Met l y ws rm Pc Qc XC mc ms free) (hblind : FrameBlind Pc) (hrc : rm.cells = mc) (hrs : rm.slots = ms)
    (hframes : rm.frames + 1 ≤ R.frames) (hlocals : W9 + (maxL + 11) + rm.locals ≤ R.locals)
    (hws : ∀ w ∈ ws, ∀ a' U, s.WarmedH U.vm → w.before a' U = true) (hcode : Cond.code y bytes maxL ret ∈ ws) (hinit : ∀ a' U, s.WarmedH U.vm → (Cond.initialized y.cls).before a' U = true) :
    vx_Back l R p e below s sargs y len W9 (PreOf R mc ms Pc) (PostOf Qc mc ms free) (vx_Post XC mc ms free) := by
  intro m meth c A g ig mk a X hg hsize hdg hW hn hp
  have h1 : (headSpec ws rm).pre.before a A.U = true := atoms_intro fun w hw => hws w hw _ _ X.warmed
  have h2 : (Cond.code y bytes maxL ret).before a A.U = true := hws _ hcode _ _ X.warmed
  have h3 : (Cond.initialized y.cls).before a A.U = true := hinit _ _ X.warmed
  have h4 : A.cells + (headSpec ws rm).room.cells ≤ R.cells := by rw [show (headSpec ws rm).room.cells = mc from hrc]; exact hp.1
  have h5 : A.slots + (headSpec ws rm).room.slots ≤ R.slots := by rw [show (headSpec ws rm).room.slots = ms from hrs]; exact hp.2.1
  have hPc : Pc a (A.U.calling g mk a) := hblind _ _ _ _ hp.2.2
  obtain ⟨U, Ls, c0, s0⟩ := A
  dsimp only [Pt.U, Pt.locs, Pt.cells, Pt.slots] at h1 h2 h3 h4 h5 X hn hPc ⊢
  obtain ⟨methY, cY, hmY, hcY, -, hlY, -, -, -, -⟩ := Cond.code_spec hn h2
  obtain ⟨kY, hkY, -⟩ := className_of_methodNamed hn
  have hinitY : kY.init = .initialized := Cond.initialized_spec (findClass_of_methodNamed hn) hkY h3
  have h : At U g.method c below := by rw [hg]; exact X.here
  have hlocals9 : W9 + (maxL + 11) + (headSpec ws rm).room.locals ≤ R.locals := hlocals
  have happ : (headSpec ws rm).appliesLoose y e.platform (U.calling g mk a) = true :=
    Spec.appliesLoose_calling (g := g) h hdg hn hkY hinitY
      (X.room_calling (g := g) (R' := (headSpec ws rm).room) hsize hmY hcY hframes (by rw [hlY]; omega) h4 h5) h1
  obtain ⟨mid, hmid⟩ := h.above
  have hfr : (U.setTop g).frames = (.java g :: mid) ++ below := by rw [State.frames_setTop' g h.top, hmid]; rfl
  obtain ⟨o, s₂, hsteps, -, hend, hq⟩ := Steps.callFree hM p X.admits X.cas X.clock (acts := []) hfr happ hPc trivial
  have hq' : vx_Q Qc XC mc ms free a (U.calling g mk a) o s₂ := hq
  rw [State.frames_setTop' g h.top] at hend
  obtain ⟨g₀, hg0⟩ := Option.isSome_iff_exists.mp h.top
  obtain ⟨r, hr⟩ := State.topJava?_eq_some.mp hg0
  have hr' : (({ U with heap := s₂.heap, slotsUsed := s₂.slotsUsed } : State).setVm s₂.vm).frames = .java g₀ :: r := hr
  rcases hq' with ⟨hqc, L, hfe, hL⟩ | ⟨q, rfl, E, ce, L, hx, hce, hcv, hcl, hW₂, hsm, hL⟩
  · obtain ⟨⟨v, rfl⟩, hW₂, e2, q2, q3, q4, q5, q6⟩ := id hfe
    have e3 : s₂ = ({ (U.calling g mk a).setFrames s₂.frames with heap := s₂.heap, slotsUsed := s₂.slotsUsed } : State).setVm s₂.vm := by
      have : s₂ = ({ s₂ with vm := (U.calling g mk a).vm } : State).setVm s₂.vm := rfl
      rw [e2] at this
      exact this
    obtain ⟨c₂, i₂, len₂, hc₂, hd₂, hf₂⟩ := hend
    have hW' : U.WarmedH s₂.vm := hW₂
    have hcc : c₂ = c := by
      have h1 : s₂.code? g.method = U.code? g.method := by
        rw [State.code?_eq, State.code?_eq, hW'.alike.method?]
      exact Option.some.inj (hc₂.symm.trans (h1.trans h.code))
    subst hcc
    have hlen : len₂ = len := by rw [hdg] at hd₂; cases hd₂; rfl
    subst hlen
    have hs₂ : s₂ = (({ U with heap := s₂.heap, slotsUsed := s₂.slotsUsed } : State).setVm s₂.vm).setTop { g with pc := g.pc + len₂, stack := v.toList ++ g.stack } := by
      refine e3.trans ?_
      rw [hf₂, State.calling_eq h.top, State.setFrames_setFrames, State.setTop_of_frames _ hr', hr]
      rfl
    have hsame : U.sameButNew ({ U with heap := s₂.heap, slotsUsed := s₂.slotsUsed } : State) L mc ms := by
      refine ⟨?_, q2, q3, q4, q5, q6⟩
      obtain ⟨t, ht, -⟩ := State.frames_cons hr
      show ({ U with heap := s₂.heap, slotsUsed := s₂.slotsUsed } : State) = { U.setFrames U.frames with heap := s₂.heap, slotsUsed := s₂.slotsUsed }
      rw [State.setFrames_self ht]
    subst hg
    refine Or.inl ⟨v, ⟨(({ U with heap := s₂.heap, slotsUsed := s₂.slotsUsed } : State).setVm s₂.vm), Ls ++ L, c0 + mc, s0 + ms⟩,
      ⟨X.admits, X.cas, X.clock, X.frames, X.room, X.hears, X.method, X.code, (X.here.setHeapUsed s₂.heap s₂.slotsUsed).setVm hW'.alike, X.tail, State.WarmedH.trans X.warmed hW', X.limits, X.bytes, X.same.trans (hsame.setVm s.vm)⟩,
      ⟨g, mk, s₂, L, rfl, rfl, hqc, rfl, hL, rfl, rfl⟩, ?_⟩
    show Steps p.tables e below _ ((({ U with heap := s₂.heap, slotsUsed := s₂.slotsUsed } : State).setVm s₂.vm).setTop { g with pc := g.pc + len₂, stack := v.toList ++ g.stack })
    rw [← hs₂]
    exact hsteps
  · obtain ⟨e2, q2, q3, q4, q5, q6⟩ := id hsm
    have e3 : s₂ = ({ (U.calling g mk a).setFrames s₂.frames with heap := s₂.heap, slotsUsed := s₂.slotsUsed } : State).setVm s₂.vm := by
      have : s₂ = ({ s₂ with vm := (U.calling g mk a).vm } : State).setVm s₂.vm := rfl
      rw [e2] at this
      exact this
    have hf₂ : s₂.frames = .throwing q :: .java g :: U.frames.tail := hend
    have hW' : U.WarmedH s₂.vm := hW₂
    have hs₂ : s₂ = ((({ U with heap := s₂.heap, slotsUsed := s₂.slotsUsed } : State).setVm s₂.vm).setTop g).pushFrame (.throwing q) := by
      refine e3.trans ?_
      rw [hf₂, State.calling_eq h.top, State.setFrames_setFrames, State.pushFrame, State.frames_setTop _ hr', State.setTop_of_frames _ hr', State.setFrames_setFrames, hr]
      rfl
    have hsame : U.sameButNew ({ U with heap := s₂.heap, slotsUsed := s₂.slotsUsed } : State) L mc ms := by
      refine ⟨?_, q2, q3, q4, q5, q6⟩
      obtain ⟨t, ht, -⟩ := State.frames_cons hr
      show ({ U with heap := s₂.heap, slotsUsed := s₂.slotsUsed } : State) = { U.setFrames U.frames with heap := s₂.heap, slotsUsed := s₂.slotsUsed }
      rw [State.setFrames_self ht]
    subst hg
    refine Or.inr ⟨q, ⟨(({ U with heap := s₂.heap, slotsUsed := s₂.slotsUsed } : State).setVm s₂.vm), Ls ++ L, c0 + mc, s0 + ms⟩,
      ⟨X.admits, X.cas, X.clock, X.frames, X.room, X.hears, X.method, X.code, (X.here.setHeapUsed s₂.heap s₂.slotsUsed).setVm hW'.alike, X.tail, State.WarmedH.trans X.warmed hW', X.limits, X.bytes, X.same.trans (hsame.setVm s.vm)⟩,
      ⟨g, mk, s₂, L, E, ce, rfl, rfl, hx, hce, hcv, hcl, rfl, hL, rfl, rfl⟩, ?_⟩
    show Steps p.tables e below _ (((({ U with heap := s₂.heap, slotsUsed := s₂.slotsUsed } : State).setVm s₂.vm).setTop g).pushFrame (.throwing q))
    rw [← hs₂]
    exact hsteps
end Payer
section Calls
variable {p : Program} {l : Launch} {e : Env} {R : Room} {s : State} {m : MethodId} {args : Array Value} {below : List Frame} {meth : Method} {c : Code} {T : State} {locs : List Loc} {cells slots : Nat}
theorem vx_callV (X : Stand p l e R s m args below meth c T locs cells slots) (hexec : p.tables.exec = Jvm.exec) {own C : String} {index : Nat} {y : MethodName} {bytes : ByteArray} {maxL : Nat} {ret : Option FieldType}
    (hown : s.vm.findClass own = some m.cls) (hlink : (Cond.methodLink own index y).before args s = true) (hinst : (Cond.instanceMethod y).before args s = true) (hsel : (Cond.selects C y y).before args s = true)
    (hcode : (Cond.code y bytes maxL ret).before args s = true) (hy : y.cls ≠ "java/lang/invoke/MethodHandle" ∧ y.cls ≠ "java/lang/invoke/VarHandle")
    {W9 : Nat} {Pre : Pt → Array Value → Prop} {Post : Pt → Array Value → Option Value → Pt → Prop} {PostX : Pt → Array Value → Addr → Pt → Prop} (hK : vx_Back l R p e below s args y 3 W9 Pre Post PostX)
    {b : Addr} {cellB : Cell} (hcell : T.heap[b]? = some cellB) (hobj : cellB.vm.isStatics = false) (hcls : s.vm.findClass C = some cellB.cls)
    {g : JFrame} (hg : g.method = m) (hsize : g.locals.size = c.maxLocals) {argsL rest : List Value} (hlen : ∀ sig, parseMethodDescriptor y.desc = some sig → argsL.length = sig.parameters.length)
    (hstack : g.stack = argsL.reverse ++ .ref b :: rest) (hW : 2 * g.monitorRoom + (rest.map fun v => v.category).sum ≤ W9) (hdg : decode c.code g.pc = .ok (.invokevirtual index, 3))
    (hpre : ∀ vm₁, s.WarmedH vm₁ → Pre ⟨T.setVm vm₁, locs, cells, slots⟩ (Value.ref b :: argsL).toArray) :
    (∃ (v : Option Value) (vm₁ : Vm) (B : Pt), s.WarmedH vm₁ ∧ Stand p l e R s m args below meth c B.U B.locs B.cells B.slots ∧ Post ⟨T.setVm vm₁, locs, cells, slots⟩ (Value.ref b :: argsL).toArray v B ∧
      ∀ target, Steps p.tables e below (B.U.setTop { g with pc := g.pc + 3, stack := v.toList ++ rest }) target → Steps p.tables e below (T.setTop g) target) ∨
    (∃ (q : Addr) (vm₁ : Vm) (B : Pt), s.WarmedH vm₁ ∧ Stand p l e R s m args below meth c B.U B.locs B.cells B.slots ∧ PostX ⟨T.setVm vm₁, locs, cells, slots⟩ (Value.ref b :: argsL).toArray q B ∧
      Steps p.tables e below (T.setTop g) ((B.U.setTop { g with stack := rest }).pushFrame (.throwing q))) := by
  obtain ⟨mk, methM, hnamed, hmethM, hstM, habM⟩ := Cond.instanceMethod_spec hinst
  obtain ⟨methM', cM, hmethM', -, -, -, -, -, -, hsigM⟩ := Cond.code_spec hnamed hcode
  cases hmethM.symm.trans hmethM'
  obtain ⟨c2, r2, m2, q1, q2, q3, q4, kP, hkP, hkPi⟩ := Cond.selects_spec hsel
  cases hcls.symm.trans q1
  cases (State.methodFound?_of_named hnamed hy).symm.trans q2
  cases hnamed.symm.trans q3
  have hselP : selectMethod e.platform s.vm cellB.cls mk = .method mk := by rw [Launch.admits_selectMethod X.admits]; exact q4
  obtain ⟨vm₁, X₁, hstep₁⟩ := X.invokevirtual hexec hown hlink hnamed hmethM hstM hkP hkPi hy (a := b) (cell := cellB) hcell
    (fun z h => by rw [h] at hobj; cases hobj) hselP hmethM habM hkP hkPi (g := g) hg (argsL := argsL) (rest := rest) (hlen _ hsigM) hstack hdg
  rcases hK m meth c ⟨T.setVm vm₁, locs, cells, slots⟩ { g with stack := rest } (.invokevirtual index) mk (Value.ref b :: argsL).toArray X₁ hg hsize hdg hW (X₁.named hnamed) (hpre vm₁ X₁.warmed) with ⟨v, B, X', hpost, hsteps⟩ | ⟨q, B, X', hpost, hsteps⟩
  · exact Or.inl ⟨v, vm₁, B, X₁.warmed, X', hpost, fun target h => hstep₁ _ fun acts => by rw [doInvoke_state]; exact hsteps.trans h⟩
  · exact Or.inr ⟨q, vm₁, B, X₁.warmed, X', hpost, hstep₁ _ fun acts => by rw [doInvoke_state]; exact hsteps⟩
theorem vx_callS (X : Stand p l e R s m args below meth c T locs cells slots) (hexec : p.tables.exec = Jvm.exec) {own : String} {index : Nat} {y : MethodName} {bytes : ByteArray} {maxL : Nat} {ret : Option FieldType}
    (hown : s.vm.findClass own = some m.cls) (hlink : (Cond.methodLink own index y).before args s = true) (hstat : (Cond.static y).before args s = true) (hinit : (Cond.initialized y.cls).before args s = true)
    (hcode : (Cond.code y bytes maxL ret).before args s = true) (hy : y.cls ≠ "java/lang/invoke/MethodHandle" ∧ y.cls ≠ "java/lang/invoke/VarHandle")
    {W9 : Nat} {Pre : Pt → Array Value → Prop} {Post : Pt → Array Value → Option Value → Pt → Prop} {PostX : Pt → Array Value → Addr → Pt → Prop} (hK : vx_Back l R p e below s args y 3 W9 Pre Post PostX)
    {g : JFrame} (hg : g.method = m) (hsize : g.locals.size = c.maxLocals) {argsL rest : List Value} (hlen : ∀ sig, parseMethodDescriptor y.desc = some sig → argsL.length = sig.parameters.length)
    (hstack : g.stack = argsL.reverse ++ rest) (hW : 2 * g.monitorRoom + (rest.map fun v => v.category).sum ≤ W9) (hdg : decode c.code g.pc = .ok (.invokestatic index, 3))
    (hpre : ∀ vm₁, s.WarmedH vm₁ → Pre ⟨T.setVm vm₁, locs, cells, slots⟩ argsL.toArray) :
    (∃ (v : Option Value) (vm₁ : Vm) (B : Pt), s.WarmedH vm₁ ∧ Stand p l e R s m args below meth c B.U B.locs B.cells B.slots ∧ Post ⟨T.setVm vm₁, locs, cells, slots⟩ argsL.toArray v B ∧
      ∀ target, Steps p.tables e below (B.U.setTop { g with pc := g.pc + 3, stack := v.toList ++ rest }) target → Steps p.tables e below (T.setTop g) target) ∨
    (∃ (q : Addr) (vm₁ : Vm) (B : Pt), s.WarmedH vm₁ ∧ Stand p l e R s m args below meth c B.U B.locs B.cells B.slots ∧ PostX ⟨T.setVm vm₁, locs, cells, slots⟩ argsL.toArray q B ∧
      Steps p.tables e below (T.setTop g) ((B.U.setTop { g with stack := rest }).pushFrame (.throwing q))) := by
  obtain ⟨mk, hnamed⟩ := Cond.code_named hcode
  obtain ⟨methM, cM, hmethM, -, -, -, -, -, -, hsigM⟩ := Cond.code_spec hnamed hcode
  have hstatic : methM.isStatic = true := Cond.static_spec hnamed hmethM hstat
  obtain ⟨kP, hkP, -⟩ := className_of_methodNamed hnamed
  have hinitP : kP.init = .initialized := Cond.initialized_spec (findClass_of_methodNamed hnamed) hkP hinit
  obtain ⟨vm₁, X₁, hstep₁⟩ := X.invokestatic hexec hown hlink hnamed hmethM hstatic hkP hinitP hy (g := g) hg (argsL := argsL) (rest := rest) (hlen _ hsigM) hstack hdg
  rcases hK m meth c ⟨T.setVm vm₁, locs, cells, slots⟩ { g with stack := rest } (.invokestatic index) mk argsL.toArray X₁ hg hsize hdg hW (X₁.named hnamed) (hpre vm₁ X₁.warmed) with ⟨v, B, X', hpost, hsteps⟩ | ⟨q, B, X', hpost, hsteps⟩
  · exact Or.inl ⟨v, vm₁, B, X₁.warmed, X', hpost, fun target h => hstep₁ _ fun acts => by rw [doInvoke_state]; exact hsteps.trans h⟩
  · exact Or.inr ⟨q, vm₁, B, X₁.warmed, X', hpost, hstep₁ _ fun acts => by rw [doInvoke_state]; exact hsteps⟩
end Calls
theorem vx_cls {s : State} {T : State} {vm₁ : Vm} {E : String} {k : ClassId} (hW : s.WarmedH vm₁) (h : (T.setVm vm₁).vm.findClass E = some k) : s.vm.findClass E = some k := by
  have h1 : vm₁.findClass E = some k := h
  rw [hW.alike.findClass] at h1
  exact h1
/-- the method's frame g, with q thrown over it -/
def vx_W (p : Program) (l : Launch) (e : Env) (R : Room) (s : State) (m : MethodId) (args : Array Value) (below : List Frame) (meth : Method) (c : Code) (H : Heap) (locs : List Loc) (cells slots : Nat) (Q : State → Prop) (g : JFrame) (q : Addr) : Prop :=
  ∀ T : State, T.heap = H → Stand p l e R s m args below meth c T locs cells slots → ∃ t, Steps p.tables e below ((T.setTop g).pushFrame (.throwing q)) t ∧ Q t
def vx_Run (p : Program) (l : Launch) (e : Env) (R : Room) (s : State) (m : MethodId) (args : Array Value) (below : List Frame) (meth : Method) (c : Code) (H : Heap) (locs : List Loc) (cells slots mc ms : Nat) (g : JFrame) (rest : List Value) (Qa : State → Outcome → State → Prop) (XC : String → State → State → Prop) (free : Addr → Prop) : Prop :=
  ∀ T : State, T.heap = H → Stand p l e R s m args below meth c T locs cells slots →
    (∃ (v : Option Value) (st₀ t T' : State) (L : List Loc), st₀.heap = H ∧ Stand p l e R s m args below meth c T' (locs ++ L) (cells + mc) (slots + ms) ∧ (∀ q ∈ L, free q.base) ∧ T'.heap = t.heap ∧ T'.vm = t.vm ∧ Qa st₀ (.returned v) t ∧
      Goes p e below T g T' { g with pc := g.pc + 3, stack := v.toList ++ rest }) ∨
    (∃ (q : Addr) (st₀ t T' : State) (L : List Loc) (E : String) (ce : Cell), st₀.heap = H ∧ Stand p l e R s m args below meth c T' (locs ++ L) (cells + mc) (slots + ms) ∧ (∀ z ∈ L, free z.base) ∧ T'.heap = t.heap ∧ T'.vm = t.vm ∧ XC E st₀ t ∧ t.heap[q]? = some ce ∧ ce.vm = .none ∧ s.vm.findClass E = some ce.cls ∧
      Steps p.tables e below (T.setTop g) ((T'.setTop { g with stack := rest }).pushFrame (.throwing q)))
def vx_X {S : Type} (px : S → Prop) (B : String → S → State → Prop) (A : Nat → Prop) : String → State → State → Prop := fun E st t => ∃ u : S, px u ∧ B E u t ∧ va_F A st t
section Runs
variable {p : Program} {l : Launch} {e : Env} {R : Room} {s : State} {m : MethodId} {args : Array Value} {below : List Frame} {meth : Method} {c : Code} {H : Heap} {locs : List Loc} {cells slots : Nat}
variable {y : MethodName} {bytes cc : ByteArray} {maxL nL mc ms n index : Nat} {ret : Option FieldType} {ws : List Cond} {rm : Room} {Pc : Array Value → State → Prop} {Qc : Array Value → State → Outcome → State → Prop} {XC : String → State → State → Prop} {free : Addr → Prop} {Ts : List Cond} {own C : String} {b : Addr} {As rest : List Value} {g : JFrame}
theorem vx_callBack (cb : CallB R s args own index y bytes maxL ret ws rm mc ms n) (hM : vx_Met l y ws rm Pc Qc XC mc ms free) (hbl : FrameBlind Pc) : vx_Back l R p e below s args y 3 8 (PreOf R mc ms Pc) (PostOf Qc mc ms free) (vx_Post XC mc ms free) := by
  obtain ⟨hrc, hrs, hfr, hlo, hws, hcw, -, hini, -⟩ := cb
  exact vx_back (bytes := bytes) (maxL := maxL) (ret := ret) hM hbl hrc hrs hfr hlo hws hcw (fun a' U hW => word_at hW (Or.inl (by first | rfl | simp [Cond.onTables, Cond.keeps, Cond.steady])) hini)
theorem vx_runV (S : CallFix p m c cc nL s args Ts own) (hM : vx_Met l y ws rm Pc Qc XC mc ms free) (cw : CallW R s args own C index y bytes maxL ret ws rm mc ms n) (hp : PreV s H C b Pc As)
    (hg : g.method = m) (hn : As.length = n) (hsize : g.locals.size = nL) (hstack : g.stack = As.reverse ++ .ref b :: rest) (hW : 2 * g.monitorRoom + (rest.map fun v => v.category).sum ≤ 8) (hdg : decode cc g.pc = .ok (.invokevirtual index, 3)) (hf : cells + mc ≤ R.cells ∧ slots + ms ≤ R.slots) :
    vx_Run p l e R s m args below meth c H locs cells slots mc ms g rest (Qc (Value.ref b :: As).toArray) XC free := by
  have hK : vx_Back l R p e below s args y 3 8 (PreOf R mc ms Pc) (PostOf Qc mc ms free) (vx_Post XC mc ms free) := vx_callBack cw.1 hM hp.1
  obtain ⟨⟨-, -, -, -, -, -, hcode, -, hy, hlen, hl⟩, hin, hse⟩ := cw
  obtain ⟨hx, hb, hml, ho, -⟩ := S
  obtain ⟨-, ⟨cellB, hcB, hoB, hclB⟩, hPc⟩ := hp
  intro T hT X
  rcases vx_callV X hx (C := C) (bytes := bytes) (maxL := maxL) (ret := ret) ho hl hin hse hcode hy hK (by rw [hT]; exact hcB) hoB hclB hg (hsize.trans hml.symm) (argsL := As) (rest := rest) (fun sig h => hn.trans (hlen sig h)) hstack hW (by rw [hb]; exact hdg)
    (fun vm₁ hW₁ => ⟨hf.1, hf.2, hPc (T.setVm vm₁) hT hW₁⟩) with ⟨v, vm₁, ⟨U', l2, c2, s2⟩, hW₁, X', ⟨g', mk, t, L, e1, e2, hq, h1, hL, h2, h3⟩, st⟩ | ⟨q, vm₁, ⟨U', l2, c2, s2⟩, hW₁, X', ⟨g', mk, t, L, E, ce, e1, e2, hq, hce, hcv, hcl, h1, hL, h2, h3⟩, st⟩
  · dsimp only [Pt.U, Pt.locs, Pt.cells, Pt.slots] at X' e1 e2 h1 h2 h3 st
    subst h1; subst h2; subst h3
    exact Or.inl ⟨v, (T.setVm vm₁).calling g' mk (Value.ref b :: As).toArray, t, U', L, hT, X', hL, e1, e2, hq, st⟩
  · dsimp only [Pt.U, Pt.locs, Pt.cells, Pt.slots] at X' e1 e2 h1 h2 h3 st hcl
    subst h1; subst h2; subst h3
    exact Or.inr ⟨q, (T.setVm vm₁).calling g' mk (Value.ref b :: As).toArray, t, U', L, E, ce, hT, X', hL, e1, e2, hq, hce, hcv, vx_cls hW₁ hcl, st⟩
theorem vx_runS (S : CallFix p m c cc nL s args Ts own) (hM : vx_Met l y ws rm Pc Qc XC mc ms free) (cw : CallB R s args own index y bytes maxL ret ws rm mc ms n ∧ (Cond.static y).before args s = true) (hp : PreS s H Pc As)
    (hg : g.method = m) (hn : As.length = n) (hsize : g.locals.size = nL) (hstack : g.stack = As.reverse ++ rest) (hW : 2 * g.monitorRoom + (rest.map fun v => v.category).sum ≤ 8) (hdg : decode cc g.pc = .ok (.invokestatic index, 3)) (hf : cells + mc ≤ R.cells ∧ slots + ms ≤ R.slots) :
    vx_Run p l e R s m args below meth c H locs cells slots mc ms g rest (Qc As.toArray) XC free := by
  have hK : vx_Back l R p e below s args y 3 8 (PreOf R mc ms Pc) (PostOf Qc mc ms free) (vx_Post XC mc ms free) := vx_callBack cw.1 hM hp.1
  obtain ⟨⟨-, -, -, -, -, -, hcode, hini, hy, hlen, hl⟩, hstt⟩ := cw
  obtain ⟨hx, hb, hml, ho, -⟩ := S
  intro T hT X
  rcases vx_callS X hx (bytes := bytes) (maxL := maxL) (ret := ret) ho hl hstt hini hcode hy hK hg (hsize.trans hml.symm) (argsL := As) (rest := rest) (fun sig h => hn.trans (hlen sig h)) hstack hW (by rw [hb]; exact hdg)
    (fun vm₁ hW₁ => ⟨hf.1, hf.2, hp.2 (T.setVm vm₁) hT hW₁⟩) with ⟨v, vm₁, ⟨U', l2, c2, s2⟩, hW₁, X', ⟨g', mk, t, L, e1, e2, hq, h1, hL, h2, h3⟩, st⟩ | ⟨q, vm₁, ⟨U', l2, c2, s2⟩, hW₁, X', ⟨g', mk, t, L, E, ce, e1, e2, hq, hce, hcv, hcl, h1, hL, h2, h3⟩, st⟩
  · dsimp only [Pt.U, Pt.locs, Pt.cells, Pt.slots] at X' e1 e2 h1 h2 h3 st
    subst h1; subst h2; subst h3
    exact Or.inl ⟨v, (T.setVm vm₁).calling g' mk As.toArray, t, U', L, hT, X', hL, e1, e2, hq, st⟩
  · dsimp only [Pt.U, Pt.locs, Pt.cells, Pt.slots] at X' e1 e2 h1 h2 h3 st hcl
    subst h1; subst h2; subst h3
    exact Or.inr ⟨q, (T.setVm vm₁).calling g' mk As.toArray, t, U', L, E, ce, hT, X', hL, e1, e2, hq, hce, hcv, vx_cls hW₁ hcl, st⟩
end Runs
section Rows
variable {p : Program} {l : Launch} {e : Env} {R : Room} {s : State} {m : MethodId} {args : Array Value} {below : List Frame} {meth : Method} {c : Code} {H : Heap} {locs : List Loc} {cells slots : Nat} {Q : State → Prop}
variable {mc ms : Nat} {free : Addr → Prop} {A0 A1 : Nat → Prop} {H0 : Heap} {a : Array Value} {pc : Nat} {ls : Array Slot} {st0 rest : List Value}
theorem vx_keep {st₀ t T' : State} {L : List Loc} (h0 : st₀.heap = H) (e1 : T'.heap = t.heap) (hS : va_S A0 H0 H locs) (hA : ∀ q, q < H.size → A1 q → A0 q) (hf : ∀ q, free q → A0 q) (hL : ∀ q ∈ L, free q.base) (hF : va_F A1 st₀ t) :
    H.size ≤ T'.heap.size ∧ (∀ q : Nat, q < H.size → ¬ A1 q → T'.heap[q]? = H[q]?) ∧ va_S A0 H0 T'.heap (locs ++ L) := by
  obtain ⟨hz, hk⟩ := hF
  rw [h0] at hz hk
  exact ⟨by rw [e1]; exact hz, fun q h1 h2 => by rw [e1]; exact hk q h1 h2,
    ⟨Nat.le_trans hS.1 (by rw [e1]; exact hz), fun q h1 h2 => by rw [e1, hk q (Nat.lt_of_lt_of_le h1 hS.1) (fun z => h2 (hA q (Nat.lt_of_lt_of_le h1 hS.1) z))]; exact hS.2.1 q h1 h2, fun q hq => by
      rcases List.mem_append.mp hq with h | h
      · exact hS.2.2 q h
      · exact hf _ (hL q h)⟩⟩
theorem vx_calli {S SX : Type} {post : Int32 → S → Prop} {px : SX → Prop} {B : S → State → Prop} {BX : String → SX → State → Prop} {AX : Nat → Prop} (hr : vx_Run p l e R s m args below meth c H locs cells slots mc ms (F0 m pc ls st0) rest (va_Qi post B A1 a) (vx_X px BX AX) free) (hS : va_S A0 H0 H locs) (hA : ∀ q, q < H.size → A1 q → A0 q) (hf : ∀ q, free q → A0 q) (hAX : ∀ q, q < H.size → AX q → A0 q)
    (kx : ∀ (E : String) (ce : Cell) (q9 : Addr) (u : SX) (t : State) (H1 : Heap) (locs1 : List Loc), t.heap = H1 → s.vm.Alike t.vm → px u → BX E u t → H.size ≤ H1.size → (∀ q : Nat, q < H.size → ¬ AX q → H1[q]? = H[q]?) → va_S A0 H0 H1 locs1 → H1[q9]? = some ce → ce.vm = .none → s.vm.findClass E = some ce.cls → vx_W p l e R s m args below meth c H1 locs1 (cells + mc) (slots + ms) Q (F0 m pc ls rest) q9)
    (kk : ∀ (r : Int32) (u : S) (t : State) (H1 : Heap) (locs1 : List Loc), t.heap = H1 → s.vm.Alike t.vm → post r u → B u t → H.size ≤ H1.size → (∀ q : Nat, q < H.size → ¬ A1 q → H1[q]? = H[q]?) → va_S A0 H0 H1 locs1 → W p l e R s m args below meth c H1 locs1 (cells + mc) (slots + ms) Q (F0 m (pc + 3) ls (.int r :: rest))) : W p l e R s m args below meth c H locs cells slots Q (F0 m pc ls st0) := by
  intro T hT X
  rcases hr T hT X with ⟨v, st₀, t, T', L, h0, X', hL, e1, e2, ⟨⟨r, u, hv, hp, hb⟩, hF⟩, st⟩ | ⟨q, st₀, t, T', L, E, ce, h0, X', hL, e1, e2, ⟨u, hp, hb, hF⟩, hce, hcv, hcl, st⟩
  · cases hv
    obtain ⟨k1, k2, k3⟩ := vx_keep h0 e1 hS hA hf hL hF
    obtain ⟨t2, a1, b1⟩ := kk r u t T'.heap (locs ++ L) e1.symm (by rw [← e2]; exact X'.warmed.alike) hp hb k1 k2 k3 T' rfl X'
    exact ⟨t2, st t2 a1, b1⟩
  · obtain ⟨k1, k2, k3⟩ := vx_keep h0 e1 hS hAX hf hL hF
    obtain ⟨t2, a1, b1⟩ := kx E ce q u t T'.heap (locs ++ L) e1.symm (by rw [← e2]; exact X'.warmed.alike) hp hb k1 k2 k3 (by rw [e1]; exact hce) hcv hcl T' rfl X'
    exact ⟨t2, st.trans a1, b1⟩
theorem vx_calll {S SX : Type} {post : Int64 → S → Prop} {px : SX → Prop} {B : S → State → Prop} {BX : String → SX → State → Prop} {AX : Nat → Prop} (hr : vx_Run p l e R s m args below meth c H locs cells slots mc ms (F0 m pc ls st0) rest (va_Ql post B A1 a) (vx_X px BX AX) free) (hS : va_S A0 H0 H locs) (hA : ∀ q, q < H.size → A1 q → A0 q) (hf : ∀ q, free q → A0 q) (hAX : ∀ q, q < H.size → AX q → A0 q)
    (kx : ∀ (E : String) (ce : Cell) (q9 : Addr) (u : SX) (t : State) (H1 : Heap) (locs1 : List Loc), t.heap = H1 → s.vm.Alike t.vm → px u → BX E u t → H.size ≤ H1.size → (∀ q : Nat, q < H.size → ¬ AX q → H1[q]? = H[q]?) → va_S A0 H0 H1 locs1 → H1[q9]? = some ce → ce.vm = .none → s.vm.findClass E = some ce.cls → vx_W p l e R s m args below meth c H1 locs1 (cells + mc) (slots + ms) Q (F0 m pc ls rest) q9)
    (kk : ∀ (r : Int64) (u : S) (t : State) (H1 : Heap) (locs1 : List Loc), t.heap = H1 → s.vm.Alike t.vm → post r u → B u t → H.size ≤ H1.size → (∀ q : Nat, q < H.size → ¬ A1 q → H1[q]? = H[q]?) → va_S A0 H0 H1 locs1 → W p l e R s m args below meth c H1 locs1 (cells + mc) (slots + ms) Q (F0 m (pc + 3) ls (.long r :: rest))) : W p l e R s m args below meth c H locs cells slots Q (F0 m pc ls st0) := by
  intro T hT X
  rcases hr T hT X with ⟨v, st₀, t, T', L, h0, X', hL, e1, e2, ⟨⟨r, u, hv, hp, hb⟩, hF⟩, st⟩ | ⟨q, st₀, t, T', L, E, ce, h0, X', hL, e1, e2, ⟨u, hp, hb, hF⟩, hce, hcv, hcl, st⟩
  · cases hv
    obtain ⟨k1, k2, k3⟩ := vx_keep h0 e1 hS hA hf hL hF
    obtain ⟨t2, a1, b1⟩ := kk r u t T'.heap (locs ++ L) e1.symm (by rw [← e2]; exact X'.warmed.alike) hp hb k1 k2 k3 T' rfl X'
    exact ⟨t2, st t2 a1, b1⟩
  · obtain ⟨k1, k2, k3⟩ := vx_keep h0 e1 hS hAX hf hL hF
    obtain ⟨t2, a1, b1⟩ := kx E ce q u t T'.heap (locs ++ L) e1.symm (by rw [← e2]; exact X'.warmed.alike) hp hb k1 k2 k3 (by rw [e1]; exact hce) hcv hcl T' rfl X'
    exact ⟨t2, st.trans a1, b1⟩
theorem vx_callf {S SX : Type} {post : UInt32 → S → Prop} {px : SX → Prop} {B : S → State → Prop} {BX : String → SX → State → Prop} {AX : Nat → Prop} (hr : vx_Run p l e R s m args below meth c H locs cells slots mc ms (F0 m pc ls st0) rest (va_Qf post B A1 a) (vx_X px BX AX) free) (hS : va_S A0 H0 H locs) (hA : ∀ q, q < H.size → A1 q → A0 q) (hf : ∀ q, free q → A0 q) (hAX : ∀ q, q < H.size → AX q → A0 q)
    (kx : ∀ (E : String) (ce : Cell) (q9 : Addr) (u : SX) (t : State) (H1 : Heap) (locs1 : List Loc), t.heap = H1 → s.vm.Alike t.vm → px u → BX E u t → H.size ≤ H1.size → (∀ q : Nat, q < H.size → ¬ AX q → H1[q]? = H[q]?) → va_S A0 H0 H1 locs1 → H1[q9]? = some ce → ce.vm = .none → s.vm.findClass E = some ce.cls → vx_W p l e R s m args below meth c H1 locs1 (cells + mc) (slots + ms) Q (F0 m pc ls rest) q9)
    (kk : ∀ (r : UInt32) (u : S) (t : State) (H1 : Heap) (locs1 : List Loc), t.heap = H1 → s.vm.Alike t.vm → post r u → B u t → H.size ≤ H1.size → (∀ q : Nat, q < H.size → ¬ A1 q → H1[q]? = H[q]?) → va_S A0 H0 H1 locs1 → W p l e R s m args below meth c H1 locs1 (cells + mc) (slots + ms) Q (F0 m (pc + 3) ls (.float r :: rest))) : W p l e R s m args below meth c H locs cells slots Q (F0 m pc ls st0) := by
  intro T hT X
  rcases hr T hT X with ⟨v, st₀, t, T', L, h0, X', hL, e1, e2, ⟨⟨r, u, hv, hp, hb⟩, hF⟩, st⟩ | ⟨q, st₀, t, T', L, E, ce, h0, X', hL, e1, e2, ⟨u, hp, hb, hF⟩, hce, hcv, hcl, st⟩
  · cases hv
    obtain ⟨k1, k2, k3⟩ := vx_keep h0 e1 hS hA hf hL hF
    obtain ⟨t2, a1, b1⟩ := kk r u t T'.heap (locs ++ L) e1.symm (by rw [← e2]; exact X'.warmed.alike) hp hb k1 k2 k3 T' rfl X'
    exact ⟨t2, st t2 a1, b1⟩
  · obtain ⟨k1, k2, k3⟩ := vx_keep h0 e1 hS hAX hf hL hF
    obtain ⟨t2, a1, b1⟩ := kx E ce q u t T'.heap (locs ++ L) e1.symm (by rw [← e2]; exact X'.warmed.alike) hp hb k1 k2 k3 (by rw [e1]; exact hce) hcv hcl T' rfl X'
    exact ⟨t2, st.trans a1, b1⟩
theorem vx_calld {S SX : Type} {post : UInt64 → S → Prop} {px : SX → Prop} {B : S → State → Prop} {BX : String → SX → State → Prop} {AX : Nat → Prop} (hr : vx_Run p l e R s m args below meth c H locs cells slots mc ms (F0 m pc ls st0) rest (va_Qd post B A1 a) (vx_X px BX AX) free) (hS : va_S A0 H0 H locs) (hA : ∀ q, q < H.size → A1 q → A0 q) (hf : ∀ q, free q → A0 q) (hAX : ∀ q, q < H.size → AX q → A0 q)
    (kx : ∀ (E : String) (ce : Cell) (q9 : Addr) (u : SX) (t : State) (H1 : Heap) (locs1 : List Loc), t.heap = H1 → s.vm.Alike t.vm → px u → BX E u t → H.size ≤ H1.size → (∀ q : Nat, q < H.size → ¬ AX q → H1[q]? = H[q]?) → va_S A0 H0 H1 locs1 → H1[q9]? = some ce → ce.vm = .none → s.vm.findClass E = some ce.cls → vx_W p l e R s m args below meth c H1 locs1 (cells + mc) (slots + ms) Q (F0 m pc ls rest) q9)
    (kk : ∀ (r : UInt64) (u : S) (t : State) (H1 : Heap) (locs1 : List Loc), t.heap = H1 → s.vm.Alike t.vm → post r u → B u t → H.size ≤ H1.size → (∀ q : Nat, q < H.size → ¬ A1 q → H1[q]? = H[q]?) → va_S A0 H0 H1 locs1 → W p l e R s m args below meth c H1 locs1 (cells + mc) (slots + ms) Q (F0 m (pc + 3) ls (.double r :: rest))) : W p l e R s m args below meth c H locs cells slots Q (F0 m pc ls st0) := by
  intro T hT X
  rcases hr T hT X with ⟨v, st₀, t, T', L, h0, X', hL, e1, e2, ⟨⟨r, u, hv, hp, hb⟩, hF⟩, st⟩ | ⟨q, st₀, t, T', L, E, ce, h0, X', hL, e1, e2, ⟨u, hp, hb, hF⟩, hce, hcv, hcl, st⟩
  · cases hv
    obtain ⟨k1, k2, k3⟩ := vx_keep h0 e1 hS hA hf hL hF
    obtain ⟨t2, a1, b1⟩ := kk r u t T'.heap (locs ++ L) e1.symm (by rw [← e2]; exact X'.warmed.alike) hp hb k1 k2 k3 T' rfl X'
    exact ⟨t2, st t2 a1, b1⟩
  · obtain ⟨k1, k2, k3⟩ := vx_keep h0 e1 hS hAX hf hL hF
    obtain ⟨t2, a1, b1⟩ := kx E ce q u t T'.heap (locs ++ L) e1.symm (by rw [← e2]; exact X'.warmed.alike) hp hb k1 k2 k3 (by rw [e1]; exact hce) hcv hcl T' rfl X'
    exact ⟨t2, st.trans a1, b1⟩
theorem vx_callv {S SX : Type} {post : S → Prop} {px : SX → Prop} {B : S → State → Prop} {BX : String → SX → State → Prop} {AX : Nat → Prop} (hr : vx_Run p l e R s m args below meth c H locs cells slots mc ms (F0 m pc ls st0) rest (va_Qv post B A1 a) (vx_X px BX AX) free) (hS : va_S A0 H0 H locs) (hA : ∀ q, q < H.size → A1 q → A0 q) (hf : ∀ q, free q → A0 q) (hAX : ∀ q, q < H.size → AX q → A0 q)
    (kx : ∀ (E : String) (ce : Cell) (q9 : Addr) (u : SX) (t : State) (H1 : Heap) (locs1 : List Loc), t.heap = H1 → s.vm.Alike t.vm → px u → BX E u t → H.size ≤ H1.size → (∀ q : Nat, q < H.size → ¬ AX q → H1[q]? = H[q]?) → va_S A0 H0 H1 locs1 → H1[q9]? = some ce → ce.vm = .none → s.vm.findClass E = some ce.cls → vx_W p l e R s m args below meth c H1 locs1 (cells + mc) (slots + ms) Q (F0 m pc ls rest) q9)
    (kk : ∀ (u : S) (t : State) (H1 : Heap) (locs1 : List Loc), t.heap = H1 → s.vm.Alike t.vm → post u → B u t → H.size ≤ H1.size → (∀ q : Nat, q < H.size → ¬ A1 q → H1[q]? = H[q]?) → va_S A0 H0 H1 locs1 → W p l e R s m args below meth c H1 locs1 (cells + mc) (slots + ms) Q (F0 m (pc + 3) ls (rest))) : W p l e R s m args below meth c H locs cells slots Q (F0 m pc ls st0) := by
  intro T hT X
  rcases hr T hT X with ⟨v, st₀, t, T', L, h0, X', hL, e1, e2, ⟨⟨u, hv, hp, hb⟩, hF⟩, st⟩ | ⟨q, st₀, t, T', L, E, ce, h0, X', hL, e1, e2, ⟨u, hp, hb, hF⟩, hce, hcv, hcl, st⟩
  · cases hv
    obtain ⟨k1, k2, k3⟩ := vx_keep h0 e1 hS hA hf hL hF
    obtain ⟨t2, a1, b1⟩ := kk u t T'.heap (locs ++ L) e1.symm (by rw [← e2]; exact X'.warmed.alike) hp hb k1 k2 k3 T' rfl X'
    exact ⟨t2, st t2 a1, b1⟩
  · obtain ⟨k1, k2, k3⟩ := vx_keep h0 e1 hS hAX hf hL hF
    obtain ⟨t2, a1, b1⟩ := kx E ce q u t T'.heap (locs ++ L) e1.symm (by rw [← e2]; exact X'.warmed.alike) hp hb k1 k2 k3 (by rw [e1]; exact hce) hcv hcl T' rfl X'
    exact ⟨t2, st.trans a1, b1⟩
/-- caught by the row x of this method's table; the rows ahead don't take it -/
theorem vx_catch {own name : String} {E : String} {ce : Cell} {q : Addr} (hown : s.vm.findClass own = some m.cls) (pre : List ExceptionTableEntry) (x : ExceptionTableEntry) (suf : List ExceptionTableEntry) (hsplit : c.exceptionTable.toList = pre ++ x :: suf)
    (hpass : ∀ z ∈ pre, covers z pc = false ∨ (z.catchType ≠ 0 ∧ ∃ nm : String, (Cond.classLink own z.catchType nm).before args s = true ∧ va_Nc E nm s)) (hx : covers x pc = true) (h0 : x.catchType ≠ 0)
    (hlink : (Cond.classLink own x.catchType name).before args s = true) (hcast : (Cond.castable E name).before args s = true) (hcell : H[q]? = some ce) (hv : ce.vm = .none) (hcl : s.vm.findClass E = some ce.cls)
    (kk : W p l e R s m args below meth c H locs cells slots Q (F0 m x.handlerPc ls [.ref q])) : vx_W p l e R s m args below meth c H locs cells slots Q (F0 m pc ls rest) q := by
  intro T hT X
  have hpl : e.platform.magicAccessors = ({} : Platform).magicAccessors := by rw [X.admits.platform]
  obtain ⟨c3, c4, hc3, hc4, hasg⟩ := Cond.castable_spec hcast
  cases Option.some.inj (hc3.symm.trans hcl)
  obtain ⟨c5, hc5, hcl5⟩ := Cond.classLink_spec hown hlink e.platform hpl
  cases Option.some.inj (hc4.symm.trans hc5)
  obtain ⟨vm', X', st⟩ := X.thenCaughtThrough q (g := F0 m pc ls rest) rfl (Steps.refl _) (by rw [hT]; exact hcell) (by rw [hv]; rfl) (by obtain ⟨k9, h9, -⟩ := Vm.findClass_spec hcl; exact ⟨k9, h9⟩) pre x suf hsplit
    (fun z hz => by
      rcases hpass z hz with h | ⟨hz0, nm, hl1, hn1⟩
      · exact Or.inl h
      · obtain ⟨c6, hc6, hcl6⟩ := Cond.classLink_spec hown hl1 e.platform hpl
        obtain ⟨a8, b8, h1, h2, h3⟩ := hn1
        cases Option.some.inj (h1.symm.trans hcl)
        cases Option.some.inj (h2.symm.trans hc6)
        exact Or.inr ⟨hz0, _, hcl6, h3⟩) hx (Or.inr ⟨h0, c4, hcl5, hasg⟩)
  obtain ⟨t, a1, b1⟩ := kk (T.setVm vm') hT X'
  exact ⟨t, st.trans a1, b1⟩
end Rows
section Ends
variable {p : Program} {l : Launch} {e : Env} {R : Room} {s : State} {m : MethodId} {args : Array Value} {below : List Frame} {meth : Method} {c : Code} {H : Heap} {locs : List Loc} {cells slots : Nat} {Q : State → Prop}
variable {mc ms : Nat} {free : Addr → Prop} {A0 A1 : Nat → Prop} {H0 : Heap} {a : Array Value} {ls : Array Slot} {st0 rest : List Value}
variable {Qc : Array Value → State → Outcome → State → Prop} {XC : String → State → State → Prop}
/-- what a body that may throw owes at its end -/
def vx_MQ (below : List Frame) (Qc : Array Value → State → Outcome → State → Prop) (XC : String → State → State → Prop) (a : Array Value) (s : State) (mc ms : Nat) (free : Addr → Prop) : State → Prop := fun t =>
  ∃ o, t.status = .running ∧ Ended t below o ∧ vx_Q Qc XC mc ms free a s o t
theorem vx_ret {g : JFrame} {mc ms : Nat} (k : W p l e R s m args below meth c H locs cells slots (MQ below Qc args s mc ms free) g) : W p l e R s m args below meth c H locs cells slots (vx_MQ below Qc XC args s mc ms free) g := by
  intro T hT X
  obtain ⟨t, a1, o, b1, b2, b3, b4⟩ := k T hT X
  exact ⟨t, a1, o, b1, b2, Or.inl ⟨b3, b4⟩⟩
/-- not caught here: it goes on to the caller -/
theorem vx_widen {g : JFrame} {q : Addr} {k n : Nat} (h1 : cells ≤ k) (h2 : slots ≤ n) (kk : vx_W p l e R s m args below meth c H locs k n Q g q) : vx_W p l e R s m args below meth c H locs cells slots Q g q := fun T hT X => kk T hT (stand_widen X h1 h2)
theorem vx_out {pc : Nat} {E : String} {ce : Cell} {q : Addr} {mc ms : Nat} (hout : ∀ x ∈ c.exceptionTable.toList, covers x pc = false) (hlocks : meth.locks = false) (hcell : H[q]? = some ce) (hv : ce.vm = .none) (hcl : s.vm.findClass E = some ce.cls)
    (hx : ∀ t : State, t.heap = H → s.vm.Alike t.vm → XC E s t) (hf : ∀ z ∈ locs, free z.base) (hc : cells ≤ mc) (hs : slots ≤ ms) :
    vx_W p l e R s m args below meth c H locs cells slots (vx_MQ below Qc XC args s mc ms free) (F0 m pc ls rest) q := by
  intro T hT X
  obtain ⟨st1, hrun, hend, hW, hsm⟩ := X.leaveThrown q (g := F0 m pc ls rest) rfl rfl rfl hout hlocks
  have hcell9 : (T.setFrames (.throwing q :: below)).heap[q]? = some ce := by
    show T.heap[q]? = some ce
    rw [hT]; exact hcell
  exact ⟨_, st1, .threw q, hrun, hend, Or.inr ⟨q, rfl, E, ce, locs, hx _ hT hW.alike, hcell9, hv, hcl, hW, hsm.mono hc hs, hf⟩⟩
theorem vx_frame {U : State} {k n : Nat} (h : s.sameButNew ({ U with vm := s.vm } : State) locs k n) : s.heap.size ≤ U.heap.size ∧ ∀ q : Nat, q < s.heap.size → (∀ z ∈ locs, z.base ≠ q) → U.heap[q]? = s.heap[q]? := by
  obtain ⟨-, h2, -, -, -, h6⟩ := h
  refine ⟨h2, fun q hq hz => ?_⟩
  obtain ⟨c9, e1, e2, e3, e4⟩ := h6 q _ (Array.getElem?_eq_getElem hq)
  have hs : c9.slots = (s.heap[q]).slots := Array.ext_getElem? fun i => e4 i fun hm => hz _ hm rfl
  have h9 : c9 = s.heap[q] := by
    rw [hs] at e2
    exact e2
  have e5 : U.heap[q]? = some c9 := e1
  rw [e5, h9, Array.getElem?_eq_getElem hq]
/-- the words of a throw but the four that speak of the heap -/
def vx_no (w : Cond) : Bool := decide (w ≠ .isRef (.static Bundle.tN "UNASSIGNED_STACK" Bundle.steD)) && decide (w ≠ .isRef (.static Bundle.tN "SUPPRESSED_SENTINEL" Bundle.listD)) && decide (w ≠ .laysStatic Bundle.tN "UNASSIGNED_STACK" Bundle.steD) && decide (w ≠ .laysStatic Bundle.tN "SUPPRESSED_SENTINEL" Bundle.listD)
def vx_at0 (own : String) (ic : Nat) (X : String) (names : List String) : List Cond := (Bundle.ownAtoms0 own ic X names).filter vx_no
def vx_atS (own : String) (ic : Nat) (X : String) (names : List String) : List Cond := (Bundle.ownAtoms own ic X names).filter vx_no
/-- a word that the tables alone decide, or a good one -/
def vx_ot (w : Cond) : Bool := w.onTables || goodWord w
theorem vx_ot_at {args a' : Array Value} {s U : State} {w : Cond} (hW : s.WarmedH U.vm) (hvm : s.vm = U.vm) (hg : vx_ot w = true) (h : w.before args s = true) : w.before a' U = true := by
  simp only [vx_ot, Bool.or_eq_true] at hg
  rcases hg with hg | hg
  · exact va_tabs hg hvm h
  · exact word_at hW (good_of_word hg) h
/-- a list's words: the good ones out of the method's own list, the others by premises of their own -/
theorem vx_hat {args : Array Value} {s : State} {L B : List Cond} (h1 : ∀ w ∈ L.filter goodWord, w.before args s = true) (h2 : ∀ w ∈ L.filter (fun w => !goodWord w), w ∈ B) (h3 : ∀ w ∈ B, w.before args s = true) : ∀ w ∈ L, w.before args s = true := by
  intro w hw
  by_cases g : goodWord w = true
  · exact h1 w (List.mem_filter.mpr ⟨hw, g⟩)
  · refine h3 w (h2 w (List.mem_filter.mpr ⟨hw, ?_⟩))
    show (!goodWord w) = true
    cases hgw : goodWord w
    · rfl
    · exact absurd hgw g
theorem vx_c {args : Array Value} {s : State} {w : Cond} {B : List Cond} (h : w.before args s = true) (t : ∀ w ∈ B, w.before args s = true) : ∀ w' ∈ w :: B, w'.before args s = true := fun w' h' => (List.mem_cons.mp h').elim (fun e => by rw [e]; exact h) (t w')
theorem vx_n {args : Array Value} {s : State} : ∀ w ∈ ([] : List Cond), w.before args s = true := fun _ h => nomatch h
theorem vx_own {args : Array Value} {s : State} {L : List Cond} (h1 : ∀ w ∈ L.filter vx_no, w.before args s = true)
    (hU : (Cond.isRef (.static Bundle.tN "UNASSIGNED_STACK" Bundle.steD)).before args s = true) (hN : (Cond.isRef (.static Bundle.tN "SUPPRESSED_SENTINEL" Bundle.listD)).before args s = true)
    (lU : (Cond.laysStatic Bundle.tN "UNASSIGNED_STACK" Bundle.steD).before args s = true) (lN : (Cond.laysStatic Bundle.tN "SUPPRESSED_SENTINEL" Bundle.listD).before args s = true) : ∀ w ∈ L, w.before args s = true := by
  intro w hw
  by_cases e1 : w = .isRef (.static Bundle.tN "UNASSIGNED_STACK" Bundle.steD)
  · rw [e1]; exact hU
  · by_cases e2 : w = .isRef (.static Bundle.tN "SUPPRESSED_SENTINEL" Bundle.listD)
    · rw [e2]; exact hN
    · by_cases e3 : w = .laysStatic Bundle.tN "UNASSIGNED_STACK" Bundle.steD
      · rw [e3]; exact lU
      · by_cases e4 : w = .laysStatic Bundle.tN "SUPPRESSED_SENTINEL" Bundle.listD
        · rw [e4]; exact lN
        · exact h1 w (List.mem_filter.mpr ⟨hw, by unfold vx_no; rw [decide_eq_true e1, decide_eq_true e2, decide_eq_true e3, decide_eq_true e4]; rfl⟩)
/-- where a static field lies, its class's statics cell in H -/
def vx_L (C n d : String) (A : Nat → Prop) (U : State) (H : Heap) : Prop := ∃ (c : ClassId) (k : Class) (i : Nat) (f : Field) (a : Nat) (cell : Cell), U.vm.findClass C = some c ∧ U.fieldFound? C n d = some (c, k, i, f) ∧ f.isStatic = true ∧ k.statics = some a ∧ H[a]? = some cell ∧ cell.vm.isStatics = true ∧ cell.cls = c ∧ f.slot < cell.slots.size ∧ k.staticTypes[f.slot]? = some f.type ∧ ¬ A a
theorem vx_L.moved {C n d : String} {A : Nat → Prop} {u U : State} {H : Heap} (hvm : u.vm.Alike U.vm) (h : vx_L C n d A u H) : vx_L C n d A U H := by
  obtain ⟨c, k, i, f, a, cell, h1, h2, h3, h4, h5, h6, h7, h8, h9, h10⟩ := h
  obtain ⟨k', hi', he⟩ := State.fieldFound?_setVm hvm h2
  exact ⟨c, k', i, f, a, cell, by rw [hvm.findClass]; exact h1, hi', h3, by rw [he]; exact h4, h5, h6, h7, h8, by rw [he]; exact h9, h10⟩
theorem vx_L.kept {C n d : String} {A : Nat → Prop} {U : State} {H H1 : Heap} (h : vx_L C n d A U H) (hq : ∀ a : Nat, a < H.size → ¬ A a → H1[a]? = H[a]?) : vx_L C n d A U H1 := by
  obtain ⟨c, k, i, f, a, cell, h1, h2, h3, h4, h5, h6, h7, h8, h9, h10⟩ := h
  exact ⟨c, k, i, f, a, cell, h1, h2, h3, h4, by rw [hq a (Array.getElem?_eq_some_iff.mp h5).1 h10]; exact h5, h6, h7, h8, h9, h10⟩
theorem vx_L.narrow {C n d : String} {A B : Nat → Prop} {U : State} {H : Heap} (h : vx_L C n d A U H) (hAB : ∀ q, B q → A q) : vx_L C n d B U H := by
  obtain ⟨c, k, i, f, a, cell, h1, h2, h3, h4, h5, h6, h7, h8, h9, h10⟩ := h
  exact ⟨c, k, i, f, a, cell, h1, h2, h3, h4, h5, h6, h7, h8, h9, fun z => h10 (hAB _ z)⟩
theorem vx_L.word {C n d : String} {A : Nat → Prop} {s : State} {args : Array Value} (h : vx_L C n d A s s.heap) : (Cond.laysStatic C n d).before args s = true := by
  obtain ⟨c, k, i, f, a, cell, h1, h2, h3, h4, h5, h6, h7, h8, h9, -⟩ := h
  show (Cond.laysStatic C n d).holds args s none s [] = true
  exact Cond.laysStatic_of h1 h2 h3 h4 h5 h6 h7 h8 h9
/-- .. and what it holds: null or some reference -/
def vx_Zq (C n d : String) (A : Nat → Prop) (U : State) (H : Heap) : Prop := va_Zq C n d A U H ∧ vx_L C n d A U H
theorem vx_Zq.moved {C n d : String} {A : Nat → Prop} {u U : State} {H : Heap} (hvm : u.vm.Alike U.vm) (h : vx_Zq C n d A u H) : vx_Zq C n d A U H := ⟨va_Zq.moved hvm h.1, vx_L.moved hvm h.2⟩
theorem vx_Zq.kept {C n d : String} {A : Nat → Prop} {U : State} {H H1 : Heap} (h : vx_Zq C n d A U H) (hq : ∀ a : Nat, a < H.size → ¬ A a → H1[a]? = H[a]?) : vx_Zq C n d A U H1 := ⟨va_Zq.kept h.1 hq, vx_L.kept h.2 hq⟩
theorem vx_Zq.narrow {C n d : String} {A B : Nat → Prop} {U : State} {H : Heap} (h : vx_Zq C n d A U H) (hAB : ∀ q, B q → A q) : vx_Zq C n d B U H := ⟨va_Zq.narrow h.1 hAB, vx_L.narrow h.2 hAB⟩
theorem vx_Zqof {args : Array Value} {s : State} {C n d : String} {A : Nat → Prop} (hl : (Cond.laysStatic C n d).before args s = true) (hini : (Cond.initialized C).before args s = true) (h : (Cond.isRef (.static C n d)).before args s = true) (hA : ∀ a : Nat, a < s.heap.size → ¬ A a) : vx_Zq C n d A s s.heap := by
  refine ⟨va_Zqof hl hini h hA, ?_⟩
  obtain ⟨c, k, i, f, a, cell, h1, h2, h3, h4, h5, h6, h7, h8, h9⟩ := Cond.laysStatic_spec hl
  exact ⟨c, k, i, f, a, cell, h1, h2, h3, h4, h5, h6, h7, h8, h9, hA a (Array.getElem?_eq_some_iff.mp h5).1⟩
theorem vx_isRef {C n d : String} {v : Value} {A : Nat → Prop} {s : State} {args : Array Value} (h : va_Z C n d v A s s.heap) (hv : v.isRef = true) : (Cond.isRef (.static C n d)).before args s = true := by
  obtain ⟨cf, kf, fi, f, a, cell, h1, h2, h3, h4, h5, h6, h7, -⟩ := h
  have he : (Term.static C n d).eval args s none [] s = some v := by
    simp [Term.eval, State.fieldNamed?, h1, h2, h4, h5, h6, h7]
  simp only [Cond.before, Cond.holds, Cond.value, he]
  cases v <;> simp_all [Value.isRef]
theorem vx_isRefq {C n d : String} {A : Nat → Prop} {s : State} {args : Array Value} (h : va_Zq C n d A s s.heap) : (Cond.isRef (.static C n d)).before args s = true := by
  rcases h with h | ⟨t, h⟩
  · exact vx_isRef h rfl
  · exact vx_isRef h rfl
/-- the same frame, seen from here: as if the method were called anew in this heap -/
theorem vx_rebase {T : State} (X : Stand p l e R s m args below meth c T locs cells slots) {R' : Room} (hf : R'.frames ≤ R.frames) (hl : R'.locals ≤ R.locals) (hc : cells + R'.cells ≤ R.cells) (hs : slots + R'.slots ≤ R.slots) :
    Stand p l e R' ((T.setVm s.vm).setFrames (.invoking m args :: below)) m args below meth c T [] 0 0 := by
  have htop : (T.setVm s.vm).topJava?.isSome := X.here.top
  have hF : ((T.setVm s.vm).setFrames (.invoking m args :: below)).frames = .invoking m args :: below := State.frames_setFrames _ (State.cur_lt_of_top htop)
  obtain ⟨g₀, hg0⟩ := Option.isSome_iff_exists.mp htop
  obtain ⟨r, hr⟩ := State.topJava?_eq_some.mp hg0
  have hl9 : e.platform.stackLimits (T.setVm s.vm).me = e.platform.stackLimits s.me := X.limits
  have hb9 : (T.setVm s.vm).me.stackBytes = s.me.stackBytes := X.bytes
  refine ⟨X.admits, X.cas, X.clock, hF, ?_, X.hears, X.method, X.code, X.here, X.tail, X.warmed, ?_, ?_, ?_⟩
  · have h := X.room
    have hU : ((T.setVm s.vm).setFrames (.invoking m args :: below)).localsInUse = s.localsInUse := by
      rw [State.localsInUse_invoking hF (meth := meth) (c := c) X.method X.code, State.localsInUse_invoking X.frames X.method X.code]
    simp only [State.hasRoom, Bool.and_eq_true, decide_eq_true_eq] at h ⊢
    obtain ⟨⟨⟨⟨h1, h2, h3, h4, h5, h6⟩, h7⟩, h8⟩, h9⟩ := h
    rw [X.frames, List.length_cons] at h2 h3
    have q1 := X.heapSize
    have q2 := X.used
    simp only [hF, hU, List.length_cons, State.stackLimits_setFrames, State.stackBytes_setFrames, hl9, hb9]
    refine ⟨⟨⟨⟨by omega, by omega, by omega, by omega, by omega, h6⟩, ?_⟩, ?_⟩, X.book⟩
    · show T.heap.size + R'.cells ≤ e.platform.maxCells
      omega
    · show T.slotsUsed + R'.slots ≤ e.platform.maxSlots
      omega
  · rw [State.stackLimits_setFrames]; rfl
  · rw [State.stackBytes_setFrames]; rfl
  · refine ⟨?_, Nat.le_refl _, Nat.le_refl _, ?_, ?_, fun a c9 h9 => ⟨c9, h9, rfl, rfl, fun _ _ => rfl⟩⟩
    · obtain ⟨t, ht, -⟩ := State.frames_cons hr
      show T.setVm s.vm = { ((T.setVm s.vm).setFrames (.invoking m args :: below)).setFrames (T.setVm s.vm).frames with heap := T.heap, slotsUsed := T.slotsUsed }
      rw [State.setFrames_setFrames, State.setFrames_self ht]
      rfl
    · show T.slotsUsed = T.slotsUsed + ((T.heap.toList.drop T.heap.size).map (·.slots.size)).sum
      rw [List.drop_eq_nil_of_le (Nat.le_of_eq Array.length_toList)]
      rfl
    · show ((T.heap.toList.drop T.heap.size).map (·.slots.size)).sum ≤ 0
      rw [List.drop_eq_nil_of_le (Nat.le_of_eq Array.length_toList)]
      exact Nat.le_refl _
/-- 'throw new E()': new; dup; invokespecial; athrow -/
theorem vx_throw0 {cc : ByteArray} {pc : Nat} (hexec : p.tables.exec = Jvm.exec) (hb : c.code = cc) (hl : l.stackTraces = false) {own cls : String} {names : List String} {ik ic mc ms : Nat} {A : Nat → Prop}
    (hown : s.vm.findClass own = some m.cls) (hcls : Bundle.fit cls = true) (hnames : ∀ n ∈ names, Bundle.fit n = true)
    (hk : (Cond.classLink own ik cls).before args s = true) (hini : (Cond.initialized cls).before args s = true) (hat : ∀ w ∈ vx_at0 own ic cls names, w.before args s = true)
    (hgood : ∀ w ∈ Cond.classLink own ik cls :: Cond.initialized cls :: vx_at0 own ic cls names, vx_ot w = true)
    (hU : vx_Zq Bundle.tN "UNASSIGNED_STACK" Bundle.steD A s s.heap) (hN : vx_Zq Bundle.tN "SUPPRESSED_SENTINEL" Bundle.listD A s s.heap) (hS : va_S A s.heap H locs) (hsize : ls.size = c.maxLocals)
    (d0 : decode cc pc = .ok (.new ik, 3)) (d3 : decode cc (pc + 3) = .ok (.dup, 1)) (d4 : decode cc (pc + 4) = .ok (.invokespecial ic, 3)) (d7 : decode cc (pc + 7) = .ok (.athrow, 1))
    (hout : ∀ x ∈ c.exceptionTable.toList, covers x (pc + 7) = false)
    (hRframes : names.length + 3 < R.frames) (hRlocals : (rest.map fun v => v.category).sum + (13 * (names.length + 1) + 42) ≤ R.locals) (hRcells : cells + 1 ≤ R.cells) (hRslots : slots + 6 ≤ R.slots) (hlocks : meth.locks = false)
    (hx : ∀ t : State, s.vm.Alike t.vm → H.size ≤ t.heap.size → (∀ q : Nat, q < H.size → t.heap[q]? = H[q]?) → XC cls s t)
    (hf : ∀ z ∈ locs, free z.base) (hc : cells + 1 ≤ mc) (hs : slots + 6 ≤ ms) :
    W p l e R s m args below meth c H locs cells slots (vx_MQ below Qc XC args s mc ms free) (F0 m pc ls rest) := by
  intro T hT X
  have htr : e.platform.stackTraces = false := (show e.platform.stackTraces = l.stackTraces by rw [X.admits.platform]).trans hl
  have Y := vx_rebase X (R' := { frames := R.frames, locals := R.locals, cells := 1, slots := 6 }) (Nat.le_refl _) (Nat.le_refl _) hRcells hRslots
  obtain ⟨s', hA⟩ : ∃ z, z = (T.setVm s.vm).setFrames (.invoking m args :: below) := ⟨_, rfl⟩
  rw [← hA] at Y
  have hvm : s'.vm = s.vm := by rw [hA]; rfl
  have hhp : s'.heap = H := by rw [hA]; exact hT
  have hW0 : s.WarmedH s'.vm := by rw [hvm]; exact State.WarmedH.refl s
  have hat' : ∀ w ∈ vx_at0 own ic cls names, w.before args s' = true := fun w hw => vx_ot_at hW0 hvm.symm (hgood w (List.mem_cons_of_mem _ (List.mem_cons_of_mem _ hw))) (hat w hw)
  have hk' : (Cond.classLink own ik cls).before args s' = true := vx_ot_at hW0 hvm.symm (hgood _ List.mem_cons_self) hk
  have hini' : (Cond.initialized cls).before args s' = true := vx_ot_at hW0 hvm.symm (hgood _ (List.mem_cons_of_mem _ List.mem_cons_self)) hini
  have hU' : vx_Zq Bundle.tN "UNASSIGNED_STACK" Bundle.steD A s' s'.heap := by rw [hhp]; exact vx_Zq.moved hW0.alike (hU.kept hS.2.1)
  have hN' : vx_Zq Bundle.tN "SUPPRESSED_SENTINEL" Bundle.listD A s' s'.heap := by rw [hhp]; exact vx_Zq.moved hW0.alike (hN.kept hS.2.1)
  have h : ∀ w ∈ Bundle.ownAtoms0 own ic cls names, w.before args s' = true := vx_own hat' (vx_isRefq hU'.1) (vx_isRefq hN'.1) hU'.2.word hN'.2.word
  have hown' : s'.vm.findClass own = some m.cls := by rw [hvm]; exact hown
  have hins : (Cond.instantiable cls 6).before args s' = true := h _ (by simp [Bundle.ownAtoms0])
  obtain ⟨vm₁, cX, kX, hfX, hkX, -, -, X₁, st1⟩ := Y.newCold hexec (own := own) (C := cls) (index := ik) (n := 6) hown' hk' hins hini'
    (g := F0 m pc ls rest) rfl (by rw [hb]; exact d0) (Nat.le_refl _) (Nat.le_refl _)
  generalize hT1 : (T.setVm vm₁).pushCell { cls := cX, slots := kX.instanceTypes.map defaultValue, vm := .none } = T1 at X₁ st1
  have hcat : (Value.ref T.heap.size).category = 1 := rfl
  have hcellA : T1.heap[T.heap.size]? = some (freshCell cX kX) := by rw [← hT1]; exact State.heap_pushCell_size _ _
  have d3' : decode c.code (pc + 3) = .ok (.dup, 1) := by rw [hb]; exact d3
  obtain ⟨U, hsteps, hrun, hend, hW, hsame, ce, hce, hO⟩ := X₁.ctorThrow0 hexec htr (own := own) (cls := cls) (names := names) (ic := ic) hown' hcls hnames h (fun x hx => nomatch hx) hfX hkX hcellA (by rw [hhp, hT]; exact Nat.le_refl _)
    (g := { method := m, pc := pc + 4, locals := ls, stack := .ref T.heap.size :: .ref T.heap.size :: rest, locked := none }) rfl hsize rfl rfl (rest := rest) rfl
    (by rw [hb]; exact d4) (by rw [hb]; exact d7) hout hRframes (by simp only [List.map_cons, List.sum_cons, hcat]; omega) hlocks
  obtain ⟨f1, f2⟩ := vx_frame hsame
  rw [hhp] at f1 f2
  have hWs : s.WarmedH U.vm := State.WarmedH.trans hW0 hW
  have hcl : s.vm.findClass cls = some ce.cls := by
    have h9 := hO.cls
    rw [hvm] at h9
    exact h9
  have hall : s.sameButNew ({ U with vm := s.vm } : State) locs mc ms := by
    subst hA
    obtain ⟨e1, e2⟩ := hsame
    rw [State.setFrames_setFrames] at e1
    have h2 : (T.setVm s.vm).sameButNew ({ U with vm := s.vm } : State) [] (0 + 1) (0 + 6) := ⟨e1, e2⟩
    have h3 := X.same.trans h2
    rw [List.append_nil] at h3
    exact h3.mono hc hs
  refine ⟨U, ?_, .threw T.heap.size, hrun, hend, Or.inr ⟨T.heap.size, rfl, cls, ce, locs, hx U hWs.alike f1 (fun q hq => f2 q hq (fun z hz => nomatch hz)), hce, hO.vm, hcl, hWs, hall, hf⟩⟩
  refine st1 _ ?_
  show Steps p.tables e below (T1.setTop { method := m, pc := pc + 3, locals := ls, stack := .ref T.heap.size :: rest, locked := none }) _
  jvm_step X₁.here [X₁.here.top, hexec, d3', Value.category]
  exact hsteps
/-- 'throw new E("text")': new; dup; ldc; invokespecial; athrow -/
theorem vx_throwS {cc : ByteArray} {pc : Nat} (hexec : p.tables.exec = Jvm.exec) (hb : c.code = cc) (hl : l.stackTraces = false) {own cls text : String} {names : List String} {ik is ic mc ms sa : Nat} {A : Nat → Prop}
    (hown : s.vm.findClass own = some m.cls) (hcls : Bundle.fit cls = true) (hnames : ∀ n ∈ names, Bundle.fit n = true)
    (hk : (Cond.classLink own ik cls).before args s = true) (hini : (Cond.initialized cls).before args s = true) (hstr : vk_R own is text sa s) (hat : ∀ w ∈ vx_atS own ic cls names, w.before args s = true)
    (hgood : ∀ w ∈ Cond.classLink own ik cls :: Cond.initialized cls :: vx_atS own ic cls names, vx_ot w = true)
    (hU : vx_Zq Bundle.tN "UNASSIGNED_STACK" Bundle.steD A s s.heap) (hN : vx_Zq Bundle.tN "SUPPRESSED_SENTINEL" Bundle.listD A s s.heap) (hS : va_S A s.heap H locs) (hsize : ls.size = c.maxLocals)
    (d0 : decode cc pc = .ok (.new ik, 3)) (d3 : decode cc (pc + 3) = .ok (.dup, 1)) (d4 : decode cc (pc + 4) = .ok (.ldc is, 2)) (d6 : decode cc (pc + 6) = .ok (.invokespecial ic, 3)) (d9 : decode cc (pc + 9) = .ok (.athrow, 1))
    (hout : ∀ x ∈ c.exceptionTable.toList, covers x (pc + 9) = false)
    (hRframes : names.length + 3 < R.frames) (hRlocals : (rest.map fun v => v.category).sum + (13 * (names.length + 1) + 43) ≤ R.locals) (hRcells : cells + 1 ≤ R.cells) (hRslots : slots + 6 ≤ R.slots) (hlocks : meth.locks = false)
    (hx : ∀ t : State, s.vm.Alike t.vm → H.size ≤ t.heap.size → (∀ q : Nat, q < H.size → t.heap[q]? = H[q]?) → XC cls s t)
    (hf : ∀ z ∈ locs, free z.base) (hc : cells + 1 ≤ mc) (hs : slots + 6 ≤ ms) :
    W p l e R s m args below meth c H locs cells slots (vx_MQ below Qc XC args s mc ms free) (F0 m pc ls rest) := by
  intro T hT X
  have htr : e.platform.stackTraces = false := (show e.platform.stackTraces = l.stackTraces by rw [X.admits.platform]).trans hl
  have Y := vx_rebase X (R' := { frames := R.frames, locals := R.locals, cells := 1, slots := 6 }) (Nat.le_refl _) (Nat.le_refl _) hRcells hRslots
  obtain ⟨s', hA⟩ : ∃ z, z = (T.setVm s.vm).setFrames (.invoking m args :: below) := ⟨_, rfl⟩
  rw [← hA] at Y
  have hvm : s'.vm = s.vm := by rw [hA]; rfl
  have hhp : s'.heap = H := by rw [hA]; exact hT
  have hW0 : s.WarmedH s'.vm := by rw [hvm]; exact State.WarmedH.refl s
  have hat' : ∀ w ∈ vx_atS own ic cls names, w.before args s' = true := fun w hw => vx_ot_at hW0 hvm.symm (hgood w (List.mem_cons_of_mem _ (List.mem_cons_of_mem _ hw))) (hat w hw)
  have hk' : (Cond.classLink own ik cls).before args s' = true := vx_ot_at hW0 hvm.symm (hgood _ List.mem_cons_self) hk
  have hini' : (Cond.initialized cls).before args s' = true := vx_ot_at hW0 hvm.symm (hgood _ (List.mem_cons_of_mem _ List.mem_cons_self)) hini
  have hU' : vx_Zq Bundle.tN "UNASSIGNED_STACK" Bundle.steD A s' s'.heap := by rw [hhp]; exact vx_Zq.moved hW0.alike (hU.kept hS.2.1)
  have hN' : vx_Zq Bundle.tN "SUPPRESSED_SENTINEL" Bundle.listD A s' s'.heap := by rw [hhp]; exact vx_Zq.moved hW0.alike (hN.kept hS.2.1)
  have h : ∀ w ∈ Bundle.ownAtoms own ic cls names, w.before args s' = true := vx_own hat' (vx_isRefq hU'.1) (vx_isRefq hN'.1) hU'.2.word hN'.2.word
  have hown' : s'.vm.findClass own = some m.cls := by rw [hvm]; exact hown
  have hins : (Cond.instantiable cls 6).before args s' = true := h _ (by simp [Bundle.ownAtoms])
  obtain ⟨vm₁, cX, kX, hfX, hkX, -, -, X₁, st1⟩ := Y.newCold hexec (own := own) (C := cls) (index := ik) (n := 6) hown' hk' hins hini'
    (g := F0 m pc ls rest) rfl (by rw [hb]; exact d0) (Nat.le_refl _) (Nat.le_refl _)
  generalize hT1 : (T.setVm vm₁).pushCell { cls := cX, slots := kX.instanceTypes.map defaultValue, vm := .none } = T1 at X₁ st1
  have hcat : (Value.ref T.heap.size).category = 1 := rfl
  have hcellA : T1.heap[T.heap.size]? = some (freshCell cX kX) := by rw [← hT1]; exact State.heap_pushCell_size _ _
  have d3' : decode c.code (pc + 3) = .ok (.dup, 1) := by rw [hb]; exact d3
  have d4' : decode c.code (pc + 4) = .ok (.ldc is, 2) := by rw [hb]; exact d4
  have hstr' : vk_R own is text sa s' := vk_R.warm hW0 hstr
  obtain ⟨U, hsteps, hrun, hend, hW, hsame, ce, hce, hO⟩ := X₁.ctorThrowS hexec htr (own := own) (cls := cls) (names := names) (ic := ic) hown' hcls hnames h (fun x hx => nomatch hx) hfX hkX hcellA (by rw [hhp, hT]; exact Nat.le_refl _) (msg := .ref sa) rfl
    (g := { method := m, pc := pc + 6, locals := ls, stack := .ref sa :: .ref T.heap.size :: .ref T.heap.size :: rest, locked := none }) rfl hsize rfl rfl (rest := rest) rfl
    (by rw [hb]; exact d6) (by rw [hb]; exact d9) hout hRframes (by simp only [List.map_cons, List.sum_cons, hcat]; omega) hlocks
  obtain ⟨f1, f2⟩ := vx_frame hsame
  rw [hhp] at f1 f2
  have hWs : s.WarmedH U.vm := State.WarmedH.trans hW0 hW
  have hcl : s.vm.findClass cls = some ce.cls := by
    have h9 := hO.cls
    rw [hvm] at h9
    exact h9
  have hall : s.sameButNew ({ U with vm := s.vm } : State) locs mc ms := by
    subst hA
    obtain ⟨e1, e2⟩ := hsame
    rw [State.setFrames_setFrames] at e1
    have h2 : (T.setVm s.vm).sameButNew ({ U with vm := s.vm } : State) [] (0 + 1) (0 + 6) := ⟨e1, e2⟩
    have h3 := X.same.trans h2
    rw [List.append_nil] at h3
    exact h3.mono hc hs
  refine ⟨U, ?_, .threw T.heap.size, hrun, hend, Or.inr ⟨T.heap.size, rfl, cls, ce, locs, hx U hWs.alike f1 (fun q hq => f2 q hq (fun z hz => nomatch hz)), hce, hO.vm, hcl, hWs, hall, hf⟩⟩
  refine st1 _ ?_
  show Steps p.tables e below (T1.setTop { method := m, pc := pc + 3, locals := ls, stack := .ref T.heap.size :: rest, locked := none }) _
  jvm_step X₁.here [X₁.here.top, hexec, d3', Value.category]
  exact X₁.ldcString hexec (own := own) (text := text) (index := is) (a := sa) hown' hstr'.1 hstr'.2
    (g := { method := m, pc := pc + 4, locals := ls, stack := .ref T.heap.size :: .ref T.heap.size :: rest, locked := none }) rfl d4' _ hsteps
/-- 'throw new E("text")', the text by a wide index -/
theorem vx_throwSW {cc : ByteArray} {pc : Nat} (hexec : p.tables.exec = Jvm.exec) (hb : c.code = cc) (hl : l.stackTraces = false) {own cls text : String} {names : List String} {ik is ic mc ms sa : Nat} {A : Nat → Prop}
    (hown : s.vm.findClass own = some m.cls) (hcls : Bundle.fit cls = true) (hnames : ∀ n ∈ names, Bundle.fit n = true)
    (hk : (Cond.classLink own ik cls).before args s = true) (hini : (Cond.initialized cls).before args s = true) (hstr : vk_R own is text sa s) (hat : ∀ w ∈ vx_atS own ic cls names, w.before args s = true)
    (hgood : ∀ w ∈ Cond.classLink own ik cls :: Cond.initialized cls :: vx_atS own ic cls names, vx_ot w = true)
    (hU : vx_Zq Bundle.tN "UNASSIGNED_STACK" Bundle.steD A s s.heap) (hN : vx_Zq Bundle.tN "SUPPRESSED_SENTINEL" Bundle.listD A s s.heap) (hS : va_S A s.heap H locs) (hsize : ls.size = c.maxLocals)
    (d0 : decode cc pc = .ok (.new ik, 3)) (d3 : decode cc (pc + 3) = .ok (.dup, 1)) (d4 : decode cc (pc + 4) = .ok (.ldc_w is, 3)) (d7 : decode cc (pc + 7) = .ok (.invokespecial ic, 3)) (d10 : decode cc (pc + 10) = .ok (.athrow, 1))
    (hout : ∀ x ∈ c.exceptionTable.toList, covers x (pc + 10) = false)
    (hRframes : names.length + 3 < R.frames) (hRlocals : (rest.map fun v => v.category).sum + (13 * (names.length + 1) + 43) ≤ R.locals) (hRcells : cells + 1 ≤ R.cells) (hRslots : slots + 6 ≤ R.slots) (hlocks : meth.locks = false)
    (hx : ∀ t : State, s.vm.Alike t.vm → H.size ≤ t.heap.size → (∀ q : Nat, q < H.size → t.heap[q]? = H[q]?) → XC cls s t)
    (hf : ∀ z ∈ locs, free z.base) (hc : cells + 1 ≤ mc) (hs : slots + 6 ≤ ms) :
    W p l e R s m args below meth c H locs cells slots (vx_MQ below Qc XC args s mc ms free) (F0 m pc ls rest) := by
  intro T hT X
  have htr : e.platform.stackTraces = false := (show e.platform.stackTraces = l.stackTraces by rw [X.admits.platform]).trans hl
  have Y := vx_rebase X (R' := { frames := R.frames, locals := R.locals, cells := 1, slots := 6 }) (Nat.le_refl _) (Nat.le_refl _) hRcells hRslots
  obtain ⟨s', hA⟩ : ∃ z, z = (T.setVm s.vm).setFrames (.invoking m args :: below) := ⟨_, rfl⟩
  rw [← hA] at Y
  have hvm : s'.vm = s.vm := by rw [hA]; rfl
  have hhp : s'.heap = H := by rw [hA]; exact hT
  have hW0 : s.WarmedH s'.vm := by rw [hvm]; exact State.WarmedH.refl s
  have hat' : ∀ w ∈ vx_atS own ic cls names, w.before args s' = true := fun w hw => vx_ot_at hW0 hvm.symm (hgood w (List.mem_cons_of_mem _ (List.mem_cons_of_mem _ hw))) (hat w hw)
  have hk' : (Cond.classLink own ik cls).before args s' = true := vx_ot_at hW0 hvm.symm (hgood _ List.mem_cons_self) hk
  have hini' : (Cond.initialized cls).before args s' = true := vx_ot_at hW0 hvm.symm (hgood _ (List.mem_cons_of_mem _ List.mem_cons_self)) hini
  have hU' : vx_Zq Bundle.tN "UNASSIGNED_STACK" Bundle.steD A s' s'.heap := by rw [hhp]; exact vx_Zq.moved hW0.alike (hU.kept hS.2.1)
  have hN' : vx_Zq Bundle.tN "SUPPRESSED_SENTINEL" Bundle.listD A s' s'.heap := by rw [hhp]; exact vx_Zq.moved hW0.alike (hN.kept hS.2.1)
  have h : ∀ w ∈ Bundle.ownAtoms own ic cls names, w.before args s' = true := vx_own hat' (vx_isRefq hU'.1) (vx_isRefq hN'.1) hU'.2.word hN'.2.word
  have hown' : s'.vm.findClass own = some m.cls := by rw [hvm]; exact hown
  have hins : (Cond.instantiable cls 6).before args s' = true := h _ (by simp [Bundle.ownAtoms])
  obtain ⟨vm₁, cX, kX, hfX, hkX, -, -, X₁, st1⟩ := Y.newCold hexec (own := own) (C := cls) (index := ik) (n := 6) hown' hk' hins hini'
    (g := F0 m pc ls rest) rfl (by rw [hb]; exact d0) (Nat.le_refl _) (Nat.le_refl _)
  generalize hT1 : (T.setVm vm₁).pushCell { cls := cX, slots := kX.instanceTypes.map defaultValue, vm := .none } = T1 at X₁ st1
  have hcat : (Value.ref T.heap.size).category = 1 := rfl
  have hcellA : T1.heap[T.heap.size]? = some (freshCell cX kX) := by rw [← hT1]; exact State.heap_pushCell_size _ _
  have d3' : decode c.code (pc + 3) = .ok (.dup, 1) := by rw [hb]; exact d3
  have d4' : decode c.code (pc + 4) = .ok (.ldc_w is, 3) := by rw [hb]; exact d4
  have hstr' : vk_R own is text sa s' := vk_R.warm hW0 hstr
  obtain ⟨U, hsteps, hrun, hend, hW, hsame, ce, hce, hO⟩ := X₁.ctorThrowS hexec htr (own := own) (cls := cls) (names := names) (ic := ic) hown' hcls hnames h (fun x hx => nomatch hx) hfX hkX hcellA (by rw [hhp, hT]; exact Nat.le_refl _) (msg := .ref sa) rfl
    (g := { method := m, pc := pc + 7, locals := ls, stack := .ref sa :: .ref T.heap.size :: .ref T.heap.size :: rest, locked := none }) rfl hsize rfl rfl (rest := rest) rfl
    (by rw [hb]; exact d7) (by rw [hb]; exact d10) hout hRframes (by simp only [List.map_cons, List.sum_cons, hcat]; omega) hlocks
  obtain ⟨f1, f2⟩ := vx_frame hsame
  rw [hhp] at f1 f2
  have hWs : s.WarmedH U.vm := State.WarmedH.trans hW0 hW
  have hcl : s.vm.findClass cls = some ce.cls := by
    have h9 := hO.cls
    rw [hvm] at h9
    exact h9
  have hall : s.sameButNew ({ U with vm := s.vm } : State) locs mc ms := by
    subst hA
    obtain ⟨e1, e2⟩ := hsame
    rw [State.setFrames_setFrames] at e1
    have h2 : (T.setVm s.vm).sameButNew ({ U with vm := s.vm } : State) [] (0 + 1) (0 + 6) := ⟨e1, e2⟩
    have h3 := X.same.trans h2
    rw [List.append_nil] at h3
    exact h3.mono hc hs
  refine ⟨U, ?_, .threw T.heap.size, hrun, hend, Or.inr ⟨T.heap.size, rfl, cls, ce, locs, hx U hWs.alike f1 (fun q hq => f2 q hq (fun z hz => nomatch hz)), hce, hO.vm, hcl, hWs, hall, hf⟩⟩
  refine st1 _ ?_
  show Steps p.tables e below (T1.setTop { method := m, pc := pc + 3, locals := ls, stack := .ref T.heap.size :: rest, locked := none }) _
  jvm_step X₁.here [X₁.here.top, hexec, d3', Value.category]
  exact X₁.ldcStringW hexec (own := own) (text := text) (index := is) (a := sa) hown' hstr'.1 hstr'.2
    (g := { method := m, pc := pc + 4, locals := ls, stack := .ref T.heap.size :: .ref T.heap.size :: rest, locked := none }) rfl d4' _ hsteps
end Ends
section Bodies
variable {l : Launch}
theorem vx_ofW {y : MethodName} {ws ws' : List Cond} {rm : Room} {Pc : Array Value → State → Prop} {Qc : Array Value → State → Outcome → State → Prop} {XC : String → State → State → Prop} {mc ms : Nat} {free : Addr → Prop} {cc : ByteArray} {maxL : Nat} {ret : Option FieldType}
    (hy : plainName y.cls = true) (hw : ws = Cond.code y cc maxL ret :: ws')
    (body : ∀ p e s m args below meth c s₁, BodyLoose p l y (headSpec ws rm) cc maxL ret e s m args below meth c s₁ → c.maxLocals = maxL → (∀ x ∈ c.exceptionTable.toList, False) → Pc args s →
      W p l e (headSpec ws rm).room s m args below meth c s.heap [] 0 0 (vx_MQ below Qc XC args s mc ms free) (entryFrame m args maxL)) : vx_Met l y ws rm Pc Qc XC mc ms free := by
  refine MetFree.of_bodyS (code := cc) (maxLocals := maxL) (ret := ret) hy ?_ ?_
  · intro args s m h hn
    obtain ⟨meth, c, h1, h2, h3, h4, h5, h6, -, -⟩ := Cond.code_spec hn (atoms_spec (ws := ws) h _ (by rw [hw]; exact List.mem_cons_self))
    exact ⟨meth, c, h1, h2, h3, h4, h5, h6⟩
  · intro p e s m args below meth c s₁ B hml hP _
    have hh0 : s₁.heap = s.heap := by rw [B.state]; rfl
    have ht : ∀ x ∈ c.exceptionTable.toList, False := by
      obtain ⟨meth9, c9, h1, h2, -, -, -, -, h7, -⟩ := Cond.code_spec B.named (atoms_spec (ws := ws) B.pre _ (by rw [hw]; exact List.mem_cons_self))
      cases Option.some.inj (h1.symm.trans B.method)
      cases Option.some.inj (h2.symm.trans (Stand.of_body B).code)
      intro x hx
      rw [Array.isEmpty_iff.mp h7] at hx
      cases hx
    obtain ⟨t, a1, o, b1, b2, b3⟩ := body p e s m args below meth c s₁ B hml ht hP s₁ hh0 (Stand.of_body B)
    exact ⟨t, o, a1, b1, b2, b3⟩
/-- the table of a body with handlers -/
theorem vx_table {p : Program} {x y : MethodName} {S : Spec} {cc bytes : ByteArray} {maxL maxL' : Nat} {ret ret' : Option FieldType} {e : Env} {s s₁ : State} {m : MethodId} {args : Array Value} {below : List Frame} {meth : Method} {c : Code} {hh : List (Nat × Nat × Nat × Nat)}
    (B : BodyLoose p l y S cc maxL ret e s m args below meth c s₁) (h : (Cond.codeWith y bytes maxL' ret' hh).before args s = true) : c.exceptionTable.toList = tableOf hh := by
  obtain ⟨m9, meth9, c9, hn9, h1, h2, -, -, h6, -⟩ := Cond.codeWith_spec h
  cases Option.some.inj (hn9.symm.trans B.named)
  cases Option.some.inj (h1.symm.trans B.method)
  cases Option.some.inj (h2.symm.trans (Stand.of_body B).code)
  rw [← h6, table_eq]
end Bodies
end VXA
/-! ===== END ===== -/
/-! ===== BEGIN a static call of a method with an exception table ===== -/
section VXS
variable {p : Program} {l : Launch} {e : Env} {R : Room} {s : State} {m : MethodId} {args : Array Value} {below : List Frame} {meth : Method} {c : Code} {T : State} {H : Heap} {locs : List Loc} {cells slots : Nat}
abbrev vx_CSW (R : Room) (s : State) (args : Array Value) (own : String) (index : Nat) (y : MethodName) (bytes : ByteArray) (maxL : Nat) (ret : Option FieldType) (hh : List (Nat × Nat × Nat × Nat)) (ws : List Cond) (rm : Room) (mc ms n : Nat) : Prop :=
  (rm.cells = mc ∧ rm.slots = ms ∧ rm.frames + 1 ≤ R.frames ∧ 8 + (maxL + 11) + rm.locals ≤ R.locals ∧ (∀ w ∈ ws, ∀ (a' : Array Value) (U : State), s.WarmedH U.vm → w.before a' U = true) ∧ Cond.codeWith y bytes maxL ret hh ∈ ws) ∧
  (Cond.codeWith y bytes maxL ret hh).before args s = true ∧ (Cond.initialized y.cls).before args s = true ∧ (y.cls ≠ "java/lang/invoke/MethodHandle" ∧ y.cls ≠ "java/lang/invoke/VarHandle") ∧
  (∀ sig, parseMethodDescriptor y.desc = some sig → n = sig.parameters.length) ∧ (Cond.methodLink own index y).before args s = true ∧ (Cond.static y).before args s = true
theorem vx_cwSW {own : String} {index maxL mc ms : Nat} {y : MethodName} {bytes : ByteArray} {ret : Option FieldType} {hh : List (Nat × Nat × Nat × Nat)} {Ts ws ws' : List Cond} {rm : Room} (n : Nat) (ht : ∀ w ∈ Ts, w.before args s = true) (hT : GoodIn Ts (va_wsS own index y ws)) (hw : ws = Cond.codeWith y bytes maxL ret hh :: ws') (hrc : rm.cells = mc) (hrs : rm.slots = ms)
    (hd : y.cls ≠ "java/lang/invoke/MethodHandle" ∧ y.cls ≠ "java/lang/invoke/VarHandle" ∧ (parseMethodDescriptor y.desc).map (fun d => d.parameters.length) = some n) (hR : rm.frames + 1 ≤ R.frames ∧ 8 + (maxL + 11) + rm.locals ≤ R.locals) :
    vx_CSW R s args own index y bytes maxL ret hh ws rm mc ms n := by
  have ok : ∀ w ∈ va_wsS own index y ws, w.before args s = true := fun w h => ht w (hT w h).1
  have hG : GoodIn Ts ws := fun w h => hT w (by unfold va_wsS; exact List.mem_append_right _ h)
  have hc : Cond.codeWith y bytes maxL ret hh ∈ ws := by rw [hw]; exact List.mem_cons_self
  refine ⟨⟨hrc, hrs, hR.1, hR.2, pay_in ht hG, hc⟩, ht _ (hG _ hc).1, ok _ (by simp [va_wsS]), ⟨hd.1, hd.2.1⟩, fun sig h => ?_, ok _ (by simp [va_wsS]), ok _ (by simp [va_wsS])⟩
  have h2 := hd.2.2
  rw [h] at h2
  exact (Option.some.inj h2).symm
theorem vx_callSW (X : Stand p l e R s m args below meth c T locs cells slots) (hexec : p.tables.exec = Jvm.exec) {own : String} {index : Nat} {y : MethodName} {bytes : ByteArray} {maxL : Nat} {ret : Option FieldType} {hh : List (Nat × Nat × Nat × Nat)}
    (hown : s.vm.findClass own = some m.cls) (hlink : (Cond.methodLink own index y).before args s = true) (hstat : (Cond.static y).before args s = true) (hinit : (Cond.initialized y.cls).before args s = true)
    (hcode : (Cond.codeWith y bytes maxL ret hh).before args s = true) (hy : y.cls ≠ "java/lang/invoke/MethodHandle" ∧ y.cls ≠ "java/lang/invoke/VarHandle")
    {W9 : Nat} {Pre : Pt → Array Value → Prop} {Post : Pt → Array Value → Option Value → Pt → Prop} (hK : Back l R p e below s args y 3 W9 Pre Post)
    {g : JFrame} (hg : g.method = m) (hsize : g.locals.size = c.maxLocals) {argsL rest : List Value} (hlen : ∀ sig, parseMethodDescriptor y.desc = some sig → argsL.length = sig.parameters.length)
    (hstack : g.stack = argsL.reverse ++ rest) (hW : 2 * g.monitorRoom + (rest.map fun v => v.category).sum ≤ W9) (hdg : decode c.code g.pc = .ok (.invokestatic index, 3))
    (hpre : ∀ vm₁, s.WarmedH vm₁ → Pre ⟨T.setVm vm₁, locs, cells, slots⟩ argsL.toArray) :
    ∃ (v : Option Value) (vm₁ : Vm) (B : Pt), s.WarmedH vm₁ ∧ Stand p l e R s m args below meth c B.U B.locs B.cells B.slots ∧ Post ⟨T.setVm vm₁, locs, cells, slots⟩ argsL.toArray v B ∧
      ∀ target, Steps p.tables e below (B.U.setTop { g with pc := g.pc + 3, stack := v.toList ++ rest }) target → Steps p.tables e below (T.setTop g) target := by
  obtain ⟨mk, methM, cM, hnamed, hmethM, -, -, -, -, -, -, hsigM⟩ := Cond.codeWith_spec hcode
  have hstatic : methM.isStatic = true := Cond.static_spec hnamed hmethM hstat
  obtain ⟨kP, hkP, -⟩ := className_of_methodNamed hnamed
  have hinitP : kP.init = .initialized := Cond.initialized_spec (findClass_of_methodNamed hnamed) hkP hinit
  obtain ⟨vm₁, X₁, hstep₁⟩ := X.invokestatic hexec hown hlink hnamed hmethM hstatic hkP hinitP hy (g := g) hg (argsL := argsL) (rest := rest) (hlen _ hsigM) hstack hdg
  obtain ⟨v, B, X', hpost, hsteps⟩ := hK m meth c ⟨T.setVm vm₁, locs, cells, slots⟩ { g with stack := rest } (.invokestatic index) mk argsL.toArray X₁ hg hsize hdg hW (X₁.named hnamed) (hpre vm₁ X₁.warmed)
  exact ⟨v, vm₁, B, X₁.warmed, X', hpost, fun target h => hstep₁ _ fun acts => by rw [doInvoke_state]; exact hsteps.trans h⟩
theorem vx_runSW {y : MethodName} {bytes cc : ByteArray} {maxL nL mc ms n index : Nat} {ret : Option FieldType} {hh : List (Nat × Nat × Nat × Nat)} {ws : List Cond} {rm : Room} {Pc : Array Value → State → Prop} {Qc : Array Value → State → Outcome → State → Prop} {free : Addr → Prop} {Ts : List Cond} {own : String} {As rest : List Value} {g : JFrame}
    (S : CallFix p m c cc nL s args Ts own) (hM : Met l y ws rm Pc Qc mc ms free) (cw : vx_CSW R s args own index y bytes maxL ret hh ws rm mc ms n) (hp : PreS s H Pc As)
    (hg : g.method = m) (hn : As.length = n) (hsize : g.locals.size = nL) (hstack : g.stack = As.reverse ++ rest) (hW : 2 * g.monitorRoom + (rest.map fun v => v.category).sum ≤ 8) (hdg : decode cc g.pc = .ok (.invokestatic index, 3)) (hf : cells + mc ≤ R.cells ∧ slots + ms ≤ R.slots) :
    va_Run p l e R s m args below meth c H locs cells slots mc ms g rest (Qc As.toArray) (free) := by
  obtain ⟨⟨hrc, hrs, hfr, hlo, hws, hcw⟩, hcode, hini, hy, hlen, hl, hstt⟩ := cw
  have hK : Back l R p e below s args y 3 8 (PreOf R mc ms Pc) (PostOf Qc mc ms free) := va_backW (hh := hh) (bytes := bytes) (maxL := maxL) (ret := ret) hM hp.1 hrc hrs hfr hlo hws hcw (fun a' U hW => word_at hW (Or.inl (by first | rfl | simp [Cond.onTables, Cond.keeps, Cond.steady])) hini)
  obtain ⟨hx, hb, hml, ho, -⟩ := S
  intro T hT X
  obtain ⟨v, vm₁, ⟨U', l2, c2, s2⟩, hW₁, X', ⟨g', mk, t, L, e1, e2, hq, h1, hL, h2, h3⟩, st⟩ := vx_callSW X hx (hh := hh) (bytes := bytes) (maxL := maxL) (ret := ret) ho hl hstt hini hcode hy hK hg (hsize.trans hml.symm) (argsL := As) (rest := rest) (fun sig h => hn.trans (hlen sig h)) hstack hW (by rw [hb]; exact hdg)
    (fun vm₁ hW₁ => ⟨hf.1, hf.2, hp.2 (T.setVm vm₁) hT hW₁⟩)
  dsimp only [Pt.U, Pt.locs, Pt.cells, Pt.slots] at X' e1 e2 h1 h2 h3 st
  subst h1; subst h2; subst h3
  exact ⟨v, (T.setVm vm₁).calling g' mk As.toArray, t, U', L, hT, X', hL, e1, e2, hq, st⟩
/-- not caught here, past rows that name other classes: it goes on to the caller -/
theorem vx_outP {p : Program} {l : Launch} {e : Env} {R : Room} {s : State} {m : MethodId} {args : Array Value} {below : List Frame} {meth : Method} {c : Code} {H : Heap} {locs : List Loc} {cells slots : Nat} {free : Addr → Prop} {ls : Array Slot} {rest : List Value} {Qc : Array Value → State → Outcome → State → Prop} {XC : String → State → State → Prop}
    {pc : Nat} {own E : String} {ce : Cell} {q : Addr} {mc ms : Nat} (hown : s.vm.findClass own = some m.cls) (hlocks : meth.locks = false)
    (hpass : ∀ z ∈ c.exceptionTable.toList, covers z pc = false ∨ (z.catchType ≠ 0 ∧ ∃ nm : String, (Cond.classLink own z.catchType nm).before args s = true ∧ va_Nc E nm s)) (hcell : H[q]? = some ce) (hv : ce.vm = .none) (hcl : s.vm.findClass E = some ce.cls)
    (hx : ∀ t : State, t.heap = H → s.vm.Alike t.vm → XC E s t) (hf : ∀ z ∈ locs, free z.base) (hc : cells ≤ mc) (hs : slots ≤ ms) :
    vx_W p l e R s m args below meth c H locs cells slots (vx_MQ below Qc XC args s mc ms free) (F0 m pc ls rest) q := by
  intro T hT X
  have hpl : e.platform.magicAccessors = ({} : Platform).magicAccessors := by rw [X.admits.platform]
  obtain ⟨vm', hW', X', st⟩ := X.outThrough hlocks q (g := F0 m pc ls rest) rfl rfl rfl (cell := ce) (by rw [hT]; exact hcell) (by rw [hv]; rfl)
    (by obtain ⟨k9, h9, -⟩ := Vm.findClass_spec hcl; exact ⟨k9, h9⟩) (fun z hz => by
      rcases hpass z hz with h | ⟨hz0, nm, hl1, hn1⟩
      · exact Or.inl h
      · obtain ⟨c6, hc6, hcl6⟩ := Cond.classLink_spec hown hl1 e.platform hpl
        obtain ⟨a8, b8, h1, h2, h3⟩ := hn1
        cases Option.some.inj (h1.symm.trans hcl)
        cases Option.some.inj (h2.symm.trans hc6)
        exact Or.inr ⟨hz0, _, hcl6, h3⟩)
  obtain ⟨g₀, hfr⟩ := X'.frames_eq
  have hcell9 : ((T.setVm vm').setFrames (.throwing q :: below)).heap[q]? = some ce := by
    show T.heap[q]? = some ce
    rw [hT]; exact hcell
  have hend : Ended ((T.setVm vm').setFrames (.throwing q :: below)) below (.threw q) := State.frames_setFrames _ (State.cur_lt_of_frames hfr)
  refine ⟨(T.setVm vm').setFrames (.throwing q :: below), ?_, .threw q, X'.here.running, hend, Or.inr ⟨q, rfl, E, ce, locs, hx _ hT (X'.ends _).1.alike, hcell9, hv, hcl, (X'.ends _).1, (X'.ends _).2.mono hc hs, hf⟩⟩
  rw [X.pushThrowing_eq]
  exact st
/-- a thing of a world lies in the heap -/
theorem vx_lt {D : va_G} {cl : List vw_C} {ws : va_W} {H1 : Heap} (h : va_P D cl ws H1) {k : Nat} {q : Nat × va_E} (hk : ws[k]? = some q) : q.1 < H1.size := (h k q hk).lt
end VXS
/-! ===== END ===== -/
/-! ===== BEGIN methods with a table of their own: called by a name, returning or throwing ===== -/
section VXH
/-! vx_backW, vx_callVX, vx_callSX, vx_callVW, vx_runVW, vx_runVX, vx_runSX, vx_ofWH follow the same proofs as their sisters above (Free/Laws.lean, Shelf42/LK1.lean); vx_outP calls Shelf42/NT130.lean (outThrough). -/
section
variable {l : Launch} {R : Room} {p : Program} {e : Env} {below : List Frame} {s : State} {sargs : Array Value} {y : MethodName} {len W9 : Nat}
theorem vx_backW {ws : List Cond} {rm : Room} {Pc : Array Value → State → Prop} {Qc : Array Value → State → Outcome → State → Prop} {XC : String → State → State → Prop} {mc ms : Nat} {free : Addr → Prop} {bytes : ByteArray} {maxL : Nat} {ret : Option FieldType} {hh : List (Nat × Nat × Nat × Nat)}
    (hM : vx_Met l y ws rm Pc Qc XC mc ms free) (hblind : FrameBlind Pc) (hrc : rm.cells = mc) (hrs : rm.slots = ms)
    (hframes : rm.frames + 1 ≤ R.frames) (hlocals : W9 + (maxL + 11) + rm.locals ≤ R.locals)
    (hws : ∀ w ∈ ws, ∀ a' U, s.WarmedH U.vm → w.before a' U = true) (hcode : Cond.codeWith y bytes maxL ret hh ∈ ws) (hinit : ∀ a' U, s.WarmedH U.vm → (Cond.initialized y.cls).before a' U = true) :
    vx_Back l R p e below s sargs y len W9 (PreOf R mc ms Pc) (PostOf Qc mc ms free) (vx_Post XC mc ms free) := by
  intro m meth c A g ig mk a X hg hsize hdg hW hn hp
  have h1 : (headSpec ws rm).pre.before a A.U = true := atoms_intro fun w hw => hws w hw _ _ X.warmed
  have h2 : (Cond.codeWith y bytes maxL ret hh).before a A.U = true := hws _ hcode _ _ X.warmed
  have h3 : (Cond.initialized y.cls).before a A.U = true := hinit _ _ X.warmed
  have h4 : A.cells + (headSpec ws rm).room.cells ≤ R.cells := by rw [show (headSpec ws rm).room.cells = mc from hrc]; exact hp.1
  have h5 : A.slots + (headSpec ws rm).room.slots ≤ R.slots := by rw [show (headSpec ws rm).room.slots = ms from hrs]; exact hp.2.1
  have hPc : Pc a (A.U.calling g mk a) := hblind _ _ _ _ hp.2.2
  obtain ⟨U, Ls, c0, s0⟩ := A
  dsimp only [Pt.U, Pt.locs, Pt.cells, Pt.slots] at h1 h2 h3 h4 h5 X hn hPc ⊢
  obtain ⟨m9, methY, cY, hn9, hmY, hcY, -, hlY, -⟩ := Cond.codeWith_spec h2
  cases Option.some.inj (hn9.symm.trans hn)
  obtain ⟨kY, hkY, -⟩ := className_of_methodNamed hn
  have hinitY : kY.init = .initialized := Cond.initialized_spec (findClass_of_methodNamed hn) hkY h3
  have h : At U g.method c below := by rw [hg]; exact X.here
  have hlocals9 : W9 + (maxL + 11) + (headSpec ws rm).room.locals ≤ R.locals := hlocals
  have happ : (headSpec ws rm).appliesLoose y e.platform (U.calling g mk a) = true :=
    Spec.appliesLoose_calling (g := g) h hdg hn hkY hinitY
      (X.room_calling (g := g) (R' := (headSpec ws rm).room) hsize hmY hcY hframes (by rw [hlY]; omega) h4 h5) h1
  obtain ⟨mid, hmid⟩ := h.above
  have hfr : (U.setTop g).frames = (.java g :: mid) ++ below := by rw [State.frames_setTop' g h.top, hmid]; rfl
  obtain ⟨o, s₂, hsteps, -, hend, hq⟩ := Steps.callFree hM p X.admits X.cas X.clock (acts := []) hfr happ hPc trivial
  have hq' : vx_Q Qc XC mc ms free a (U.calling g mk a) o s₂ := hq
  rw [State.frames_setTop' g h.top] at hend
  obtain ⟨g₀, hg0⟩ := Option.isSome_iff_exists.mp h.top
  obtain ⟨r, hr⟩ := State.topJava?_eq_some.mp hg0
  have hr' : (({ U with heap := s₂.heap, slotsUsed := s₂.slotsUsed } : State).setVm s₂.vm).frames = .java g₀ :: r := hr
  rcases hq' with ⟨hqc, L, hfe, hL⟩ | ⟨q, rfl, E, ce, L, hx, hce, hcv, hcl, hW₂, hsm, hL⟩
  · obtain ⟨⟨v, rfl⟩, hW₂, e2, q2, q3, q4, q5, q6⟩ := id hfe
    have e3 : s₂ = ({ (U.calling g mk a).setFrames s₂.frames with heap := s₂.heap, slotsUsed := s₂.slotsUsed } : State).setVm s₂.vm := by
      have : s₂ = ({ s₂ with vm := (U.calling g mk a).vm } : State).setVm s₂.vm := rfl
      rw [e2] at this
      exact this
    obtain ⟨c₂, i₂, len₂, hc₂, hd₂, hf₂⟩ := hend
    have hW' : U.WarmedH s₂.vm := hW₂
    have hcc : c₂ = c := by
      have h1 : s₂.code? g.method = U.code? g.method := by
        rw [State.code?_eq, State.code?_eq, hW'.alike.method?]
      exact Option.some.inj (hc₂.symm.trans (h1.trans h.code))
    subst hcc
    have hlen : len₂ = len := by rw [hdg] at hd₂; cases hd₂; rfl
    subst hlen
    have hs₂ : s₂ = (({ U with heap := s₂.heap, slotsUsed := s₂.slotsUsed } : State).setVm s₂.vm).setTop { g with pc := g.pc + len₂, stack := v.toList ++ g.stack } := by
      refine e3.trans ?_
      rw [hf₂, State.calling_eq h.top, State.setFrames_setFrames, State.setTop_of_frames _ hr', hr]
      rfl
    have hsame : U.sameButNew ({ U with heap := s₂.heap, slotsUsed := s₂.slotsUsed } : State) L mc ms := by
      refine ⟨?_, q2, q3, q4, q5, q6⟩
      obtain ⟨t, ht, -⟩ := State.frames_cons hr
      show ({ U with heap := s₂.heap, slotsUsed := s₂.slotsUsed } : State) = { U.setFrames U.frames with heap := s₂.heap, slotsUsed := s₂.slotsUsed }
      rw [State.setFrames_self ht]
    subst hg
    refine Or.inl ⟨v, ⟨(({ U with heap := s₂.heap, slotsUsed := s₂.slotsUsed } : State).setVm s₂.vm), Ls ++ L, c0 + mc, s0 + ms⟩,
      ⟨X.admits, X.cas, X.clock, X.frames, X.room, X.hears, X.method, X.code, (X.here.setHeapUsed s₂.heap s₂.slotsUsed).setVm hW'.alike, X.tail, State.WarmedH.trans X.warmed hW', X.limits, X.bytes, X.same.trans (hsame.setVm s.vm)⟩,
      ⟨g, mk, s₂, L, rfl, rfl, hqc, rfl, hL, rfl, rfl⟩, ?_⟩
    show Steps p.tables e below _ ((({ U with heap := s₂.heap, slotsUsed := s₂.slotsUsed } : State).setVm s₂.vm).setTop { g with pc := g.pc + len₂, stack := v.toList ++ g.stack })
    rw [← hs₂]
    exact hsteps
  · obtain ⟨e2, q2, q3, q4, q5, q6⟩ := id hsm
    have e3 : s₂ = ({ (U.calling g mk a).setFrames s₂.frames with heap := s₂.heap, slotsUsed := s₂.slotsUsed } : State).setVm s₂.vm := by
      have : s₂ = ({ s₂ with vm := (U.calling g mk a).vm } : State).setVm s₂.vm := rfl
      rw [e2] at this
      exact this
    have hf₂ : s₂.frames = .throwing q :: .java g :: U.frames.tail := hend
    have hW' : U.WarmedH s₂.vm := hW₂
    have hs₂ : s₂ = ((({ U with heap := s₂.heap, slotsUsed := s₂.slotsUsed } : State).setVm s₂.vm).setTop g).pushFrame (.throwing q) := by
      refine e3.trans ?_
      rw [hf₂, State.calling_eq h.top, State.setFrames_setFrames, State.pushFrame, State.frames_setTop _ hr', State.setTop_of_frames _ hr', State.setFrames_setFrames, hr]
      rfl
    have hsame : U.sameButNew ({ U with heap := s₂.heap, slotsUsed := s₂.slotsUsed } : State) L mc ms := by
      refine ⟨?_, q2, q3, q4, q5, q6⟩
      obtain ⟨t, ht, -⟩ := State.frames_cons hr
      show ({ U with heap := s₂.heap, slotsUsed := s₂.slotsUsed } : State) = { U.setFrames U.frames with heap := s₂.heap, slotsUsed := s₂.slotsUsed }
      rw [State.setFrames_self ht]
    subst hg
    refine Or.inr ⟨q, ⟨(({ U with heap := s₂.heap, slotsUsed := s₂.slotsUsed } : State).setVm s₂.vm), Ls ++ L, c0 + mc, s0 + ms⟩,
      ⟨X.admits, X.cas, X.clock, X.frames, X.room, X.hears, X.method, X.code, (X.here.setHeapUsed s₂.heap s₂.slotsUsed).setVm hW'.alike, X.tail, State.WarmedH.trans X.warmed hW', X.limits, X.bytes, X.same.trans (hsame.setVm s.vm)⟩,
      ⟨g, mk, s₂, L, E, ce, rfl, rfl, hx, hce, hcv, hcl, rfl, hL, rfl, rfl⟩, ?_⟩
    show Steps p.tables e below _ (((({ U with heap := s₂.heap, slotsUsed := s₂.slotsUsed } : State).setVm s₂.vm).setTop g).pushFrame (.throwing q))
    rw [← hs₂]
    exact hsteps
end
variable {p : Program} {l : Launch} {e : Env} {R : Room} {s : State} {m : MethodId} {args : Array Value} {below : List Frame} {meth : Method} {c : Code} {T : State} {H : Heap} {locs : List Loc} {cells slots : Nat}
theorem vx_callVX (X : Stand p l e R s m args below meth c T locs cells slots) (hexec : p.tables.exec = Jvm.exec) {own C : String} {index : Nat} {y : MethodName} {bytes : ByteArray} {maxL : Nat} {ret : Option FieldType} {hh : List (Nat × Nat × Nat × Nat)}
    (hown : s.vm.findClass own = some m.cls) (hlink : (Cond.methodLink own index y).before args s = true) (hinst : (Cond.instanceMethod y).before args s = true) (hsel : (Cond.selects C y y).before args s = true)
    (hcode : (Cond.codeWith y bytes maxL ret hh).before args s = true) (hy : y.cls ≠ "java/lang/invoke/MethodHandle" ∧ y.cls ≠ "java/lang/invoke/VarHandle")
    {W9 : Nat} {Pre : Pt → Array Value → Prop} {Post : Pt → Array Value → Option Value → Pt → Prop} {PostX : Pt → Array Value → Addr → Pt → Prop} (hK : vx_Back l R p e below s args y 3 W9 Pre Post PostX)
    {b : Addr} {cellB : Cell} (hcell : T.heap[b]? = some cellB) (hobj : cellB.vm.isStatics = false) (hcls : s.vm.findClass C = some cellB.cls)
    {g : JFrame} (hg : g.method = m) (hsize : g.locals.size = c.maxLocals) {argsL rest : List Value} (hlen : ∀ sig, parseMethodDescriptor y.desc = some sig → argsL.length = sig.parameters.length)
    (hstack : g.stack = argsL.reverse ++ .ref b :: rest) (hW : 2 * g.monitorRoom + (rest.map fun v => v.category).sum ≤ W9) (hdg : decode c.code g.pc = .ok (.invokevirtual index, 3))
    (hpre : ∀ vm₁, s.WarmedH vm₁ → Pre ⟨T.setVm vm₁, locs, cells, slots⟩ (Value.ref b :: argsL).toArray) :
    (∃ (v : Option Value) (vm₁ : Vm) (B : Pt), s.WarmedH vm₁ ∧ Stand p l e R s m args below meth c B.U B.locs B.cells B.slots ∧ Post ⟨T.setVm vm₁, locs, cells, slots⟩ (Value.ref b :: argsL).toArray v B ∧
      ∀ target, Steps p.tables e below (B.U.setTop { g with pc := g.pc + 3, stack := v.toList ++ rest }) target → Steps p.tables e below (T.setTop g) target) ∨
    (∃ (q : Addr) (vm₁ : Vm) (B : Pt), s.WarmedH vm₁ ∧ Stand p l e R s m args below meth c B.U B.locs B.cells B.slots ∧ PostX ⟨T.setVm vm₁, locs, cells, slots⟩ (Value.ref b :: argsL).toArray q B ∧
      Steps p.tables e below (T.setTop g) ((B.U.setTop { g with stack := rest }).pushFrame (.throwing q))) := by
  obtain ⟨mk, methM, hnamed, hmethM, hstM, habM⟩ := Cond.instanceMethod_spec hinst
  obtain ⟨m8, methM', cM, hn8, hmethM', -, -, -, -, -, -, hsigM⟩ := Cond.codeWith_spec hcode
  cases Option.some.inj (hn8.symm.trans hnamed)
  cases hmethM.symm.trans hmethM'
  obtain ⟨c2, r2, m2, q1, q2, q3, q4, kP, hkP, hkPi⟩ := Cond.selects_spec hsel
  cases hcls.symm.trans q1
  cases (State.methodFound?_of_named hnamed hy).symm.trans q2
  cases hnamed.symm.trans q3
  have hselP : selectMethod e.platform s.vm cellB.cls mk = .method mk := by rw [Launch.admits_selectMethod X.admits]; exact q4
  obtain ⟨vm₁, X₁, hstep₁⟩ := X.invokevirtual hexec hown hlink hnamed hmethM hstM hkP hkPi hy (a := b) (cell := cellB) hcell
    (fun z h => by rw [h] at hobj; cases hobj) hselP hmethM habM hkP hkPi (g := g) hg (argsL := argsL) (rest := rest) (hlen _ hsigM) hstack hdg
  rcases hK m meth c ⟨T.setVm vm₁, locs, cells, slots⟩ { g with stack := rest } (.invokevirtual index) mk (Value.ref b :: argsL).toArray X₁ hg hsize hdg hW (X₁.named hnamed) (hpre vm₁ X₁.warmed) with ⟨v, B, X', hpost, hsteps⟩ | ⟨q, B, X', hpost, hsteps⟩
  · exact Or.inl ⟨v, vm₁, B, X₁.warmed, X', hpost, fun target h => hstep₁ _ fun acts => by rw [doInvoke_state]; exact hsteps.trans h⟩
  · exact Or.inr ⟨q, vm₁, B, X₁.warmed, X', hpost, hstep₁ _ fun acts => by rw [doInvoke_state]; exact hsteps⟩
theorem vx_callSX (X : Stand p l e R s m args below meth c T locs cells slots) (hexec : p.tables.exec = Jvm.exec) {own : String} {index : Nat} {y : MethodName} {bytes : ByteArray} {maxL : Nat} {ret : Option FieldType} {hh : List (Nat × Nat × Nat × Nat)}
    (hown : s.vm.findClass own = some m.cls) (hlink : (Cond.methodLink own index y).before args s = true) (hstat : (Cond.static y).before args s = true) (hinit : (Cond.initialized y.cls).before args s = true)
    (hcode : (Cond.codeWith y bytes maxL ret hh).before args s = true) (hy : y.cls ≠ "java/lang/invoke/MethodHandle" ∧ y.cls ≠ "java/lang/invoke/VarHandle")
    {W9 : Nat} {Pre : Pt → Array Value → Prop} {Post : Pt → Array Value → Option Value → Pt → Prop} {PostX : Pt → Array Value → Addr → Pt → Prop} (hK : vx_Back l R p e below s args y 3 W9 Pre Post PostX)
    {g : JFrame} (hg : g.method = m) (hsize : g.locals.size = c.maxLocals) {argsL rest : List Value} (hlen : ∀ sig, parseMethodDescriptor y.desc = some sig → argsL.length = sig.parameters.length)
    (hstack : g.stack = argsL.reverse ++ rest) (hW : 2 * g.monitorRoom + (rest.map fun v => v.category).sum ≤ W9) (hdg : decode c.code g.pc = .ok (.invokestatic index, 3))
    (hpre : ∀ vm₁, s.WarmedH vm₁ → Pre ⟨T.setVm vm₁, locs, cells, slots⟩ argsL.toArray) :
    (∃ (v : Option Value) (vm₁ : Vm) (B : Pt), s.WarmedH vm₁ ∧ Stand p l e R s m args below meth c B.U B.locs B.cells B.slots ∧ Post ⟨T.setVm vm₁, locs, cells, slots⟩ argsL.toArray v B ∧
      ∀ target, Steps p.tables e below (B.U.setTop { g with pc := g.pc + 3, stack := v.toList ++ rest }) target → Steps p.tables e below (T.setTop g) target) ∨
    (∃ (q : Addr) (vm₁ : Vm) (B : Pt), s.WarmedH vm₁ ∧ Stand p l e R s m args below meth c B.U B.locs B.cells B.slots ∧ PostX ⟨T.setVm vm₁, locs, cells, slots⟩ argsL.toArray q B ∧
      Steps p.tables e below (T.setTop g) ((B.U.setTop { g with stack := rest }).pushFrame (.throwing q))) := by
  obtain ⟨mk, methM, cM, hnamed, hmethM, -, -, -, -, -, -, hsigM⟩ := Cond.codeWith_spec hcode
  have hstatic : methM.isStatic = true := Cond.static_spec hnamed hmethM hstat
  obtain ⟨kP, hkP, -⟩ := className_of_methodNamed hnamed
  have hinitP : kP.init = .initialized := Cond.initialized_spec (findClass_of_methodNamed hnamed) hkP hinit
  obtain ⟨vm₁, X₁, hstep₁⟩ := X.invokestatic hexec hown hlink hnamed hmethM hstatic hkP hinitP hy (g := g) hg (argsL := argsL) (rest := rest) (hlen _ hsigM) hstack hdg
  rcases hK m meth c ⟨T.setVm vm₁, locs, cells, slots⟩ { g with stack := rest } (.invokestatic index) mk argsL.toArray X₁ hg hsize hdg hW (X₁.named hnamed) (hpre vm₁ X₁.warmed) with ⟨v, B, X', hpost, hsteps⟩ | ⟨q, B, X', hpost, hsteps⟩
  · exact Or.inl ⟨v, vm₁, B, X₁.warmed, X', hpost, fun target h => hstep₁ _ fun acts => by rw [doInvoke_state]; exact hsteps.trans h⟩
  · exact Or.inr ⟨q, vm₁, B, X₁.warmed, X', hpost, hstep₁ _ fun acts => by rw [doInvoke_state]; exact hsteps⟩
theorem vx_callVW (X : Stand p l e R s m args below meth c T locs cells slots) (hexec : p.tables.exec = Jvm.exec) {own C : String} {index : Nat} {y : MethodName} {bytes : ByteArray} {maxL : Nat} {ret : Option FieldType} {hh : List (Nat × Nat × Nat × Nat)}
    (hown : s.vm.findClass own = some m.cls) (hlink : (Cond.methodLink own index y).before args s = true) (hinst : (Cond.instanceMethod y).before args s = true) (hsel : (Cond.selects C y y).before args s = true)
    (hcode : (Cond.codeWith y bytes maxL ret hh).before args s = true) (hy : y.cls ≠ "java/lang/invoke/MethodHandle" ∧ y.cls ≠ "java/lang/invoke/VarHandle")
    {W9 : Nat} {Pre : Pt → Array Value → Prop} {Post : Pt → Array Value → Option Value → Pt → Prop} (hK : Back l R p e below s args y 3 W9 Pre Post)
    {b : Addr} {cellB : Cell} (hcell : T.heap[b]? = some cellB) (hobj : cellB.vm.isStatics = false) (hcls : s.vm.findClass C = some cellB.cls)
    {g : JFrame} (hg : g.method = m) (hsize : g.locals.size = c.maxLocals) {argsL rest : List Value} (hlen : ∀ sig, parseMethodDescriptor y.desc = some sig → argsL.length = sig.parameters.length)
    (hstack : g.stack = argsL.reverse ++ .ref b :: rest) (hW : 2 * g.monitorRoom + (rest.map fun v => v.category).sum ≤ W9) (hdg : decode c.code g.pc = .ok (.invokevirtual index, 3))
    (hpre : ∀ vm₁, s.WarmedH vm₁ → Pre ⟨T.setVm vm₁, locs, cells, slots⟩ (Value.ref b :: argsL).toArray) :
    ∃ (v : Option Value) (vm₁ : Vm) (B : Pt), s.WarmedH vm₁ ∧ Stand p l e R s m args below meth c B.U B.locs B.cells B.slots ∧ Post ⟨T.setVm vm₁, locs, cells, slots⟩ (Value.ref b :: argsL).toArray v B ∧
      ∀ target, Steps p.tables e below (B.U.setTop { g with pc := g.pc + 3, stack := v.toList ++ rest }) target → Steps p.tables e below (T.setTop g) target := by
  obtain ⟨mk, methM, hnamed, hmethM, hstM, habM⟩ := Cond.instanceMethod_spec hinst
  obtain ⟨m8, methM', cM, hn8, hmethM', -, -, -, -, -, -, hsigM⟩ := Cond.codeWith_spec hcode
  cases Option.some.inj (hn8.symm.trans hnamed)
  cases hmethM.symm.trans hmethM'
  obtain ⟨c2, r2, m2, q1, q2, q3, q4, kP, hkP, hkPi⟩ := Cond.selects_spec hsel
  cases hcls.symm.trans q1
  cases (State.methodFound?_of_named hnamed hy).symm.trans q2
  cases hnamed.symm.trans q3
  have hselP : selectMethod e.platform s.vm cellB.cls mk = .method mk := by rw [Launch.admits_selectMethod X.admits]; exact q4
  obtain ⟨vm₁, X₁, hstep₁⟩ := X.invokevirtual hexec hown hlink hnamed hmethM hstM hkP hkPi hy (a := b) (cell := cellB) hcell
    (fun z h => by rw [h] at hobj; cases hobj) hselP hmethM habM hkP hkPi (g := g) hg (argsL := argsL) (rest := rest) (hlen _ hsigM) hstack hdg
  obtain ⟨v, B, X', hpost, hsteps⟩ := hK m meth c ⟨T.setVm vm₁, locs, cells, slots⟩ { g with stack := rest } (.invokevirtual index) mk (Value.ref b :: argsL).toArray X₁ hg hsize hdg hW (X₁.named hnamed) (hpre vm₁ X₁.warmed)
  exact ⟨v, vm₁, B, X₁.warmed, X', hpost, fun target h => hstep₁ _ fun acts => by rw [doInvoke_state]; exact hsteps.trans h⟩
abbrev vx_CVW (R : Room) (s : State) (args : Array Value) (own C : String) (index : Nat) (y : MethodName) (bytes : ByteArray) (maxL : Nat) (ret : Option FieldType) (hh : List (Nat × Nat × Nat × Nat)) (ws : List Cond) (rm : Room) (mc ms n : Nat) : Prop :=
  (rm.cells = mc ∧ rm.slots = ms ∧ rm.frames + 1 ≤ R.frames ∧ 8 + (maxL + 11) + rm.locals ≤ R.locals ∧ (∀ w ∈ ws, ∀ (a' : Array Value) (U : State), s.WarmedH U.vm → w.before a' U = true) ∧ Cond.codeWith y bytes maxL ret hh ∈ ws) ∧
  (Cond.codeWith y bytes maxL ret hh).before args s = true ∧ (Cond.initialized y.cls).before args s = true ∧ (y.cls ≠ "java/lang/invoke/MethodHandle" ∧ y.cls ≠ "java/lang/invoke/VarHandle") ∧
  (∀ sig, parseMethodDescriptor y.desc = some sig → n = sig.parameters.length) ∧ (Cond.methodLink own index y).before args s = true ∧ (Cond.instanceMethod y).before args s = true ∧ (Cond.selects C y y).before args s = true
theorem vx_cwVW {own C : String} {index maxL mc ms : Nat} {y : MethodName} {bytes : ByteArray} {ret : Option FieldType} {hh : List (Nat × Nat × Nat × Nat)} {Ts ws ws' : List Cond} {rm : Room} (n : Nat) (ht : ∀ w ∈ Ts, w.before args s = true) (hT : GoodIn Ts (wsV own index C y ws)) (hw : ws = Cond.codeWith y bytes maxL ret hh :: ws') (hrc : rm.cells = mc) (hrs : rm.slots = ms)
    (hd : y.cls = C ∧ y.cls ≠ "java/lang/invoke/MethodHandle" ∧ y.cls ≠ "java/lang/invoke/VarHandle" ∧ (parseMethodDescriptor y.desc).map (fun d => d.parameters.length) = some n) (hR : rm.frames + 1 ≤ R.frames ∧ 8 + (maxL + 11) + rm.locals ≤ R.locals) :
    vx_CVW R s args own C index y bytes maxL ret hh ws rm mc ms n := by
  obtain ⟨hC, hd⟩ := hd
  subst hC
  have ok : ∀ w ∈ wsV own index y.cls y ws, w.before args s = true := fun w h => ht w (hT w h).1
  have hG : GoodIn Ts ws := fun w h => hT w (by unfold wsV; exact List.mem_append_right _ h)
  have hc : Cond.codeWith y bytes maxL ret hh ∈ ws := by rw [hw]; exact List.mem_cons_self
  refine ⟨⟨hrc, hrs, hR.1, hR.2, pay_in ht hG, hc⟩, ht _ (hG _ hc).1, ok _ (by simp [wsV]), ⟨hd.1, hd.2.1⟩, fun sig h => ?_, ok _ (by simp [wsV]), ok _ (by simp [wsV]), ok _ (by simp [wsV])⟩
  have h2 := hd.2.2
  rw [h] at h2
  exact (Option.some.inj h2).symm
theorem vx_runVW {y : MethodName} {bytes cc : ByteArray} {maxL nL mc ms n index : Nat} {ret : Option FieldType} {hh : List (Nat × Nat × Nat × Nat)} {ws : List Cond} {rm : Room} {Pc : Array Value → State → Prop} {Qc : Array Value → State → Outcome → State → Prop} {free : Addr → Prop} {Ts : List Cond} {own C : String} {b : Addr} {As rest : List Value} {g : JFrame}
    (S : CallFix p m c cc nL s args Ts own) (hM : Met l y ws rm Pc Qc mc ms free) (cw : vx_CVW R s args own C index y bytes maxL ret hh ws rm mc ms n) (hp : PreV s H C b Pc As)
    (hg : g.method = m) (hn : As.length = n) (hsize : g.locals.size = nL) (hstack : g.stack = As.reverse ++ .ref b :: rest) (hW : 2 * g.monitorRoom + (rest.map fun v => v.category).sum ≤ 8) (hdg : decode cc g.pc = .ok (.invokevirtual index, 3)) (hf : cells + mc ≤ R.cells ∧ slots + ms ≤ R.slots) :
    va_Run p l e R s m args below meth c H locs cells slots mc ms g rest (Qc (Value.ref b :: As).toArray) free := by
  obtain ⟨⟨hrc, hrs, hfr, hlo, hws, hcw⟩, hcode, hini, hy, hlen, hl, hin, hse⟩ := cw
  have hK : Back l R p e below s args y 3 8 (PreOf R mc ms Pc) (PostOf Qc mc ms free) := va_backW (hh := hh) (bytes := bytes) (maxL := maxL) (ret := ret) hM hp.1 hrc hrs hfr hlo hws hcw (fun a' U hW => word_at hW (Or.inl (by first | rfl | simp [Cond.onTables, Cond.keeps, Cond.steady])) hini)
  obtain ⟨hx, hb, hml, ho, -⟩ := S
  obtain ⟨-, ⟨cellB, hcB, hoB, hclB⟩, hPc⟩ := hp
  intro T hT X
  obtain ⟨v, vm₁, ⟨U', l2, c2, s2⟩, hW₁, X', ⟨g', mk, t, L, e1, e2, hq, h1, hL, h2, h3⟩, st⟩ := vx_callVW X hx (C := C) (hh := hh) (bytes := bytes) (maxL := maxL) (ret := ret) ho hl hin hse hcode hy hK (by rw [hT]; exact hcB) hoB hclB hg (hsize.trans hml.symm) (argsL := As) (rest := rest) (fun sig h => hn.trans (hlen sig h)) hstack hW (by rw [hb]; exact hdg)
    (fun vm₁ hW₁ => ⟨hf.1, hf.2, hPc (T.setVm vm₁) hT hW₁⟩)
  dsimp only [Pt.U, Pt.locs, Pt.cells, Pt.slots] at X' e1 e2 h1 h2 h3 st
  subst h1; subst h2; subst h3
  exact ⟨v, (T.setVm vm₁).calling g' mk (Value.ref b :: As).toArray, t, U', L, hT, X', hL, e1, e2, hq, st⟩
section
variable {y : MethodName} {bytes cc : ByteArray} {maxL nL mc ms n index : Nat} {ret : Option FieldType} {ws : List Cond} {rm : Room} {Pc : Array Value → State → Prop} {Qc : Array Value → State → Outcome → State → Prop} {XC : String → State → State → Prop} {free : Addr → Prop} {Ts : List Cond} {own C : String} {b : Addr} {As rest : List Value} {g : JFrame}
theorem vx_runVX {hh : List (Nat × Nat × Nat × Nat)} (S : CallFix p m c cc nL s args Ts own) (hM : vx_Met l y ws rm Pc Qc XC mc ms free) (cw : vx_CVW R s args own C index y bytes maxL ret hh ws rm mc ms n) (hp : PreV s H C b Pc As)
    (hg : g.method = m) (hn : As.length = n) (hsize : g.locals.size = nL) (hstack : g.stack = As.reverse ++ .ref b :: rest) (hW : 2 * g.monitorRoom + (rest.map fun v => v.category).sum ≤ 8) (hdg : decode cc g.pc = .ok (.invokevirtual index, 3)) (hf : cells + mc ≤ R.cells ∧ slots + ms ≤ R.slots) :
    vx_Run p l e R s m args below meth c H locs cells slots mc ms g rest (Qc (Value.ref b :: As).toArray) XC free := by
  obtain ⟨⟨hrc, hrs, hfr, hlo, hws, hcw⟩, hcode, hini, hy, hlen, hl, hin, hse⟩ := cw
  have hK : vx_Back l R p e below s args y 3 8 (PreOf R mc ms Pc) (PostOf Qc mc ms free) (vx_Post XC mc ms free) := vx_backW (hh := hh) (bytes := bytes) (maxL := maxL) (ret := ret) hM hp.1 hrc hrs hfr hlo hws hcw (fun a' U hW => word_at hW (Or.inl (by first | rfl | simp [Cond.onTables, Cond.keeps, Cond.steady])) hini)
  obtain ⟨hx, hb, hml, ho, -⟩ := S
  obtain ⟨-, ⟨cellB, hcB, hoB, hclB⟩, hPc⟩ := hp
  intro T hT X
  rcases vx_callVX X hx (C := C) (hh := hh) (bytes := bytes) (maxL := maxL) (ret := ret) ho hl hin hse hcode hy hK (by rw [hT]; exact hcB) hoB hclB hg (hsize.trans hml.symm) (argsL := As) (rest := rest) (fun sig h => hn.trans (hlen sig h)) hstack hW (by rw [hb]; exact hdg)
    (fun vm₁ hW₁ => ⟨hf.1, hf.2, hPc (T.setVm vm₁) hT hW₁⟩) with ⟨v, vm₁, ⟨U', l2, c2, s2⟩, hW₁, X', ⟨g', mk, t, L, e1, e2, hq, h1, hL, h2, h3⟩, st⟩ | ⟨q, vm₁, ⟨U', l2, c2, s2⟩, hW₁, X', ⟨g', mk, t, L, E, ce, e1, e2, hq, hce, hcv, hcl, h1, hL, h2, h3⟩, st⟩
  · dsimp only [Pt.U, Pt.locs, Pt.cells, Pt.slots] at X' e1 e2 h1 h2 h3 st
    subst h1; subst h2; subst h3
    exact Or.inl ⟨v, (T.setVm vm₁).calling g' mk (Value.ref b :: As).toArray, t, U', L, hT, X', hL, e1, e2, hq, st⟩
  · dsimp only [Pt.U, Pt.locs, Pt.cells, Pt.slots] at X' e1 e2 h1 h2 h3 st hcl
    subst h1; subst h2; subst h3
    exact Or.inr ⟨q, (T.setVm vm₁).calling g' mk (Value.ref b :: As).toArray, t, U', L, E, ce, hT, X', hL, e1, e2, hq, hce, hcv, vx_cls hW₁ hcl, st⟩
theorem vx_runSX {hh : List (Nat × Nat × Nat × Nat)} (S : CallFix p m c cc nL s args Ts own) (hM : vx_Met l y ws rm Pc Qc XC mc ms free) (cw : vx_CSW R s args own index y bytes maxL ret hh ws rm mc ms n) (hp : PreS s H Pc As)
    (hg : g.method = m) (hn : As.length = n) (hsize : g.locals.size = nL) (hstack : g.stack = As.reverse ++ rest) (hW : 2 * g.monitorRoom + (rest.map fun v => v.category).sum ≤ 8) (hdg : decode cc g.pc = .ok (.invokestatic index, 3)) (hf : cells + mc ≤ R.cells ∧ slots + ms ≤ R.slots) :
    vx_Run p l e R s m args below meth c H locs cells slots mc ms g rest (Qc As.toArray) XC free := by
  obtain ⟨⟨hrc, hrs, hfr, hlo, hws, hcw⟩, hcode, hini, hy, hlen, hl, hstt⟩ := cw
  have hK : vx_Back l R p e below s args y 3 8 (PreOf R mc ms Pc) (PostOf Qc mc ms free) (vx_Post XC mc ms free) := vx_backW (hh := hh) (bytes := bytes) (maxL := maxL) (ret := ret) hM hp.1 hrc hrs hfr hlo hws hcw (fun a' U hW => word_at hW (Or.inl (by first | rfl | simp [Cond.onTables, Cond.keeps, Cond.steady])) hini)
  obtain ⟨hx, hb, hml, ho, -⟩ := S
  intro T hT X
  rcases vx_callSX X hx (hh := hh) (bytes := bytes) (maxL := maxL) (ret := ret) ho hl hstt hini hcode hy hK hg (hsize.trans hml.symm) (argsL := As) (rest := rest) (fun sig h => hn.trans (hlen sig h)) hstack hW (by rw [hb]; exact hdg)
    (fun vm₁ hW₁ => ⟨hf.1, hf.2, hp.2 (T.setVm vm₁) hT hW₁⟩) with ⟨v, vm₁, ⟨U', l2, c2, s2⟩, hW₁, X', ⟨g', mk, t, L, e1, e2, hq, h1, hL, h2, h3⟩, st⟩ | ⟨q, vm₁, ⟨U', l2, c2, s2⟩, hW₁, X', ⟨g', mk, t, L, E, ce, e1, e2, hq, hce, hcv, hcl, h1, hL, h2, h3⟩, st⟩
  · dsimp only [Pt.U, Pt.locs, Pt.cells, Pt.slots] at X' e1 e2 h1 h2 h3 st
    subst h1; subst h2; subst h3
    exact Or.inl ⟨v, (T.setVm vm₁).calling g' mk As.toArray, t, U', L, hT, X', hL, e1, e2, hq, st⟩
  · dsimp only [Pt.U, Pt.locs, Pt.cells, Pt.slots] at X' e1 e2 h1 h2 h3 st hcl
    subst h1; subst h2; subst h3
    exact Or.inr ⟨q, (T.setVm vm₁).calling g' mk As.toArray, t, U', L, E, ce, hT, X', hL, e1, e2, hq, hce, hcv, vx_cls hW₁ hcl, st⟩
end
end VXH
theorem vx_ofWH {l : Launch} {y : MethodName} {ws ws' : List Cond} {rm : Room} {Pc : Array Value → State → Prop} {Qc : Array Value → State → Outcome → State → Prop} {XC : String → State → State → Prop} {mc ms : Nat} {free : Addr → Prop} {cc : ByteArray} {maxL : Nat} {ret : Option FieldType} {hh : List (Nat × Nat × Nat × Nat)}
    (hy : plainName y.cls = true) (hw : ws = Cond.codeWith y cc maxL ret hh :: ws')
    (body : ∀ p e s m args below meth c s₁, BodyLoose p l y (headSpec ws rm) cc maxL ret e s m args below meth c s₁ → c.maxLocals = maxL → Pc args s →
      W p l e (headSpec ws rm).room s m args below meth c s.heap [] 0 0 (vx_MQ below Qc XC args s mc ms free) (entryFrame m args maxL)) : vx_Met l y ws rm Pc Qc XC mc ms free := by
  refine MetFree.of_bodyS (code := cc) (maxLocals := maxL) (ret := ret) hy ?_ ?_
  · intro args s m h hn
    obtain ⟨m9, meth, c, hn9, h1, h2, h3, h4, -, h5, h6, -⟩ := Cond.codeWith_spec (atoms_spec (ws := ws) h _ (by rw [hw]; exact List.mem_cons_self))
    cases hn.symm.trans hn9
    exact ⟨meth, c, h1, h2, h3, h4, h5, h6⟩
  · intro p e s m args below meth c s₁ B hml hP _
    have hh0 : s₁.heap = s.heap := by rw [B.state]; rfl
    obtain ⟨t, a1, o, b1, b2, b3⟩ := body p e s m args below meth c s₁ B hml hP s₁ hh0 (Stand.of_body B)
    exact ⟨t, o, a1, b1, b2, b3⟩
/-! ===== END ===== -/
end
section
abbrev RX0 : String := "BroadseamLoft$Canopy"
def TX0 : u_T := fun k => match k with
  | 0 => ("BroadseamLoft$Canopy", "cloth", "LBroadseamLoft$Lot;", true)
  | 1 => ("BroadseamLoft$Canopy", "lot", "I", true)
  | 2 => ("BroadseamLoft$Canopy", "heldBy", "[I", true)
  | 3 => ("BroadseamLoft$Canopy", "partCount", "I", false)
  | 4 => ("BroadseamLoft$Canopy", "rigger", "I", false)
  | 5 => ("BroadseamLoft$Canopy", "sealDay", "I", false)
  | 6 => ("BroadseamLoft$Canopy", "sealedTimes", "I", false)
  | 7 => ("BroadseamLoft$Canopy", "usedTimes", "I", false)
  | 8 => ("BroadseamLoft$Canopy", "wetTimes", "I", false)
  | _ => ("BroadseamLoft$Canopy", "wetSinceAired", "I", false)
def tyX0 : Nat → FieldType := fun k => match k with
  | 0 => .object "BroadseamLoft$Lot"
  | 1 => .int
  | 2 => .array .int
  | 3 => .int
  | 4 => .int
  | 5 => .int
  | 6 => .int
  | 7 => .int
  | 8 => .int
  | _ => .int
theorem nmX0 : ∀ a, a < 10 → ∀ b, b < 10 → a ≠ b → (TX0 a).2.1 ≠ (TX0 b).2.1 := by decide +kernel
theorem tyX0_ok : ∀ k, k < 10 → parseFieldDescriptor (TX0 k).2.2.1 = some (tyX0 k) := by decide +kernel
abbrev cX0_init : ByteArray := prog_2_method_1_code
def yX0_init : MethodName := ⟨RX0, "<init>", "(LBroadseamLoft$Lot;I)V"⟩
abbrev cX0_isSealed : ByteArray := prog_2_method_2_code
def yX0_isSealed : MethodName := ⟨RX0, "isSealed", "()Z"⟩
abbrev cX0_loseSeal : ByteArray := prog_2_method_3_code
def yX0_loseSeal : MethodName := ⟨RX0, "loseSeal", "()V"⟩
abbrev cX0_isReadyToSeal : ByteArray := prog_2_method_4_code
def yX0_isReadyToSeal : MethodName := ⟨RX0, "isReadyToSeal", "()Z"⟩
abbrev cX0_roundsToOpen : ByteArray := prog_2_method_5_code
def yX0_roundsToOpen : MethodName := ⟨RX0, "roundsToOpen", "()I"⟩
abbrev cX0_shutAfterRound : ByteArray := prog_2_method_6_code
def yX0_shutAfterRound : MethodName := ⟨RX0, "shutAfterRound", "(I)I"⟩
abbrev cX0_numberOf : ByteArray := prog_2_method_7_code
def yX0_numberOf : MethodName := ⟨RX0, "numberOf", "(I)I"⟩
abbrev RX1 : String := "BroadseamLoft$Log"
def TX1 : u_T := fun k => match k with
  | 0 => ("BroadseamLoft$Log", "entries", "[B", true)
  | _ => ("BroadseamLoft$Log", "count", "I", false)
def tyX1 : Nat → FieldType := fun k => match k with
  | 0 => .array .byte
  | _ => .int
theorem nmX1 : ∀ a, a < 2 → ∀ b, b < 2 → a ≠ b → (TX1 a).2.1 ≠ (TX1 b).2.1 := by decide +kernel
theorem tyX1_ok : ∀ k, k < 2 → parseFieldDescriptor (TX1 k).2.2.1 = some (tyX1 k) := by decide +kernel
abbrev cX1_init : ByteArray := prog_3_method_1_code
def yX1_init : MethodName := ⟨RX1, "<init>", "()V"⟩
abbrev cX1_note : ByteArray := prog_3_method_2_code
def yX1_note : MethodName := ⟨RX1, "note", "(II)V"⟩
abbrev cX1_timesNoted : ByteArray := prog_3_method_3_code
def yX1_timesNoted : MethodName := ⟨RX1, "timesNoted", "(II)I"⟩
abbrev RX2 : String := "BroadseamLoft$Lot"
def TX2 : u_T := fun k => match k with
  | 0 => ("BroadseamLoft$Lot", "warp", "I", true)
  | 1 => ("BroadseamLoft$Lot", "weft", "I", true)
  | 2 => ("BroadseamLoft$Lot", "bias", "I", true)
  | 3 => ("BroadseamLoft$Lot", "hours", "I", false)
  | 4 => ("BroadseamLoft$Lot", "isHeld", "Z", false)
  | 5 => ("BroadseamLoft$Lot", "rowsBehind", "I", false)
  | 6 => ("BroadseamLoft$Lot", "rowAcross", "I", false)
  | _ => ("BroadseamLoft$Lot", "rowLength", "I", false)
def tyX2 : Nat → FieldType := fun k => match k with
  | 0 => .int
  | 1 => .int
  | 2 => .int
  | 3 => .int
  | 4 => .boolean
  | 5 => .int
  | 6 => .int
  | _ => .int
theorem nmX2 : ∀ a, a < 8 → ∀ b, b < 8 → a ≠ b → (TX2 a).2.1 ≠ (TX2 b).2.1 := by decide +kernel
theorem tyX2_ok : ∀ k, k < 8 → parseFieldDescriptor (TX2 k).2.2.1 = some (tyX2 k) := by decide +kernel
abbrev cX2_init : ByteArray := prog_4_method_1_code
def yX2_init : MethodName := ⟨RX2, "<init>", "(III)V"⟩
abbrev cX2_strengthAlong : ByteArray := prog_4_method_2_code
def yX2_strengthAlong : MethodName := ⟨RX2, "strengthAlong", "(I)J"⟩
abbrev cX2_layPanel : ByteArray := prog_4_method_3_code
def yX2_layPanel : MethodName := ⟨RX2, "layPanel", "(III)V"⟩
abbrev cX2_rolledLength : ByteArray := prog_4_method_4_code
def yX2_rolledLength : MethodName := ⟨RX2, "rolledLength", "()I"⟩
abbrev RX3 : String := "BroadseamLoft$Net"
def TX3 : u_T := fun k => match k with
  | 0 => ("BroadseamLoft$Net", "heights", "[I", true)
  | 1 => ("BroadseamLoft$Net", "heightsAhead", "[I", true)
  | 2 => ("BroadseamLoft$Net", "isFixed", "[Z", true)
  | _ => ("BroadseamLoft$Net", "load", "I", false)
def tyX3 : Nat → FieldType := fun k => match k with
  | 0 => .array .int
  | 1 => .array .int
  | 2 => .array .boolean
  | _ => .int
theorem nmX3 : ∀ a, a < 4 → ∀ b, b < 4 → a ≠ b → (TX3 a).2.1 ≠ (TX3 b).2.1 := by decide +kernel
theorem tyX3_ok : ∀ k, k < 4 → parseFieldDescriptor (TX3 k).2.2.1 = some (tyX3 k) := by decide +kernel
abbrev cX3_init : ByteArray := prog_5_method_1_code
def yX3_init : MethodName := ⟨RX3, "<init>", "()V"⟩
abbrev cX3_stepMoves : ByteArray := prog_5_method_2_code
def yX3_stepMoves : MethodName := ⟨RX3, "stepMoves", "()Z"⟩
abbrev cX3_pulledHeight : ByteArray := prog_5_method_3_code
def yX3_pulledHeight : MethodName := ⟨RX3, "pulledHeight", "(I)I"⟩
abbrev RX4 : String := "BroadseamLoft$Panel"
def TX4 : u_T := fun k => match k with
  | 0 => ("BroadseamLoft$Panel", "cloth", "LBroadseamLoft$Lot;", true)
  | 1 => ("BroadseamLoft$Panel", "width", "I", true)
  | 2 => ("BroadseamLoft$Panel", "along", "I", true)
  | 3 => ("BroadseamLoft$Panel", "borne", "J", false)
  | _ => ("BroadseamLoft$Panel", "group", "I", false)
def tyX4 : Nat → FieldType := fun k => match k with
  | 0 => .object "BroadseamLoft$Lot"
  | 1 => .int
  | 2 => .int
  | 3 => .long
  | _ => .int
theorem nmX4 : ∀ a, a < 5 → ∀ b, b < 5 → a ≠ b → (TX4 a).2.1 ≠ (TX4 b).2.1 := by decide +kernel
theorem tyX4_ok : ∀ k, k < 5 → parseFieldDescriptor (TX4 k).2.2.1 = some (tyX4 k) := by decide +kernel
abbrev cX4_init : ByteArray := prog_6_method_1_code
def yX4_init : MethodName := ⟨RX4, "<init>", "(LBroadseamLoft$Lot;II)V"⟩
abbrev cX4_strengthNow : ByteArray := prog_6_method_2_code
def yX4_strengthNow : MethodName := ⟨RX4, "strengthNow", "()J"⟩
abbrev RX5 : String := "BroadseamLoft$Peg"
def TX5 : u_T := fun k => match k with
  | 0 => ("BroadseamLoft$Peg", "hold", "J", true)
  | 1 => ("BroadseamLoft$Peg", "stiffness", "I", true)
  | 2 => ("BroadseamLoft$Peg", "isIn", "Z", false)
  | _ => ("BroadseamLoft$Peg", "got", "J", false)
def tyX5 : Nat → FieldType := fun k => match k with
  | 0 => .long
  | 1 => .int
  | 2 => .boolean
  | _ => .long
theorem nmX5 : ∀ a, a < 4 → ∀ b, b < 4 → a ≠ b → (TX5 a).2.1 ≠ (TX5 b).2.1 := by decide +kernel
theorem tyX5_ok : ∀ k, k < 4 → parseFieldDescriptor (TX5 k).2.2.1 = some (tyX5 k) := by decide +kernel
abbrev cX5_init : ByteArray := prog_7_method_1_code
def yX5_init : MethodName := ⟨RX5, "<init>", "(JI)V"⟩
abbrev RX6 : String := "BroadseamLoft$Sail"
def TX6 : u_T := fun k => match k with
  | 0 => ("BroadseamLoft$Sail", "halyard", "I", false)
  | 1 => ("BroadseamLoft$Sail", "sheet", "I", false)
  | _ => ("BroadseamLoft$Sail", "reefs", "I", false)
def tyX6 : Nat → FieldType := fun k => match k with
  | 0 => .int
  | 1 => .int
  | _ => .int
theorem nmX6 : ∀ a, a < 3 → ∀ b, b < 3 → a ≠ b → (TX6 a).2.1 ≠ (TX6 b).2.1 := by decide +kernel
theorem tyX6_ok : ∀ k, k < 3 → parseFieldDescriptor (TX6 k).2.2.1 = some (tyX6 k) := by decide +kernel
abbrev cX6_init : ByteArray := prog_8_method_1_code
def yX6_init : MethodName := ⟨RX6, "<init>", "()V"⟩
abbrev cX6_draftWith : ByteArray := prog_8_method_2_code
def yX6_draftWith : MethodName := ⟨RX6, "draftWith", "(I)F"⟩
abbrev cX6_powerWith : ByteArray := prog_8_method_3_code
def yX6_powerWith : MethodName := ⟨RX6, "powerWith", "(II)F"⟩
abbrev RX7 : String := "BroadseamLoft$Seam"
def TX7 : u_T := fun k => match k with
  | 0 => ("BroadseamLoft$Seam", "one", "LBroadseamLoft$Panel;", true)
  | 1 => ("BroadseamLoft$Seam", "other", "LBroadseamLoft$Panel;", true)
  | _ => ("BroadseamLoft$Seam", "hundredths", "I", true)
def tyX7 : Nat → FieldType := fun k => match k with
  | 0 => .object "BroadseamLoft$Panel"
  | 1 => .object "BroadseamLoft$Panel"
  | _ => .int
theorem nmX7 : ∀ a, a < 3 → ∀ b, b < 3 → a ≠ b → (TX7 a).2.1 ≠ (TX7 b).2.1 := by decide +kernel
theorem tyX7_ok : ∀ k, k < 3 → parseFieldDescriptor (TX7 k).2.2.1 = some (tyX7 k) := by decide +kernel
abbrev cX7_init : ByteArray := prog_9_method_1_code
def yX7_init : MethodName := ⟨RX7, "<init>", "(LBroadseamLoft$Panel;LBroadseamLoft$Panel;I)V"⟩
abbrev cX7_strengthNow : ByteArray := prog_9_method_2_code
def yX7_strengthNow : MethodName := ⟨RX7, "strengthNow", "()J"⟩
abbrev cX7_passOnLoad : ByteArray := prog_9_method_3_code
def yX7_passOnLoad : MethodName := ⟨RX7, "passOnLoad", "()V"⟩
abbrev RX8 : String := "BroadseamLoft"
def TX8 : u_T := fun k => match k with
  | 0 => ("BroadseamLoft", "lots", "[LBroadseamLoft$Lot;", true)
  | 1 => ("BroadseamLoft", "lotCount", "I", false)
  | 2 => ("BroadseamLoft", "panels", "[LBroadseamLoft$Panel;", true)
  | 3 => ("BroadseamLoft", "panelCount", "I", false)
  | 4 => ("BroadseamLoft", "seams", "[LBroadseamLoft$Seam;", true)
  | 5 => ("BroadseamLoft", "seamCount", "I", false)
  | 6 => ("BroadseamLoft", "net", "LBroadseamLoft$Net;", true)
  | 7 => ("BroadseamLoft", "pegs", "[LBroadseamLoft$Peg;", true)
  | 8 => ("BroadseamLoft", "pegCount", "I", false)
  | 9 => ("BroadseamLoft", "sail", "LBroadseamLoft$Sail;", true)
  | 10 => ("BroadseamLoft", "canopies", "[LBroadseamLoft$Canopy;", true)
  | 11 => ("BroadseamLoft", "canopyCount", "I", false)
  | 12 => ("BroadseamLoft", "log", "LBroadseamLoft$Log;", true)
  | _ => ("BroadseamLoft", "day", "I", false)
def tyX8 : Nat → FieldType := fun k => match k with
  | 0 => .array (.object "BroadseamLoft$Lot")
  | 1 => .int
  | 2 => .array (.object "BroadseamLoft$Panel")
  | 3 => .int
  | 4 => .array (.object "BroadseamLoft$Seam")
  | 5 => .int
  | 6 => .object "BroadseamLoft$Net"
  | 7 => .array (.object "BroadseamLoft$Peg")
  | 8 => .int
  | 9 => .object "BroadseamLoft$Sail"
  | 10 => .array (.object "BroadseamLoft$Canopy")
  | 11 => .int
  | 12 => .object "BroadseamLoft$Log"
  | _ => .int
theorem nmX8 : ∀ a, a < 14 → ∀ b, b < 14 → a ≠ b → (TX8 a).2.1 ≠ (TX8 b).2.1 := by decide +kernel
theorem tyX8_ok : ∀ k, k < 14 → parseFieldDescriptor (TX8 k).2.2.1 = some (tyX8 k) := by decide +kernel
abbrev cX8_init : ByteArray := prog_1_method_1_code
def yX8_init : MethodName := ⟨RX8, "<init>", "()V"⟩
abbrev cX8_isOutside : ByteArray := prog_1_method_2_code
def yX8_isOutside : MethodName := ⟨RX8, "isOutside", "(JJJ)Z"⟩
abbrev cX8_lot : ByteArray := prog_1_method_3_code
def yX8_lot : MethodName := ⟨RX8, "lot", "(III)I"⟩
abbrev cX8_sun : ByteArray := prog_1_method_4_code
def yX8_sun : MethodName := ⟨RX8, "sun", "(II)I"⟩
abbrev cX8_panel : ByteArray := prog_1_method_5_code
def yX8_panel : MethodName := ⟨RX8, "panel", "(IIII)I"⟩
abbrev cX8_strength : ByteArray := prog_1_method_6_code
def yX8_strength : MethodName := ⟨RX8, "strength", "(I)J"⟩
abbrev cX8_roll : ByteArray := prog_1_method_7_code
def yX8_roll : MethodName := ⟨RX8, "roll", "(I)I"⟩
abbrev cX8_lotAt : ByteArray := prog_1_method_8_code
def yX8_lotAt : MethodName := ⟨RX8, "lotAt", "(I)LBroadseamLoft$Lot;"⟩
abbrev cX8_panelAt : ByteArray := prog_1_method_9_code
def yX8_panelAt : MethodName := ⟨RX8, "panelAt", "(I)LBroadseamLoft$Panel;"⟩
abbrev cX8_seam : ByteArray := prog_1_method_10_code
def yX8_seam : MethodName := ⟨RX8, "seam", "(III)I"⟩
abbrev cX8_rip : ByteArray := prog_1_method_11_code
def yX8_rip : MethodName := ⟨RX8, "rip", "(I)J"⟩
abbrev cX8_bears : ByteArray := prog_1_method_12_code
def yX8_bears : MethodName := ⟨RX8, "bears", "(II)J"⟩
abbrev cX8_bearsAnew : ByteArray := prog_1_method_13_code
def yX8_bearsAnew : MethodName := ⟨RX8, "bearsAnew", "(II)J"⟩
abbrev cX8_spreadLoadFrom : ByteArray := prog_1_method_14_code
def yX8_spreadLoadFrom : MethodName := ⟨RX8, "spreadLoadFrom", "(LBroadseamLoft$Panel;)V"⟩
abbrev cX8_joinUntilTogether : ByteArray := prog_1_method_15_code
def yX8_joinUntilTogether : MethodName := ⟨RX8, "joinUntilTogether", "(LBroadseamLoft$Panel;LBroadseamLoft$Panel;)J"⟩
abbrev cX8_strongestBetweenGroups : ByteArray := prog_1_method_16_code
def yX8_strongestBetweenGroups : MethodName := ⟨RX8, "strongestBetweenGroups", "()LBroadseamLoft$Seam;"⟩
abbrev cX8_moveGroup : ByteArray := prog_1_method_17_code
def yX8_moveGroup : MethodName := ⟨RX8, "moveGroup", "(II)V"⟩
abbrev cX8_knot : ByteArray := prog_1_method_18_code
def yX8_knot : MethodName := ⟨RX8, "knot", "(IIZ)I"⟩
abbrev cX8_load : ByteArray := prog_1_method_19_code
def yX8_load : MethodName := ⟨RX8, "load", "(I)I"⟩
abbrev cX8_rest : ByteArray := prog_1_method_20_code
def yX8_rest : MethodName := ⟨RX8, "rest", "(I)I"⟩
abbrev cX8_height : ByteArray := prog_1_method_21_code
def yX8_height : MethodName := ⟨RX8, "height", "(I)I"⟩
abbrev cX8_peg : ByteArray := prog_1_method_22_code
def yX8_peg : MethodName := ⟨RX8, "peg", "(JI)I"⟩
abbrev cX8_gust : ByteArray := prog_1_method_23_code
def yX8_gust : MethodName := ⟨RX8, "gust", "(J)I"⟩
abbrev cX8_pulled : ByteArray := prog_1_method_24_code
def yX8_pulled : MethodName := ⟨RX8, "pulled", "(I)J"⟩
abbrev cX8_pegs : ByteArray := prog_1_method_25_code
def yX8_pegs : MethodName := ⟨RX8, "pegs", "()I"⟩
abbrev cX8_shareForce : ByteArray := prog_1_method_26_code
def yX8_shareForce : MethodName := ⟨RX8, "shareForce", "(J)V"⟩
abbrev cX8_stiffnessTogether : ByteArray := prog_1_method_27_code
def yX8_stiffnessTogether : MethodName := ⟨RX8, "stiffnessTogether", "()J"⟩
abbrev cX8_takeOutOverpulled : ByteArray := prog_1_method_28_code
def yX8_takeOutOverpulled : MethodName := ⟨RX8, "takeOutOverpulled", "()I"⟩
abbrev cX8_trim : ByteArray := prog_1_method_29_code
def yX8_trim : MethodName := ⟨RX8, "trim", "(III)F"⟩
abbrev cX8_power : ByteArray := prog_1_method_30_code
def yX8_power : MethodName := ⟨RX8, "power", "(I)F"⟩
abbrev cX8_halyard : ByteArray := prog_1_method_31_code
def yX8_halyard : MethodName := ⟨RX8, "halyard", "(II)I"⟩
abbrev cX8_pass : ByteArray := prog_1_method_32_code
def yX8_pass : MethodName := ⟨RX8, "pass", "(I)I"⟩
abbrev cX8_canopy : ByteArray := prog_1_method_33_code
def yX8_canopy : MethodName := ⟨RX8, "canopy", "(I)I"⟩
abbrev cX8_part : ByteArray := prog_1_method_34_code
def yX8_part : MethodName := ⟨RX8, "part", "(II)I"⟩
abbrev cX8_opens : ByteArray := prog_1_method_35_code
def yX8_opens : MethodName := ⟨RX8, "opens", "(I)I"⟩
abbrev cX8_seal : ByteArray := prog_1_method_36_code
def yX8_seal : MethodName := ⟨RX8, "seal", "(II)I"⟩
abbrev cX8_use : ByteArray := prog_1_method_37_code
def yX8_use : MethodName := ⟨RX8, "use", "(I)I"⟩
abbrev cX8_wet : ByteArray := prog_1_method_38_code
def yX8_wet : MethodName := ⟨RX8, "wet", "(IZ)I"⟩
abbrev cX8_find : ByteArray := prog_1_method_39_code
def yX8_find : MethodName := ⟨RX8, "find", "(IZ)I"⟩
abbrev cX8_ofCanopy : ByteArray := prog_1_method_40_code
def yX8_ofCanopy : MethodName := ⟨RX8, "ofCanopy", "(II)I"⟩
abbrev cX8_lifeAnew : ByteArray := prog_1_method_41_code
def yX8_lifeAnew : MethodName := ⟨RX8, "lifeAnew", "(II)I"⟩
abbrev cX8_canopyAt : ByteArray := prog_1_method_42_code
def yX8_canopyAt : MethodName := ⟨RX8, "canopyAt", "(I)LBroadseamLoft$Canopy;"⟩
abbrev cX8_takeSealsAway : ByteArray := prog_1_method_43_code
def yX8_takeSealsAway : MethodName := ⟨RX8, "takeSealsAway", "(I)I"⟩
abbrev RX9 : String := "BroadseamLoftModel"
def TX9 : u_T := fun k => match k with
  | 0 => ("BroadseamLoftModel", "lots", "I", false)
  | 1 => ("BroadseamLoftModel", "told", "[I", true)
  | 2 => ("BroadseamLoftModel", "hours", "[I", true)
  | 3 => ("BroadseamLoftModel", "isHeld", "[Z", true)
  | 4 => ("BroadseamLoftModel", "panels", "I", false)
  | 5 => ("BroadseamLoftModel", "panelLot", "[I", true)
  | 6 => ("BroadseamLoftModel", "widths", "[I", true)
  | 7 => ("BroadseamLoftModel", "heights", "[I", true)
  | 8 => ("BroadseamLoftModel", "alongs", "[I", true)
  | 9 => ("BroadseamLoftModel", "seams", "I", false)
  | 10 => ("BroadseamLoftModel", "ones", "[I", true)
  | 11 => ("BroadseamLoftModel", "others", "[I", true)
  | 12 => ("BroadseamLoftModel", "kinds", "[I", true)
  | 13 => ("BroadseamLoftModel", "isRipped", "[Z", true)
  | 14 => ("BroadseamLoftModel", "loads", "[J", true)
  | 15 => ("BroadseamLoftModel", "knots", "[I", true)
  | 16 => ("BroadseamLoftModel", "next", "[I", true)
  | 17 => ("BroadseamLoftModel", "isFixed", "[Z", true)
  | 18 => ("BroadseamLoftModel", "load", "I", false)
  | 19 => ("BroadseamLoftModel", "pegs", "I", false)
  | 20 => ("BroadseamLoftModel", "holds", "[J", true)
  | 21 => ("BroadseamLoftModel", "stiff", "[I", true)
  | 22 => ("BroadseamLoftModel", "isIn", "[Z", true)
  | 23 => ("BroadseamLoftModel", "pulls", "[J", true)
  | 24 => ("BroadseamLoftModel", "halyard", "I", false)
  | 25 => ("BroadseamLoftModel", "sheet", "I", false)
  | 26 => ("BroadseamLoftModel", "reefs", "I", false)
  | 27 => ("BroadseamLoftModel", "day", "I", false)
  | 28 => ("BroadseamLoftModel", "canopies", "I", false)
  | 29 => ("BroadseamLoftModel", "canopyLot", "[I", true)
  | 30 => ("BroadseamLoftModel", "parts", "[I", true)
  | 31 => ("BroadseamLoftModel", "held", "[I", true)
  | 32 => ("BroadseamLoftModel", "riggers", "[I", true)
  | 33 => ("BroadseamLoftModel", "sealDay", "[I", true)
  | 34 => ("BroadseamLoftModel", "sealed", "[I", true)
  | 35 => ("BroadseamLoftModel", "used", "[I", true)
  | 36 => ("BroadseamLoftModel", "wet", "[I", true)
  | 37 => ("BroadseamLoftModel", "wetSince", "[I", true)
  | _ => ("BroadseamLoftModel", "thrown", "I", false)
def tyX9 : Nat → FieldType := fun k => match k with
  | 0 => .int
  | 1 => .array .int
  | 2 => .array .int
  | 3 => .array .boolean
  | 4 => .int
  | 5 => .array .int
  | 6 => .array .int
  | 7 => .array .int
  | 8 => .array .int
  | 9 => .int
  | 10 => .array .int
  | 11 => .array .int
  | 12 => .array .int
  | 13 => .array .boolean
  | 14 => .array .long
  | 15 => .array .int
  | 16 => .array .int
  | 17 => .array .boolean
  | 18 => .int
  | 19 => .int
  | 20 => .array .long
  | 21 => .array .int
  | 22 => .array .boolean
  | 23 => .array .long
  | 24 => .int
  | 25 => .int
  | 26 => .int
  | 27 => .int
  | 28 => .int
  | 29 => .array .int
  | 30 => .array .int
  | 31 => .array .int
  | 32 => .array .int
  | 33 => .array .int
  | 34 => .array .int
  | 35 => .array .int
  | 36 => .array .int
  | 37 => .array .int
  | _ => .int
theorem nmX9 : ∀ a, a < 39 → ∀ b, b < 39 → a ≠ b → (TX9 a).2.1 ≠ (TX9 b).2.1 := by decide +kernel
theorem tyX9_ok : ∀ k, k < 39 → parseFieldDescriptor (TX9 k).2.2.1 = some (tyX9 k) := by decide +kernel
abbrev cX9_init : ByteArray := prog_11_method_1_code
def yX9_init : MethodName := ⟨RX9, "<init>", "()V"⟩
abbrev cX9_thrown : ByteArray := prog_11_method_2_code
def yX9_thrown : MethodName := ⟨RX9, "thrown", "()I"⟩
abbrev cX9_goes : ByteArray := prog_11_method_3_code
def yX9_goes : MethodName := ⟨RX9, "goes", "(I)Z"⟩
abbrev cX9_isBetween : ByteArray := prog_11_method_4_code
def yX9_isBetween : MethodName := ⟨RX9, "isBetween", "(III)Z"⟩
abbrev cX9_isLot : ByteArray := prog_11_method_5_code
def yX9_isLot : MethodName := ⟨RX9, "isLot", "(I)Z"⟩
abbrev cX9_isPanel : ByteArray := prog_11_method_6_code
def yX9_isPanel : MethodName := ⟨RX9, "isPanel", "(I)Z"⟩
abbrev cX9_lesser : ByteArray := prog_11_method_7_code
def yX9_lesser : MethodName := ⟨RX9, "lesser", "(JJ)J"⟩
abbrev cX9_lot : ByteArray := prog_11_method_8_code
def yX9_lot : MethodName := ⟨RX9, "lot", "(III)I"⟩
abbrev cX9_sun : ByteArray := prog_11_method_9_code
def yX9_sun : MethodName := ⟨RX9, "sun", "(II)I"⟩
abbrev cX9_panel : ByteArray := prog_11_method_10_code
def yX9_panel : MethodName := ⟨RX9, "panel", "(IIII)I"⟩
abbrev cX9_strengthOf : ByteArray := prog_11_method_11_code
def yX9_strengthOf : MethodName := ⟨RX9, "strengthOf", "(I)J"⟩
abbrev cX9_strength : ByteArray := prog_11_method_12_code
def yX9_strength : MethodName := ⟨RX9, "strength", "(I)J"⟩
abbrev cX9_across : ByteArray := prog_11_method_13_code
def yX9_across : MethodName := ⟨RX9, "across", "(I)I"⟩
abbrev cX9_length : ByteArray := prog_11_method_14_code
def yX9_length : MethodName := ⟨RX9, "length", "(I)I"⟩
abbrev cX9_roll : ByteArray := prog_11_method_15_code
def yX9_roll : MethodName := ⟨RX9, "roll", "(I)I"⟩
abbrev cX9_seam : ByteArray := prog_11_method_16_code
def yX9_seam : MethodName := ⟨RX9, "seam", "(III)I"⟩
abbrev cX9_seamOf : ByteArray := prog_11_method_17_code
def yX9_seamOf : MethodName := ⟨RX9, "seamOf", "(I)J"⟩
abbrev cX9_rip : ByteArray := prog_11_method_18_code
def yX9_rip : MethodName := ⟨RX9, "rip", "(I)J"⟩
abbrev cX9_comes : ByteArray := prog_11_method_19_code
def yX9_comes : MethodName := ⟨RX9, "comes", "(III)Z"⟩
abbrev cX9_bearsOf : ByteArray := prog_11_method_20_code
def yX9_bearsOf : MethodName := ⟨RX9, "bearsOf", "(II)J"⟩
abbrev cX9_bears : ByteArray := prog_11_method_21_code
def yX9_bears : MethodName := ⟨RX9, "bears", "(II)J"⟩
abbrev cX9_bearsAnew : ByteArray := prog_11_method_22_code
def yX9_bearsAnew : MethodName := ⟨RX9, "bearsAnew", "(II)J"⟩
abbrev cX9_isKnot : ByteArray := prog_11_method_23_code
def yX9_isKnot : MethodName := ⟨RX9, "isKnot", "(I)Z"⟩
abbrev cX9_knot : ByteArray := prog_11_method_24_code
def yX9_knot : MethodName := ⟨RX9, "knot", "(IIZ)I"⟩
abbrev cX9_load : ByteArray := prog_11_method_25_code
def yX9_load : MethodName := ⟨RX9, "load", "(I)I"⟩
abbrev cX9_beside : ByteArray := prog_11_method_26_code
def yX9_beside : MethodName := ⟨RX9, "beside", "(II)I"⟩
abbrev cX9_comesTo : ByteArray := prog_11_method_27_code
def yX9_comesTo : MethodName := ⟨RX9, "comesTo", "(I)I"⟩
abbrev cX9_steps : ByteArray := prog_11_method_28_code
def yX9_steps : MethodName := ⟨RX9, "steps", "()Z"⟩
abbrev cX9_rest : ByteArray := prog_11_method_29_code
def yX9_rest : MethodName := ⟨RX9, "rest", "(I)I"⟩
abbrev cX9_height : ByteArray := prog_11_method_30_code
def yX9_height : MethodName := ⟨RX9, "height", "(I)I"⟩
abbrev cX9_peg : ByteArray := prog_11_method_31_code
def yX9_peg : MethodName := ⟨RX9, "peg", "(JI)I"⟩
abbrev cX9_shares : ByteArray := prog_11_method_32_code
def yX9_shares : MethodName := ⟨RX9, "shares", "(J)I"⟩
abbrev cX9_gust : ByteArray := prog_11_method_33_code
def yX9_gust : MethodName := ⟨RX9, "gust", "(J)I"⟩
abbrev cX9_pulled : ByteArray := prog_11_method_34_code
def yX9_pulled : MethodName := ⟨RX9, "pulled", "(I)J"⟩
abbrev cX9_pegs : ByteArray := prog_11_method_35_code
def yX9_pegs : MethodName := ⟨RX9, "pegs", "()I"⟩
abbrev cX9_draft : ByteArray := prog_11_method_36_code
def yX9_draft : MethodName := ⟨RX9, "draft", "(I)F"⟩
abbrev cX9_powerWith : ByteArray := prog_11_method_37_code
def yX9_powerWith : MethodName := ⟨RX9, "powerWith", "(II)F"⟩
abbrev cX9_trim : ByteArray := prog_11_method_38_code
def yX9_trim : MethodName := ⟨RX9, "trim", "(III)F"⟩
abbrev cX9_power : ByteArray := prog_11_method_39_code
def yX9_power : MethodName := ⟨RX9, "power", "(I)F"⟩
abbrev cX9_halyard : ByteArray := prog_11_method_40_code
def yX9_halyard : MethodName := ⟨RX9, "halyard", "(II)I"⟩
abbrev cX9_isCanopy : ByteArray := prog_11_method_41_code
def yX9_isCanopy : MethodName := ⟨RX9, "isCanopy", "(I)Z"⟩
abbrev cX9_hasSeal : ByteArray := prog_11_method_42_code
def yX9_hasSeal : MethodName := ⟨RX9, "hasSeal", "(I)Z"⟩
abbrev cX9_pass : ByteArray := prog_11_method_43_code
def yX9_pass : MethodName := ⟨RX9, "pass", "(I)I"⟩
abbrev cX9_canopy : ByteArray := prog_11_method_44_code
def yX9_canopy : MethodName := ⟨RX9, "canopy", "(I)I"⟩
abbrev cX9_part : ByteArray := prog_11_method_45_code
def yX9_part : MethodName := ⟨RX9, "part", "(II)I"⟩
abbrev cX9_rounds : ByteArray := prog_11_method_46_code
def yX9_rounds : MethodName := ⟨RX9, "rounds", "(I)I"⟩
abbrev cX9_opens : ByteArray := prog_11_method_47_code
def yX9_opens : MethodName := ⟨RX9, "opens", "(I)I"⟩
abbrev cX9_canSeal : ByteArray := prog_11_method_48_code
def yX9_canSeal : MethodName := ⟨RX9, "canSeal", "(I)Z"⟩
abbrev cX9_seal : ByteArray := prog_11_method_49_code
def yX9_seal : MethodName := ⟨RX9, "seal", "(II)I"⟩
abbrev cX9_unseals : ByteArray := prog_11_method_50_code
def yX9_unseals : MethodName := ⟨RX9, "unseals", "(I)V"⟩
abbrev cX9_use : ByteArray := prog_11_method_51_code
def yX9_use : MethodName := ⟨RX9, "use", "(I)I"⟩
abbrev cX9_wet : ByteArray := prog_11_method_52_code
def yX9_wet : MethodName := ⟨RX9, "wet", "(IZ)I"⟩
abbrev cX9_find : ByteArray := prog_11_method_53_code
def yX9_find : MethodName := ⟨RX9, "find", "(IZ)I"⟩
abbrev cX9_lifeOf : ByteArray := prog_11_method_54_code
def yX9_lifeOf : MethodName := ⟨RX9, "lifeOf", "(II)I"⟩
abbrev cX9_ofCanopy : ByteArray := prog_11_method_55_code
def yX9_ofCanopy : MethodName := ⟨RX9, "ofCanopy", "(II)I"⟩
abbrev cX9_lifeAnew : ByteArray := prog_11_method_56_code
def yX9_lifeAnew : MethodName := ⟨RX9, "lifeAnew", "(II)I"⟩
abbrev RJ9 : String := "java/lang/Math"
def TJ9 : u_T := fun k => match k with
  | _ => ("", "", "", false)
def tyJ9 : Nat → FieldType := fun k => match k with
  | _ => .int
theorem nmJ9 : ∀ a, a < 0 → ∀ b, b < 0 → a ≠ b → (TJ9 a).2.1 ≠ (TJ9 b).2.1 := by decide +kernel
theorem tyJ9_ok : ∀ k, k < 0 → parseFieldDescriptor (TJ9 k).2.2.1 = some (tyJ9 k) := by decide +kernel
abbrev cJ9_floorDiv_7cf53 : ByteArray := prog_16_method_47_code
def yJ9_floorDiv_7cf53 : MethodName := ⟨RJ9, "floorDiv", "(II)I"⟩
abbrev cJ9_max_7cf53 : ByteArray := prog_16_method_65_code
def yJ9_max_7cf53 : MethodName := ⟨RJ9, "max", "(II)I"⟩
abbrev cJ9_max_f86c9 : ByteArray := prog_16_method_66_code
def yJ9_max_f86c9 : MethodName := ⟨RJ9, "max", "(JJ)J"⟩
abbrev cJ9_min_7cf53 : ByteArray := prog_16_method_69_code
def yJ9_min_7cf53 : MethodName := ⟨RJ9, "min", "(II)I"⟩
abbrev cJ9_min_f86c9 : ByteArray := prog_16_method_70_code
def yJ9_min_f86c9 : MethodName := ⟨RJ9, "min", "(JJ)J"⟩
abbrev RJ0 : String := "java/lang/String"
def TJ0 : u_T := fun k => match k with
  | _ => ("", "", "", false)
def tyJ0 : Nat → FieldType := fun k => match k with
  | _ => .int
theorem nmJ0 : ∀ a, a < 0 → ∀ b, b < 0 → a ≠ b → (TJ0 a).2.1 ≠ (TJ0 b).2.1 := by decide +kernel
theorem tyJ0_ok : ∀ k, k < 0 → parseFieldDescriptor (TJ0 k).2.2.1 = some (tyJ0 k) := by decide +kernel
abbrev RJ10 : String := "java/lang/System"
def TJ10 : u_T := fun k => match k with
  | _ => ("", "", "", false)
def tyJ10 : Nat → FieldType := fun k => match k with
  | _ => .int
theorem nmJ10 : ∀ a, a < 0 → ∀ b, b < 0 → a ≠ b → (TJ10 a).2.1 ≠ (TJ10 b).2.1 := by decide +kernel
theorem tyJ10_ok : ∀ k, k < 0 → parseFieldDescriptor (TJ10 k).2.2.1 = some (tyJ10 k) := by decide +kernel
abbrev RL : String := "BroadseamLoftLaw"
abbrev cL_lot : ByteArray := method_3_code
def yL_lot : MethodName := ⟨RL, "lot", "(LBroadseamLoft;III[J)I"⟩
abbrev cL_sun : ByteArray := method_4_code
def yL_sun : MethodName := ⟨RL, "sun", "(LBroadseamLoft;II[J)I"⟩
abbrev cL_panel : ByteArray := method_5_code
def yL_panel : MethodName := ⟨RL, "panel", "(LBroadseamLoft;IIII[J)I"⟩
abbrev cL_strength : ByteArray := method_6_code
def yL_strength : MethodName := ⟨RL, "strength", "(LBroadseamLoft;I[J)I"⟩
abbrev cL_roll : ByteArray := method_7_code
def yL_roll : MethodName := ⟨RL, "roll", "(LBroadseamLoft;I[J)I"⟩
abbrev cL_seam : ByteArray := method_8_code
def yL_seam : MethodName := ⟨RL, "seam", "(LBroadseamLoft;III[J)I"⟩
abbrev cL_rip : ByteArray := method_9_code
def yL_rip : MethodName := ⟨RL, "rip", "(LBroadseamLoft;I[J)I"⟩
abbrev cL_bears : ByteArray := method_10_code
def yL_bears : MethodName := ⟨RL, "bears", "(LBroadseamLoft;II[J)I"⟩
abbrev cL_bearsAnew : ByteArray := method_11_code
def yL_bearsAnew : MethodName := ⟨RL, "bearsAnew", "(LBroadseamLoft;II[J)I"⟩
abbrev cL_knot : ByteArray := method_12_code
def yL_knot : MethodName := ⟨RL, "knot", "(LBroadseamLoft;IIZ[J)I"⟩
abbrev cL_load : ByteArray := method_13_code
def yL_load : MethodName := ⟨RL, "load", "(LBroadseamLoft;I[J)I"⟩
abbrev cL_rest : ByteArray := method_14_code
def yL_rest : MethodName := ⟨RL, "rest", "(LBroadseamLoft;I[J)I"⟩
abbrev cL_height : ByteArray := method_15_code
def yL_height : MethodName := ⟨RL, "height", "(LBroadseamLoft;I[J)I"⟩
abbrev cL_peg : ByteArray := method_16_code
def yL_peg : MethodName := ⟨RL, "peg", "(LBroadseamLoft;JI[J)I"⟩
abbrev cL_gust : ByteArray := method_17_code
def yL_gust : MethodName := ⟨RL, "gust", "(LBroadseamLoft;J[J)I"⟩
abbrev cL_pulled : ByteArray := method_18_code
def yL_pulled : MethodName := ⟨RL, "pulled", "(LBroadseamLoft;I[J)I"⟩
abbrev cL_trim : ByteArray := method_19_code
def yL_trim : MethodName := ⟨RL, "trim", "(LBroadseamLoft;III[D)I"⟩
abbrev cL_power : ByteArray := method_20_code
def yL_power : MethodName := ⟨RL, "power", "(LBroadseamLoft;I[D)I"⟩
abbrev cL_halyard : ByteArray := method_21_code
def yL_halyard : MethodName := ⟨RL, "halyard", "(LBroadseamLoft;II[J)I"⟩
abbrev cL_pass : ByteArray := method_22_code
def yL_pass : MethodName := ⟨RL, "pass", "(LBroadseamLoft;I[J)I"⟩
abbrev cL_canopy : ByteArray := method_23_code
def yL_canopy : MethodName := ⟨RL, "canopy", "(LBroadseamLoft;I[J)I"⟩
abbrev cL_part : ByteArray := method_24_code
def yL_part : MethodName := ⟨RL, "part", "(LBroadseamLoft;II[J)I"⟩
abbrev cL_opens : ByteArray := method_25_code
def yL_opens : MethodName := ⟨RL, "opens", "(LBroadseamLoft;I[J)I"⟩
abbrev cL_seal : ByteArray := method_26_code
def yL_seal : MethodName := ⟨RL, "seal", "(LBroadseamLoft;II[J)I"⟩
abbrev cL_use : ByteArray := method_27_code
def yL_use : MethodName := ⟨RL, "use", "(LBroadseamLoft;I[J)I"⟩
abbrev cL_wet : ByteArray := method_28_code
def yL_wet : MethodName := ⟨RL, "wet", "(LBroadseamLoft;IZ[J)I"⟩
abbrev cL_find : ByteArray := method_29_code
def yL_find : MethodName := ⟨RL, "find", "(LBroadseamLoft;IZ[J)I"⟩
abbrev cL_ofCanopy : ByteArray := method_30_code
def yL_ofCanopy : MethodName := ⟨RL, "ofCanopy", "(LBroadseamLoft;II[J)I"⟩
abbrev cL_lifeAnew : ByteArray := method_31_code
def yL_lifeAnew : MethodName := ⟨RL, "lifeAnew", "(LBroadseamLoft;II[J)I"⟩
abbrev cL_law : ByteArray := code
def yL_law : MethodName := ⟨RL, "law", "([I)Z"⟩
end
section
theorem dX0_init_0 : decode cX0_init 0 = .ok (.aload_n 0, 1) := by decide +kernel
theorem dX0_init_1 : decode cX0_init 1 = .ok (.invokespecial 3, 3) := by decide +kernel
theorem dX0_init_4 : decode cX0_init 4 = .ok (.aload_n 0, 1) := by decide +kernel
theorem dX0_init_5 : decode cX0_init 5 = .ok (.bipush 8, 2) := by decide +kernel
theorem dX0_init_7 : decode cX0_init 7 = .ok (.newarray .int, 2) := by decide +kernel
theorem dX0_init_9 : decode cX0_init 9 = .ok (.putfield 9, 3) := by decide +kernel
theorem dX0_init_12 : decode cX0_init 12 = .ok (.aload_n 0, 1) := by decide +kernel
theorem dX0_init_13 : decode cX0_init 13 = .ok (.iconst (-1), 1) := by decide +kernel
theorem dX0_init_14 : decode cX0_init 14 = .ok (.putfield 15, 3) := by decide +kernel
theorem dX0_init_17 : decode cX0_init 17 = .ok (.aload_n 0, 1) := by decide +kernel
theorem dX0_init_18 : decode cX0_init 18 = .ok (.iconst (-1), 1) := by decide +kernel
theorem dX0_init_19 : decode cX0_init 19 = .ok (.putfield 19, 3) := by decide +kernel
theorem dX0_init_22 : decode cX0_init 22 = .ok (.aload_n 0, 1) := by decide +kernel
theorem dX0_init_23 : decode cX0_init 23 = .ok (.aload_n 1, 1) := by decide +kernel
theorem dX0_init_24 : decode cX0_init 24 = .ok (.putfield 22, 3) := by decide +kernel
theorem dX0_init_27 : decode cX0_init 27 = .ok (.aload_n 0, 1) := by decide +kernel
theorem dX0_init_28 : decode cX0_init 28 = .ok (.iload_n 2, 1) := by decide +kernel
theorem dX0_init_29 : decode cX0_init 29 = .ok (.putfield 26, 3) := by decide +kernel
theorem dX0_init_32 : decode cX0_init 32 = .ok (.return_, 1) := by decide +kernel
theorem dX0_isSealed_0 : decode cX0_isSealed 0 = .ok (.aload_n 0, 1) := by decide +kernel
theorem dX0_isSealed_1 : decode cX0_isSealed 1 = .ok (.getfield 19, 3) := by decide +kernel
theorem dX0_isSealed_4 : decode cX0_isSealed 4 = .ok (.iconst (-1), 1) := by decide +kernel
theorem dX0_isSealed_5 : decode cX0_isSealed 5 = .ok (.if_icmp .eq 7, 3) := by decide +kernel
theorem dX0_isSealed_8 : decode cX0_isSealed 8 = .ok (.iconst 1, 1) := by decide +kernel
theorem dX0_isSealed_9 : decode cX0_isSealed 9 = .ok (.goto 4, 3) := by decide +kernel
theorem dX0_isSealed_12 : decode cX0_isSealed 12 = .ok (.iconst 0, 1) := by decide +kernel
theorem dX0_isSealed_13 : decode cX0_isSealed 13 = .ok (.ireturn, 1) := by decide +kernel
theorem dX0_loseSeal_0 : decode cX0_loseSeal 0 = .ok (.aload_n 0, 1) := by decide +kernel
theorem dX0_loseSeal_1 : decode cX0_loseSeal 1 = .ok (.iconst (-1), 1) := by decide +kernel
theorem dX0_loseSeal_2 : decode cX0_loseSeal 2 = .ok (.putfield 15, 3) := by decide +kernel
theorem dX0_loseSeal_5 : decode cX0_loseSeal 5 = .ok (.aload_n 0, 1) := by decide +kernel
theorem dX0_loseSeal_6 : decode cX0_loseSeal 6 = .ok (.iconst (-1), 1) := by decide +kernel
theorem dX0_loseSeal_7 : decode cX0_loseSeal 7 = .ok (.putfield 19, 3) := by decide +kernel
theorem dX0_loseSeal_10 : decode cX0_loseSeal 10 = .ok (.return_, 1) := by decide +kernel
theorem dX0_isReadyToSeal_0 : decode cX0_isReadyToSeal 0 = .ok (.aload_n 0, 1) := by decide +kernel
theorem dX0_isReadyToSeal_1 : decode cX0_isReadyToSeal 1 = .ok (.invokevirtual 29, 3) := by decide +kernel
theorem dX0_isReadyToSeal_4 : decode cX0_isReadyToSeal 4 = .ok (.ifCond .ne 40, 3) := by decide +kernel
theorem dX0_isReadyToSeal_7 : decode cX0_isReadyToSeal 7 = .ok (.aload_n 0, 1) := by decide +kernel
theorem dX0_isReadyToSeal_8 : decode cX0_isReadyToSeal 8 = .ok (.getfield 22, 3) := by decide +kernel
theorem dX0_isReadyToSeal_11 : decode cX0_isReadyToSeal 11 = .ok (.getfield 33, 3) := by decide +kernel
theorem dX0_isReadyToSeal_14 : decode cX0_isReadyToSeal 14 = .ok (.ifCond .ne 30, 3) := by decide +kernel
theorem dX0_isReadyToSeal_17 : decode cX0_isReadyToSeal 17 = .ok (.aload_n 0, 1) := by decide +kernel
theorem dX0_isReadyToSeal_18 : decode cX0_isReadyToSeal 18 = .ok (.getfield 39, 3) := by decide +kernel
theorem dX0_isReadyToSeal_21 : decode cX0_isReadyToSeal 21 = .ok (.ifCond .le 23, 3) := by decide +kernel
theorem dX0_isReadyToSeal_24 : decode cX0_isReadyToSeal 24 = .ok (.aload_n 0, 1) := by decide +kernel
theorem dX0_isReadyToSeal_25 : decode cX0_isReadyToSeal 25 = .ok (.getfield 42, 3) := by decide +kernel
theorem dX0_isReadyToSeal_28 : decode cX0_isReadyToSeal 28 = .ok (.iconst 3, 1) := by decide +kernel
theorem dX0_isReadyToSeal_29 : decode cX0_isReadyToSeal 29 = .ok (.if_icmp .ge 15, 3) := by decide +kernel
theorem dX0_isReadyToSeal_32 : decode cX0_isReadyToSeal 32 = .ok (.aload_n 0, 1) := by decide +kernel
theorem dX0_isReadyToSeal_33 : decode cX0_isReadyToSeal 33 = .ok (.invokevirtual 45, 3) := by decide +kernel
theorem dX0_isReadyToSeal_36 : decode cX0_isReadyToSeal 36 = .ok (.iconst (-1), 1) := by decide +kernel
theorem dX0_isReadyToSeal_37 : decode cX0_isReadyToSeal 37 = .ok (.if_icmp .eq 7, 3) := by decide +kernel
theorem dX0_isReadyToSeal_40 : decode cX0_isReadyToSeal 40 = .ok (.iconst 1, 1) := by decide +kernel
theorem dX0_isReadyToSeal_41 : decode cX0_isReadyToSeal 41 = .ok (.goto 4, 3) := by decide +kernel
theorem dX0_isReadyToSeal_44 : decode cX0_isReadyToSeal 44 = .ok (.iconst 0, 1) := by decide +kernel
theorem dX0_isReadyToSeal_45 : decode cX0_isReadyToSeal 45 = .ok (.ireturn, 1) := by decide +kernel
theorem dX0_roundsToOpen_0 : decode cX0_roundsToOpen 0 = .ok (.iconst 1, 1) := by decide +kernel
theorem dX0_roundsToOpen_1 : decode cX0_roundsToOpen 1 = .ok (.aload_n 0, 1) := by decide +kernel
theorem dX0_roundsToOpen_2 : decode cX0_roundsToOpen 2 = .ok (.getfield 39, 3) := by decide +kernel
theorem dX0_roundsToOpen_5 : decode cX0_roundsToOpen 5 = .ok (.ishl, 1) := by decide +kernel
theorem dX0_roundsToOpen_6 : decode cX0_roundsToOpen 6 = .ok (.iconst 1, 1) := by decide +kernel
theorem dX0_roundsToOpen_7 : decode cX0_roundsToOpen 7 = .ok (.isub, 1) := by decide +kernel
theorem dX0_roundsToOpen_8 : decode cX0_roundsToOpen 8 = .ok (.istore_n 1, 1) := by decide +kernel
theorem dX0_roundsToOpen_9 : decode cX0_roundsToOpen 9 = .ok (.iconst 0, 1) := by decide +kernel
theorem dX0_roundsToOpen_10 : decode cX0_roundsToOpen 10 = .ok (.istore_n 2, 1) := by decide +kernel
theorem dX0_roundsToOpen_11 : decode cX0_roundsToOpen 11 = .ok (.iload_n 2, 1) := by decide +kernel
theorem dX0_roundsToOpen_12 : decode cX0_roundsToOpen 12 = .ok (.bipush 8, 2) := by decide +kernel
theorem dX0_roundsToOpen_14 : decode cX0_roundsToOpen 14 = .ok (.if_icmp .gt 21, 3) := by decide +kernel
theorem dX0_roundsToOpen_17 : decode cX0_roundsToOpen 17 = .ok (.iload_n 1, 1) := by decide +kernel
theorem dX0_roundsToOpen_18 : decode cX0_roundsToOpen 18 = .ok (.ifCond .ne 5, 3) := by decide +kernel
theorem dX0_roundsToOpen_21 : decode cX0_roundsToOpen 21 = .ok (.iload_n 2, 1) := by decide +kernel
theorem dX0_roundsToOpen_22 : decode cX0_roundsToOpen 22 = .ok (.ireturn, 1) := by decide +kernel
theorem dX0_roundsToOpen_23 : decode cX0_roundsToOpen 23 = .ok (.aload_n 0, 1) := by decide +kernel
theorem dX0_roundsToOpen_24 : decode cX0_roundsToOpen 24 = .ok (.iload_n 1, 1) := by decide +kernel
theorem dX0_roundsToOpen_25 : decode cX0_roundsToOpen 25 = .ok (.invokevirtual 49, 3) := by decide +kernel
theorem dX0_roundsToOpen_28 : decode cX0_roundsToOpen 28 = .ok (.istore_n 1, 1) := by decide +kernel
theorem dX0_roundsToOpen_29 : decode cX0_roundsToOpen 29 = .ok (.iinc 2 1, 3) := by decide +kernel
theorem dX0_roundsToOpen_32 : decode cX0_roundsToOpen 32 = .ok (.goto (-21), 3) := by decide +kernel
theorem dX0_roundsToOpen_35 : decode cX0_roundsToOpen 35 = .ok (.iconst (-1), 1) := by decide +kernel
theorem dX0_roundsToOpen_36 : decode cX0_roundsToOpen 36 = .ok (.ireturn, 1) := by decide +kernel
theorem dX0_shutAfterRound_0 : decode cX0_shutAfterRound 0 = .ok (.iload_n 1, 1) := by decide +kernel
theorem dX0_shutAfterRound_1 : decode cX0_shutAfterRound 1 = .ok (.istore_n 2, 1) := by decide +kernel
theorem dX0_shutAfterRound_2 : decode cX0_shutAfterRound 2 = .ok (.iconst 0, 1) := by decide +kernel
theorem dX0_shutAfterRound_3 : decode cX0_shutAfterRound 3 = .ok (.istore_n 3, 1) := by decide +kernel
theorem dX0_shutAfterRound_4 : decode cX0_shutAfterRound 4 = .ok (.iload_n 3, 1) := by decide +kernel
theorem dX0_shutAfterRound_5 : decode cX0_shutAfterRound 5 = .ok (.aload_n 0, 1) := by decide +kernel
theorem dX0_shutAfterRound_6 : decode cX0_shutAfterRound 6 = .ok (.getfield 9, 3) := by decide +kernel
theorem dX0_shutAfterRound_9 : decode cX0_shutAfterRound 9 = .ok (.arraylength, 1) := by decide +kernel
theorem dX0_shutAfterRound_10 : decode cX0_shutAfterRound 10 = .ok (.if_icmp .ge 28, 3) := by decide +kernel
theorem dX0_shutAfterRound_13 : decode cX0_shutAfterRound 13 = .ok (.aload_n 0, 1) := by decide +kernel
theorem dX0_shutAfterRound_14 : decode cX0_shutAfterRound 14 = .ok (.getfield 9, 3) := by decide +kernel
theorem dX0_shutAfterRound_17 : decode cX0_shutAfterRound 17 = .ok (.iload_n 3, 1) := by decide +kernel
theorem dX0_shutAfterRound_18 : decode cX0_shutAfterRound 18 = .ok (.iaload, 1) := by decide +kernel
theorem dX0_shutAfterRound_19 : decode cX0_shutAfterRound 19 = .ok (.iload_n 1, 1) := by decide +kernel
theorem dX0_shutAfterRound_20 : decode cX0_shutAfterRound 20 = .ok (.iand, 1) := by decide +kernel
theorem dX0_shutAfterRound_21 : decode cX0_shutAfterRound 21 = .ok (.ifCond .ne 11, 3) := by decide +kernel
theorem dX0_shutAfterRound_24 : decode cX0_shutAfterRound 24 = .ok (.iload_n 2, 1) := by decide +kernel
theorem dX0_shutAfterRound_25 : decode cX0_shutAfterRound 25 = .ok (.iconst 1, 1) := by decide +kernel
theorem dX0_shutAfterRound_26 : decode cX0_shutAfterRound 26 = .ok (.iload_n 3, 1) := by decide +kernel
theorem dX0_shutAfterRound_27 : decode cX0_shutAfterRound 27 = .ok (.ishl, 1) := by decide +kernel
theorem dX0_shutAfterRound_28 : decode cX0_shutAfterRound 28 = .ok (.iconst (-1), 1) := by decide +kernel
theorem dX0_shutAfterRound_29 : decode cX0_shutAfterRound 29 = .ok (.ixor, 1) := by decide +kernel
theorem dX0_shutAfterRound_30 : decode cX0_shutAfterRound 30 = .ok (.iand, 1) := by decide +kernel
theorem dX0_shutAfterRound_31 : decode cX0_shutAfterRound 31 = .ok (.istore_n 2, 1) := by decide +kernel
theorem dX0_shutAfterRound_32 : decode cX0_shutAfterRound 32 = .ok (.iinc 3 1, 3) := by decide +kernel
theorem dX0_shutAfterRound_35 : decode cX0_shutAfterRound 35 = .ok (.goto (-31), 3) := by decide +kernel
theorem dX0_shutAfterRound_38 : decode cX0_shutAfterRound 38 = .ok (.iload_n 2, 1) := by decide +kernel
theorem dX0_shutAfterRound_39 : decode cX0_shutAfterRound 39 = .ok (.ireturn, 1) := by decide +kernel
theorem dX0_numberOf_0 : decode cX0_numberOf 0 = .ok (.iload_n 1, 1) := by decide +kernel
theorem dX0_numberOf_1 : decode cX0_numberOf 1 = .ok (.tableswitch 60 0 4 #[35, 40, 45, 50, 55], 35) := by decide +kernel
theorem dX0_numberOf_36 : decode cX0_numberOf 36 = .ok (.aload_n 0, 1) := by decide +kernel
theorem dX0_numberOf_37 : decode cX0_numberOf 37 = .ok (.getfield 26, 3) := by decide +kernel
theorem dX0_numberOf_40 : decode cX0_numberOf 40 = .ok (.ireturn, 1) := by decide +kernel
theorem dX0_numberOf_41 : decode cX0_numberOf 41 = .ok (.aload_n 0, 1) := by decide +kernel
theorem dX0_numberOf_42 : decode cX0_numberOf 42 = .ok (.getfield 15, 3) := by decide +kernel
theorem dX0_numberOf_45 : decode cX0_numberOf 45 = .ok (.ireturn, 1) := by decide +kernel
theorem dX0_numberOf_46 : decode cX0_numberOf 46 = .ok (.aload_n 0, 1) := by decide +kernel
theorem dX0_numberOf_47 : decode cX0_numberOf 47 = .ok (.getfield 19, 3) := by decide +kernel
theorem dX0_numberOf_50 : decode cX0_numberOf 50 = .ok (.ireturn, 1) := by decide +kernel
theorem dX0_numberOf_51 : decode cX0_numberOf 51 = .ok (.aload_n 0, 1) := by decide +kernel
theorem dX0_numberOf_52 : decode cX0_numberOf 52 = .ok (.getfield 53, 3) := by decide +kernel
theorem dX0_numberOf_55 : decode cX0_numberOf 55 = .ok (.ireturn, 1) := by decide +kernel
theorem dX0_numberOf_56 : decode cX0_numberOf 56 = .ok (.aload_n 0, 1) := by decide +kernel
theorem dX0_numberOf_57 : decode cX0_numberOf 57 = .ok (.getfield 56, 3) := by decide +kernel
theorem dX0_numberOf_60 : decode cX0_numberOf 60 = .ok (.ireturn, 1) := by decide +kernel
theorem dX0_numberOf_61 : decode cX0_numberOf 61 = .ok (.aload_n 0, 1) := by decide +kernel
theorem dX0_numberOf_62 : decode cX0_numberOf 62 = .ok (.getfield 59, 3) := by decide +kernel
theorem dX0_numberOf_65 : decode cX0_numberOf 65 = .ok (.ireturn, 1) := by decide +kernel
theorem dX1_init_0 : decode cX1_init 0 = .ok (.aload_n 0, 1) := by decide +kernel
theorem dX1_init_1 : decode cX1_init 1 = .ok (.invokespecial 3, 3) := by decide +kernel
theorem dX1_init_4 : decode cX1_init 4 = .ok (.aload_n 0, 1) := by decide +kernel
theorem dX1_init_5 : decode cX1_init 5 = .ok (.sipush 512, 3) := by decide +kernel
theorem dX1_init_8 : decode cX1_init 8 = .ok (.newarray .byte, 2) := by decide +kernel
theorem dX1_init_10 : decode cX1_init 10 = .ok (.putfield 9, 3) := by decide +kernel
theorem dX1_init_13 : decode cX1_init 13 = .ok (.return_, 1) := by decide +kernel
theorem dX1_note_0 : decode cX1_note 0 = .ok (.aload_n 0, 1) := by decide +kernel
theorem dX1_note_1 : decode cX1_note 1 = .ok (.getfield 15, 3) := by decide +kernel
theorem dX1_note_4 : decode cX1_note 4 = .ok (.aload_n 0, 1) := by decide +kernel
theorem dX1_note_5 : decode cX1_note 5 = .ok (.getfield 9, 3) := by decide +kernel
theorem dX1_note_8 : decode cX1_note 8 = .ok (.arraylength, 1) := by decide +kernel
theorem dX1_note_9 : decode cX1_note 9 = .ok (.if_icmp .ge 29, 3) := by decide +kernel
theorem dX1_note_12 : decode cX1_note 12 = .ok (.aload_n 0, 1) := by decide +kernel
theorem dX1_note_13 : decode cX1_note 13 = .ok (.getfield 9, 3) := by decide +kernel
theorem dX1_note_16 : decode cX1_note 16 = .ok (.aload_n 0, 1) := by decide +kernel
theorem dX1_note_17 : decode cX1_note 17 = .ok (.getfield 15, 3) := by decide +kernel
theorem dX1_note_20 : decode cX1_note 20 = .ok (.iload_n 1, 1) := by decide +kernel
theorem dX1_note_21 : decode cX1_note 21 = .ok (.bipush 8, 2) := by decide +kernel
theorem dX1_note_23 : decode cX1_note 23 = .ok (.imul, 1) := by decide +kernel
theorem dX1_note_24 : decode cX1_note 24 = .ok (.iload_n 2, 1) := by decide +kernel
theorem dX1_note_25 : decode cX1_note 25 = .ok (.iadd, 1) := by decide +kernel
theorem dX1_note_26 : decode cX1_note 26 = .ok (.i2b, 1) := by decide +kernel
theorem dX1_note_27 : decode cX1_note 27 = .ok (.bastore, 1) := by decide +kernel
theorem dX1_note_28 : decode cX1_note 28 = .ok (.aload_n 0, 1) := by decide +kernel
theorem dX1_note_29 : decode cX1_note 29 = .ok (.dup, 1) := by decide +kernel
theorem dX1_note_30 : decode cX1_note 30 = .ok (.getfield 15, 3) := by decide +kernel
theorem dX1_note_33 : decode cX1_note 33 = .ok (.iconst 1, 1) := by decide +kernel
theorem dX1_note_34 : decode cX1_note 34 = .ok (.iadd, 1) := by decide +kernel
theorem dX1_note_35 : decode cX1_note 35 = .ok (.putfield 15, 3) := by decide +kernel
theorem dX1_note_38 : decode cX1_note 38 = .ok (.return_, 1) := by decide +kernel
theorem dX1_timesNoted_0 : decode cX1_timesNoted 0 = .ok (.iconst 0, 1) := by decide +kernel
theorem dX1_timesNoted_1 : decode cX1_timesNoted 1 = .ok (.istore_n 3, 1) := by decide +kernel
theorem dX1_timesNoted_2 : decode cX1_timesNoted 2 = .ok (.iconst 0, 1) := by decide +kernel
theorem dX1_timesNoted_3 : decode cX1_timesNoted 3 = .ok (.istore 4, 2) := by decide +kernel
theorem dX1_timesNoted_5 : decode cX1_timesNoted 5 = .ok (.iload 4, 2) := by decide +kernel
theorem dX1_timesNoted_7 : decode cX1_timesNoted 7 = .ok (.aload_n 0, 1) := by decide +kernel
theorem dX1_timesNoted_8 : decode cX1_timesNoted 8 = .ok (.getfield 15, 3) := by decide +kernel
theorem dX1_timesNoted_11 : decode cX1_timesNoted 11 = .ok (.if_icmp .ge 28, 3) := by decide +kernel
theorem dX1_timesNoted_14 : decode cX1_timesNoted 14 = .ok (.aload_n 0, 1) := by decide +kernel
theorem dX1_timesNoted_15 : decode cX1_timesNoted 15 = .ok (.getfield 9, 3) := by decide +kernel
theorem dX1_timesNoted_18 : decode cX1_timesNoted 18 = .ok (.iload 4, 2) := by decide +kernel
theorem dX1_timesNoted_20 : decode cX1_timesNoted 20 = .ok (.baload, 1) := by decide +kernel
theorem dX1_timesNoted_21 : decode cX1_timesNoted 21 = .ok (.iload_n 1, 1) := by decide +kernel
theorem dX1_timesNoted_22 : decode cX1_timesNoted 22 = .ok (.bipush 8, 2) := by decide +kernel
theorem dX1_timesNoted_24 : decode cX1_timesNoted 24 = .ok (.imul, 1) := by decide +kernel
theorem dX1_timesNoted_25 : decode cX1_timesNoted 25 = .ok (.iload_n 2, 1) := by decide +kernel
theorem dX1_timesNoted_26 : decode cX1_timesNoted 26 = .ok (.iadd, 1) := by decide +kernel
theorem dX1_timesNoted_27 : decode cX1_timesNoted 27 = .ok (.if_icmp .ne 6, 3) := by decide +kernel
theorem dX1_timesNoted_30 : decode cX1_timesNoted 30 = .ok (.iinc 3 1, 3) := by decide +kernel
theorem dX1_timesNoted_33 : decode cX1_timesNoted 33 = .ok (.iinc 4 1, 3) := by decide +kernel
theorem dX1_timesNoted_36 : decode cX1_timesNoted 36 = .ok (.goto (-31), 3) := by decide +kernel
theorem dX1_timesNoted_39 : decode cX1_timesNoted 39 = .ok (.iload_n 3, 1) := by decide +kernel
theorem dX1_timesNoted_40 : decode cX1_timesNoted 40 = .ok (.ireturn, 1) := by decide +kernel
theorem dX2_init_0 : decode cX2_init 0 = .ok (.aload_n 0, 1) := by decide +kernel
theorem dX2_init_1 : decode cX2_init 1 = .ok (.invokespecial 3, 3) := by decide +kernel
theorem dX2_init_4 : decode cX2_init 4 = .ok (.aload_n 0, 1) := by decide +kernel
theorem dX2_init_5 : decode cX2_init 5 = .ok (.iload_n 1, 1) := by decide +kernel
theorem dX2_init_6 : decode cX2_init 6 = .ok (.putfield 9, 3) := by decide +kernel
theorem dX2_init_9 : decode cX2_init 9 = .ok (.aload_n 0, 1) := by decide +kernel
theorem dX2_init_10 : decode cX2_init 10 = .ok (.iload_n 2, 1) := by decide +kernel
theorem dX2_init_11 : decode cX2_init 11 = .ok (.putfield 15, 3) := by decide +kernel
theorem dX2_init_14 : decode cX2_init 14 = .ok (.aload_n 0, 1) := by decide +kernel
theorem dX2_init_15 : decode cX2_init 15 = .ok (.iload_n 3, 1) := by decide +kernel
theorem dX2_init_16 : decode cX2_init 16 = .ok (.putfield 18, 3) := by decide +kernel
theorem dX2_init_19 : decode cX2_init 19 = .ok (.return_, 1) := by decide +kernel
theorem dX2_strengthAlong_0 : decode cX2_strengthAlong 0 = .ok (.iload_n 1, 1) := by decide +kernel
theorem dX2_strengthAlong_1 : decode cX2_strengthAlong 1 = .ok (.ifCond .ne 11, 3) := by decide +kernel
theorem dX2_strengthAlong_4 : decode cX2_strengthAlong 4 = .ok (.aload_n 0, 1) := by decide +kernel
theorem dX2_strengthAlong_5 : decode cX2_strengthAlong 5 = .ok (.getfield 9, 3) := by decide +kernel
theorem dX2_strengthAlong_8 : decode cX2_strengthAlong 8 = .ok (.i2l, 1) := by decide +kernel
theorem dX2_strengthAlong_9 : decode cX2_strengthAlong 9 = .ok (.goto 21, 3) := by decide +kernel
theorem dX2_strengthAlong_12 : decode cX2_strengthAlong 12 = .ok (.iload_n 1, 1) := by decide +kernel
theorem dX2_strengthAlong_13 : decode cX2_strengthAlong 13 = .ok (.iconst 1, 1) := by decide +kernel
theorem dX2_strengthAlong_14 : decode cX2_strengthAlong 14 = .ok (.if_icmp .ne 11, 3) := by decide +kernel
theorem dX2_strengthAlong_17 : decode cX2_strengthAlong 17 = .ok (.aload_n 0, 1) := by decide +kernel
theorem dX2_strengthAlong_18 : decode cX2_strengthAlong 18 = .ok (.getfield 15, 3) := by decide +kernel
theorem dX2_strengthAlong_21 : decode cX2_strengthAlong 21 = .ok (.i2l, 1) := by decide +kernel
theorem dX2_strengthAlong_22 : decode cX2_strengthAlong 22 = .ok (.goto 8, 3) := by decide +kernel
theorem dX2_strengthAlong_25 : decode cX2_strengthAlong 25 = .ok (.aload_n 0, 1) := by decide +kernel
theorem dX2_strengthAlong_26 : decode cX2_strengthAlong 26 = .ok (.getfield 18, 3) := by decide +kernel
theorem dX2_strengthAlong_29 : decode cX2_strengthAlong 29 = .ok (.i2l, 1) := by decide +kernel
theorem dX2_strengthAlong_30 : decode cX2_strengthAlong 30 = .ok (.lstore_n 2, 1) := by decide +kernel
theorem dX2_strengthAlong_31 : decode cX2_strengthAlong 31 = .ok (.lload_n 2, 1) := by decide +kernel
theorem dX2_strengthAlong_32 : decode cX2_strengthAlong 32 = .ok (.sipush 1000, 3) := by decide +kernel
theorem dX2_strengthAlong_35 : decode cX2_strengthAlong 35 = .ok (.aload_n 0, 1) := by decide +kernel
theorem dX2_strengthAlong_36 : decode cX2_strengthAlong 36 = .ok (.getfield 21, 3) := by decide +kernel
theorem dX2_strengthAlong_39 : decode cX2_strengthAlong 39 = .ok (.isub, 1) := by decide +kernel
theorem dX2_strengthAlong_40 : decode cX2_strengthAlong 40 = .ok (.bipush 100, 2) := by decide +kernel
theorem dX2_strengthAlong_42 : decode cX2_strengthAlong 42 = .ok (.invokestatic 24, 3) := by decide +kernel
theorem dX2_strengthAlong_45 : decode cX2_strengthAlong 45 = .ok (.i2l, 1) := by decide +kernel
theorem dX2_strengthAlong_46 : decode cX2_strengthAlong 46 = .ok (.lmul, 1) := by decide +kernel
theorem dX2_strengthAlong_47 : decode cX2_strengthAlong 47 = .ok (.ldc2_w 30, 3) := by decide +kernel
theorem dX2_strengthAlong_50 : decode cX2_strengthAlong 50 = .ok (.ldiv, 1) := by decide +kernel
theorem dX2_strengthAlong_51 : decode cX2_strengthAlong 51 = .ok (.lreturn, 1) := by decide +kernel
theorem dX2_layPanel_0 : decode cX2_layPanel 0 = .ok (.iload_n 3, 1) := by decide +kernel
theorem dX2_layPanel_1 : decode cX2_layPanel 1 = .ok (.ifCond .ne 7, 3) := by decide +kernel
theorem dX2_layPanel_4 : decode cX2_layPanel 4 = .ok (.iload_n 1, 1) := by decide +kernel
theorem dX2_layPanel_5 : decode cX2_layPanel 5 = .ok (.goto 15, 3) := by decide +kernel
theorem dX2_layPanel_8 : decode cX2_layPanel 8 = .ok (.iload_n 3, 1) := by decide +kernel
theorem dX2_layPanel_9 : decode cX2_layPanel 9 = .ok (.iconst 1, 1) := by decide +kernel
theorem dX2_layPanel_10 : decode cX2_layPanel 10 = .ok (.if_icmp .ne 7, 3) := by decide +kernel
theorem dX2_layPanel_13 : decode cX2_layPanel 13 = .ok (.iload_n 2, 1) := by decide +kernel
theorem dX2_layPanel_14 : decode cX2_layPanel 14 = .ok (.goto 6, 3) := by decide +kernel
theorem dX2_layPanel_17 : decode cX2_layPanel 17 = .ok (.iload_n 1, 1) := by decide +kernel
theorem dX2_layPanel_18 : decode cX2_layPanel 18 = .ok (.iload_n 2, 1) := by decide +kernel
theorem dX2_layPanel_19 : decode cX2_layPanel 19 = .ok (.iadd, 1) := by decide +kernel
theorem dX2_layPanel_20 : decode cX2_layPanel 20 = .ok (.istore 4, 2) := by decide +kernel
theorem dX2_layPanel_22 : decode cX2_layPanel 22 = .ok (.iload_n 3, 1) := by decide +kernel
theorem dX2_layPanel_23 : decode cX2_layPanel 23 = .ok (.ifCond .ne 7, 3) := by decide +kernel
theorem dX2_layPanel_26 : decode cX2_layPanel 26 = .ok (.iload_n 2, 1) := by decide +kernel
theorem dX2_layPanel_27 : decode cX2_layPanel 27 = .ok (.goto 15, 3) := by decide +kernel
theorem dX2_layPanel_30 : decode cX2_layPanel 30 = .ok (.iload_n 3, 1) := by decide +kernel
theorem dX2_layPanel_31 : decode cX2_layPanel 31 = .ok (.iconst 1, 1) := by decide +kernel
theorem dX2_layPanel_32 : decode cX2_layPanel 32 = .ok (.if_icmp .ne 7, 3) := by decide +kernel
theorem dX2_layPanel_35 : decode cX2_layPanel 35 = .ok (.iload_n 1, 1) := by decide +kernel
theorem dX2_layPanel_36 : decode cX2_layPanel 36 = .ok (.goto 6, 3) := by decide +kernel
theorem dX2_layPanel_39 : decode cX2_layPanel 39 = .ok (.iload_n 1, 1) := by decide +kernel
theorem dX2_layPanel_40 : decode cX2_layPanel 40 = .ok (.iload_n 2, 1) := by decide +kernel
theorem dX2_layPanel_41 : decode cX2_layPanel 41 = .ok (.iadd, 1) := by decide +kernel
theorem dX2_layPanel_42 : decode cX2_layPanel 42 = .ok (.istore 5, 2) := by decide +kernel
theorem dX2_layPanel_44 : decode cX2_layPanel 44 = .ok (.aload_n 0, 1) := by decide +kernel
theorem dX2_layPanel_45 : decode cX2_layPanel 45 = .ok (.getfield 32, 3) := by decide +kernel
theorem dX2_layPanel_48 : decode cX2_layPanel 48 = .ok (.iload 4, 2) := by decide +kernel
theorem dX2_layPanel_50 : decode cX2_layPanel 50 = .ok (.iadd, 1) := by decide +kernel
theorem dX2_layPanel_51 : decode cX2_layPanel 51 = .ok (.sipush 150, 3) := by decide +kernel
theorem dX2_layPanel_54 : decode cX2_layPanel 54 = .ok (.if_icmp .le 26, 3) := by decide +kernel
theorem dX2_layPanel_57 : decode cX2_layPanel 57 = .ok (.aload_n 0, 1) := by decide +kernel
theorem dX2_layPanel_58 : decode cX2_layPanel 58 = .ok (.dup, 1) := by decide +kernel
theorem dX2_layPanel_59 : decode cX2_layPanel 59 = .ok (.getfield 35, 3) := by decide +kernel
theorem dX2_layPanel_62 : decode cX2_layPanel 62 = .ok (.aload_n 0, 1) := by decide +kernel
theorem dX2_layPanel_63 : decode cX2_layPanel 63 = .ok (.getfield 38, 3) := by decide +kernel
theorem dX2_layPanel_66 : decode cX2_layPanel 66 = .ok (.iadd, 1) := by decide +kernel
theorem dX2_layPanel_67 : decode cX2_layPanel 67 = .ok (.putfield 35, 3) := by decide +kernel
theorem dX2_layPanel_70 : decode cX2_layPanel 70 = .ok (.aload_n 0, 1) := by decide +kernel
theorem dX2_layPanel_71 : decode cX2_layPanel 71 = .ok (.iconst 0, 1) := by decide +kernel
theorem dX2_layPanel_72 : decode cX2_layPanel 72 = .ok (.putfield 32, 3) := by decide +kernel
theorem dX2_layPanel_75 : decode cX2_layPanel 75 = .ok (.aload_n 0, 1) := by decide +kernel
theorem dX2_layPanel_76 : decode cX2_layPanel 76 = .ok (.iconst 0, 1) := by decide +kernel
theorem dX2_layPanel_77 : decode cX2_layPanel 77 = .ok (.putfield 38, 3) := by decide +kernel
theorem dX2_layPanel_80 : decode cX2_layPanel 80 = .ok (.aload_n 0, 1) := by decide +kernel
theorem dX2_layPanel_81 : decode cX2_layPanel 81 = .ok (.dup, 1) := by decide +kernel
theorem dX2_layPanel_82 : decode cX2_layPanel 82 = .ok (.getfield 32, 3) := by decide +kernel
theorem dX2_layPanel_85 : decode cX2_layPanel 85 = .ok (.iload 4, 2) := by decide +kernel
theorem dX2_layPanel_87 : decode cX2_layPanel 87 = .ok (.iadd, 1) := by decide +kernel
theorem dX2_layPanel_88 : decode cX2_layPanel 88 = .ok (.putfield 32, 3) := by decide +kernel
theorem dX2_layPanel_91 : decode cX2_layPanel 91 = .ok (.aload_n 0, 1) := by decide +kernel
theorem dX2_layPanel_92 : decode cX2_layPanel 92 = .ok (.aload_n 0, 1) := by decide +kernel
theorem dX2_layPanel_93 : decode cX2_layPanel 93 = .ok (.getfield 38, 3) := by decide +kernel
theorem dX2_layPanel_96 : decode cX2_layPanel 96 = .ok (.iload 5, 2) := by decide +kernel
theorem dX2_layPanel_98 : decode cX2_layPanel 98 = .ok (.invokestatic 24, 3) := by decide +kernel
theorem dX2_layPanel_101 : decode cX2_layPanel 101 = .ok (.putfield 38, 3) := by decide +kernel
theorem dX2_layPanel_104 : decode cX2_layPanel 104 = .ok (.return_, 1) := by decide +kernel
theorem dX2_rolledLength_0 : decode cX2_rolledLength 0 = .ok (.aload_n 0, 1) := by decide +kernel
theorem dX2_rolledLength_1 : decode cX2_rolledLength 1 = .ok (.getfield 35, 3) := by decide +kernel
theorem dX2_rolledLength_4 : decode cX2_rolledLength 4 = .ok (.aload_n 0, 1) := by decide +kernel
theorem dX2_rolledLength_5 : decode cX2_rolledLength 5 = .ok (.getfield 38, 3) := by decide +kernel
theorem dX2_rolledLength_8 : decode cX2_rolledLength 8 = .ok (.iadd, 1) := by decide +kernel
theorem dX2_rolledLength_9 : decode cX2_rolledLength 9 = .ok (.ireturn, 1) := by decide +kernel
theorem dX3_init_0 : decode cX3_init 0 = .ok (.aload_n 0, 1) := by decide +kernel
theorem dX3_init_1 : decode cX3_init 1 = .ok (.invokespecial 3, 3) := by decide +kernel
theorem dX3_init_4 : decode cX3_init 4 = .ok (.aload_n 0, 1) := by decide +kernel
theorem dX3_init_5 : decode cX3_init 5 = .ok (.bipush 36, 2) := by decide +kernel
theorem dX3_init_7 : decode cX3_init 7 = .ok (.newarray .int, 2) := by decide +kernel
theorem dX3_init_9 : decode cX3_init 9 = .ok (.putfield 9, 3) := by decide +kernel
theorem dX3_init_12 : decode cX3_init 12 = .ok (.aload_n 0, 1) := by decide +kernel
theorem dX3_init_13 : decode cX3_init 13 = .ok (.bipush 36, 2) := by decide +kernel
theorem dX3_init_15 : decode cX3_init 15 = .ok (.newarray .int, 2) := by decide +kernel
theorem dX3_init_17 : decode cX3_init 17 = .ok (.putfield 13, 3) := by decide +kernel
theorem dX3_init_20 : decode cX3_init 20 = .ok (.aload_n 0, 1) := by decide +kernel
theorem dX3_init_21 : decode cX3_init 21 = .ok (.bipush 36, 2) := by decide +kernel
theorem dX3_init_23 : decode cX3_init 23 = .ok (.newarray .boolean, 2) := by decide +kernel
theorem dX3_init_25 : decode cX3_init 25 = .ok (.putfield 16, 3) := by decide +kernel
theorem dX3_init_28 : decode cX3_init 28 = .ok (.iconst 0, 1) := by decide +kernel
theorem dX3_init_29 : decode cX3_init 29 = .ok (.istore_n 1, 1) := by decide +kernel
theorem dX3_init_30 : decode cX3_init 30 = .ok (.iload_n 1, 1) := by decide +kernel
theorem dX3_init_31 : decode cX3_init 31 = .ok (.bipush 36, 2) := by decide +kernel
theorem dX3_init_33 : decode cX3_init 33 = .ok (.if_icmp .ge 48, 3) := by decide +kernel
theorem dX3_init_36 : decode cX3_init 36 = .ok (.iload_n 1, 1) := by decide +kernel
theorem dX3_init_37 : decode cX3_init 37 = .ok (.bipush 6, 2) := by decide +kernel
theorem dX3_init_39 : decode cX3_init 39 = .ok (.idiv, 1) := by decide +kernel
theorem dX3_init_40 : decode cX3_init 40 = .ok (.istore_n 2, 1) := by decide +kernel
theorem dX3_init_41 : decode cX3_init 41 = .ok (.iload_n 1, 1) := by decide +kernel
theorem dX3_init_42 : decode cX3_init 42 = .ok (.bipush 6, 2) := by decide +kernel
theorem dX3_init_44 : decode cX3_init 44 = .ok (.irem, 1) := by decide +kernel
theorem dX3_init_45 : decode cX3_init 45 = .ok (.istore_n 3, 1) := by decide +kernel
theorem dX3_init_46 : decode cX3_init 46 = .ok (.aload_n 0, 1) := by decide +kernel
theorem dX3_init_47 : decode cX3_init 47 = .ok (.getfield 16, 3) := by decide +kernel
theorem dX3_init_50 : decode cX3_init 50 = .ok (.iload_n 1, 1) := by decide +kernel
theorem dX3_init_51 : decode cX3_init 51 = .ok (.iload_n 2, 1) := by decide +kernel
theorem dX3_init_52 : decode cX3_init 52 = .ok (.ifCond .eq 17, 3) := by decide +kernel
theorem dX3_init_55 : decode cX3_init 55 = .ok (.iload_n 2, 1) := by decide +kernel
theorem dX3_init_56 : decode cX3_init 56 = .ok (.iconst 5, 1) := by decide +kernel
theorem dX3_init_57 : decode cX3_init 57 = .ok (.if_icmp .eq 12, 3) := by decide +kernel
theorem dX3_init_60 : decode cX3_init 60 = .ok (.iload_n 3, 1) := by decide +kernel
theorem dX3_init_61 : decode cX3_init 61 = .ok (.ifCond .eq 8, 3) := by decide +kernel
theorem dX3_init_64 : decode cX3_init 64 = .ok (.iload_n 3, 1) := by decide +kernel
theorem dX3_init_65 : decode cX3_init 65 = .ok (.iconst 5, 1) := by decide +kernel
theorem dX3_init_66 : decode cX3_init 66 = .ok (.if_icmp .ne 7, 3) := by decide +kernel
theorem dX3_init_69 : decode cX3_init 69 = .ok (.iconst 1, 1) := by decide +kernel
theorem dX3_init_70 : decode cX3_init 70 = .ok (.goto 4, 3) := by decide +kernel
theorem dX3_init_73 : decode cX3_init 73 = .ok (.iconst 0, 1) := by decide +kernel
theorem dX3_init_74 : decode cX3_init 74 = .ok (.bastore, 1) := by decide +kernel
theorem dX3_init_75 : decode cX3_init 75 = .ok (.iinc 1 1, 3) := by decide +kernel
theorem dX3_init_78 : decode cX3_init 78 = .ok (.goto (-48), 3) := by decide +kernel
theorem dX3_init_81 : decode cX3_init 81 = .ok (.return_, 1) := by decide +kernel
theorem dX3_stepMoves_0 : decode cX3_stepMoves 0 = .ok (.aload_n 0, 1) := by decide +kernel
theorem dX3_stepMoves_1 : decode cX3_stepMoves 1 = .ok (.getfield 9, 3) := by decide +kernel
theorem dX3_stepMoves_4 : decode cX3_stepMoves 4 = .ok (.iconst 0, 1) := by decide +kernel
theorem dX3_stepMoves_5 : decode cX3_stepMoves 5 = .ok (.aload_n 0, 1) := by decide +kernel
theorem dX3_stepMoves_6 : decode cX3_stepMoves 6 = .ok (.getfield 13, 3) := by decide +kernel
theorem dX3_stepMoves_9 : decode cX3_stepMoves 9 = .ok (.iconst 0, 1) := by decide +kernel
theorem dX3_stepMoves_10 : decode cX3_stepMoves 10 = .ok (.bipush 36, 2) := by decide +kernel
theorem dX3_stepMoves_12 : decode cX3_stepMoves 12 = .ok (.invokestatic 20, 3) := by decide +kernel
theorem dX3_stepMoves_15 : decode cX3_stepMoves 15 = .ok (.iconst 0, 1) := by decide +kernel
theorem dX3_stepMoves_16 : decode cX3_stepMoves 16 = .ok (.istore_n 1, 1) := by decide +kernel
theorem dX3_stepMoves_17 : decode cX3_stepMoves 17 = .ok (.iconst 0, 1) := by decide +kernel
theorem dX3_stepMoves_18 : decode cX3_stepMoves 18 = .ok (.istore_n 2, 1) := by decide +kernel
theorem dX3_stepMoves_19 : decode cX3_stepMoves 19 = .ok (.iload_n 2, 1) := by decide +kernel
theorem dX3_stepMoves_20 : decode cX3_stepMoves 20 = .ok (.bipush 36, 2) := by decide +kernel
theorem dX3_stepMoves_22 : decode cX3_stepMoves 22 = .ok (.if_icmp .ge 54, 3) := by decide +kernel
theorem dX3_stepMoves_25 : decode cX3_stepMoves 25 = .ok (.aload_n 0, 1) := by decide +kernel
theorem dX3_stepMoves_26 : decode cX3_stepMoves 26 = .ok (.getfield 16, 3) := by decide +kernel
theorem dX3_stepMoves_29 : decode cX3_stepMoves 29 = .ok (.iload_n 2, 1) := by decide +kernel
theorem dX3_stepMoves_30 : decode cX3_stepMoves 30 = .ok (.baload, 1) := by decide +kernel
theorem dX3_stepMoves_31 : decode cX3_stepMoves 31 = .ok (.ifCond .ne 39, 3) := by decide +kernel
theorem dX3_stepMoves_34 : decode cX3_stepMoves 34 = .ok (.aload_n 0, 1) := by decide +kernel
theorem dX3_stepMoves_35 : decode cX3_stepMoves 35 = .ok (.getfield 9, 3) := by decide +kernel
theorem dX3_stepMoves_38 : decode cX3_stepMoves 38 = .ok (.iload_n 2, 1) := by decide +kernel
theorem dX3_stepMoves_39 : decode cX3_stepMoves 39 = .ok (.aload_n 0, 1) := by decide +kernel
theorem dX3_stepMoves_40 : decode cX3_stepMoves 40 = .ok (.iload_n 2, 1) := by decide +kernel
theorem dX3_stepMoves_41 : decode cX3_stepMoves 41 = .ok (.invokevirtual 26, 3) := by decide +kernel
theorem dX3_stepMoves_44 : decode cX3_stepMoves 44 = .ok (.iastore, 1) := by decide +kernel
theorem dX3_stepMoves_45 : decode cX3_stepMoves 45 = .ok (.iload_n 1, 1) := by decide +kernel
theorem dX3_stepMoves_46 : decode cX3_stepMoves 46 = .ok (.ifCond .ne 18, 3) := by decide +kernel
theorem dX3_stepMoves_49 : decode cX3_stepMoves 49 = .ok (.aload_n 0, 1) := by decide +kernel
theorem dX3_stepMoves_50 : decode cX3_stepMoves 50 = .ok (.getfield 9, 3) := by decide +kernel
theorem dX3_stepMoves_53 : decode cX3_stepMoves 53 = .ok (.iload_n 2, 1) := by decide +kernel
theorem dX3_stepMoves_54 : decode cX3_stepMoves 54 = .ok (.iaload, 1) := by decide +kernel
theorem dX3_stepMoves_55 : decode cX3_stepMoves 55 = .ok (.aload_n 0, 1) := by decide +kernel
theorem dX3_stepMoves_56 : decode cX3_stepMoves 56 = .ok (.getfield 13, 3) := by decide +kernel
theorem dX3_stepMoves_59 : decode cX3_stepMoves 59 = .ok (.iload_n 2, 1) := by decide +kernel
theorem dX3_stepMoves_60 : decode cX3_stepMoves 60 = .ok (.iaload, 1) := by decide +kernel
theorem dX3_stepMoves_61 : decode cX3_stepMoves 61 = .ok (.if_icmp .eq 7, 3) := by decide +kernel
theorem dX3_stepMoves_64 : decode cX3_stepMoves 64 = .ok (.iconst 1, 1) := by decide +kernel
theorem dX3_stepMoves_65 : decode cX3_stepMoves 65 = .ok (.goto 4, 3) := by decide +kernel
theorem dX3_stepMoves_68 : decode cX3_stepMoves 68 = .ok (.iconst 0, 1) := by decide +kernel
theorem dX3_stepMoves_69 : decode cX3_stepMoves 69 = .ok (.istore_n 1, 1) := by decide +kernel
theorem dX3_stepMoves_70 : decode cX3_stepMoves 70 = .ok (.iinc 2 1, 3) := by decide +kernel
theorem dX3_stepMoves_73 : decode cX3_stepMoves 73 = .ok (.goto (-54), 3) := by decide +kernel
theorem dX3_stepMoves_76 : decode cX3_stepMoves 76 = .ok (.iload_n 1, 1) := by decide +kernel
theorem dX3_stepMoves_77 : decode cX3_stepMoves 77 = .ok (.ireturn, 1) := by decide +kernel
theorem dX3_pulledHeight_0 : decode cX3_pulledHeight 0 = .ok (.iload_n 1, 1) := by decide +kernel
theorem dX3_pulledHeight_1 : decode cX3_pulledHeight 1 = .ok (.bipush 6, 2) := by decide +kernel
theorem dX3_pulledHeight_3 : decode cX3_pulledHeight 3 = .ok (.idiv, 1) := by decide +kernel
theorem dX3_pulledHeight_4 : decode cX3_pulledHeight 4 = .ok (.istore_n 2, 1) := by decide +kernel
theorem dX3_pulledHeight_5 : decode cX3_pulledHeight 5 = .ok (.iload_n 1, 1) := by decide +kernel
theorem dX3_pulledHeight_6 : decode cX3_pulledHeight 6 = .ok (.bipush 6, 2) := by decide +kernel
theorem dX3_pulledHeight_8 : decode cX3_pulledHeight 8 = .ok (.irem, 1) := by decide +kernel
theorem dX3_pulledHeight_9 : decode cX3_pulledHeight 9 = .ok (.istore_n 3, 1) := by decide +kernel
theorem dX3_pulledHeight_10 : decode cX3_pulledHeight 10 = .ok (.iconst 0, 1) := by decide +kernel
theorem dX3_pulledHeight_11 : decode cX3_pulledHeight 11 = .ok (.istore 4, 2) := by decide +kernel
theorem dX3_pulledHeight_13 : decode cX3_pulledHeight 13 = .ok (.iconst 0, 1) := by decide +kernel
theorem dX3_pulledHeight_14 : decode cX3_pulledHeight 14 = .ok (.istore 5, 2) := by decide +kernel
theorem dX3_pulledHeight_16 : decode cX3_pulledHeight 16 = .ok (.iconst 0, 1) := by decide +kernel
theorem dX3_pulledHeight_17 : decode cX3_pulledHeight 17 = .ok (.istore 6, 2) := by decide +kernel
theorem dX3_pulledHeight_19 : decode cX3_pulledHeight 19 = .ok (.iconst 0, 1) := by decide +kernel
theorem dX3_pulledHeight_20 : decode cX3_pulledHeight 20 = .ok (.istore 7, 2) := by decide +kernel
theorem dX3_pulledHeight_22 : decode cX3_pulledHeight 22 = .ok (.iload 7, 2) := by decide +kernel
theorem dX3_pulledHeight_24 : decode cX3_pulledHeight 24 = .ok (.iconst 4, 1) := by decide +kernel
theorem dX3_pulledHeight_25 : decode cX3_pulledHeight 25 = .ok (.if_icmp .ge 132, 3) := by decide +kernel
theorem dX3_pulledHeight_28 : decode cX3_pulledHeight 28 = .ok (.iload 7, 2) := by decide +kernel
theorem dX3_pulledHeight_30 : decode cX3_pulledHeight 30 = .ok (.ifCond .ne 9, 3) := by decide +kernel
theorem dX3_pulledHeight_33 : decode cX3_pulledHeight 33 = .ok (.iload_n 2, 1) := by decide +kernel
theorem dX3_pulledHeight_34 : decode cX3_pulledHeight 34 = .ok (.iconst 1, 1) := by decide +kernel
theorem dX3_pulledHeight_35 : decode cX3_pulledHeight 35 = .ok (.isub, 1) := by decide +kernel
theorem dX3_pulledHeight_36 : decode cX3_pulledHeight 36 = .ok (.goto 16, 3) := by decide +kernel
theorem dX3_pulledHeight_39 : decode cX3_pulledHeight 39 = .ok (.iload 7, 2) := by decide +kernel
theorem dX3_pulledHeight_41 : decode cX3_pulledHeight 41 = .ok (.iconst 1, 1) := by decide +kernel
theorem dX3_pulledHeight_42 : decode cX3_pulledHeight 42 = .ok (.if_icmp .ne 9, 3) := by decide +kernel
theorem dX3_pulledHeight_45 : decode cX3_pulledHeight 45 = .ok (.iload_n 2, 1) := by decide +kernel
theorem dX3_pulledHeight_46 : decode cX3_pulledHeight 46 = .ok (.iconst 1, 1) := by decide +kernel
theorem dX3_pulledHeight_47 : decode cX3_pulledHeight 47 = .ok (.iadd, 1) := by decide +kernel
theorem dX3_pulledHeight_48 : decode cX3_pulledHeight 48 = .ok (.goto 4, 3) := by decide +kernel
theorem dX3_pulledHeight_51 : decode cX3_pulledHeight 51 = .ok (.iload_n 2, 1) := by decide +kernel
theorem dX3_pulledHeight_52 : decode cX3_pulledHeight 52 = .ok (.istore 8, 2) := by decide +kernel
theorem dX3_pulledHeight_54 : decode cX3_pulledHeight 54 = .ok (.iload 7, 2) := by decide +kernel
theorem dX3_pulledHeight_56 : decode cX3_pulledHeight 56 = .ok (.iconst 2, 1) := by decide +kernel
theorem dX3_pulledHeight_57 : decode cX3_pulledHeight 57 = .ok (.if_icmp .ne 9, 3) := by decide +kernel
theorem dX3_pulledHeight_60 : decode cX3_pulledHeight 60 = .ok (.iload_n 3, 1) := by decide +kernel
theorem dX3_pulledHeight_61 : decode cX3_pulledHeight 61 = .ok (.iconst 1, 1) := by decide +kernel
theorem dX3_pulledHeight_62 : decode cX3_pulledHeight 62 = .ok (.isub, 1) := by decide +kernel
theorem dX3_pulledHeight_63 : decode cX3_pulledHeight 63 = .ok (.goto 16, 3) := by decide +kernel
theorem dX3_pulledHeight_66 : decode cX3_pulledHeight 66 = .ok (.iload 7, 2) := by decide +kernel
theorem dX3_pulledHeight_68 : decode cX3_pulledHeight 68 = .ok (.iconst 3, 1) := by decide +kernel
theorem dX3_pulledHeight_69 : decode cX3_pulledHeight 69 = .ok (.if_icmp .ne 9, 3) := by decide +kernel
theorem dX3_pulledHeight_72 : decode cX3_pulledHeight 72 = .ok (.iload_n 3, 1) := by decide +kernel
theorem dX3_pulledHeight_73 : decode cX3_pulledHeight 73 = .ok (.iconst 1, 1) := by decide +kernel
theorem dX3_pulledHeight_74 : decode cX3_pulledHeight 74 = .ok (.iadd, 1) := by decide +kernel
theorem dX3_pulledHeight_75 : decode cX3_pulledHeight 75 = .ok (.goto 4, 3) := by decide +kernel
theorem dX3_pulledHeight_78 : decode cX3_pulledHeight 78 = .ok (.iload_n 3, 1) := by decide +kernel
theorem dX3_pulledHeight_79 : decode cX3_pulledHeight 79 = .ok (.istore 9, 2) := by decide +kernel
theorem dX3_pulledHeight_81 : decode cX3_pulledHeight 81 = .ok (.iload 8, 2) := by decide +kernel
theorem dX3_pulledHeight_83 : decode cX3_pulledHeight 83 = .ok (.i2l, 1) := by decide +kernel
theorem dX3_pulledHeight_84 : decode cX3_pulledHeight 84 = .ok (.lconst 0, 1) := by decide +kernel
theorem dX3_pulledHeight_85 : decode cX3_pulledHeight 85 = .ok (.ldc2_w 30, 3) := by decide +kernel
theorem dX3_pulledHeight_88 : decode cX3_pulledHeight 88 = .ok (.invokestatic 32, 3) := by decide +kernel
theorem dX3_pulledHeight_91 : decode cX3_pulledHeight 91 = .ok (.ifCond .ne 60, 3) := by decide +kernel
theorem dX3_pulledHeight_94 : decode cX3_pulledHeight 94 = .ok (.iload 9, 2) := by decide +kernel
theorem dX3_pulledHeight_96 : decode cX3_pulledHeight 96 = .ok (.i2l, 1) := by decide +kernel
theorem dX3_pulledHeight_97 : decode cX3_pulledHeight 97 = .ok (.lconst 0, 1) := by decide +kernel
theorem dX3_pulledHeight_98 : decode cX3_pulledHeight 98 = .ok (.ldc2_w 30, 3) := by decide +kernel
theorem dX3_pulledHeight_101 : decode cX3_pulledHeight 101 = .ok (.invokestatic 32, 3) := by decide +kernel
theorem dX3_pulledHeight_104 : decode cX3_pulledHeight 104 = .ok (.ifCond .ne 47, 3) := by decide +kernel
theorem dX3_pulledHeight_107 : decode cX3_pulledHeight 107 = .ok (.aload_n 0, 1) := by decide +kernel
theorem dX3_pulledHeight_108 : decode cX3_pulledHeight 108 = .ok (.getfield 13, 3) := by decide +kernel
theorem dX3_pulledHeight_111 : decode cX3_pulledHeight 111 = .ok (.iload 8, 2) := by decide +kernel
theorem dX3_pulledHeight_113 : decode cX3_pulledHeight 113 = .ok (.bipush 6, 2) := by decide +kernel
theorem dX3_pulledHeight_115 : decode cX3_pulledHeight 115 = .ok (.imul, 1) := by decide +kernel
theorem dX3_pulledHeight_116 : decode cX3_pulledHeight 116 = .ok (.iload 9, 2) := by decide +kernel
theorem dX3_pulledHeight_118 : decode cX3_pulledHeight 118 = .ok (.iadd, 1) := by decide +kernel
theorem dX3_pulledHeight_119 : decode cX3_pulledHeight 119 = .ok (.iaload, 1) := by decide +kernel
theorem dX3_pulledHeight_120 : decode cX3_pulledHeight 120 = .ok (.istore 10, 2) := by decide +kernel
theorem dX3_pulledHeight_122 : decode cX3_pulledHeight 122 = .ok (.iload 5, 2) := by decide +kernel
theorem dX3_pulledHeight_124 : decode cX3_pulledHeight 124 = .ok (.ifCond .ne 8, 3) := by decide +kernel
theorem dX3_pulledHeight_127 : decode cX3_pulledHeight 127 = .ok (.iload 10, 2) := by decide +kernel
theorem dX3_pulledHeight_129 : decode cX3_pulledHeight 129 = .ok (.goto 10, 3) := by decide +kernel
theorem dX3_pulledHeight_132 : decode cX3_pulledHeight 132 = .ok (.iload 6, 2) := by decide +kernel
theorem dX3_pulledHeight_134 : decode cX3_pulledHeight 134 = .ok (.iload 10, 2) := by decide +kernel
theorem dX3_pulledHeight_136 : decode cX3_pulledHeight 136 = .ok (.invokestatic 38, 3) := by decide +kernel
theorem dX3_pulledHeight_139 : decode cX3_pulledHeight 139 = .ok (.istore 6, 2) := by decide +kernel
theorem dX3_pulledHeight_141 : decode cX3_pulledHeight 141 = .ok (.iload 4, 2) := by decide +kernel
theorem dX3_pulledHeight_143 : decode cX3_pulledHeight 143 = .ok (.iload 10, 2) := by decide +kernel
theorem dX3_pulledHeight_145 : decode cX3_pulledHeight 145 = .ok (.iadd, 1) := by decide +kernel
theorem dX3_pulledHeight_146 : decode cX3_pulledHeight 146 = .ok (.istore 4, 2) := by decide +kernel
theorem dX3_pulledHeight_148 : decode cX3_pulledHeight 148 = .ok (.iinc 5 1, 3) := by decide +kernel
theorem dX3_pulledHeight_151 : decode cX3_pulledHeight 151 = .ok (.iinc 7 1, 3) := by decide +kernel
theorem dX3_pulledHeight_154 : decode cX3_pulledHeight 154 = .ok (.goto (-132), 3) := by decide +kernel
theorem dX3_pulledHeight_157 : decode cX3_pulledHeight 157 = .ok (.iload 5, 2) := by decide +kernel
theorem dX3_pulledHeight_159 : decode cX3_pulledHeight 159 = .ok (.ifCond .ne 12, 3) := by decide +kernel
theorem dX3_pulledHeight_162 : decode cX3_pulledHeight 162 = .ok (.aload_n 0, 1) := by decide +kernel
theorem dX3_pulledHeight_163 : decode cX3_pulledHeight 163 = .ok (.getfield 13, 3) := by decide +kernel
theorem dX3_pulledHeight_166 : decode cX3_pulledHeight 166 = .ok (.iload_n 1, 1) := by decide +kernel
theorem dX3_pulledHeight_167 : decode cX3_pulledHeight 167 = .ok (.iaload, 1) := by decide +kernel
theorem dX3_pulledHeight_168 : decode cX3_pulledHeight 168 = .ok (.goto 20, 3) := by decide +kernel
theorem dX3_pulledHeight_171 : decode cX3_pulledHeight 171 = .ok (.iload 4, 2) := by decide +kernel
theorem dX3_pulledHeight_173 : decode cX3_pulledHeight 173 = .ok (.iload 5, 2) := by decide +kernel
theorem dX3_pulledHeight_175 : decode cX3_pulledHeight 175 = .ok (.invokestatic 44, 3) := by decide +kernel
theorem dX3_pulledHeight_178 : decode cX3_pulledHeight 178 = .ok (.aload_n 0, 1) := by decide +kernel
theorem dX3_pulledHeight_179 : decode cX3_pulledHeight 179 = .ok (.getfield 47, 3) := by decide +kernel
theorem dX3_pulledHeight_182 : decode cX3_pulledHeight 182 = .ok (.isub, 1) := by decide +kernel
theorem dX3_pulledHeight_183 : decode cX3_pulledHeight 183 = .ok (.iload 6, 2) := by decide +kernel
theorem dX3_pulledHeight_185 : decode cX3_pulledHeight 185 = .ok (.invokestatic 51, 3) := by decide +kernel
theorem dX3_pulledHeight_188 : decode cX3_pulledHeight 188 = .ok (.ireturn, 1) := by decide +kernel
theorem dX4_init_0 : decode cX4_init 0 = .ok (.aload_n 0, 1) := by decide +kernel
theorem dX4_init_1 : decode cX4_init 1 = .ok (.invokespecial 1, 3) := by decide +kernel
theorem dX4_init_4 : decode cX4_init 4 = .ok (.aload_n 0, 1) := by decide +kernel
theorem dX4_init_5 : decode cX4_init 5 = .ok (.aload_n 1, 1) := by decide +kernel
theorem dX4_init_6 : decode cX4_init 6 = .ok (.putfield 7, 3) := by decide +kernel
theorem dX4_init_9 : decode cX4_init 9 = .ok (.aload_n 0, 1) := by decide +kernel
theorem dX4_init_10 : decode cX4_init 10 = .ok (.iload_n 2, 1) := by decide +kernel
theorem dX4_init_11 : decode cX4_init 11 = .ok (.putfield 13, 3) := by decide +kernel
theorem dX4_init_14 : decode cX4_init 14 = .ok (.aload_n 0, 1) := by decide +kernel
theorem dX4_init_15 : decode cX4_init 15 = .ok (.iload_n 3, 1) := by decide +kernel
theorem dX4_init_16 : decode cX4_init 16 = .ok (.putfield 17, 3) := by decide +kernel
theorem dX4_init_19 : decode cX4_init 19 = .ok (.return_, 1) := by decide +kernel
theorem dX4_strengthNow_0 : decode cX4_strengthNow 0 = .ok (.aload_n 0, 1) := by decide +kernel
theorem dX4_strengthNow_1 : decode cX4_strengthNow 1 = .ok (.getfield 7, 3) := by decide +kernel
theorem dX4_strengthNow_4 : decode cX4_strengthNow 4 = .ok (.aload_n 0, 1) := by decide +kernel
theorem dX4_strengthNow_5 : decode cX4_strengthNow 5 = .ok (.getfield 17, 3) := by decide +kernel
theorem dX4_strengthNow_8 : decode cX4_strengthNow 8 = .ok (.invokevirtual 20, 3) := by decide +kernel
theorem dX4_strengthNow_11 : decode cX4_strengthNow 11 = .ok (.aload_n 0, 1) := by decide +kernel
theorem dX4_strengthNow_12 : decode cX4_strengthNow 12 = .ok (.getfield 13, 3) := by decide +kernel
theorem dX4_strengthNow_15 : decode cX4_strengthNow 15 = .ok (.i2l, 1) := by decide +kernel
theorem dX4_strengthNow_16 : decode cX4_strengthNow 16 = .ok (.lmul, 1) := by decide +kernel
theorem dX4_strengthNow_17 : decode cX4_strengthNow 17 = .ok (.lreturn, 1) := by decide +kernel
theorem dX5_init_0 : decode cX5_init 0 = .ok (.aload_n 0, 1) := by decide +kernel
theorem dX5_init_1 : decode cX5_init 1 = .ok (.invokespecial 1, 3) := by decide +kernel
theorem dX5_init_4 : decode cX5_init 4 = .ok (.aload_n 0, 1) := by decide +kernel
theorem dX5_init_5 : decode cX5_init 5 = .ok (.iconst 1, 1) := by decide +kernel
theorem dX5_init_6 : decode cX5_init 6 = .ok (.putfield 7, 3) := by decide +kernel
theorem dX5_init_9 : decode cX5_init 9 = .ok (.aload_n 0, 1) := by decide +kernel
theorem dX5_init_10 : decode cX5_init 10 = .ok (.lload_n 1, 1) := by decide +kernel
theorem dX5_init_11 : decode cX5_init 11 = .ok (.putfield 13, 3) := by decide +kernel
theorem dX5_init_14 : decode cX5_init 14 = .ok (.aload_n 0, 1) := by decide +kernel
theorem dX5_init_15 : decode cX5_init 15 = .ok (.iload_n 3, 1) := by decide +kernel
theorem dX5_init_16 : decode cX5_init 16 = .ok (.putfield 17, 3) := by decide +kernel
theorem dX5_init_19 : decode cX5_init 19 = .ok (.return_, 1) := by decide +kernel
theorem dX6_init_0 : decode cX6_init 0 = .ok (.aload_n 0, 1) := by decide +kernel
theorem dX6_init_1 : decode cX6_init 1 = .ok (.invokespecial 1, 3) := by decide +kernel
theorem dX6_init_4 : decode cX6_init 4 = .ok (.return_, 1) := by decide +kernel
theorem dX6_draftWith_0 : decode cX6_draftWith 0 = .ok (.ldc 7, 2) := by decide +kernel
theorem dX6_draftWith_2 : decode cX6_draftWith 2 = .ok (.ldc 8, 2) := by decide +kernel
theorem dX6_draftWith_4 : decode cX6_draftWith 4 = .ok (.iload_n 1, 1) := by decide +kernel
theorem dX6_draftWith_5 : decode cX6_draftWith 5 = .ok (.i2f, 1) := by decide +kernel
theorem dX6_draftWith_6 : decode cX6_draftWith 6 = .ok (.fmul, 1) := by decide +kernel
theorem dX6_draftWith_7 : decode cX6_draftWith 7 = .ok (.fsub, 1) := by decide +kernel
theorem dX6_draftWith_8 : decode cX6_draftWith 8 = .ok (.ldc 9, 2) := by decide +kernel
theorem dX6_draftWith_10 : decode cX6_draftWith 10 = .ok (.aload_n 0, 1) := by decide +kernel
theorem dX6_draftWith_11 : decode cX6_draftWith 11 = .ok (.getfield 10, 3) := by decide +kernel
theorem dX6_draftWith_14 : decode cX6_draftWith 14 = .ok (.i2f, 1) := by decide +kernel
theorem dX6_draftWith_15 : decode cX6_draftWith 15 = .ok (.fmul, 1) := by decide +kernel
theorem dX6_draftWith_16 : decode cX6_draftWith 16 = .ok (.fadd, 1) := by decide +kernel
theorem dX6_draftWith_17 : decode cX6_draftWith 17 = .ok (.freturn, 1) := by decide +kernel
theorem dX6_powerWith_0 : decode cX6_powerWith 0 = .ok (.ldc 16, 2) := by decide +kernel
theorem dX6_powerWith_2 : decode cX6_powerWith 2 = .ok (.fconst 1, 1) := by decide +kernel
theorem dX6_powerWith_3 : decode cX6_powerWith 3 = .ok (.aload_n 0, 1) := by decide +kernel
theorem dX6_powerWith_4 : decode cX6_powerWith 4 = .ok (.getfield 17, 3) := by decide +kernel
theorem dX6_powerWith_7 : decode cX6_powerWith 7 = .ok (.i2f, 1) := by decide +kernel
theorem dX6_powerWith_8 : decode cX6_powerWith 8 = .ok (.fadd, 1) := by decide +kernel
theorem dX6_powerWith_9 : decode cX6_powerWith 9 = .ok (.fdiv, 1) := by decide +kernel
theorem dX6_powerWith_10 : decode cX6_powerWith 10 = .ok (.fstore_n 3, 1) := by decide +kernel
theorem dX6_powerWith_11 : decode cX6_powerWith 11 = .ok (.aload_n 0, 1) := by decide +kernel
theorem dX6_powerWith_12 : decode cX6_powerWith 12 = .ok (.iload_n 1, 1) := by decide +kernel
theorem dX6_powerWith_13 : decode cX6_powerWith 13 = .ok (.invokevirtual 20, 3) := by decide +kernel
theorem dX6_powerWith_16 : decode cX6_powerWith 16 = .ok (.fload_n 3, 1) := by decide +kernel
theorem dX6_powerWith_17 : decode cX6_powerWith 17 = .ok (.fmul, 1) := by decide +kernel
theorem dX6_powerWith_18 : decode cX6_powerWith 18 = .ok (.iload_n 2, 1) := by decide +kernel
theorem dX6_powerWith_19 : decode cX6_powerWith 19 = .ok (.i2f, 1) := by decide +kernel
theorem dX6_powerWith_20 : decode cX6_powerWith 20 = .ok (.fmul, 1) := by decide +kernel
theorem dX6_powerWith_21 : decode cX6_powerWith 21 = .ok (.iload_n 2, 1) := by decide +kernel
theorem dX6_powerWith_22 : decode cX6_powerWith 22 = .ok (.i2f, 1) := by decide +kernel
theorem dX6_powerWith_23 : decode cX6_powerWith 23 = .ok (.fmul, 1) := by decide +kernel
theorem dX6_powerWith_24 : decode cX6_powerWith 24 = .ok (.freturn, 1) := by decide +kernel
theorem dX7_init_0 : decode cX7_init 0 = .ok (.aload_n 0, 1) := by decide +kernel
theorem dX7_init_1 : decode cX7_init 1 = .ok (.invokespecial 3, 3) := by decide +kernel
theorem dX7_init_4 : decode cX7_init 4 = .ok (.aload_n 0, 1) := by decide +kernel
theorem dX7_init_5 : decode cX7_init 5 = .ok (.aload_n 1, 1) := by decide +kernel
theorem dX7_init_6 : decode cX7_init 6 = .ok (.putfield 9, 3) := by decide +kernel
theorem dX7_init_9 : decode cX7_init 9 = .ok (.aload_n 0, 1) := by decide +kernel
theorem dX7_init_10 : decode cX7_init 10 = .ok (.aload_n 2, 1) := by decide +kernel
theorem dX7_init_11 : decode cX7_init 11 = .ok (.putfield 15, 3) := by decide +kernel
theorem dX7_init_14 : decode cX7_init 14 = .ok (.aload_n 0, 1) := by decide +kernel
theorem dX7_init_15 : decode cX7_init 15 = .ok (.iload_n 3, 1) := by decide +kernel
theorem dX7_init_16 : decode cX7_init 16 = .ok (.ifCond .ne 8, 3) := by decide +kernel
theorem dX7_init_19 : decode cX7_init 19 = .ok (.bipush 60, 2) := by decide +kernel
theorem dX7_init_21 : decode cX7_init 21 = .ok (.goto 15, 3) := by decide +kernel
theorem dX7_init_24 : decode cX7_init 24 = .ok (.iload_n 3, 1) := by decide +kernel
theorem dX7_init_25 : decode cX7_init 25 = .ok (.iconst 1, 1) := by decide +kernel
theorem dX7_init_26 : decode cX7_init 26 = .ok (.if_icmp .ne 8, 3) := by decide +kernel
theorem dX7_init_29 : decode cX7_init 29 = .ok (.bipush 80, 2) := by decide +kernel
theorem dX7_init_31 : decode cX7_init 31 = .ok (.goto 5, 3) := by decide +kernel
theorem dX7_init_34 : decode cX7_init 34 = .ok (.bipush 40, 2) := by decide +kernel
theorem dX7_init_36 : decode cX7_init 36 = .ok (.putfield 18, 3) := by decide +kernel
theorem dX7_init_39 : decode cX7_init 39 = .ok (.return_, 1) := by decide +kernel
theorem dX7_strengthNow_0 : decode cX7_strengthNow 0 = .ok (.aload_n 0, 1) := by decide +kernel
theorem dX7_strengthNow_1 : decode cX7_strengthNow 1 = .ok (.getfield 9, 3) := by decide +kernel
theorem dX7_strengthNow_4 : decode cX7_strengthNow 4 = .ok (.invokevirtual 22, 3) := by decide +kernel
theorem dX7_strengthNow_7 : decode cX7_strengthNow 7 = .ok (.aload_n 0, 1) := by decide +kernel
theorem dX7_strengthNow_8 : decode cX7_strengthNow 8 = .ok (.getfield 15, 3) := by decide +kernel
theorem dX7_strengthNow_11 : decode cX7_strengthNow 11 = .ok (.invokevirtual 22, 3) := by decide +kernel
theorem dX7_strengthNow_14 : decode cX7_strengthNow 14 = .ok (.invokestatic 28, 3) := by decide +kernel
theorem dX7_strengthNow_17 : decode cX7_strengthNow 17 = .ok (.aload_n 0, 1) := by decide +kernel
theorem dX7_strengthNow_18 : decode cX7_strengthNow 18 = .ok (.getfield 18, 3) := by decide +kernel
theorem dX7_strengthNow_21 : decode cX7_strengthNow 21 = .ok (.i2l, 1) := by decide +kernel
theorem dX7_strengthNow_22 : decode cX7_strengthNow 22 = .ok (.lmul, 1) := by decide +kernel
theorem dX7_strengthNow_23 : decode cX7_strengthNow 23 = .ok (.ldc2_w 34, 3) := by decide +kernel
theorem dX7_strengthNow_26 : decode cX7_strengthNow 26 = .ok (.ldiv, 1) := by decide +kernel
theorem dX7_strengthNow_27 : decode cX7_strengthNow 27 = .ok (.lreturn, 1) := by decide +kernel
theorem dX7_passOnLoad_0 : decode cX7_passOnLoad 0 = .ok (.aload_n 0, 1) := by decide +kernel
theorem dX7_passOnLoad_1 : decode cX7_passOnLoad 1 = .ok (.invokevirtual 36, 3) := by decide +kernel
theorem dX7_passOnLoad_4 : decode cX7_passOnLoad 4 = .ok (.lstore_n 1, 1) := by decide +kernel
theorem dX7_passOnLoad_5 : decode cX7_passOnLoad 5 = .ok (.aload_n 0, 1) := by decide +kernel
theorem dX7_passOnLoad_6 : decode cX7_passOnLoad 6 = .ok (.getfield 15, 3) := by decide +kernel
theorem dX7_passOnLoad_9 : decode cX7_passOnLoad 9 = .ok (.aload_n 0, 1) := by decide +kernel
theorem dX7_passOnLoad_10 : decode cX7_passOnLoad 10 = .ok (.getfield 15, 3) := by decide +kernel
theorem dX7_passOnLoad_13 : decode cX7_passOnLoad 13 = .ok (.getfield 37, 3) := by decide +kernel
theorem dX7_passOnLoad_16 : decode cX7_passOnLoad 16 = .ok (.aload_n 0, 1) := by decide +kernel
theorem dX7_passOnLoad_17 : decode cX7_passOnLoad 17 = .ok (.getfield 9, 3) := by decide +kernel
theorem dX7_passOnLoad_20 : decode cX7_passOnLoad 20 = .ok (.getfield 37, 3) := by decide +kernel
theorem dX7_passOnLoad_23 : decode cX7_passOnLoad 23 = .ok (.lload_n 1, 1) := by decide +kernel
theorem dX7_passOnLoad_24 : decode cX7_passOnLoad 24 = .ok (.invokestatic 28, 3) := by decide +kernel
theorem dX7_passOnLoad_27 : decode cX7_passOnLoad 27 = .ok (.invokestatic 41, 3) := by decide +kernel
theorem dX7_passOnLoad_30 : decode cX7_passOnLoad 30 = .ok (.putfield 37, 3) := by decide +kernel
theorem dX7_passOnLoad_33 : decode cX7_passOnLoad 33 = .ok (.aload_n 0, 1) := by decide +kernel
theorem dX7_passOnLoad_34 : decode cX7_passOnLoad 34 = .ok (.getfield 9, 3) := by decide +kernel
theorem dX7_passOnLoad_37 : decode cX7_passOnLoad 37 = .ok (.aload_n 0, 1) := by decide +kernel
theorem dX7_passOnLoad_38 : decode cX7_passOnLoad 38 = .ok (.getfield 9, 3) := by decide +kernel
theorem dX7_passOnLoad_41 : decode cX7_passOnLoad 41 = .ok (.getfield 37, 3) := by decide +kernel
theorem dX7_passOnLoad_44 : decode cX7_passOnLoad 44 = .ok (.aload_n 0, 1) := by decide +kernel
theorem dX7_passOnLoad_45 : decode cX7_passOnLoad 45 = .ok (.getfield 15, 3) := by decide +kernel
theorem dX7_passOnLoad_48 : decode cX7_passOnLoad 48 = .ok (.getfield 37, 3) := by decide +kernel
theorem dX7_passOnLoad_51 : decode cX7_passOnLoad 51 = .ok (.lload_n 1, 1) := by decide +kernel
theorem dX7_passOnLoad_52 : decode cX7_passOnLoad 52 = .ok (.invokestatic 28, 3) := by decide +kernel
theorem dX7_passOnLoad_55 : decode cX7_passOnLoad 55 = .ok (.invokestatic 41, 3) := by decide +kernel
theorem dX7_passOnLoad_58 : decode cX7_passOnLoad 58 = .ok (.putfield 37, 3) := by decide +kernel
theorem dX7_passOnLoad_61 : decode cX7_passOnLoad 61 = .ok (.return_, 1) := by decide +kernel
theorem dJ9_floorDiv_7cf53_0 : decode cJ9_floorDiv_7cf53 0 = .ok (.iload_n 0, 1) := by decide +kernel
theorem dJ9_floorDiv_7cf53_1 : decode cJ9_floorDiv_7cf53 1 = .ok (.iload_n 1, 1) := by decide +kernel
theorem dJ9_floorDiv_7cf53_2 : decode cJ9_floorDiv_7cf53 2 = .ok (.idiv, 1) := by decide +kernel
theorem dJ9_floorDiv_7cf53_3 : decode cJ9_floorDiv_7cf53 3 = .ok (.istore_n 2, 1) := by decide +kernel
theorem dJ9_floorDiv_7cf53_4 : decode cJ9_floorDiv_7cf53 4 = .ok (.iload_n 0, 1) := by decide +kernel
theorem dJ9_floorDiv_7cf53_5 : decode cJ9_floorDiv_7cf53 5 = .ok (.iload_n 1, 1) := by decide +kernel
theorem dJ9_floorDiv_7cf53_6 : decode cJ9_floorDiv_7cf53 6 = .ok (.ixor, 1) := by decide +kernel
theorem dJ9_floorDiv_7cf53_7 : decode cJ9_floorDiv_7cf53 7 = .ok (.ifCond .ge 14, 3) := by decide +kernel
theorem dJ9_floorDiv_7cf53_10 : decode cJ9_floorDiv_7cf53 10 = .ok (.iload_n 2, 1) := by decide +kernel
theorem dJ9_floorDiv_7cf53_11 : decode cJ9_floorDiv_7cf53 11 = .ok (.iload_n 1, 1) := by decide +kernel
theorem dJ9_floorDiv_7cf53_12 : decode cJ9_floorDiv_7cf53 12 = .ok (.imul, 1) := by decide +kernel
theorem dJ9_floorDiv_7cf53_13 : decode cJ9_floorDiv_7cf53 13 = .ok (.iload_n 0, 1) := by decide +kernel
theorem dJ9_floorDiv_7cf53_14 : decode cJ9_floorDiv_7cf53 14 = .ok (.if_icmp .eq 7, 3) := by decide +kernel
theorem dJ9_floorDiv_7cf53_17 : decode cJ9_floorDiv_7cf53 17 = .ok (.iload_n 2, 1) := by decide +kernel
theorem dJ9_floorDiv_7cf53_18 : decode cJ9_floorDiv_7cf53 18 = .ok (.iconst 1, 1) := by decide +kernel
theorem dJ9_floorDiv_7cf53_19 : decode cJ9_floorDiv_7cf53 19 = .ok (.isub, 1) := by decide +kernel
theorem dJ9_floorDiv_7cf53_20 : decode cJ9_floorDiv_7cf53 20 = .ok (.ireturn, 1) := by decide +kernel
theorem dJ9_floorDiv_7cf53_21 : decode cJ9_floorDiv_7cf53 21 = .ok (.iload_n 2, 1) := by decide +kernel
theorem dJ9_floorDiv_7cf53_22 : decode cJ9_floorDiv_7cf53 22 = .ok (.ireturn, 1) := by decide +kernel
theorem dJ9_max_7cf53_0 : decode cJ9_max_7cf53 0 = .ok (.iload_n 0, 1) := by decide +kernel
theorem dJ9_max_7cf53_1 : decode cJ9_max_7cf53 1 = .ok (.iload_n 1, 1) := by decide +kernel
theorem dJ9_max_7cf53_2 : decode cJ9_max_7cf53 2 = .ok (.if_icmp .lt 7, 3) := by decide +kernel
theorem dJ9_max_7cf53_5 : decode cJ9_max_7cf53 5 = .ok (.iload_n 0, 1) := by decide +kernel
theorem dJ9_max_7cf53_6 : decode cJ9_max_7cf53 6 = .ok (.goto 4, 3) := by decide +kernel
theorem dJ9_max_7cf53_9 : decode cJ9_max_7cf53 9 = .ok (.iload_n 1, 1) := by decide +kernel
theorem dJ9_max_7cf53_10 : decode cJ9_max_7cf53 10 = .ok (.ireturn, 1) := by decide +kernel
theorem dJ9_max_f86c9_0 : decode cJ9_max_f86c9 0 = .ok (.lload_n 0, 1) := by decide +kernel
theorem dJ9_max_f86c9_1 : decode cJ9_max_f86c9 1 = .ok (.lload_n 2, 1) := by decide +kernel
theorem dJ9_max_f86c9_2 : decode cJ9_max_f86c9 2 = .ok (.lcmp, 1) := by decide +kernel
theorem dJ9_max_f86c9_3 : decode cJ9_max_f86c9 3 = .ok (.ifCond .lt 7, 3) := by decide +kernel
theorem dJ9_max_f86c9_6 : decode cJ9_max_f86c9 6 = .ok (.lload_n 0, 1) := by decide +kernel
theorem dJ9_max_f86c9_7 : decode cJ9_max_f86c9 7 = .ok (.goto 4, 3) := by decide +kernel
theorem dJ9_max_f86c9_10 : decode cJ9_max_f86c9 10 = .ok (.lload_n 2, 1) := by decide +kernel
theorem dJ9_max_f86c9_11 : decode cJ9_max_f86c9 11 = .ok (.lreturn, 1) := by decide +kernel
theorem dJ9_min_7cf53_0 : decode cJ9_min_7cf53 0 = .ok (.iload_n 0, 1) := by decide +kernel
theorem dJ9_min_7cf53_1 : decode cJ9_min_7cf53 1 = .ok (.iload_n 1, 1) := by decide +kernel
theorem dJ9_min_7cf53_2 : decode cJ9_min_7cf53 2 = .ok (.if_icmp .gt 7, 3) := by decide +kernel
theorem dJ9_min_7cf53_5 : decode cJ9_min_7cf53 5 = .ok (.iload_n 0, 1) := by decide +kernel
theorem dJ9_min_7cf53_6 : decode cJ9_min_7cf53 6 = .ok (.goto 4, 3) := by decide +kernel
theorem dJ9_min_7cf53_9 : decode cJ9_min_7cf53 9 = .ok (.iload_n 1, 1) := by decide +kernel
theorem dJ9_min_7cf53_10 : decode cJ9_min_7cf53 10 = .ok (.ireturn, 1) := by decide +kernel
theorem dJ9_min_f86c9_0 : decode cJ9_min_f86c9 0 = .ok (.lload_n 0, 1) := by decide +kernel
theorem dJ9_min_f86c9_1 : decode cJ9_min_f86c9 1 = .ok (.lload_n 2, 1) := by decide +kernel
theorem dJ9_min_f86c9_2 : decode cJ9_min_f86c9 2 = .ok (.lcmp, 1) := by decide +kernel
theorem dJ9_min_f86c9_3 : decode cJ9_min_f86c9 3 = .ok (.ifCond .gt 7, 3) := by decide +kernel
theorem dJ9_min_f86c9_6 : decode cJ9_min_f86c9 6 = .ok (.lload_n 0, 1) := by decide +kernel
theorem dJ9_min_f86c9_7 : decode cJ9_min_f86c9 7 = .ok (.goto 4, 3) := by decide +kernel
theorem dJ9_min_f86c9_10 : decode cJ9_min_f86c9 10 = .ok (.lload_n 2, 1) := by decide +kernel
theorem dJ9_min_f86c9_11 : decode cJ9_min_f86c9 11 = .ok (.lreturn, 1) := by decide +kernel
end
section
theorem dX8_init_0 : decode cX8_init 0 = .ok (.aload_n 0, 1) := by decide +kernel
theorem dX8_init_1 : decode cX8_init 1 = .ok (.invokespecial 1, 3) := by decide +kernel
theorem dX8_init_4 : decode cX8_init 4 = .ok (.aload_n 0, 1) := by decide +kernel
theorem dX8_init_5 : decode cX8_init 5 = .ok (.bipush 6, 2) := by decide +kernel
theorem dX8_init_7 : decode cX8_init 7 = .ok (.anewarray 9, 3) := by decide +kernel
theorem dX8_init_10 : decode cX8_init 10 = .ok (.putfield 11, 3) := by decide +kernel
theorem dX8_init_13 : decode cX8_init 13 = .ok (.aload_n 0, 1) := by decide +kernel
theorem dX8_init_14 : decode cX8_init 14 = .ok (.bipush 12, 2) := by decide +kernel
theorem dX8_init_16 : decode cX8_init 16 = .ok (.anewarray 15, 3) := by decide +kernel
theorem dX8_init_19 : decode cX8_init 19 = .ok (.putfield 17, 3) := by decide +kernel
theorem dX8_init_22 : decode cX8_init 22 = .ok (.aload_n 0, 1) := by decide +kernel
theorem dX8_init_23 : decode cX8_init 23 = .ok (.bipush 30, 2) := by decide +kernel
theorem dX8_init_25 : decode cX8_init 25 = .ok (.anewarray 21, 3) := by decide +kernel
theorem dX8_init_28 : decode cX8_init 28 = .ok (.putfield 23, 3) := by decide +kernel
theorem dX8_init_31 : decode cX8_init 31 = .ok (.aload_n 0, 1) := by decide +kernel
theorem dX8_init_32 : decode cX8_init 32 = .ok (.new 27, 3) := by decide +kernel
theorem dX8_init_35 : decode cX8_init 35 = .ok (.dup, 1) := by decide +kernel
theorem dX8_init_36 : decode cX8_init 36 = .ok (.invokespecial 29, 3) := by decide +kernel
theorem dX8_init_39 : decode cX8_init 39 = .ok (.putfield 30, 3) := by decide +kernel
theorem dX8_init_42 : decode cX8_init 42 = .ok (.aload_n 0, 1) := by decide +kernel
theorem dX8_init_43 : decode cX8_init 43 = .ok (.bipush 8, 2) := by decide +kernel
theorem dX8_init_45 : decode cX8_init 45 = .ok (.anewarray 34, 3) := by decide +kernel
theorem dX8_init_48 : decode cX8_init 48 = .ok (.putfield 36, 3) := by decide +kernel
theorem dX8_init_51 : decode cX8_init 51 = .ok (.aload_n 0, 1) := by decide +kernel
theorem dX8_init_52 : decode cX8_init 52 = .ok (.new 40, 3) := by decide +kernel
theorem dX8_init_55 : decode cX8_init 55 = .ok (.dup, 1) := by decide +kernel
theorem dX8_init_56 : decode cX8_init 56 = .ok (.invokespecial 42, 3) := by decide +kernel
theorem dX8_init_59 : decode cX8_init 59 = .ok (.putfield 43, 3) := by decide +kernel
theorem dX8_init_62 : decode cX8_init 62 = .ok (.aload_n 0, 1) := by decide +kernel
theorem dX8_init_63 : decode cX8_init 63 = .ok (.bipush 6, 2) := by decide +kernel
theorem dX8_init_65 : decode cX8_init 65 = .ok (.anewarray 47, 3) := by decide +kernel
theorem dX8_init_68 : decode cX8_init 68 = .ok (.putfield 49, 3) := by decide +kernel
theorem dX8_init_71 : decode cX8_init 71 = .ok (.aload_n 0, 1) := by decide +kernel
theorem dX8_init_72 : decode cX8_init 72 = .ok (.new 53, 3) := by decide +kernel
theorem dX8_init_75 : decode cX8_init 75 = .ok (.dup, 1) := by decide +kernel
theorem dX8_init_76 : decode cX8_init 76 = .ok (.invokespecial 55, 3) := by decide +kernel
theorem dX8_init_79 : decode cX8_init 79 = .ok (.putfield 56, 3) := by decide +kernel
theorem dX8_init_82 : decode cX8_init 82 = .ok (.return_, 1) := by decide +kernel
theorem dX8_isOutside_0 : decode cX8_isOutside 0 = .ok (.lload_n 0, 1) := by decide +kernel
theorem dX8_isOutside_1 : decode cX8_isOutside 1 = .ok (.lload_n 2, 1) := by decide +kernel
theorem dX8_isOutside_2 : decode cX8_isOutside 2 = .ok (.lcmp, 1) := by decide +kernel
theorem dX8_isOutside_3 : decode cX8_isOutside 3 = .ok (.ifCond .lt 10, 3) := by decide +kernel
theorem dX8_isOutside_6 : decode cX8_isOutside 6 = .ok (.lload_n 0, 1) := by decide +kernel
theorem dX8_isOutside_7 : decode cX8_isOutside 7 = .ok (.lload 4, 2) := by decide +kernel
theorem dX8_isOutside_9 : decode cX8_isOutside 9 = .ok (.lcmp, 1) := by decide +kernel
theorem dX8_isOutside_10 : decode cX8_isOutside 10 = .ok (.ifCond .le 7, 3) := by decide +kernel
theorem dX8_isOutside_13 : decode cX8_isOutside 13 = .ok (.iconst 1, 1) := by decide +kernel
theorem dX8_isOutside_14 : decode cX8_isOutside 14 = .ok (.goto 4, 3) := by decide +kernel
theorem dX8_isOutside_17 : decode cX8_isOutside 17 = .ok (.iconst 0, 1) := by decide +kernel
theorem dX8_isOutside_18 : decode cX8_isOutside 18 = .ok (.ireturn, 1) := by decide +kernel
theorem dX8_lot_0 : decode cX8_lot 0 = .ok (.iload_n 1, 1) := by decide +kernel
theorem dX8_lot_1 : decode cX8_lot 1 = .ok (.i2l, 1) := by decide +kernel
theorem dX8_lot_2 : decode cX8_lot 2 = .ok (.lconst 1, 1) := by decide +kernel
theorem dX8_lot_3 : decode cX8_lot 3 = .ok (.ldc2_w 60, 3) := by decide +kernel
theorem dX8_lot_6 : decode cX8_lot 6 = .ok (.invokestatic 62, 3) := by decide +kernel
theorem dX8_lot_9 : decode cX8_lot 9 = .ok (.ifCond .ne 27, 3) := by decide +kernel
theorem dX8_lot_12 : decode cX8_lot 12 = .ok (.iload_n 2, 1) := by decide +kernel
theorem dX8_lot_13 : decode cX8_lot 13 = .ok (.i2l, 1) := by decide +kernel
theorem dX8_lot_14 : decode cX8_lot 14 = .ok (.lconst 1, 1) := by decide +kernel
theorem dX8_lot_15 : decode cX8_lot 15 = .ok (.ldc2_w 60, 3) := by decide +kernel
theorem dX8_lot_18 : decode cX8_lot 18 = .ok (.invokestatic 62, 3) := by decide +kernel
theorem dX8_lot_21 : decode cX8_lot 21 = .ok (.ifCond .ne 15, 3) := by decide +kernel
theorem dX8_lot_24 : decode cX8_lot 24 = .ok (.iload_n 3, 1) := by decide +kernel
theorem dX8_lot_25 : decode cX8_lot 25 = .ok (.i2l, 1) := by decide +kernel
theorem dX8_lot_26 : decode cX8_lot 26 = .ok (.lconst 1, 1) := by decide +kernel
theorem dX8_lot_27 : decode cX8_lot 27 = .ok (.ldc2_w 60, 3) := by decide +kernel
theorem dX8_lot_30 : decode cX8_lot 30 = .ok (.invokestatic 62, 3) := by decide +kernel
theorem dX8_lot_33 : decode cX8_lot 33 = .ok (.ifCond .eq 13, 3) := by decide +kernel
theorem dX8_lot_36 : decode cX8_lot 36 = .ok (.new 66, 3) := by decide +kernel
theorem dX8_lot_39 : decode cX8_lot 39 = .ok (.dup, 1) := by decide +kernel
theorem dX8_lot_40 : decode cX8_lot 40 = .ok (.ldc 68, 2) := by decide +kernel
theorem dX8_lot_42 : decode cX8_lot 42 = .ok (.invokespecial 70, 3) := by decide +kernel
theorem dX8_lot_45 : decode cX8_lot 45 = .ok (.athrow, 1) := by decide +kernel
theorem dX8_lot_46 : decode cX8_lot 46 = .ok (.aload_n 0, 1) := by decide +kernel
theorem dX8_lot_47 : decode cX8_lot 47 = .ok (.getfield 73, 3) := by decide +kernel
theorem dX8_lot_50 : decode cX8_lot 50 = .ok (.aload_n 0, 1) := by decide +kernel
theorem dX8_lot_51 : decode cX8_lot 51 = .ok (.getfield 11, 3) := by decide +kernel
theorem dX8_lot_54 : decode cX8_lot 54 = .ok (.arraylength, 1) := by decide +kernel
theorem dX8_lot_55 : decode cX8_lot 55 = .ok (.if_icmp .lt 13, 3) := by decide +kernel
theorem dX8_lot_58 : decode cX8_lot 58 = .ok (.new 77, 3) := by decide +kernel
theorem dX8_lot_61 : decode cX8_lot 61 = .ok (.dup, 1) := by decide +kernel
theorem dX8_lot_62 : decode cX8_lot 62 = .ok (.ldc 79, 2) := by decide +kernel
theorem dX8_lot_64 : decode cX8_lot 64 = .ok (.invokespecial 81, 3) := by decide +kernel
theorem dX8_lot_67 : decode cX8_lot 67 = .ok (.athrow, 1) := by decide +kernel
theorem dX8_lot_68 : decode cX8_lot 68 = .ok (.aload_n 0, 1) := by decide +kernel
theorem dX8_lot_69 : decode cX8_lot 69 = .ok (.getfield 11, 3) := by decide +kernel
theorem dX8_lot_72 : decode cX8_lot 72 = .ok (.aload_n 0, 1) := by decide +kernel
theorem dX8_lot_73 : decode cX8_lot 73 = .ok (.getfield 73, 3) := by decide +kernel
theorem dX8_lot_76 : decode cX8_lot 76 = .ok (.new 9, 3) := by decide +kernel
theorem dX8_lot_79 : decode cX8_lot 79 = .ok (.dup, 1) := by decide +kernel
theorem dX8_lot_80 : decode cX8_lot 80 = .ok (.iload_n 1, 1) := by decide +kernel
theorem dX8_lot_81 : decode cX8_lot 81 = .ok (.iload_n 2, 1) := by decide +kernel
theorem dX8_lot_82 : decode cX8_lot 82 = .ok (.iload_n 3, 1) := by decide +kernel
theorem dX8_lot_83 : decode cX8_lot 83 = .ok (.invokespecial 82, 3) := by decide +kernel
theorem dX8_lot_86 : decode cX8_lot 86 = .ok (.aastore, 1) := by decide +kernel
theorem dX8_lot_87 : decode cX8_lot 87 = .ok (.aload_n 0, 1) := by decide +kernel
theorem dX8_lot_88 : decode cX8_lot 88 = .ok (.dup, 1) := by decide +kernel
theorem dX8_lot_89 : decode cX8_lot 89 = .ok (.getfield 73, 3) := by decide +kernel
theorem dX8_lot_92 : decode cX8_lot 92 = .ok (.dup_x1, 1) := by decide +kernel
theorem dX8_lot_93 : decode cX8_lot 93 = .ok (.iconst 1, 1) := by decide +kernel
theorem dX8_lot_94 : decode cX8_lot 94 = .ok (.iadd, 1) := by decide +kernel
theorem dX8_lot_95 : decode cX8_lot 95 = .ok (.putfield 73, 3) := by decide +kernel
theorem dX8_lot_98 : decode cX8_lot 98 = .ok (.ireturn, 1) := by decide +kernel
theorem dX8_sun_0 : decode cX8_sun 0 = .ok (.aload_n 0, 1) := by decide +kernel
theorem dX8_sun_1 : decode cX8_sun 1 = .ok (.iload_n 1, 1) := by decide +kernel
theorem dX8_sun_2 : decode cX8_sun 2 = .ok (.invokevirtual 85, 3) := by decide +kernel
theorem dX8_sun_5 : decode cX8_sun 5 = .ok (.astore_n 3, 1) := by decide +kernel
theorem dX8_sun_6 : decode cX8_sun 6 = .ok (.aload_n 3, 1) := by decide +kernel
theorem dX8_sun_7 : decode cX8_sun 7 = .ok (.ifnonnull 13, 3) := by decide +kernel
theorem dX8_sun_10 : decode cX8_sun 10 = .ok (.new 89, 3) := by decide +kernel
theorem dX8_sun_13 : decode cX8_sun 13 = .ok (.dup, 1) := by decide +kernel
theorem dX8_sun_14 : decode cX8_sun 14 = .ok (.ldc 91, 2) := by decide +kernel
theorem dX8_sun_16 : decode cX8_sun 16 = .ok (.invokespecial 93, 3) := by decide +kernel
theorem dX8_sun_19 : decode cX8_sun 19 = .ok (.athrow, 1) := by decide +kernel
theorem dX8_sun_20 : decode cX8_sun 20 = .ok (.iload_n 2, 1) := by decide +kernel
theorem dX8_sun_21 : decode cX8_sun 21 = .ok (.i2l, 1) := by decide +kernel
theorem dX8_sun_22 : decode cX8_sun 22 = .ok (.lconst 1, 1) := by decide +kernel
theorem dX8_sun_23 : decode cX8_sun 23 = .ok (.ldc2_w 94, 3) := by decide +kernel
theorem dX8_sun_26 : decode cX8_sun 26 = .ok (.invokestatic 62, 3) := by decide +kernel
theorem dX8_sun_29 : decode cX8_sun 29 = .ok (.ifCond .eq 13, 3) := by decide +kernel
theorem dX8_sun_32 : decode cX8_sun 32 = .ok (.new 66, 3) := by decide +kernel
theorem dX8_sun_35 : decode cX8_sun 35 = .ok (.dup, 1) := by decide +kernel
theorem dX8_sun_36 : decode cX8_sun 36 = .ok (.ldc 96, 2) := by decide +kernel
theorem dX8_sun_38 : decode cX8_sun 38 = .ok (.invokespecial 70, 3) := by decide +kernel
theorem dX8_sun_41 : decode cX8_sun 41 = .ok (.athrow, 1) := by decide +kernel
theorem dX8_sun_42 : decode cX8_sun 42 = .ok (.aload_n 3, 1) := by decide +kernel
theorem dX8_sun_43 : decode cX8_sun 43 = .ok (.aload_n 3, 1) := by decide +kernel
theorem dX8_sun_44 : decode cX8_sun 44 = .ok (.getfield 98, 3) := by decide +kernel
theorem dX8_sun_47 : decode cX8_sun 47 = .ok (.iload_n 2, 1) := by decide +kernel
theorem dX8_sun_48 : decode cX8_sun 48 = .ok (.iadd, 1) := by decide +kernel
theorem dX8_sun_49 : decode cX8_sun 49 = .ok (.ldc 101, 2) := by decide +kernel
theorem dX8_sun_51 : decode cX8_sun 51 = .ok (.invokestatic 102, 3) := by decide +kernel
theorem dX8_sun_54 : decode cX8_sun 54 = .ok (.putfield 98, 3) := by decide +kernel
theorem dX8_sun_57 : decode cX8_sun 57 = .ok (.aload_n 3, 1) := by decide +kernel
theorem dX8_sun_58 : decode cX8_sun 58 = .ok (.getfield 98, 3) := by decide +kernel
theorem dX8_sun_61 : decode cX8_sun 61 = .ok (.ireturn, 1) := by decide +kernel
theorem dX8_panel_0 : decode cX8_panel 0 = .ok (.aload_n 0, 1) := by decide +kernel
theorem dX8_panel_1 : decode cX8_panel 1 = .ok (.iload_n 1, 1) := by decide +kernel
theorem dX8_panel_2 : decode cX8_panel 2 = .ok (.invokevirtual 85, 3) := by decide +kernel
theorem dX8_panel_5 : decode cX8_panel 5 = .ok (.astore 5, 2) := by decide +kernel
theorem dX8_panel_7 : decode cX8_panel 7 = .ok (.aload 5, 2) := by decide +kernel
theorem dX8_panel_9 : decode cX8_panel 9 = .ok (.ifnonnull 13, 3) := by decide +kernel
theorem dX8_panel_12 : decode cX8_panel 12 = .ok (.new 89, 3) := by decide +kernel
theorem dX8_panel_15 : decode cX8_panel 15 = .ok (.dup, 1) := by decide +kernel
theorem dX8_panel_16 : decode cX8_panel 16 = .ok (.ldc 91, 2) := by decide +kernel
theorem dX8_panel_18 : decode cX8_panel 18 = .ok (.invokespecial 93, 3) := by decide +kernel
theorem dX8_panel_21 : decode cX8_panel 21 = .ok (.athrow, 1) := by decide +kernel
theorem dX8_panel_22 : decode cX8_panel 22 = .ok (.iload_n 2, 1) := by decide +kernel
theorem dX8_panel_23 : decode cX8_panel 23 = .ok (.i2l, 1) := by decide +kernel
theorem dX8_panel_24 : decode cX8_panel 24 = .ok (.lconst 1, 1) := by decide +kernel
theorem dX8_panel_25 : decode cX8_panel 25 = .ok (.ldc2_w 108, 3) := by decide +kernel
theorem dX8_panel_28 : decode cX8_panel 28 = .ok (.invokestatic 62, 3) := by decide +kernel
theorem dX8_panel_31 : decode cX8_panel 31 = .ok (.ifCond .ne 43, 3) := by decide +kernel
theorem dX8_panel_34 : decode cX8_panel 34 = .ok (.iload_n 3, 1) := by decide +kernel
theorem dX8_panel_35 : decode cX8_panel 35 = .ok (.i2l, 1) := by decide +kernel
theorem dX8_panel_36 : decode cX8_panel 36 = .ok (.lconst 1, 1) := by decide +kernel
theorem dX8_panel_37 : decode cX8_panel 37 = .ok (.ldc2_w 108, 3) := by decide +kernel
theorem dX8_panel_40 : decode cX8_panel 40 = .ok (.invokestatic 62, 3) := by decide +kernel
theorem dX8_panel_43 : decode cX8_panel 43 = .ok (.ifCond .ne 31, 3) := by decide +kernel
theorem dX8_panel_46 : decode cX8_panel 46 = .ok (.iload 4, 2) := by decide +kernel
theorem dX8_panel_48 : decode cX8_panel 48 = .ok (.i2l, 1) := by decide +kernel
theorem dX8_panel_49 : decode cX8_panel 49 = .ok (.lconst 0, 1) := by decide +kernel
theorem dX8_panel_50 : decode cX8_panel 50 = .ok (.ldc2_w 110, 3) := by decide +kernel
theorem dX8_panel_53 : decode cX8_panel 53 = .ok (.invokestatic 62, 3) := by decide +kernel
theorem dX8_panel_56 : decode cX8_panel 56 = .ok (.ifCond .ne 18, 3) := by decide +kernel
theorem dX8_panel_59 : decode cX8_panel 59 = .ok (.iload 4, 2) := by decide +kernel
theorem dX8_panel_61 : decode cX8_panel 61 = .ok (.iconst 2, 1) := by decide +kernel
theorem dX8_panel_62 : decode cX8_panel 62 = .ok (.if_icmp .ne 22, 3) := by decide +kernel
theorem dX8_panel_65 : decode cX8_panel 65 = .ok (.iload_n 2, 1) := by decide +kernel
theorem dX8_panel_66 : decode cX8_panel 66 = .ok (.iload_n 3, 1) := by decide +kernel
theorem dX8_panel_67 : decode cX8_panel 67 = .ok (.iadd, 1) := by decide +kernel
theorem dX8_panel_68 : decode cX8_panel 68 = .ok (.sipush 150, 3) := by decide +kernel
theorem dX8_panel_71 : decode cX8_panel 71 = .ok (.if_icmp .le 13, 3) := by decide +kernel
theorem dX8_panel_74 : decode cX8_panel 74 = .ok (.new 66, 3) := by decide +kernel
theorem dX8_panel_77 : decode cX8_panel 77 = .ok (.dup, 1) := by decide +kernel
theorem dX8_panel_78 : decode cX8_panel 78 = .ok (.ldc 112, 2) := by decide +kernel
theorem dX8_panel_80 : decode cX8_panel 80 = .ok (.invokespecial 70, 3) := by decide +kernel
theorem dX8_panel_83 : decode cX8_panel 83 = .ok (.athrow, 1) := by decide +kernel
theorem dX8_panel_84 : decode cX8_panel 84 = .ok (.aload_n 0, 1) := by decide +kernel
theorem dX8_panel_85 : decode cX8_panel 85 = .ok (.getfield 114, 3) := by decide +kernel
theorem dX8_panel_88 : decode cX8_panel 88 = .ok (.aload_n 0, 1) := by decide +kernel
theorem dX8_panel_89 : decode cX8_panel 89 = .ok (.getfield 17, 3) := by decide +kernel
theorem dX8_panel_92 : decode cX8_panel 92 = .ok (.arraylength, 1) := by decide +kernel
theorem dX8_panel_93 : decode cX8_panel 93 = .ok (.if_icmp .lt 13, 3) := by decide +kernel
theorem dX8_panel_96 : decode cX8_panel 96 = .ok (.new 77, 3) := by decide +kernel
theorem dX8_panel_99 : decode cX8_panel 99 = .ok (.dup, 1) := by decide +kernel
theorem dX8_panel_100 : decode cX8_panel 100 = .ok (.ldc 117, 2) := by decide +kernel
theorem dX8_panel_102 : decode cX8_panel 102 = .ok (.invokespecial 81, 3) := by decide +kernel
theorem dX8_panel_105 : decode cX8_panel 105 = .ok (.athrow, 1) := by decide +kernel
theorem dX8_panel_106 : decode cX8_panel 106 = .ok (.aload_n 0, 1) := by decide +kernel
theorem dX8_panel_107 : decode cX8_panel 107 = .ok (.getfield 17, 3) := by decide +kernel
theorem dX8_panel_110 : decode cX8_panel 110 = .ok (.aload_n 0, 1) := by decide +kernel
theorem dX8_panel_111 : decode cX8_panel 111 = .ok (.getfield 114, 3) := by decide +kernel
theorem dX8_panel_114 : decode cX8_panel 114 = .ok (.new 15, 3) := by decide +kernel
theorem dX8_panel_117 : decode cX8_panel 117 = .ok (.dup, 1) := by decide +kernel
theorem dX8_panel_118 : decode cX8_panel 118 = .ok (.aload 5, 2) := by decide +kernel
theorem dX8_panel_120 : decode cX8_panel 120 = .ok (.iload_n 2, 1) := by decide +kernel
theorem dX8_panel_121 : decode cX8_panel 121 = .ok (.iload 4, 2) := by decide +kernel
theorem dX8_panel_123 : decode cX8_panel 123 = .ok (.invokespecial 119, 3) := by decide +kernel
theorem dX8_panel_126 : decode cX8_panel 126 = .ok (.aastore, 1) := by decide +kernel
theorem dX8_panel_127 : decode cX8_panel 127 = .ok (.aload 5, 2) := by decide +kernel
theorem dX8_panel_129 : decode cX8_panel 129 = .ok (.iload_n 2, 1) := by decide +kernel
theorem dX8_panel_130 : decode cX8_panel 130 = .ok (.iload_n 3, 1) := by decide +kernel
theorem dX8_panel_131 : decode cX8_panel 131 = .ok (.iload 4, 2) := by decide +kernel
theorem dX8_panel_133 : decode cX8_panel 133 = .ok (.invokevirtual 122, 3) := by decide +kernel
theorem dX8_panel_136 : decode cX8_panel 136 = .ok (.aload_n 0, 1) := by decide +kernel
theorem dX8_panel_137 : decode cX8_panel 137 = .ok (.dup, 1) := by decide +kernel
theorem dX8_panel_138 : decode cX8_panel 138 = .ok (.getfield 114, 3) := by decide +kernel
theorem dX8_panel_141 : decode cX8_panel 141 = .ok (.dup_x1, 1) := by decide +kernel
theorem dX8_panel_142 : decode cX8_panel 142 = .ok (.iconst 1, 1) := by decide +kernel
theorem dX8_panel_143 : decode cX8_panel 143 = .ok (.iadd, 1) := by decide +kernel
theorem dX8_panel_144 : decode cX8_panel 144 = .ok (.putfield 114, 3) := by decide +kernel
theorem dX8_panel_147 : decode cX8_panel 147 = .ok (.ireturn, 1) := by decide +kernel
theorem dX8_strength_0 : decode cX8_strength 0 = .ok (.aload_n 0, 1) := by decide +kernel
theorem dX8_strength_1 : decode cX8_strength 1 = .ok (.iload_n 1, 1) := by decide +kernel
theorem dX8_strength_2 : decode cX8_strength 2 = .ok (.invokevirtual 125, 3) := by decide +kernel
theorem dX8_strength_5 : decode cX8_strength 5 = .ok (.astore_n 2, 1) := by decide +kernel
theorem dX8_strength_6 : decode cX8_strength 6 = .ok (.aload_n 2, 1) := by decide +kernel
theorem dX8_strength_7 : decode cX8_strength 7 = .ok (.ifnonnull 13, 3) := by decide +kernel
theorem dX8_strength_10 : decode cX8_strength 10 = .ok (.new 89, 3) := by decide +kernel
theorem dX8_strength_13 : decode cX8_strength 13 = .ok (.dup, 1) := by decide +kernel
theorem dX8_strength_14 : decode cX8_strength 14 = .ok (.ldc 129, 2) := by decide +kernel
theorem dX8_strength_16 : decode cX8_strength 16 = .ok (.invokespecial 93, 3) := by decide +kernel
theorem dX8_strength_19 : decode cX8_strength 19 = .ok (.athrow, 1) := by decide +kernel
theorem dX8_strength_20 : decode cX8_strength 20 = .ok (.aload_n 2, 1) := by decide +kernel
theorem dX8_strength_21 : decode cX8_strength 21 = .ok (.invokevirtual 131, 3) := by decide +kernel
theorem dX8_strength_24 : decode cX8_strength 24 = .ok (.lreturn, 1) := by decide +kernel
theorem dX8_roll_0 : decode cX8_roll 0 = .ok (.aload_n 0, 1) := by decide +kernel
theorem dX8_roll_1 : decode cX8_roll 1 = .ok (.iload_n 1, 1) := by decide +kernel
theorem dX8_roll_2 : decode cX8_roll 2 = .ok (.invokevirtual 85, 3) := by decide +kernel
theorem dX8_roll_5 : decode cX8_roll 5 = .ok (.astore_n 2, 1) := by decide +kernel
theorem dX8_roll_6 : decode cX8_roll 6 = .ok (.aload_n 2, 1) := by decide +kernel
theorem dX8_roll_7 : decode cX8_roll 7 = .ok (.ifnonnull 13, 3) := by decide +kernel
theorem dX8_roll_10 : decode cX8_roll 10 = .ok (.new 89, 3) := by decide +kernel
theorem dX8_roll_13 : decode cX8_roll 13 = .ok (.dup, 1) := by decide +kernel
theorem dX8_roll_14 : decode cX8_roll 14 = .ok (.ldc 91, 2) := by decide +kernel
theorem dX8_roll_16 : decode cX8_roll 16 = .ok (.invokespecial 93, 3) := by decide +kernel
theorem dX8_roll_19 : decode cX8_roll 19 = .ok (.athrow, 1) := by decide +kernel
theorem dX8_roll_20 : decode cX8_roll 20 = .ok (.aload_n 2, 1) := by decide +kernel
theorem dX8_roll_21 : decode cX8_roll 21 = .ok (.invokevirtual 135, 3) := by decide +kernel
theorem dX8_roll_24 : decode cX8_roll 24 = .ok (.ireturn, 1) := by decide +kernel
theorem dX8_lotAt_0 : decode cX8_lotAt 0 = .ok (.iload_n 1, 1) := by decide +kernel
theorem dX8_lotAt_1 : decode cX8_lotAt 1 = .ok (.i2l, 1) := by decide +kernel
theorem dX8_lotAt_2 : decode cX8_lotAt 2 = .ok (.lconst 0, 1) := by decide +kernel
theorem dX8_lotAt_3 : decode cX8_lotAt 3 = .ok (.aload_n 0, 1) := by decide +kernel
theorem dX8_lotAt_4 : decode cX8_lotAt 4 = .ok (.getfield 73, 3) := by decide +kernel
theorem dX8_lotAt_7 : decode cX8_lotAt 7 = .ok (.iconst 1, 1) := by decide +kernel
theorem dX8_lotAt_8 : decode cX8_lotAt 8 = .ok (.isub, 1) := by decide +kernel
theorem dX8_lotAt_9 : decode cX8_lotAt 9 = .ok (.i2l, 1) := by decide +kernel
theorem dX8_lotAt_10 : decode cX8_lotAt 10 = .ok (.invokestatic 62, 3) := by decide +kernel
theorem dX8_lotAt_13 : decode cX8_lotAt 13 = .ok (.ifCond .eq 7, 3) := by decide +kernel
theorem dX8_lotAt_16 : decode cX8_lotAt 16 = .ok (.aconst_null, 1) := by decide +kernel
theorem dX8_lotAt_17 : decode cX8_lotAt 17 = .ok (.goto 9, 3) := by decide +kernel
theorem dX8_lotAt_20 : decode cX8_lotAt 20 = .ok (.aload_n 0, 1) := by decide +kernel
theorem dX8_lotAt_21 : decode cX8_lotAt 21 = .ok (.getfield 11, 3) := by decide +kernel
theorem dX8_lotAt_24 : decode cX8_lotAt 24 = .ok (.iload_n 1, 1) := by decide +kernel
theorem dX8_lotAt_25 : decode cX8_lotAt 25 = .ok (.aaload, 1) := by decide +kernel
theorem dX8_lotAt_26 : decode cX8_lotAt 26 = .ok (.areturn, 1) := by decide +kernel
theorem dX8_panelAt_0 : decode cX8_panelAt 0 = .ok (.iload_n 1, 1) := by decide +kernel
theorem dX8_panelAt_1 : decode cX8_panelAt 1 = .ok (.i2l, 1) := by decide +kernel
theorem dX8_panelAt_2 : decode cX8_panelAt 2 = .ok (.lconst 0, 1) := by decide +kernel
theorem dX8_panelAt_3 : decode cX8_panelAt 3 = .ok (.aload_n 0, 1) := by decide +kernel
theorem dX8_panelAt_4 : decode cX8_panelAt 4 = .ok (.getfield 114, 3) := by decide +kernel
theorem dX8_panelAt_7 : decode cX8_panelAt 7 = .ok (.iconst 1, 1) := by decide +kernel
theorem dX8_panelAt_8 : decode cX8_panelAt 8 = .ok (.isub, 1) := by decide +kernel
theorem dX8_panelAt_9 : decode cX8_panelAt 9 = .ok (.i2l, 1) := by decide +kernel
theorem dX8_panelAt_10 : decode cX8_panelAt 10 = .ok (.invokestatic 62, 3) := by decide +kernel
theorem dX8_panelAt_13 : decode cX8_panelAt 13 = .ok (.ifCond .eq 7, 3) := by decide +kernel
theorem dX8_panelAt_16 : decode cX8_panelAt 16 = .ok (.aconst_null, 1) := by decide +kernel
theorem dX8_panelAt_17 : decode cX8_panelAt 17 = .ok (.goto 9, 3) := by decide +kernel
theorem dX8_panelAt_20 : decode cX8_panelAt 20 = .ok (.aload_n 0, 1) := by decide +kernel
theorem dX8_panelAt_21 : decode cX8_panelAt 21 = .ok (.getfield 17, 3) := by decide +kernel
theorem dX8_panelAt_24 : decode cX8_panelAt 24 = .ok (.iload_n 1, 1) := by decide +kernel
theorem dX8_panelAt_25 : decode cX8_panelAt 25 = .ok (.aaload, 1) := by decide +kernel
theorem dX8_panelAt_26 : decode cX8_panelAt 26 = .ok (.areturn, 1) := by decide +kernel
theorem dX8_seam_0 : decode cX8_seam 0 = .ok (.aload_n 0, 1) := by decide +kernel
theorem dX8_seam_1 : decode cX8_seam 1 = .ok (.iload_n 1, 1) := by decide +kernel
theorem dX8_seam_2 : decode cX8_seam 2 = .ok (.invokevirtual 125, 3) := by decide +kernel
theorem dX8_seam_5 : decode cX8_seam 5 = .ok (.astore 4, 2) := by decide +kernel
theorem dX8_seam_7 : decode cX8_seam 7 = .ok (.aload_n 0, 1) := by decide +kernel
theorem dX8_seam_8 : decode cX8_seam 8 = .ok (.iload_n 2, 1) := by decide +kernel
theorem dX8_seam_9 : decode cX8_seam 9 = .ok (.invokevirtual 125, 3) := by decide +kernel
theorem dX8_seam_12 : decode cX8_seam 12 = .ok (.astore 5, 2) := by decide +kernel
theorem dX8_seam_14 : decode cX8_seam 14 = .ok (.aload 4, 2) := by decide +kernel
theorem dX8_seam_16 : decode cX8_seam 16 = .ok (.ifnull 8, 3) := by decide +kernel
theorem dX8_seam_19 : decode cX8_seam 19 = .ok (.aload 5, 2) := by decide +kernel
theorem dX8_seam_21 : decode cX8_seam 21 = .ok (.ifnonnull 13, 3) := by decide +kernel
theorem dX8_seam_24 : decode cX8_seam 24 = .ok (.new 89, 3) := by decide +kernel
theorem dX8_seam_27 : decode cX8_seam 27 = .ok (.dup, 1) := by decide +kernel
theorem dX8_seam_28 : decode cX8_seam 28 = .ok (.ldc 129, 2) := by decide +kernel
theorem dX8_seam_30 : decode cX8_seam 30 = .ok (.invokespecial 93, 3) := by decide +kernel
theorem dX8_seam_33 : decode cX8_seam 33 = .ok (.athrow, 1) := by decide +kernel
theorem dX8_seam_34 : decode cX8_seam 34 = .ok (.iload_n 1, 1) := by decide +kernel
theorem dX8_seam_35 : decode cX8_seam 35 = .ok (.iload_n 2, 1) := by decide +kernel
theorem dX8_seam_36 : decode cX8_seam 36 = .ok (.if_icmp .eq 15, 3) := by decide +kernel
theorem dX8_seam_39 : decode cX8_seam 39 = .ok (.iload_n 3, 1) := by decide +kernel
theorem dX8_seam_40 : decode cX8_seam 40 = .ok (.i2l, 1) := by decide +kernel
theorem dX8_seam_41 : decode cX8_seam 41 = .ok (.lconst 0, 1) := by decide +kernel
theorem dX8_seam_42 : decode cX8_seam 42 = .ok (.ldc2_w 110, 3) := by decide +kernel
theorem dX8_seam_45 : decode cX8_seam 45 = .ok (.invokestatic 62, 3) := by decide +kernel
theorem dX8_seam_48 : decode cX8_seam 48 = .ok (.ifCond .eq 13, 3) := by decide +kernel
theorem dX8_seam_51 : decode cX8_seam 51 = .ok (.new 66, 3) := by decide +kernel
theorem dX8_seam_54 : decode cX8_seam 54 = .ok (.dup, 1) := by decide +kernel
theorem dX8_seam_55 : decode cX8_seam 55 = .ok (.ldc 139, 2) := by decide +kernel
theorem dX8_seam_57 : decode cX8_seam 57 = .ok (.invokespecial 70, 3) := by decide +kernel
theorem dX8_seam_60 : decode cX8_seam 60 = .ok (.athrow, 1) := by decide +kernel
theorem dX8_seam_61 : decode cX8_seam 61 = .ok (.aload_n 0, 1) := by decide +kernel
theorem dX8_seam_62 : decode cX8_seam 62 = .ok (.getfield 141, 3) := by decide +kernel
theorem dX8_seam_65 : decode cX8_seam 65 = .ok (.aload_n 0, 1) := by decide +kernel
theorem dX8_seam_66 : decode cX8_seam 66 = .ok (.getfield 23, 3) := by decide +kernel
theorem dX8_seam_69 : decode cX8_seam 69 = .ok (.arraylength, 1) := by decide +kernel
theorem dX8_seam_70 : decode cX8_seam 70 = .ok (.if_icmp .lt 13, 3) := by decide +kernel
theorem dX8_seam_73 : decode cX8_seam 73 = .ok (.new 77, 3) := by decide +kernel
theorem dX8_seam_76 : decode cX8_seam 76 = .ok (.dup, 1) := by decide +kernel
theorem dX8_seam_77 : decode cX8_seam 77 = .ok (.ldc 144, 2) := by decide +kernel
theorem dX8_seam_79 : decode cX8_seam 79 = .ok (.invokespecial 81, 3) := by decide +kernel
theorem dX8_seam_82 : decode cX8_seam 82 = .ok (.athrow, 1) := by decide +kernel
theorem dX8_seam_83 : decode cX8_seam 83 = .ok (.aload_n 0, 1) := by decide +kernel
theorem dX8_seam_84 : decode cX8_seam 84 = .ok (.getfield 23, 3) := by decide +kernel
theorem dX8_seam_87 : decode cX8_seam 87 = .ok (.aload_n 0, 1) := by decide +kernel
theorem dX8_seam_88 : decode cX8_seam 88 = .ok (.getfield 141, 3) := by decide +kernel
theorem dX8_seam_91 : decode cX8_seam 91 = .ok (.new 21, 3) := by decide +kernel
theorem dX8_seam_94 : decode cX8_seam 94 = .ok (.dup, 1) := by decide +kernel
theorem dX8_seam_95 : decode cX8_seam 95 = .ok (.aload 4, 2) := by decide +kernel
theorem dX8_seam_97 : decode cX8_seam 97 = .ok (.aload 5, 2) := by decide +kernel
theorem dX8_seam_99 : decode cX8_seam 99 = .ok (.iload_n 3, 1) := by decide +kernel
theorem dX8_seam_100 : decode cX8_seam 100 = .ok (.invokespecial 146, 3) := by decide +kernel
theorem dX8_seam_103 : decode cX8_seam 103 = .ok (.aastore, 1) := by decide +kernel
theorem dX8_seam_104 : decode cX8_seam 104 = .ok (.aload_n 0, 1) := by decide +kernel
theorem dX8_seam_105 : decode cX8_seam 105 = .ok (.dup, 1) := by decide +kernel
theorem dX8_seam_106 : decode cX8_seam 106 = .ok (.getfield 141, 3) := by decide +kernel
theorem dX8_seam_109 : decode cX8_seam 109 = .ok (.dup_x1, 1) := by decide +kernel
theorem dX8_seam_110 : decode cX8_seam 110 = .ok (.iconst 1, 1) := by decide +kernel
theorem dX8_seam_111 : decode cX8_seam 111 = .ok (.iadd, 1) := by decide +kernel
theorem dX8_seam_112 : decode cX8_seam 112 = .ok (.putfield 141, 3) := by decide +kernel
theorem dX8_seam_115 : decode cX8_seam 115 = .ok (.ireturn, 1) := by decide +kernel
theorem dX8_rip_0 : decode cX8_rip 0 = .ok (.iload_n 1, 1) := by decide +kernel
theorem dX8_rip_1 : decode cX8_rip 1 = .ok (.i2l, 1) := by decide +kernel
theorem dX8_rip_2 : decode cX8_rip 2 = .ok (.lconst 0, 1) := by decide +kernel
theorem dX8_rip_3 : decode cX8_rip 3 = .ok (.aload_n 0, 1) := by decide +kernel
theorem dX8_rip_4 : decode cX8_rip 4 = .ok (.getfield 141, 3) := by decide +kernel
theorem dX8_rip_7 : decode cX8_rip 7 = .ok (.iconst 1, 1) := by decide +kernel
theorem dX8_rip_8 : decode cX8_rip 8 = .ok (.isub, 1) := by decide +kernel
theorem dX8_rip_9 : decode cX8_rip 9 = .ok (.i2l, 1) := by decide +kernel
theorem dX8_rip_10 : decode cX8_rip 10 = .ok (.invokestatic 62, 3) := by decide +kernel
theorem dX8_rip_13 : decode cX8_rip 13 = .ok (.ifCond .eq 7, 3) := by decide +kernel
theorem dX8_rip_16 : decode cX8_rip 16 = .ok (.aconst_null, 1) := by decide +kernel
theorem dX8_rip_17 : decode cX8_rip 17 = .ok (.goto 9, 3) := by decide +kernel
theorem dX8_rip_20 : decode cX8_rip 20 = .ok (.aload_n 0, 1) := by decide +kernel
theorem dX8_rip_21 : decode cX8_rip 21 = .ok (.getfield 23, 3) := by decide +kernel
theorem dX8_rip_24 : decode cX8_rip 24 = .ok (.iload_n 1, 1) := by decide +kernel
theorem dX8_rip_25 : decode cX8_rip 25 = .ok (.aaload, 1) := by decide +kernel
theorem dX8_rip_26 : decode cX8_rip 26 = .ok (.astore_n 2, 1) := by decide +kernel
theorem dX8_rip_27 : decode cX8_rip 27 = .ok (.aload_n 2, 1) := by decide +kernel
theorem dX8_rip_28 : decode cX8_rip 28 = .ok (.ifnonnull 13, 3) := by decide +kernel
theorem dX8_rip_31 : decode cX8_rip 31 = .ok (.new 89, 3) := by decide +kernel
theorem dX8_rip_34 : decode cX8_rip 34 = .ok (.dup, 1) := by decide +kernel
theorem dX8_rip_35 : decode cX8_rip 35 = .ok (.ldc 149, 2) := by decide +kernel
theorem dX8_rip_37 : decode cX8_rip 37 = .ok (.invokespecial 93, 3) := by decide +kernel
theorem dX8_rip_40 : decode cX8_rip 40 = .ok (.athrow, 1) := by decide +kernel
theorem dX8_rip_41 : decode cX8_rip 41 = .ok (.aload_n 0, 1) := by decide +kernel
theorem dX8_rip_42 : decode cX8_rip 42 = .ok (.getfield 23, 3) := by decide +kernel
theorem dX8_rip_45 : decode cX8_rip 45 = .ok (.iload_n 1, 1) := by decide +kernel
theorem dX8_rip_46 : decode cX8_rip 46 = .ok (.aconst_null, 1) := by decide +kernel
theorem dX8_rip_47 : decode cX8_rip 47 = .ok (.aastore, 1) := by decide +kernel
theorem dX8_rip_48 : decode cX8_rip 48 = .ok (.aload_n 2, 1) := by decide +kernel
theorem dX8_rip_49 : decode cX8_rip 49 = .ok (.invokevirtual 151, 3) := by decide +kernel
theorem dX8_rip_52 : decode cX8_rip 52 = .ok (.lreturn, 1) := by decide +kernel
theorem dX8_bears_0 : decode cX8_bears 0 = .ok (.aload_n 0, 1) := by decide +kernel
theorem dX8_bears_1 : decode cX8_bears 1 = .ok (.iload_n 1, 1) := by decide +kernel
theorem dX8_bears_2 : decode cX8_bears 2 = .ok (.invokevirtual 125, 3) := by decide +kernel
theorem dX8_bears_5 : decode cX8_bears 5 = .ok (.astore_n 3, 1) := by decide +kernel
theorem dX8_bears_6 : decode cX8_bears 6 = .ok (.aload_n 0, 1) := by decide +kernel
theorem dX8_bears_7 : decode cX8_bears 7 = .ok (.iload_n 2, 1) := by decide +kernel
theorem dX8_bears_8 : decode cX8_bears 8 = .ok (.invokevirtual 125, 3) := by decide +kernel
theorem dX8_bears_11 : decode cX8_bears 11 = .ok (.astore 4, 2) := by decide +kernel
theorem dX8_bears_13 : decode cX8_bears 13 = .ok (.aload_n 3, 1) := by decide +kernel
theorem dX8_bears_14 : decode cX8_bears 14 = .ok (.ifnull 8, 3) := by decide +kernel
theorem dX8_bears_17 : decode cX8_bears 17 = .ok (.aload 4, 2) := by decide +kernel
theorem dX8_bears_19 : decode cX8_bears 19 = .ok (.ifnonnull 13, 3) := by decide +kernel
theorem dX8_bears_22 : decode cX8_bears 22 = .ok (.new 89, 3) := by decide +kernel
theorem dX8_bears_25 : decode cX8_bears 25 = .ok (.dup, 1) := by decide +kernel
theorem dX8_bears_26 : decode cX8_bears 26 = .ok (.ldc 129, 2) := by decide +kernel
theorem dX8_bears_28 : decode cX8_bears 28 = .ok (.invokespecial 93, 3) := by decide +kernel
theorem dX8_bears_31 : decode cX8_bears 31 = .ok (.athrow, 1) := by decide +kernel
theorem dX8_bears_32 : decode cX8_bears 32 = .ok (.aload_n 0, 1) := by decide +kernel
theorem dX8_bears_33 : decode cX8_bears 33 = .ok (.aload_n 3, 1) := by decide +kernel
theorem dX8_bears_34 : decode cX8_bears 34 = .ok (.invokevirtual 152, 3) := by decide +kernel
theorem dX8_bears_37 : decode cX8_bears 37 = .ok (.aload 4, 2) := by decide +kernel
theorem dX8_bears_39 : decode cX8_bears 39 = .ok (.getfield 156, 3) := by decide +kernel
theorem dX8_bears_42 : decode cX8_bears 42 = .ok (.lreturn, 1) := by decide +kernel
theorem dX8_bearsAnew_0 : decode cX8_bearsAnew 0 = .ok (.aload_n 0, 1) := by decide +kernel
theorem dX8_bearsAnew_1 : decode cX8_bearsAnew 1 = .ok (.iload_n 1, 1) := by decide +kernel
theorem dX8_bearsAnew_2 : decode cX8_bearsAnew 2 = .ok (.invokevirtual 125, 3) := by decide +kernel
theorem dX8_bearsAnew_5 : decode cX8_bearsAnew 5 = .ok (.astore_n 3, 1) := by decide +kernel
theorem dX8_bearsAnew_6 : decode cX8_bearsAnew 6 = .ok (.aload_n 0, 1) := by decide +kernel
theorem dX8_bearsAnew_7 : decode cX8_bearsAnew 7 = .ok (.iload_n 2, 1) := by decide +kernel
theorem dX8_bearsAnew_8 : decode cX8_bearsAnew 8 = .ok (.invokevirtual 125, 3) := by decide +kernel
theorem dX8_bearsAnew_11 : decode cX8_bearsAnew 11 = .ok (.astore 4, 2) := by decide +kernel
theorem dX8_bearsAnew_13 : decode cX8_bearsAnew 13 = .ok (.aload_n 3, 1) := by decide +kernel
theorem dX8_bearsAnew_14 : decode cX8_bearsAnew 14 = .ok (.ifnull 8, 3) := by decide +kernel
theorem dX8_bearsAnew_17 : decode cX8_bearsAnew 17 = .ok (.aload 4, 2) := by decide +kernel
theorem dX8_bearsAnew_19 : decode cX8_bearsAnew 19 = .ok (.ifnonnull 13, 3) := by decide +kernel
theorem dX8_bearsAnew_22 : decode cX8_bearsAnew 22 = .ok (.new 89, 3) := by decide +kernel
theorem dX8_bearsAnew_25 : decode cX8_bearsAnew 25 = .ok (.dup, 1) := by decide +kernel
theorem dX8_bearsAnew_26 : decode cX8_bearsAnew 26 = .ok (.ldc 129, 2) := by decide +kernel
theorem dX8_bearsAnew_28 : decode cX8_bearsAnew 28 = .ok (.invokespecial 93, 3) := by decide +kernel
theorem dX8_bearsAnew_31 : decode cX8_bearsAnew 31 = .ok (.athrow, 1) := by decide +kernel
theorem dX8_bearsAnew_32 : decode cX8_bearsAnew 32 = .ok (.iload_n 1, 1) := by decide +kernel
theorem dX8_bearsAnew_33 : decode cX8_bearsAnew 33 = .ok (.iload_n 2, 1) := by decide +kernel
theorem dX8_bearsAnew_34 : decode cX8_bearsAnew 34 = .ok (.if_icmp .ne 8, 3) := by decide +kernel
theorem dX8_bearsAnew_37 : decode cX8_bearsAnew 37 = .ok (.aload_n 3, 1) := by decide +kernel
theorem dX8_bearsAnew_38 : decode cX8_bearsAnew 38 = .ok (.invokevirtual 131, 3) := by decide +kernel
theorem dX8_bearsAnew_41 : decode cX8_bearsAnew 41 = .ok (.lreturn, 1) := by decide +kernel
theorem dX8_bearsAnew_42 : decode cX8_bearsAnew 42 = .ok (.aload_n 0, 1) := by decide +kernel
theorem dX8_bearsAnew_43 : decode cX8_bearsAnew 43 = .ok (.aload_n 3, 1) := by decide +kernel
theorem dX8_bearsAnew_44 : decode cX8_bearsAnew 44 = .ok (.aload 4, 2) := by decide +kernel
theorem dX8_bearsAnew_46 : decode cX8_bearsAnew 46 = .ok (.invokevirtual 160, 3) := by decide +kernel
theorem dX8_bearsAnew_49 : decode cX8_bearsAnew 49 = .ok (.lreturn, 1) := by decide +kernel
theorem dX8_spreadLoadFrom_0 : decode cX8_spreadLoadFrom 0 = .ok (.aload_n 0, 1) := by decide +kernel
theorem dX8_spreadLoadFrom_1 : decode cX8_spreadLoadFrom 1 = .ok (.getfield 17, 3) := by decide +kernel
theorem dX8_spreadLoadFrom_4 : decode cX8_spreadLoadFrom 4 = .ok (.astore_n 2, 1) := by decide +kernel
theorem dX8_spreadLoadFrom_5 : decode cX8_spreadLoadFrom 5 = .ok (.aload_n 2, 1) := by decide +kernel
theorem dX8_spreadLoadFrom_6 : decode cX8_spreadLoadFrom 6 = .ok (.arraylength, 1) := by decide +kernel
theorem dX8_spreadLoadFrom_7 : decode cX8_spreadLoadFrom 7 = .ok (.istore_n 3, 1) := by decide +kernel
theorem dX8_spreadLoadFrom_8 : decode cX8_spreadLoadFrom 8 = .ok (.iconst 0, 1) := by decide +kernel
theorem dX8_spreadLoadFrom_9 : decode cX8_spreadLoadFrom 9 = .ok (.istore 4, 2) := by decide +kernel
theorem dX8_spreadLoadFrom_11 : decode cX8_spreadLoadFrom 11 = .ok (.iload 4, 2) := by decide +kernel
theorem dX8_spreadLoadFrom_13 : decode cX8_spreadLoadFrom 13 = .ok (.iload_n 3, 1) := by decide +kernel
theorem dX8_spreadLoadFrom_14 : decode cX8_spreadLoadFrom 14 = .ok (.if_icmp .ge 26, 3) := by decide +kernel
theorem dX8_spreadLoadFrom_17 : decode cX8_spreadLoadFrom 17 = .ok (.aload_n 2, 1) := by decide +kernel
theorem dX8_spreadLoadFrom_18 : decode cX8_spreadLoadFrom 18 = .ok (.iload 4, 2) := by decide +kernel
theorem dX8_spreadLoadFrom_20 : decode cX8_spreadLoadFrom 20 = .ok (.aaload, 1) := by decide +kernel
theorem dX8_spreadLoadFrom_21 : decode cX8_spreadLoadFrom 21 = .ok (.astore 5, 2) := by decide +kernel
theorem dX8_spreadLoadFrom_23 : decode cX8_spreadLoadFrom 23 = .ok (.aload 5, 2) := by decide +kernel
theorem dX8_spreadLoadFrom_25 : decode cX8_spreadLoadFrom 25 = .ok (.ifnull 9, 3) := by decide +kernel
theorem dX8_spreadLoadFrom_28 : decode cX8_spreadLoadFrom 28 = .ok (.aload 5, 2) := by decide +kernel
theorem dX8_spreadLoadFrom_30 : decode cX8_spreadLoadFrom 30 = .ok (.lconst 0, 1) := by decide +kernel
theorem dX8_spreadLoadFrom_31 : decode cX8_spreadLoadFrom 31 = .ok (.putfield 156, 3) := by decide +kernel
theorem dX8_spreadLoadFrom_34 : decode cX8_spreadLoadFrom 34 = .ok (.iinc 4 1, 3) := by decide +kernel
theorem dX8_spreadLoadFrom_37 : decode cX8_spreadLoadFrom 37 = .ok (.goto (-26), 3) := by decide +kernel
theorem dX8_spreadLoadFrom_40 : decode cX8_spreadLoadFrom 40 = .ok (.aload_n 1, 1) := by decide +kernel
theorem dX8_spreadLoadFrom_41 : decode cX8_spreadLoadFrom 41 = .ok (.aload_n 1, 1) := by decide +kernel
theorem dX8_spreadLoadFrom_42 : decode cX8_spreadLoadFrom 42 = .ok (.invokevirtual 131, 3) := by decide +kernel
theorem dX8_spreadLoadFrom_45 : decode cX8_spreadLoadFrom 45 = .ok (.putfield 156, 3) := by decide +kernel
theorem dX8_spreadLoadFrom_48 : decode cX8_spreadLoadFrom 48 = .ok (.iconst 1, 1) := by decide +kernel
theorem dX8_spreadLoadFrom_49 : decode cX8_spreadLoadFrom 49 = .ok (.istore_n 2, 1) := by decide +kernel
theorem dX8_spreadLoadFrom_50 : decode cX8_spreadLoadFrom 50 = .ok (.iload_n 2, 1) := by decide +kernel
theorem dX8_spreadLoadFrom_51 : decode cX8_spreadLoadFrom 51 = .ok (.aload_n 0, 1) := by decide +kernel
theorem dX8_spreadLoadFrom_52 : decode cX8_spreadLoadFrom 52 = .ok (.getfield 114, 3) := by decide +kernel
theorem dX8_spreadLoadFrom_55 : decode cX8_spreadLoadFrom 55 = .ok (.if_icmp .ge 50, 3) := by decide +kernel
theorem dX8_spreadLoadFrom_58 : decode cX8_spreadLoadFrom 58 = .ok (.aload_n 0, 1) := by decide +kernel
theorem dX8_spreadLoadFrom_59 : decode cX8_spreadLoadFrom 59 = .ok (.getfield 23, 3) := by decide +kernel
theorem dX8_spreadLoadFrom_62 : decode cX8_spreadLoadFrom 62 = .ok (.astore_n 3, 1) := by decide +kernel
theorem dX8_spreadLoadFrom_63 : decode cX8_spreadLoadFrom 63 = .ok (.aload_n 3, 1) := by decide +kernel
theorem dX8_spreadLoadFrom_64 : decode cX8_spreadLoadFrom 64 = .ok (.arraylength, 1) := by decide +kernel
theorem dX8_spreadLoadFrom_65 : decode cX8_spreadLoadFrom 65 = .ok (.istore 4, 2) := by decide +kernel
theorem dX8_spreadLoadFrom_67 : decode cX8_spreadLoadFrom 67 = .ok (.iconst 0, 1) := by decide +kernel
theorem dX8_spreadLoadFrom_68 : decode cX8_spreadLoadFrom 68 = .ok (.istore 5, 2) := by decide +kernel
theorem dX8_spreadLoadFrom_70 : decode cX8_spreadLoadFrom 70 = .ok (.iload 5, 2) := by decide +kernel
theorem dX8_spreadLoadFrom_72 : decode cX8_spreadLoadFrom 72 = .ok (.iload 4, 2) := by decide +kernel
theorem dX8_spreadLoadFrom_74 : decode cX8_spreadLoadFrom 74 = .ok (.if_icmp .ge 25, 3) := by decide +kernel
theorem dX8_spreadLoadFrom_77 : decode cX8_spreadLoadFrom 77 = .ok (.aload_n 3, 1) := by decide +kernel
theorem dX8_spreadLoadFrom_78 : decode cX8_spreadLoadFrom 78 = .ok (.iload 5, 2) := by decide +kernel
theorem dX8_spreadLoadFrom_80 : decode cX8_spreadLoadFrom 80 = .ok (.aaload, 1) := by decide +kernel
theorem dX8_spreadLoadFrom_81 : decode cX8_spreadLoadFrom 81 = .ok (.astore 6, 2) := by decide +kernel
theorem dX8_spreadLoadFrom_83 : decode cX8_spreadLoadFrom 83 = .ok (.aload 6, 2) := by decide +kernel
theorem dX8_spreadLoadFrom_85 : decode cX8_spreadLoadFrom 85 = .ok (.ifnull 8, 3) := by decide +kernel
theorem dX8_spreadLoadFrom_88 : decode cX8_spreadLoadFrom 88 = .ok (.aload 6, 2) := by decide +kernel
theorem dX8_spreadLoadFrom_90 : decode cX8_spreadLoadFrom 90 = .ok (.invokevirtual 164, 3) := by decide +kernel
theorem dX8_spreadLoadFrom_93 : decode cX8_spreadLoadFrom 93 = .ok (.iinc 5 1, 3) := by decide +kernel
theorem dX8_spreadLoadFrom_96 : decode cX8_spreadLoadFrom 96 = .ok (.goto (-26), 3) := by decide +kernel
theorem dX8_spreadLoadFrom_99 : decode cX8_spreadLoadFrom 99 = .ok (.iinc 2 1, 3) := by decide +kernel
theorem dX8_spreadLoadFrom_102 : decode cX8_spreadLoadFrom 102 = .ok (.goto (-52), 3) := by decide +kernel
theorem dX8_spreadLoadFrom_105 : decode cX8_spreadLoadFrom 105 = .ok (.return_, 1) := by decide +kernel
theorem dX8_joinUntilTogether_0 : decode cX8_joinUntilTogether 0 = .ok (.iconst 0, 1) := by decide +kernel
theorem dX8_joinUntilTogether_1 : decode cX8_joinUntilTogether 1 = .ok (.istore_n 3, 1) := by decide +kernel
theorem dX8_joinUntilTogether_2 : decode cX8_joinUntilTogether 2 = .ok (.iload_n 3, 1) := by decide +kernel
theorem dX8_joinUntilTogether_3 : decode cX8_joinUntilTogether 3 = .ok (.aload_n 0, 1) := by decide +kernel
theorem dX8_joinUntilTogether_4 : decode cX8_joinUntilTogether 4 = .ok (.getfield 114, 3) := by decide +kernel
theorem dX8_joinUntilTogether_7 : decode cX8_joinUntilTogether 7 = .ok (.if_icmp .ge 28, 3) := by decide +kernel
theorem dX8_joinUntilTogether_10 : decode cX8_joinUntilTogether 10 = .ok (.aload_n 0, 1) := by decide +kernel
theorem dX8_joinUntilTogether_11 : decode cX8_joinUntilTogether 11 = .ok (.getfield 17, 3) := by decide +kernel
theorem dX8_joinUntilTogether_14 : decode cX8_joinUntilTogether 14 = .ok (.iload_n 3, 1) := by decide +kernel
theorem dX8_joinUntilTogether_15 : decode cX8_joinUntilTogether 15 = .ok (.aaload, 1) := by decide +kernel
theorem dX8_joinUntilTogether_16 : decode cX8_joinUntilTogether 16 = .ok (.astore 4, 2) := by decide +kernel
theorem dX8_joinUntilTogether_18 : decode cX8_joinUntilTogether 18 = .ok (.aload 4, 2) := by decide +kernel
theorem dX8_joinUntilTogether_20 : decode cX8_joinUntilTogether 20 = .ok (.ifnull 9, 3) := by decide +kernel
theorem dX8_joinUntilTogether_23 : decode cX8_joinUntilTogether 23 = .ok (.aload 4, 2) := by decide +kernel
theorem dX8_joinUntilTogether_25 : decode cX8_joinUntilTogether 25 = .ok (.iload_n 3, 1) := by decide +kernel
theorem dX8_joinUntilTogether_26 : decode cX8_joinUntilTogether 26 = .ok (.putfield 167, 3) := by decide +kernel
theorem dX8_joinUntilTogether_29 : decode cX8_joinUntilTogether 29 = .ok (.iinc 3 1, 3) := by decide +kernel
theorem dX8_joinUntilTogether_32 : decode cX8_joinUntilTogether 32 = .ok (.goto (-30), 3) := by decide +kernel
theorem dX8_joinUntilTogether_35 : decode cX8_joinUntilTogether 35 = .ok (.iconst 1, 1) := by decide +kernel
theorem dX8_joinUntilTogether_36 : decode cX8_joinUntilTogether 36 = .ok (.istore_n 3, 1) := by decide +kernel
theorem dX8_joinUntilTogether_37 : decode cX8_joinUntilTogether 37 = .ok (.iload_n 3, 1) := by decide +kernel
theorem dX8_joinUntilTogether_38 : decode cX8_joinUntilTogether 38 = .ok (.aload_n 0, 1) := by decide +kernel
theorem dX8_joinUntilTogether_39 : decode cX8_joinUntilTogether 39 = .ok (.getfield 114, 3) := by decide +kernel
theorem dX8_joinUntilTogether_42 : decode cX8_joinUntilTogether 42 = .ok (.if_icmp .ge 59, 3) := by decide +kernel
theorem dX8_joinUntilTogether_45 : decode cX8_joinUntilTogether 45 = .ok (.aload_n 0, 1) := by decide +kernel
theorem dX8_joinUntilTogether_46 : decode cX8_joinUntilTogether 46 = .ok (.invokevirtual 170, 3) := by decide +kernel
theorem dX8_joinUntilTogether_49 : decode cX8_joinUntilTogether 49 = .ok (.astore 4, 2) := by decide +kernel
theorem dX8_joinUntilTogether_51 : decode cX8_joinUntilTogether 51 = .ok (.aload 4, 2) := by decide +kernel
theorem dX8_joinUntilTogether_53 : decode cX8_joinUntilTogether 53 = .ok (.ifnonnull 5, 3) := by decide +kernel
theorem dX8_joinUntilTogether_56 : decode cX8_joinUntilTogether 56 = .ok (.lconst 0, 1) := by decide +kernel
theorem dX8_joinUntilTogether_57 : decode cX8_joinUntilTogether 57 = .ok (.lreturn, 1) := by decide +kernel
theorem dX8_joinUntilTogether_58 : decode cX8_joinUntilTogether 58 = .ok (.aload_n 0, 1) := by decide +kernel
theorem dX8_joinUntilTogether_59 : decode cX8_joinUntilTogether 59 = .ok (.aload 4, 2) := by decide +kernel
theorem dX8_joinUntilTogether_61 : decode cX8_joinUntilTogether 61 = .ok (.getfield 174, 3) := by decide +kernel
theorem dX8_joinUntilTogether_64 : decode cX8_joinUntilTogether 64 = .ok (.getfield 167, 3) := by decide +kernel
theorem dX8_joinUntilTogether_67 : decode cX8_joinUntilTogether 67 = .ok (.aload 4, 2) := by decide +kernel
theorem dX8_joinUntilTogether_69 : decode cX8_joinUntilTogether 69 = .ok (.getfield 178, 3) := by decide +kernel
theorem dX8_joinUntilTogether_72 : decode cX8_joinUntilTogether 72 = .ok (.getfield 167, 3) := by decide +kernel
theorem dX8_joinUntilTogether_75 : decode cX8_joinUntilTogether 75 = .ok (.invokevirtual 181, 3) := by decide +kernel
theorem dX8_joinUntilTogether_78 : decode cX8_joinUntilTogether 78 = .ok (.aload_n 1, 1) := by decide +kernel
theorem dX8_joinUntilTogether_79 : decode cX8_joinUntilTogether 79 = .ok (.getfield 167, 3) := by decide +kernel
theorem dX8_joinUntilTogether_82 : decode cX8_joinUntilTogether 82 = .ok (.aload_n 2, 1) := by decide +kernel
theorem dX8_joinUntilTogether_83 : decode cX8_joinUntilTogether 83 = .ok (.getfield 167, 3) := by decide +kernel
theorem dX8_joinUntilTogether_86 : decode cX8_joinUntilTogether 86 = .ok (.if_icmp .ne 9, 3) := by decide +kernel
theorem dX8_joinUntilTogether_89 : decode cX8_joinUntilTogether 89 = .ok (.aload 4, 2) := by decide +kernel
theorem dX8_joinUntilTogether_91 : decode cX8_joinUntilTogether 91 = .ok (.invokevirtual 151, 3) := by decide +kernel
theorem dX8_joinUntilTogether_94 : decode cX8_joinUntilTogether 94 = .ok (.lreturn, 1) := by decide +kernel
theorem dX8_joinUntilTogether_95 : decode cX8_joinUntilTogether 95 = .ok (.iinc 3 1, 3) := by decide +kernel
theorem dX8_joinUntilTogether_98 : decode cX8_joinUntilTogether 98 = .ok (.goto (-61), 3) := by decide +kernel
theorem dX8_joinUntilTogether_101 : decode cX8_joinUntilTogether 101 = .ok (.lconst 0, 1) := by decide +kernel
theorem dX8_joinUntilTogether_102 : decode cX8_joinUntilTogether 102 = .ok (.lreturn, 1) := by decide +kernel
theorem dX8_strongestBetweenGroups_0 : decode cX8_strongestBetweenGroups 0 = .ok (.aconst_null, 1) := by decide +kernel
theorem dX8_strongestBetweenGroups_1 : decode cX8_strongestBetweenGroups 1 = .ok (.astore_n 1, 1) := by decide +kernel
theorem dX8_strongestBetweenGroups_2 : decode cX8_strongestBetweenGroups 2 = .ok (.aload_n 0, 1) := by decide +kernel
theorem dX8_strongestBetweenGroups_3 : decode cX8_strongestBetweenGroups 3 = .ok (.getfield 23, 3) := by decide +kernel
theorem dX8_strongestBetweenGroups_6 : decode cX8_strongestBetweenGroups 6 = .ok (.astore_n 2, 1) := by decide +kernel
theorem dX8_strongestBetweenGroups_7 : decode cX8_strongestBetweenGroups 7 = .ok (.aload_n 2, 1) := by decide +kernel
theorem dX8_strongestBetweenGroups_8 : decode cX8_strongestBetweenGroups 8 = .ok (.arraylength, 1) := by decide +kernel
theorem dX8_strongestBetweenGroups_9 : decode cX8_strongestBetweenGroups 9 = .ok (.istore_n 3, 1) := by decide +kernel
theorem dX8_strongestBetweenGroups_10 : decode cX8_strongestBetweenGroups 10 = .ok (.iconst 0, 1) := by decide +kernel
theorem dX8_strongestBetweenGroups_11 : decode cX8_strongestBetweenGroups 11 = .ok (.istore 4, 2) := by decide +kernel
theorem dX8_strongestBetweenGroups_13 : decode cX8_strongestBetweenGroups 13 = .ok (.iload 4, 2) := by decide +kernel
theorem dX8_strongestBetweenGroups_15 : decode cX8_strongestBetweenGroups 15 = .ok (.iload_n 3, 1) := by decide +kernel
theorem dX8_strongestBetweenGroups_16 : decode cX8_strongestBetweenGroups 16 = .ok (.if_icmp .ge 59, 3) := by decide +kernel
theorem dX8_strongestBetweenGroups_19 : decode cX8_strongestBetweenGroups 19 = .ok (.aload_n 2, 1) := by decide +kernel
theorem dX8_strongestBetweenGroups_20 : decode cX8_strongestBetweenGroups 20 = .ok (.iload 4, 2) := by decide +kernel
theorem dX8_strongestBetweenGroups_22 : decode cX8_strongestBetweenGroups 22 = .ok (.aaload, 1) := by decide +kernel
theorem dX8_strongestBetweenGroups_23 : decode cX8_strongestBetweenGroups 23 = .ok (.astore 5, 2) := by decide +kernel
theorem dX8_strongestBetweenGroups_25 : decode cX8_strongestBetweenGroups 25 = .ok (.aload 5, 2) := by decide +kernel
theorem dX8_strongestBetweenGroups_27 : decode cX8_strongestBetweenGroups 27 = .ok (.ifnull 42, 3) := by decide +kernel
theorem dX8_strongestBetweenGroups_30 : decode cX8_strongestBetweenGroups 30 = .ok (.aload 5, 2) := by decide +kernel
theorem dX8_strongestBetweenGroups_32 : decode cX8_strongestBetweenGroups 32 = .ok (.getfield 178, 3) := by decide +kernel
theorem dX8_strongestBetweenGroups_35 : decode cX8_strongestBetweenGroups 35 = .ok (.getfield 167, 3) := by decide +kernel
theorem dX8_strongestBetweenGroups_38 : decode cX8_strongestBetweenGroups 38 = .ok (.aload 5, 2) := by decide +kernel
theorem dX8_strongestBetweenGroups_40 : decode cX8_strongestBetweenGroups 40 = .ok (.getfield 174, 3) := by decide +kernel
theorem dX8_strongestBetweenGroups_43 : decode cX8_strongestBetweenGroups 43 = .ok (.getfield 167, 3) := by decide +kernel
theorem dX8_strongestBetweenGroups_46 : decode cX8_strongestBetweenGroups 46 = .ok (.if_icmp .eq 23, 3) := by decide +kernel
theorem dX8_strongestBetweenGroups_49 : decode cX8_strongestBetweenGroups 49 = .ok (.aload_n 1, 1) := by decide +kernel
theorem dX8_strongestBetweenGroups_50 : decode cX8_strongestBetweenGroups 50 = .ok (.ifnull 16, 3) := by decide +kernel
theorem dX8_strongestBetweenGroups_53 : decode cX8_strongestBetweenGroups 53 = .ok (.aload 5, 2) := by decide +kernel
theorem dX8_strongestBetweenGroups_55 : decode cX8_strongestBetweenGroups 55 = .ok (.invokevirtual 151, 3) := by decide +kernel
theorem dX8_strongestBetweenGroups_58 : decode cX8_strongestBetweenGroups 58 = .ok (.aload_n 1, 1) := by decide +kernel
theorem dX8_strongestBetweenGroups_59 : decode cX8_strongestBetweenGroups 59 = .ok (.invokevirtual 151, 3) := by decide +kernel
theorem dX8_strongestBetweenGroups_62 : decode cX8_strongestBetweenGroups 62 = .ok (.lcmp, 1) := by decide +kernel
theorem dX8_strongestBetweenGroups_63 : decode cX8_strongestBetweenGroups 63 = .ok (.ifCond .le 6, 3) := by decide +kernel
theorem dX8_strongestBetweenGroups_66 : decode cX8_strongestBetweenGroups 66 = .ok (.aload 5, 2) := by decide +kernel
theorem dX8_strongestBetweenGroups_68 : decode cX8_strongestBetweenGroups 68 = .ok (.astore_n 1, 1) := by decide +kernel
theorem dX8_strongestBetweenGroups_69 : decode cX8_strongestBetweenGroups 69 = .ok (.iinc 4 1, 3) := by decide +kernel
theorem dX8_strongestBetweenGroups_72 : decode cX8_strongestBetweenGroups 72 = .ok (.goto (-59), 3) := by decide +kernel
theorem dX8_strongestBetweenGroups_75 : decode cX8_strongestBetweenGroups 75 = .ok (.aload_n 1, 1) := by decide +kernel
theorem dX8_strongestBetweenGroups_76 : decode cX8_strongestBetweenGroups 76 = .ok (.areturn, 1) := by decide +kernel
theorem dX8_moveGroup_0 : decode cX8_moveGroup 0 = .ok (.aload_n 0, 1) := by decide +kernel
theorem dX8_moveGroup_1 : decode cX8_moveGroup 1 = .ok (.getfield 17, 3) := by decide +kernel
theorem dX8_moveGroup_4 : decode cX8_moveGroup 4 = .ok (.astore_n 3, 1) := by decide +kernel
theorem dX8_moveGroup_5 : decode cX8_moveGroup 5 = .ok (.aload_n 3, 1) := by decide +kernel
theorem dX8_moveGroup_6 : decode cX8_moveGroup 6 = .ok (.arraylength, 1) := by decide +kernel
theorem dX8_moveGroup_7 : decode cX8_moveGroup 7 = .ok (.istore 4, 2) := by decide +kernel
theorem dX8_moveGroup_9 : decode cX8_moveGroup 9 = .ok (.iconst 0, 1) := by decide +kernel
theorem dX8_moveGroup_10 : decode cX8_moveGroup 10 = .ok (.istore 5, 2) := by decide +kernel
theorem dX8_moveGroup_12 : decode cX8_moveGroup 12 = .ok (.iload 5, 2) := by decide +kernel
theorem dX8_moveGroup_14 : decode cX8_moveGroup 14 = .ok (.iload 4, 2) := by decide +kernel
theorem dX8_moveGroup_16 : decode cX8_moveGroup 16 = .ok (.if_icmp .ge 35, 3) := by decide +kernel
theorem dX8_moveGroup_19 : decode cX8_moveGroup 19 = .ok (.aload_n 3, 1) := by decide +kernel
theorem dX8_moveGroup_20 : decode cX8_moveGroup 20 = .ok (.iload 5, 2) := by decide +kernel
theorem dX8_moveGroup_22 : decode cX8_moveGroup 22 = .ok (.aaload, 1) := by decide +kernel
theorem dX8_moveGroup_23 : decode cX8_moveGroup 23 = .ok (.astore 6, 2) := by decide +kernel
theorem dX8_moveGroup_25 : decode cX8_moveGroup 25 = .ok (.aload 6, 2) := by decide +kernel
theorem dX8_moveGroup_27 : decode cX8_moveGroup 27 = .ok (.ifnull 18, 3) := by decide +kernel
theorem dX8_moveGroup_30 : decode cX8_moveGroup 30 = .ok (.aload 6, 2) := by decide +kernel
theorem dX8_moveGroup_32 : decode cX8_moveGroup 32 = .ok (.getfield 167, 3) := by decide +kernel
theorem dX8_moveGroup_35 : decode cX8_moveGroup 35 = .ok (.iload_n 1, 1) := by decide +kernel
theorem dX8_moveGroup_36 : decode cX8_moveGroup 36 = .ok (.if_icmp .ne 9, 3) := by decide +kernel
theorem dX8_moveGroup_39 : decode cX8_moveGroup 39 = .ok (.aload 6, 2) := by decide +kernel
theorem dX8_moveGroup_41 : decode cX8_moveGroup 41 = .ok (.iload_n 2, 1) := by decide +kernel
theorem dX8_moveGroup_42 : decode cX8_moveGroup 42 = .ok (.putfield 167, 3) := by decide +kernel
theorem dX8_moveGroup_45 : decode cX8_moveGroup 45 = .ok (.iinc 5 1, 3) := by decide +kernel
theorem dX8_moveGroup_48 : decode cX8_moveGroup 48 = .ok (.goto (-36), 3) := by decide +kernel
theorem dX8_moveGroup_51 : decode cX8_moveGroup 51 = .ok (.return_, 1) := by decide +kernel
theorem dX8_knot_0 : decode cX8_knot 0 = .ok (.iload_n 1, 1) := by decide +kernel
theorem dX8_knot_1 : decode cX8_knot 1 = .ok (.i2l, 1) := by decide +kernel
theorem dX8_knot_2 : decode cX8_knot 2 = .ok (.lconst 0, 1) := by decide +kernel
theorem dX8_knot_3 : decode cX8_knot 3 = .ok (.ldc2_w 185, 3) := by decide +kernel
theorem dX8_knot_6 : decode cX8_knot 6 = .ok (.invokestatic 62, 3) := by decide +kernel
theorem dX8_knot_9 : decode cX8_knot 9 = .ok (.ifCond .eq 13, 3) := by decide +kernel
theorem dX8_knot_12 : decode cX8_knot 12 = .ok (.new 89, 3) := by decide +kernel
theorem dX8_knot_15 : decode cX8_knot 15 = .ok (.dup, 1) := by decide +kernel
theorem dX8_knot_16 : decode cX8_knot 16 = .ok (.ldc 187, 2) := by decide +kernel
theorem dX8_knot_18 : decode cX8_knot 18 = .ok (.invokespecial 93, 3) := by decide +kernel
theorem dX8_knot_21 : decode cX8_knot 21 = .ok (.athrow, 1) := by decide +kernel
theorem dX8_knot_22 : decode cX8_knot 22 = .ok (.iload_n 2, 1) := by decide +kernel
theorem dX8_knot_23 : decode cX8_knot 23 = .ok (.i2l, 1) := by decide +kernel
theorem dX8_knot_24 : decode cX8_knot 24 = .ok (.ldc2_w 189, 3) := by decide +kernel
theorem dX8_knot_27 : decode cX8_knot 27 = .ok (.ldc2_w 94, 3) := by decide +kernel
theorem dX8_knot_30 : decode cX8_knot 30 = .ok (.invokestatic 62, 3) := by decide +kernel
theorem dX8_knot_33 : decode cX8_knot 33 = .ok (.ifCond .eq 13, 3) := by decide +kernel
theorem dX8_knot_36 : decode cX8_knot 36 = .ok (.new 66, 3) := by decide +kernel
theorem dX8_knot_39 : decode cX8_knot 39 = .ok (.dup, 1) := by decide +kernel
theorem dX8_knot_40 : decode cX8_knot 40 = .ok (.ldc 191, 2) := by decide +kernel
theorem dX8_knot_42 : decode cX8_knot 42 = .ok (.invokespecial 70, 3) := by decide +kernel
theorem dX8_knot_45 : decode cX8_knot 45 = .ok (.athrow, 1) := by decide +kernel
theorem dX8_knot_46 : decode cX8_knot 46 = .ok (.aload_n 0, 1) := by decide +kernel
theorem dX8_knot_47 : decode cX8_knot 47 = .ok (.getfield 30, 3) := by decide +kernel
theorem dX8_knot_50 : decode cX8_knot 50 = .ok (.getfield 193, 3) := by decide +kernel
theorem dX8_knot_53 : decode cX8_knot 53 = .ok (.iload_n 1, 1) := by decide +kernel
theorem dX8_knot_54 : decode cX8_knot 54 = .ok (.iaload, 1) := by decide +kernel
theorem dX8_knot_55 : decode cX8_knot 55 = .ok (.istore 4, 2) := by decide +kernel
theorem dX8_knot_57 : decode cX8_knot 57 = .ok (.aload_n 0, 1) := by decide +kernel
theorem dX8_knot_58 : decode cX8_knot 58 = .ok (.getfield 30, 3) := by decide +kernel
theorem dX8_knot_61 : decode cX8_knot 61 = .ok (.getfield 193, 3) := by decide +kernel
theorem dX8_knot_64 : decode cX8_knot 64 = .ok (.iload_n 1, 1) := by decide +kernel
theorem dX8_knot_65 : decode cX8_knot 65 = .ok (.iload_n 2, 1) := by decide +kernel
theorem dX8_knot_66 : decode cX8_knot 66 = .ok (.iastore, 1) := by decide +kernel
theorem dX8_knot_67 : decode cX8_knot 67 = .ok (.aload_n 0, 1) := by decide +kernel
theorem dX8_knot_68 : decode cX8_knot 68 = .ok (.getfield 30, 3) := by decide +kernel
theorem dX8_knot_71 : decode cX8_knot 71 = .ok (.getfield 197, 3) := by decide +kernel
theorem dX8_knot_74 : decode cX8_knot 74 = .ok (.iload_n 1, 1) := by decide +kernel
theorem dX8_knot_75 : decode cX8_knot 75 = .ok (.iload_n 3, 1) := by decide +kernel
theorem dX8_knot_76 : decode cX8_knot 76 = .ok (.bastore, 1) := by decide +kernel
theorem dX8_knot_77 : decode cX8_knot 77 = .ok (.iload 4, 2) := by decide +kernel
theorem dX8_knot_79 : decode cX8_knot 79 = .ok (.ireturn, 1) := by decide +kernel
theorem dX8_load_0 : decode cX8_load 0 = .ok (.iload_n 1, 1) := by decide +kernel
theorem dX8_load_1 : decode cX8_load 1 = .ok (.i2l, 1) := by decide +kernel
theorem dX8_load_2 : decode cX8_load 2 = .ok (.lconst 0, 1) := by decide +kernel
theorem dX8_load_3 : decode cX8_load 3 = .ok (.ldc2_w 201, 3) := by decide +kernel
theorem dX8_load_6 : decode cX8_load 6 = .ok (.invokestatic 62, 3) := by decide +kernel
theorem dX8_load_9 : decode cX8_load 9 = .ok (.ifCond .eq 13, 3) := by decide +kernel
theorem dX8_load_12 : decode cX8_load 12 = .ok (.new 66, 3) := by decide +kernel
theorem dX8_load_15 : decode cX8_load 15 = .ok (.dup, 1) := by decide +kernel
theorem dX8_load_16 : decode cX8_load 16 = .ok (.ldc 203, 2) := by decide +kernel
theorem dX8_load_18 : decode cX8_load 18 = .ok (.invokespecial 70, 3) := by decide +kernel
theorem dX8_load_21 : decode cX8_load 21 = .ok (.athrow, 1) := by decide +kernel
theorem dX8_load_22 : decode cX8_load 22 = .ok (.aload_n 0, 1) := by decide +kernel
theorem dX8_load_23 : decode cX8_load 23 = .ok (.getfield 30, 3) := by decide +kernel
theorem dX8_load_26 : decode cX8_load 26 = .ok (.getfield 205, 3) := by decide +kernel
theorem dX8_load_29 : decode cX8_load 29 = .ok (.istore_n 2, 1) := by decide +kernel
theorem dX8_load_30 : decode cX8_load 30 = .ok (.aload_n 0, 1) := by decide +kernel
theorem dX8_load_31 : decode cX8_load 31 = .ok (.getfield 30, 3) := by decide +kernel
theorem dX8_load_34 : decode cX8_load 34 = .ok (.iload_n 1, 1) := by decide +kernel
theorem dX8_load_35 : decode cX8_load 35 = .ok (.putfield 205, 3) := by decide +kernel
theorem dX8_load_38 : decode cX8_load 38 = .ok (.iload_n 2, 1) := by decide +kernel
theorem dX8_load_39 : decode cX8_load 39 = .ok (.ireturn, 1) := by decide +kernel
theorem dX8_rest_0 : decode cX8_rest 0 = .ok (.iload_n 1, 1) := by decide +kernel
theorem dX8_rest_1 : decode cX8_rest 1 = .ok (.i2l, 1) := by decide +kernel
theorem dX8_rest_2 : decode cX8_rest 2 = .ok (.lconst 1, 1) := by decide +kernel
theorem dX8_rest_3 : decode cX8_rest 3 = .ok (.ldc2_w 208, 3) := by decide +kernel
theorem dX8_rest_6 : decode cX8_rest 6 = .ok (.invokestatic 62, 3) := by decide +kernel
theorem dX8_rest_9 : decode cX8_rest 9 = .ok (.ifCond .eq 13, 3) := by decide +kernel
theorem dX8_rest_12 : decode cX8_rest 12 = .ok (.new 66, 3) := by decide +kernel
theorem dX8_rest_15 : decode cX8_rest 15 = .ok (.dup, 1) := by decide +kernel
theorem dX8_rest_16 : decode cX8_rest 16 = .ok (.ldc 210, 2) := by decide +kernel
theorem dX8_rest_18 : decode cX8_rest 18 = .ok (.invokespecial 70, 3) := by decide +kernel
theorem dX8_rest_21 : decode cX8_rest 21 = .ok (.athrow, 1) := by decide +kernel
theorem dX8_rest_22 : decode cX8_rest 22 = .ok (.iconst 0, 1) := by decide +kernel
theorem dX8_rest_23 : decode cX8_rest 23 = .ok (.istore_n 2, 1) := by decide +kernel
theorem dX8_rest_24 : decode cX8_rest 24 = .ok (.iload_n 2, 1) := by decide +kernel
theorem dX8_rest_25 : decode cX8_rest 25 = .ok (.iload_n 1, 1) := by decide +kernel
theorem dX8_rest_26 : decode cX8_rest 26 = .ok (.if_icmp .ge 19, 3) := by decide +kernel
theorem dX8_rest_29 : decode cX8_rest 29 = .ok (.aload_n 0, 1) := by decide +kernel
theorem dX8_rest_30 : decode cX8_rest 30 = .ok (.getfield 30, 3) := by decide +kernel
theorem dX8_rest_33 : decode cX8_rest 33 = .ok (.invokevirtual 212, 3) := by decide +kernel
theorem dX8_rest_36 : decode cX8_rest 36 = .ok (.ifCond .eq 9, 3) := by decide +kernel
theorem dX8_rest_39 : decode cX8_rest 39 = .ok (.iinc 2 1, 3) := by decide +kernel
theorem dX8_rest_42 : decode cX8_rest 42 = .ok (.goto (-18), 3) := by decide +kernel
theorem dX8_rest_45 : decode cX8_rest 45 = .ok (.iload_n 2, 1) := by decide +kernel
theorem dX8_rest_46 : decode cX8_rest 46 = .ok (.ireturn, 1) := by decide +kernel
theorem dX8_height_0 : decode cX8_height 0 = .ok (.iload_n 1, 1) := by decide +kernel
theorem dX8_height_1 : decode cX8_height 1 = .ok (.i2l, 1) := by decide +kernel
theorem dX8_height_2 : decode cX8_height 2 = .ok (.lconst 0, 1) := by decide +kernel
theorem dX8_height_3 : decode cX8_height 3 = .ok (.ldc2_w 185, 3) := by decide +kernel
theorem dX8_height_6 : decode cX8_height 6 = .ok (.invokestatic 62, 3) := by decide +kernel
theorem dX8_height_9 : decode cX8_height 9 = .ok (.ifCond .eq 13, 3) := by decide +kernel
theorem dX8_height_12 : decode cX8_height 12 = .ok (.new 89, 3) := by decide +kernel
theorem dX8_height_15 : decode cX8_height 15 = .ok (.dup, 1) := by decide +kernel
theorem dX8_height_16 : decode cX8_height 16 = .ok (.ldc 187, 2) := by decide +kernel
theorem dX8_height_18 : decode cX8_height 18 = .ok (.invokespecial 93, 3) := by decide +kernel
theorem dX8_height_21 : decode cX8_height 21 = .ok (.athrow, 1) := by decide +kernel
theorem dX8_height_22 : decode cX8_height 22 = .ok (.aload_n 0, 1) := by decide +kernel
theorem dX8_height_23 : decode cX8_height 23 = .ok (.getfield 30, 3) := by decide +kernel
theorem dX8_height_26 : decode cX8_height 26 = .ok (.getfield 193, 3) := by decide +kernel
theorem dX8_height_29 : decode cX8_height 29 = .ok (.iload_n 1, 1) := by decide +kernel
theorem dX8_height_30 : decode cX8_height 30 = .ok (.iaload, 1) := by decide +kernel
theorem dX8_height_31 : decode cX8_height 31 = .ok (.ireturn, 1) := by decide +kernel
theorem dX8_peg_0 : decode cX8_peg 0 = .ok (.lload_n 1, 1) := by decide +kernel
theorem dX8_peg_1 : decode cX8_peg 1 = .ok (.lconst 0, 1) := by decide +kernel
theorem dX8_peg_2 : decode cX8_peg 2 = .ok (.ldc2_w 216, 3) := by decide +kernel
theorem dX8_peg_5 : decode cX8_peg 5 = .ok (.invokestatic 62, 3) := by decide +kernel
theorem dX8_peg_8 : decode cX8_peg 8 = .ok (.ifCond .ne 15, 3) := by decide +kernel
theorem dX8_peg_11 : decode cX8_peg 11 = .ok (.iload_n 3, 1) := by decide +kernel
theorem dX8_peg_12 : decode cX8_peg 12 = .ok (.i2l, 1) := by decide +kernel
theorem dX8_peg_13 : decode cX8_peg 13 = .ok (.lconst 1, 1) := by decide +kernel
theorem dX8_peg_14 : decode cX8_peg 14 = .ok (.ldc2_w 201, 3) := by decide +kernel
theorem dX8_peg_17 : decode cX8_peg 17 = .ok (.invokestatic 62, 3) := by decide +kernel
theorem dX8_peg_20 : decode cX8_peg 20 = .ok (.ifCond .eq 13, 3) := by decide +kernel
theorem dX8_peg_23 : decode cX8_peg 23 = .ok (.new 66, 3) := by decide +kernel
theorem dX8_peg_26 : decode cX8_peg 26 = .ok (.dup, 1) := by decide +kernel
theorem dX8_peg_27 : decode cX8_peg 27 = .ok (.ldc 218, 2) := by decide +kernel
theorem dX8_peg_29 : decode cX8_peg 29 = .ok (.invokespecial 70, 3) := by decide +kernel
theorem dX8_peg_32 : decode cX8_peg 32 = .ok (.athrow, 1) := by decide +kernel
theorem dX8_peg_33 : decode cX8_peg 33 = .ok (.aload_n 0, 1) := by decide +kernel
theorem dX8_peg_34 : decode cX8_peg 34 = .ok (.getfield 220, 3) := by decide +kernel
theorem dX8_peg_37 : decode cX8_peg 37 = .ok (.aload_n 0, 1) := by decide +kernel
theorem dX8_peg_38 : decode cX8_peg 38 = .ok (.getfield 36, 3) := by decide +kernel
theorem dX8_peg_41 : decode cX8_peg 41 = .ok (.arraylength, 1) := by decide +kernel
theorem dX8_peg_42 : decode cX8_peg 42 = .ok (.if_icmp .lt 13, 3) := by decide +kernel
theorem dX8_peg_45 : decode cX8_peg 45 = .ok (.new 77, 3) := by decide +kernel
theorem dX8_peg_48 : decode cX8_peg 48 = .ok (.dup, 1) := by decide +kernel
theorem dX8_peg_49 : decode cX8_peg 49 = .ok (.ldc 223, 2) := by decide +kernel
theorem dX8_peg_51 : decode cX8_peg 51 = .ok (.invokespecial 81, 3) := by decide +kernel
theorem dX8_peg_54 : decode cX8_peg 54 = .ok (.athrow, 1) := by decide +kernel
theorem dX8_peg_55 : decode cX8_peg 55 = .ok (.aload_n 0, 1) := by decide +kernel
theorem dX8_peg_56 : decode cX8_peg 56 = .ok (.getfield 36, 3) := by decide +kernel
theorem dX8_peg_59 : decode cX8_peg 59 = .ok (.aload_n 0, 1) := by decide +kernel
theorem dX8_peg_60 : decode cX8_peg 60 = .ok (.getfield 220, 3) := by decide +kernel
theorem dX8_peg_63 : decode cX8_peg 63 = .ok (.new 34, 3) := by decide +kernel
theorem dX8_peg_66 : decode cX8_peg 66 = .ok (.dup, 1) := by decide +kernel
theorem dX8_peg_67 : decode cX8_peg 67 = .ok (.lload_n 1, 1) := by decide +kernel
theorem dX8_peg_68 : decode cX8_peg 68 = .ok (.iload_n 3, 1) := by decide +kernel
theorem dX8_peg_69 : decode cX8_peg 69 = .ok (.invokespecial 225, 3) := by decide +kernel
theorem dX8_peg_72 : decode cX8_peg 72 = .ok (.aastore, 1) := by decide +kernel
theorem dX8_peg_73 : decode cX8_peg 73 = .ok (.aload_n 0, 1) := by decide +kernel
theorem dX8_peg_74 : decode cX8_peg 74 = .ok (.dup, 1) := by decide +kernel
theorem dX8_peg_75 : decode cX8_peg 75 = .ok (.getfield 220, 3) := by decide +kernel
theorem dX8_peg_78 : decode cX8_peg 78 = .ok (.dup_x1, 1) := by decide +kernel
theorem dX8_peg_79 : decode cX8_peg 79 = .ok (.iconst 1, 1) := by decide +kernel
theorem dX8_peg_80 : decode cX8_peg 80 = .ok (.iadd, 1) := by decide +kernel
theorem dX8_peg_81 : decode cX8_peg 81 = .ok (.putfield 220, 3) := by decide +kernel
theorem dX8_peg_84 : decode cX8_peg 84 = .ok (.ireturn, 1) := by decide +kernel
theorem dX8_gust_0 : decode cX8_gust 0 = .ok (.lload_n 1, 1) := by decide +kernel
theorem dX8_gust_1 : decode cX8_gust 1 = .ok (.lconst 0, 1) := by decide +kernel
theorem dX8_gust_2 : decode cX8_gust 2 = .ok (.ldc2_w 228, 3) := by decide +kernel
theorem dX8_gust_5 : decode cX8_gust 5 = .ok (.invokestatic 62, 3) := by decide +kernel
theorem dX8_gust_8 : decode cX8_gust 8 = .ok (.ifCond .eq 13, 3) := by decide +kernel
theorem dX8_gust_11 : decode cX8_gust 11 = .ok (.new 66, 3) := by decide +kernel
theorem dX8_gust_14 : decode cX8_gust 14 = .ok (.dup, 1) := by decide +kernel
theorem dX8_gust_15 : decode cX8_gust 15 = .ok (.ldc 230, 2) := by decide +kernel
theorem dX8_gust_17 : decode cX8_gust 17 = .ok (.invokespecial 70, 3) := by decide +kernel
theorem dX8_gust_20 : decode cX8_gust 20 = .ok (.athrow, 1) := by decide +kernel
theorem dX8_gust_21 : decode cX8_gust 21 = .ok (.iconst 0, 1) := by decide +kernel
theorem dX8_gust_22 : decode cX8_gust 22 = .ok (.istore_n 3, 1) := by decide +kernel
theorem dX8_gust_23 : decode cX8_gust 23 = .ok (.iconst 0, 1) := by decide +kernel
theorem dX8_gust_24 : decode cX8_gust 24 = .ok (.istore 4, 2) := by decide +kernel
theorem dX8_gust_26 : decode cX8_gust 26 = .ok (.iload 4, 2) := by decide +kernel
theorem dX8_gust_28 : decode cX8_gust 28 = .ok (.bipush 8, 2) := by decide +kernel
theorem dX8_gust_30 : decode cX8_gust 30 = .ok (.if_icmp .ge 33, 3) := by decide +kernel
theorem dX8_gust_33 : decode cX8_gust 33 = .ok (.aload_n 0, 1) := by decide +kernel
theorem dX8_gust_34 : decode cX8_gust 34 = .ok (.lload_n 1, 1) := by decide +kernel
theorem dX8_gust_35 : decode cX8_gust 35 = .ok (.invokevirtual 232, 3) := by decide +kernel
theorem dX8_gust_38 : decode cX8_gust 38 = .ok (.aload_n 0, 1) := by decide +kernel
theorem dX8_gust_39 : decode cX8_gust 39 = .ok (.invokevirtual 236, 3) := by decide +kernel
theorem dX8_gust_42 : decode cX8_gust 42 = .ok (.istore 5, 2) := by decide +kernel
theorem dX8_gust_44 : decode cX8_gust 44 = .ok (.iload 5, 2) := by decide +kernel
theorem dX8_gust_46 : decode cX8_gust 46 = .ok (.ifCond .ne 6, 3) := by decide +kernel
theorem dX8_gust_49 : decode cX8_gust 49 = .ok (.goto 14, 3) := by decide +kernel
theorem dX8_gust_52 : decode cX8_gust 52 = .ok (.iload_n 3, 1) := by decide +kernel
theorem dX8_gust_53 : decode cX8_gust 53 = .ok (.iload 5, 2) := by decide +kernel
theorem dX8_gust_55 : decode cX8_gust 55 = .ok (.iadd, 1) := by decide +kernel
theorem dX8_gust_56 : decode cX8_gust 56 = .ok (.istore_n 3, 1) := by decide +kernel
theorem dX8_gust_57 : decode cX8_gust 57 = .ok (.iinc 4 1, 3) := by decide +kernel
theorem dX8_gust_60 : decode cX8_gust 60 = .ok (.goto (-34), 3) := by decide +kernel
theorem dX8_gust_63 : decode cX8_gust 63 = .ok (.iload_n 3, 1) := by decide +kernel
theorem dX8_gust_64 : decode cX8_gust 64 = .ok (.ireturn, 1) := by decide +kernel
theorem dX8_pulled_0 : decode cX8_pulled 0 = .ok (.iload_n 1, 1) := by decide +kernel
theorem dX8_pulled_1 : decode cX8_pulled 1 = .ok (.i2l, 1) := by decide +kernel
theorem dX8_pulled_2 : decode cX8_pulled 2 = .ok (.lconst 0, 1) := by decide +kernel
theorem dX8_pulled_3 : decode cX8_pulled 3 = .ok (.aload_n 0, 1) := by decide +kernel
theorem dX8_pulled_4 : decode cX8_pulled 4 = .ok (.getfield 220, 3) := by decide +kernel
theorem dX8_pulled_7 : decode cX8_pulled 7 = .ok (.iconst 1, 1) := by decide +kernel
theorem dX8_pulled_8 : decode cX8_pulled 8 = .ok (.isub, 1) := by decide +kernel
theorem dX8_pulled_9 : decode cX8_pulled 9 = .ok (.i2l, 1) := by decide +kernel
theorem dX8_pulled_10 : decode cX8_pulled 10 = .ok (.invokestatic 62, 3) := by decide +kernel
theorem dX8_pulled_13 : decode cX8_pulled 13 = .ok (.ifCond .eq 7, 3) := by decide +kernel
theorem dX8_pulled_16 : decode cX8_pulled 16 = .ok (.aconst_null, 1) := by decide +kernel
theorem dX8_pulled_17 : decode cX8_pulled 17 = .ok (.goto 9, 3) := by decide +kernel
theorem dX8_pulled_20 : decode cX8_pulled 20 = .ok (.aload_n 0, 1) := by decide +kernel
theorem dX8_pulled_21 : decode cX8_pulled 21 = .ok (.getfield 36, 3) := by decide +kernel
theorem dX8_pulled_24 : decode cX8_pulled 24 = .ok (.iload_n 1, 1) := by decide +kernel
theorem dX8_pulled_25 : decode cX8_pulled 25 = .ok (.aaload, 1) := by decide +kernel
theorem dX8_pulled_26 : decode cX8_pulled 26 = .ok (.astore_n 2, 1) := by decide +kernel
theorem dX8_pulled_27 : decode cX8_pulled 27 = .ok (.aload_n 2, 1) := by decide +kernel
theorem dX8_pulled_28 : decode cX8_pulled 28 = .ok (.ifnonnull 13, 3) := by decide +kernel
theorem dX8_pulled_31 : decode cX8_pulled 31 = .ok (.new 89, 3) := by decide +kernel
theorem dX8_pulled_34 : decode cX8_pulled 34 = .ok (.dup, 1) := by decide +kernel
theorem dX8_pulled_35 : decode cX8_pulled 35 = .ok (.ldc 239, 2) := by decide +kernel
theorem dX8_pulled_37 : decode cX8_pulled 37 = .ok (.invokespecial 93, 3) := by decide +kernel
theorem dX8_pulled_40 : decode cX8_pulled 40 = .ok (.athrow, 1) := by decide +kernel
theorem dX8_pulled_41 : decode cX8_pulled 41 = .ok (.aload_n 2, 1) := by decide +kernel
theorem dX8_pulled_42 : decode cX8_pulled 42 = .ok (.getfield 241, 3) := by decide +kernel
theorem dX8_pulled_45 : decode cX8_pulled 45 = .ok (.lreturn, 1) := by decide +kernel
theorem dX8_pegs_0 : decode cX8_pegs 0 = .ok (.iconst 0, 1) := by decide +kernel
theorem dX8_pegs_1 : decode cX8_pegs 1 = .ok (.istore_n 1, 1) := by decide +kernel
theorem dX8_pegs_2 : decode cX8_pegs 2 = .ok (.iconst 0, 1) := by decide +kernel
theorem dX8_pegs_3 : decode cX8_pegs 3 = .ok (.istore_n 2, 1) := by decide +kernel
theorem dX8_pegs_4 : decode cX8_pegs 4 = .ok (.iload_n 2, 1) := by decide +kernel
theorem dX8_pegs_5 : decode cX8_pegs 5 = .ok (.aload_n 0, 1) := by decide +kernel
theorem dX8_pegs_6 : decode cX8_pegs 6 = .ok (.getfield 220, 3) := by decide +kernel
theorem dX8_pegs_9 : decode cX8_pegs 9 = .ok (.if_icmp .ge 33, 3) := by decide +kernel
theorem dX8_pegs_12 : decode cX8_pegs 12 = .ok (.aload_n 0, 1) := by decide +kernel
theorem dX8_pegs_13 : decode cX8_pegs 13 = .ok (.getfield 36, 3) := by decide +kernel
theorem dX8_pegs_16 : decode cX8_pegs 16 = .ok (.iload_n 2, 1) := by decide +kernel
theorem dX8_pegs_17 : decode cX8_pegs 17 = .ok (.aaload, 1) := by decide +kernel
theorem dX8_pegs_18 : decode cX8_pegs 18 = .ok (.astore_n 3, 1) := by decide +kernel
theorem dX8_pegs_19 : decode cX8_pegs 19 = .ok (.aload_n 3, 1) := by decide +kernel
theorem dX8_pegs_20 : decode cX8_pegs 20 = .ok (.ifnull 16, 3) := by decide +kernel
theorem dX8_pegs_23 : decode cX8_pegs 23 = .ok (.aload_n 3, 1) := by decide +kernel
theorem dX8_pegs_24 : decode cX8_pegs 24 = .ok (.getfield 244, 3) := by decide +kernel
theorem dX8_pegs_27 : decode cX8_pegs 27 = .ok (.ifCond .eq 9, 3) := by decide +kernel
theorem dX8_pegs_30 : decode cX8_pegs 30 = .ok (.iload_n 1, 1) := by decide +kernel
theorem dX8_pegs_31 : decode cX8_pegs 31 = .ok (.iconst 1, 1) := by decide +kernel
theorem dX8_pegs_32 : decode cX8_pegs 32 = .ok (.iload_n 2, 1) := by decide +kernel
theorem dX8_pegs_33 : decode cX8_pegs 33 = .ok (.ishl, 1) := by decide +kernel
theorem dX8_pegs_34 : decode cX8_pegs 34 = .ok (.iadd, 1) := by decide +kernel
theorem dX8_pegs_35 : decode cX8_pegs 35 = .ok (.istore_n 1, 1) := by decide +kernel
theorem dX8_pegs_36 : decode cX8_pegs 36 = .ok (.iinc 2 1, 3) := by decide +kernel
theorem dX8_pegs_39 : decode cX8_pegs 39 = .ok (.goto (-35), 3) := by decide +kernel
theorem dX8_pegs_42 : decode cX8_pegs 42 = .ok (.iload_n 1, 1) := by decide +kernel
theorem dX8_pegs_43 : decode cX8_pegs 43 = .ok (.ireturn, 1) := by decide +kernel
theorem dX8_shareForce_0 : decode cX8_shareForce 0 = .ok (.aload_n 0, 1) := by decide +kernel
theorem dX8_shareForce_1 : decode cX8_shareForce 1 = .ok (.invokevirtual 248, 3) := by decide +kernel
theorem dX8_shareForce_4 : decode cX8_shareForce 4 = .ok (.lstore_n 3, 1) := by decide +kernel
theorem dX8_shareForce_5 : decode cX8_shareForce 5 = .ok (.lload_n 3, 1) := by decide +kernel
theorem dX8_shareForce_6 : decode cX8_shareForce 6 = .ok (.lconst 0, 1) := by decide +kernel
theorem dX8_shareForce_7 : decode cX8_shareForce 7 = .ok (.lcmp, 1) := by decide +kernel
theorem dX8_shareForce_8 : decode cX8_shareForce 8 = .ok (.ifCond .gt 4, 3) := by decide +kernel
theorem dX8_shareForce_11 : decode cX8_shareForce 11 = .ok (.return_, 1) := by decide +kernel
theorem dX8_shareForce_12 : decode cX8_shareForce 12 = .ok (.aconst_null, 1) := by decide +kernel
theorem dX8_shareForce_13 : decode cX8_shareForce 13 = .ok (.astore 5, 2) := by decide +kernel
theorem dX8_shareForce_15 : decode cX8_shareForce 15 = .ok (.lload_n 1, 1) := by decide +kernel
theorem dX8_shareForce_16 : decode cX8_shareForce 16 = .ok (.lstore 6, 2) := by decide +kernel
theorem dX8_shareForce_18 : decode cX8_shareForce 18 = .ok (.aload_n 0, 1) := by decide +kernel
theorem dX8_shareForce_19 : decode cX8_shareForce 19 = .ok (.getfield 36, 3) := by decide +kernel
theorem dX8_shareForce_22 : decode cX8_shareForce 22 = .ok (.astore 8, 2) := by decide +kernel
theorem dX8_shareForce_24 : decode cX8_shareForce 24 = .ok (.aload 8, 2) := by decide +kernel
theorem dX8_shareForce_26 : decode cX8_shareForce 26 = .ok (.arraylength, 1) := by decide +kernel
theorem dX8_shareForce_27 : decode cX8_shareForce 27 = .ok (.istore 9, 2) := by decide +kernel
theorem dX8_shareForce_29 : decode cX8_shareForce 29 = .ok (.iconst 0, 1) := by decide +kernel
theorem dX8_shareForce_30 : decode cX8_shareForce 30 = .ok (.istore 10, 2) := by decide +kernel
theorem dX8_shareForce_32 : decode cX8_shareForce 32 = .ok (.iload 10, 2) := by decide +kernel
theorem dX8_shareForce_34 : decode cX8_shareForce 34 = .ok (.iload 9, 2) := by decide +kernel
theorem dX8_shareForce_36 : decode cX8_shareForce 36 = .ok (.if_icmp .ge 68, 3) := by decide +kernel
theorem dX8_shareForce_39 : decode cX8_shareForce 39 = .ok (.aload 8, 2) := by decide +kernel
theorem dX8_shareForce_41 : decode cX8_shareForce 41 = .ok (.iload 10, 2) := by decide +kernel
theorem dX8_shareForce_43 : decode cX8_shareForce 43 = .ok (.aaload, 1) := by decide +kernel
theorem dX8_shareForce_44 : decode cX8_shareForce 44 = .ok (.astore 11, 2) := by decide +kernel
theorem dX8_shareForce_46 : decode cX8_shareForce 46 = .ok (.aload 11, 2) := by decide +kernel
theorem dX8_shareForce_48 : decode cX8_shareForce 48 = .ok (.ifnull 50, 3) := by decide +kernel
theorem dX8_shareForce_51 : decode cX8_shareForce 51 = .ok (.aload 11, 2) := by decide +kernel
theorem dX8_shareForce_53 : decode cX8_shareForce 53 = .ok (.getfield 244, 3) := by decide +kernel
theorem dX8_shareForce_56 : decode cX8_shareForce 56 = .ok (.ifCond .eq 42, 3) := by decide +kernel
theorem dX8_shareForce_59 : decode cX8_shareForce 59 = .ok (.aload 11, 2) := by decide +kernel
theorem dX8_shareForce_61 : decode cX8_shareForce 61 = .ok (.lload_n 1, 1) := by decide +kernel
theorem dX8_shareForce_62 : decode cX8_shareForce 62 = .ok (.aload 11, 2) := by decide +kernel
theorem dX8_shareForce_64 : decode cX8_shareForce 64 = .ok (.getfield 251, 3) := by decide +kernel
theorem dX8_shareForce_67 : decode cX8_shareForce 67 = .ok (.i2l, 1) := by decide +kernel
theorem dX8_shareForce_68 : decode cX8_shareForce 68 = .ok (.lmul, 1) := by decide +kernel
theorem dX8_shareForce_69 : decode cX8_shareForce 69 = .ok (.lload_n 3, 1) := by decide +kernel
theorem dX8_shareForce_70 : decode cX8_shareForce 70 = .ok (.ldiv, 1) := by decide +kernel
theorem dX8_shareForce_71 : decode cX8_shareForce 71 = .ok (.putfield 241, 3) := by decide +kernel
theorem dX8_shareForce_74 : decode cX8_shareForce 74 = .ok (.lload 6, 2) := by decide +kernel
theorem dX8_shareForce_76 : decode cX8_shareForce 76 = .ok (.aload 11, 2) := by decide +kernel
theorem dX8_shareForce_78 : decode cX8_shareForce 78 = .ok (.getfield 241, 3) := by decide +kernel
theorem dX8_shareForce_81 : decode cX8_shareForce 81 = .ok (.lsub, 1) := by decide +kernel
theorem dX8_shareForce_82 : decode cX8_shareForce 82 = .ok (.lstore 6, 2) := by decide +kernel
theorem dX8_shareForce_84 : decode cX8_shareForce 84 = .ok (.aload 5, 2) := by decide +kernel
theorem dX8_shareForce_86 : decode cX8_shareForce 86 = .ok (.ifnonnull 8, 3) := by decide +kernel
theorem dX8_shareForce_89 : decode cX8_shareForce 89 = .ok (.aload 11, 2) := by decide +kernel
theorem dX8_shareForce_91 : decode cX8_shareForce 91 = .ok (.goto 5, 3) := by decide +kernel
theorem dX8_shareForce_94 : decode cX8_shareForce 94 = .ok (.aload 5, 2) := by decide +kernel
theorem dX8_shareForce_96 : decode cX8_shareForce 96 = .ok (.astore 5, 2) := by decide +kernel
theorem dX8_shareForce_98 : decode cX8_shareForce 98 = .ok (.iinc 10 1, 3) := by decide +kernel
theorem dX8_shareForce_101 : decode cX8_shareForce 101 = .ok (.goto (-69), 3) := by decide +kernel
theorem dX8_shareForce_104 : decode cX8_shareForce 104 = .ok (.aload 5, 2) := by decide +kernel
theorem dX8_shareForce_106 : decode cX8_shareForce 106 = .ok (.ifnull 15, 3) := by decide +kernel
theorem dX8_shareForce_109 : decode cX8_shareForce 109 = .ok (.aload 5, 2) := by decide +kernel
theorem dX8_shareForce_111 : decode cX8_shareForce 111 = .ok (.dup, 1) := by decide +kernel
theorem dX8_shareForce_112 : decode cX8_shareForce 112 = .ok (.getfield 241, 3) := by decide +kernel
theorem dX8_shareForce_115 : decode cX8_shareForce 115 = .ok (.lload 6, 2) := by decide +kernel
theorem dX8_shareForce_117 : decode cX8_shareForce 117 = .ok (.ladd, 1) := by decide +kernel
theorem dX8_shareForce_118 : decode cX8_shareForce 118 = .ok (.putfield 241, 3) := by decide +kernel
theorem dX8_shareForce_121 : decode cX8_shareForce 121 = .ok (.return_, 1) := by decide +kernel
theorem dX8_stiffnessTogether_0 : decode cX8_stiffnessTogether 0 = .ok (.lconst 0, 1) := by decide +kernel
theorem dX8_stiffnessTogether_1 : decode cX8_stiffnessTogether 1 = .ok (.lstore_n 1, 1) := by decide +kernel
theorem dX8_stiffnessTogether_2 : decode cX8_stiffnessTogether 2 = .ok (.aload_n 0, 1) := by decide +kernel
theorem dX8_stiffnessTogether_3 : decode cX8_stiffnessTogether 3 = .ok (.getfield 36, 3) := by decide +kernel
theorem dX8_stiffnessTogether_6 : decode cX8_stiffnessTogether 6 = .ok (.astore_n 3, 1) := by decide +kernel
theorem dX8_stiffnessTogether_7 : decode cX8_stiffnessTogether 7 = .ok (.aload_n 3, 1) := by decide +kernel
theorem dX8_stiffnessTogether_8 : decode cX8_stiffnessTogether 8 = .ok (.arraylength, 1) := by decide +kernel
theorem dX8_stiffnessTogether_9 : decode cX8_stiffnessTogether 9 = .ok (.istore 4, 2) := by decide +kernel
theorem dX8_stiffnessTogether_11 : decode cX8_stiffnessTogether 11 = .ok (.iconst 0, 1) := by decide +kernel
theorem dX8_stiffnessTogether_12 : decode cX8_stiffnessTogether 12 = .ok (.istore 5, 2) := by decide +kernel
theorem dX8_stiffnessTogether_14 : decode cX8_stiffnessTogether 14 = .ok (.iload 5, 2) := by decide +kernel
theorem dX8_stiffnessTogether_16 : decode cX8_stiffnessTogether 16 = .ok (.iload 4, 2) := by decide +kernel
theorem dX8_stiffnessTogether_18 : decode cX8_stiffnessTogether 18 = .ok (.if_icmp .ge 37, 3) := by decide +kernel
theorem dX8_stiffnessTogether_21 : decode cX8_stiffnessTogether 21 = .ok (.aload_n 3, 1) := by decide +kernel
theorem dX8_stiffnessTogether_22 : decode cX8_stiffnessTogether 22 = .ok (.iload 5, 2) := by decide +kernel
theorem dX8_stiffnessTogether_24 : decode cX8_stiffnessTogether 24 = .ok (.aaload, 1) := by decide +kernel
theorem dX8_stiffnessTogether_25 : decode cX8_stiffnessTogether 25 = .ok (.astore 6, 2) := by decide +kernel
theorem dX8_stiffnessTogether_27 : decode cX8_stiffnessTogether 27 = .ok (.aload 6, 2) := by decide +kernel
theorem dX8_stiffnessTogether_29 : decode cX8_stiffnessTogether 29 = .ok (.ifnull 20, 3) := by decide +kernel
theorem dX8_stiffnessTogether_32 : decode cX8_stiffnessTogether 32 = .ok (.aload 6, 2) := by decide +kernel
theorem dX8_stiffnessTogether_34 : decode cX8_stiffnessTogether 34 = .ok (.getfield 244, 3) := by decide +kernel
theorem dX8_stiffnessTogether_37 : decode cX8_stiffnessTogether 37 = .ok (.ifCond .eq 12, 3) := by decide +kernel
theorem dX8_stiffnessTogether_40 : decode cX8_stiffnessTogether 40 = .ok (.lload_n 1, 1) := by decide +kernel
theorem dX8_stiffnessTogether_41 : decode cX8_stiffnessTogether 41 = .ok (.aload 6, 2) := by decide +kernel
theorem dX8_stiffnessTogether_43 : decode cX8_stiffnessTogether 43 = .ok (.getfield 251, 3) := by decide +kernel
theorem dX8_stiffnessTogether_46 : decode cX8_stiffnessTogether 46 = .ok (.i2l, 1) := by decide +kernel
theorem dX8_stiffnessTogether_47 : decode cX8_stiffnessTogether 47 = .ok (.ladd, 1) := by decide +kernel
theorem dX8_stiffnessTogether_48 : decode cX8_stiffnessTogether 48 = .ok (.lstore_n 1, 1) := by decide +kernel
theorem dX8_stiffnessTogether_49 : decode cX8_stiffnessTogether 49 = .ok (.iinc 5 1, 3) := by decide +kernel
theorem dX8_stiffnessTogether_52 : decode cX8_stiffnessTogether 52 = .ok (.goto (-38), 3) := by decide +kernel
theorem dX8_stiffnessTogether_55 : decode cX8_stiffnessTogether 55 = .ok (.lload_n 1, 1) := by decide +kernel
theorem dX8_stiffnessTogether_56 : decode cX8_stiffnessTogether 56 = .ok (.lreturn, 1) := by decide +kernel
theorem dX8_takeOutOverpulled_0 : decode cX8_takeOutOverpulled 0 = .ok (.iconst 0, 1) := by decide +kernel
theorem dX8_takeOutOverpulled_1 : decode cX8_takeOutOverpulled 1 = .ok (.istore_n 1, 1) := by decide +kernel
theorem dX8_takeOutOverpulled_2 : decode cX8_takeOutOverpulled 2 = .ok (.aload_n 0, 1) := by decide +kernel
theorem dX8_takeOutOverpulled_3 : decode cX8_takeOutOverpulled 3 = .ok (.getfield 36, 3) := by decide +kernel
theorem dX8_takeOutOverpulled_6 : decode cX8_takeOutOverpulled 6 = .ok (.astore_n 2, 1) := by decide +kernel
theorem dX8_takeOutOverpulled_7 : decode cX8_takeOutOverpulled 7 = .ok (.aload_n 2, 1) := by decide +kernel
theorem dX8_takeOutOverpulled_8 : decode cX8_takeOutOverpulled 8 = .ok (.arraylength, 1) := by decide +kernel
theorem dX8_takeOutOverpulled_9 : decode cX8_takeOutOverpulled 9 = .ok (.istore_n 3, 1) := by decide +kernel
theorem dX8_takeOutOverpulled_10 : decode cX8_takeOutOverpulled 10 = .ok (.iconst 0, 1) := by decide +kernel
theorem dX8_takeOutOverpulled_11 : decode cX8_takeOutOverpulled 11 = .ok (.istore 4, 2) := by decide +kernel
theorem dX8_takeOutOverpulled_13 : decode cX8_takeOutOverpulled 13 = .ok (.iload 4, 2) := by decide +kernel
theorem dX8_takeOutOverpulled_15 : decode cX8_takeOutOverpulled 15 = .ok (.iload_n 3, 1) := by decide +kernel
theorem dX8_takeOutOverpulled_16 : decode cX8_takeOutOverpulled 16 = .ok (.if_icmp .ge 51, 3) := by decide +kernel
theorem dX8_takeOutOverpulled_19 : decode cX8_takeOutOverpulled 19 = .ok (.aload_n 2, 1) := by decide +kernel
theorem dX8_takeOutOverpulled_20 : decode cX8_takeOutOverpulled 20 = .ok (.iload 4, 2) := by decide +kernel
theorem dX8_takeOutOverpulled_22 : decode cX8_takeOutOverpulled 22 = .ok (.aaload, 1) := by decide +kernel
theorem dX8_takeOutOverpulled_23 : decode cX8_takeOutOverpulled 23 = .ok (.astore 5, 2) := by decide +kernel
theorem dX8_takeOutOverpulled_25 : decode cX8_takeOutOverpulled 25 = .ok (.aload 5, 2) := by decide +kernel
theorem dX8_takeOutOverpulled_27 : decode cX8_takeOutOverpulled 27 = .ok (.ifnull 34, 3) := by decide +kernel
theorem dX8_takeOutOverpulled_30 : decode cX8_takeOutOverpulled 30 = .ok (.aload 5, 2) := by decide +kernel
theorem dX8_takeOutOverpulled_32 : decode cX8_takeOutOverpulled 32 = .ok (.getfield 244, 3) := by decide +kernel
theorem dX8_takeOutOverpulled_35 : decode cX8_takeOutOverpulled 35 = .ok (.ifCond .eq 26, 3) := by decide +kernel
theorem dX8_takeOutOverpulled_38 : decode cX8_takeOutOverpulled 38 = .ok (.aload 5, 2) := by decide +kernel
theorem dX8_takeOutOverpulled_40 : decode cX8_takeOutOverpulled 40 = .ok (.getfield 241, 3) := by decide +kernel
theorem dX8_takeOutOverpulled_43 : decode cX8_takeOutOverpulled 43 = .ok (.aload 5, 2) := by decide +kernel
theorem dX8_takeOutOverpulled_45 : decode cX8_takeOutOverpulled 45 = .ok (.getfield 254, 3) := by decide +kernel
theorem dX8_takeOutOverpulled_48 : decode cX8_takeOutOverpulled 48 = .ok (.lcmp, 1) := by decide +kernel
theorem dX8_takeOutOverpulled_49 : decode cX8_takeOutOverpulled 49 = .ok (.ifCond .le 12, 3) := by decide +kernel
theorem dX8_takeOutOverpulled_52 : decode cX8_takeOutOverpulled 52 = .ok (.aload 5, 2) := by decide +kernel
theorem dX8_takeOutOverpulled_54 : decode cX8_takeOutOverpulled 54 = .ok (.iconst 0, 1) := by decide +kernel
theorem dX8_takeOutOverpulled_55 : decode cX8_takeOutOverpulled 55 = .ok (.putfield 244, 3) := by decide +kernel
theorem dX8_takeOutOverpulled_58 : decode cX8_takeOutOverpulled 58 = .ok (.iinc 1 1, 3) := by decide +kernel
theorem dX8_takeOutOverpulled_61 : decode cX8_takeOutOverpulled 61 = .ok (.iinc 4 1, 3) := by decide +kernel
theorem dX8_takeOutOverpulled_64 : decode cX8_takeOutOverpulled 64 = .ok (.goto (-51), 3) := by decide +kernel
theorem dX8_takeOutOverpulled_67 : decode cX8_takeOutOverpulled 67 = .ok (.iload_n 1, 1) := by decide +kernel
theorem dX8_takeOutOverpulled_68 : decode cX8_takeOutOverpulled 68 = .ok (.ireturn, 1) := by decide +kernel
theorem dX8_trim_0 : decode cX8_trim 0 = .ok (.iload_n 1, 1) := by decide +kernel
theorem dX8_trim_1 : decode cX8_trim 1 = .ok (.i2l, 1) := by decide +kernel
theorem dX8_trim_2 : decode cX8_trim 2 = .ok (.lconst 0, 1) := by decide +kernel
theorem dX8_trim_3 : decode cX8_trim 3 = .ok (.ldc2_w 201, 3) := by decide +kernel
theorem dX8_trim_6 : decode cX8_trim 6 = .ok (.invokestatic 62, 3) := by decide +kernel
theorem dX8_trim_9 : decode cX8_trim 9 = .ok (.ifCond .ne 27, 3) := by decide +kernel
theorem dX8_trim_12 : decode cX8_trim 12 = .ok (.iload_n 2, 1) := by decide +kernel
theorem dX8_trim_13 : decode cX8_trim 13 = .ok (.i2l, 1) := by decide +kernel
theorem dX8_trim_14 : decode cX8_trim 14 = .ok (.lconst 0, 1) := by decide +kernel
theorem dX8_trim_15 : decode cX8_trim 15 = .ok (.ldc2_w 201, 3) := by decide +kernel
theorem dX8_trim_18 : decode cX8_trim 18 = .ok (.invokestatic 62, 3) := by decide +kernel
theorem dX8_trim_21 : decode cX8_trim 21 = .ok (.ifCond .ne 15, 3) := by decide +kernel
theorem dX8_trim_24 : decode cX8_trim 24 = .ok (.iload_n 3, 1) := by decide +kernel
theorem dX8_trim_25 : decode cX8_trim 25 = .ok (.i2l, 1) := by decide +kernel
theorem dX8_trim_26 : decode cX8_trim 26 = .ok (.lconst 0, 1) := by decide +kernel
theorem dX8_trim_27 : decode cX8_trim 27 = .ok (.ldc2_w 257, 3) := by decide +kernel
theorem dX8_trim_30 : decode cX8_trim 30 = .ok (.invokestatic 62, 3) := by decide +kernel
theorem dX8_trim_33 : decode cX8_trim 33 = .ok (.ifCond .eq 14, 3) := by decide +kernel
theorem dX8_trim_36 : decode cX8_trim 36 = .ok (.new 66, 3) := by decide +kernel
theorem dX8_trim_39 : decode cX8_trim 39 = .ok (.dup, 1) := by decide +kernel
theorem dX8_trim_40 : decode cX8_trim 40 = .ok (.ldc_w 259, 3) := by decide +kernel
theorem dX8_trim_43 : decode cX8_trim 43 = .ok (.invokespecial 70, 3) := by decide +kernel
theorem dX8_trim_46 : decode cX8_trim 46 = .ok (.athrow, 1) := by decide +kernel
theorem dX8_trim_47 : decode cX8_trim 47 = .ok (.aload_n 0, 1) := by decide +kernel
theorem dX8_trim_48 : decode cX8_trim 48 = .ok (.getfield 43, 3) := by decide +kernel
theorem dX8_trim_51 : decode cX8_trim 51 = .ok (.iload_n 1, 1) := by decide +kernel
theorem dX8_trim_52 : decode cX8_trim 52 = .ok (.putfield 261, 3) := by decide +kernel
theorem dX8_trim_55 : decode cX8_trim 55 = .ok (.aload_n 0, 1) := by decide +kernel
theorem dX8_trim_56 : decode cX8_trim 56 = .ok (.getfield 43, 3) := by decide +kernel
theorem dX8_trim_59 : decode cX8_trim 59 = .ok (.iload_n 2, 1) := by decide +kernel
theorem dX8_trim_60 : decode cX8_trim 60 = .ok (.putfield 264, 3) := by decide +kernel
theorem dX8_trim_63 : decode cX8_trim 63 = .ok (.aload_n 0, 1) := by decide +kernel
theorem dX8_trim_64 : decode cX8_trim 64 = .ok (.getfield 43, 3) := by decide +kernel
theorem dX8_trim_67 : decode cX8_trim 67 = .ok (.iload_n 3, 1) := by decide +kernel
theorem dX8_trim_68 : decode cX8_trim 68 = .ok (.putfield 267, 3) := by decide +kernel
theorem dX8_trim_71 : decode cX8_trim 71 = .ok (.aload_n 0, 1) := by decide +kernel
theorem dX8_trim_72 : decode cX8_trim 72 = .ok (.getfield 43, 3) := by decide +kernel
theorem dX8_trim_75 : decode cX8_trim 75 = .ok (.iload_n 1, 1) := by decide +kernel
theorem dX8_trim_76 : decode cX8_trim 76 = .ok (.invokevirtual 270, 3) := by decide +kernel
theorem dX8_trim_79 : decode cX8_trim 79 = .ok (.freturn, 1) := by decide +kernel
theorem dX8_power_0 : decode cX8_power 0 = .ok (.iload_n 1, 1) := by decide +kernel
theorem dX8_power_1 : decode cX8_power 1 = .ok (.i2l, 1) := by decide +kernel
theorem dX8_power_2 : decode cX8_power 2 = .ok (.lconst 0, 1) := by decide +kernel
theorem dX8_power_3 : decode cX8_power 3 = .ok (.ldc2_w 201, 3) := by decide +kernel
theorem dX8_power_6 : decode cX8_power 6 = .ok (.invokestatic 62, 3) := by decide +kernel
theorem dX8_power_9 : decode cX8_power 9 = .ok (.ifCond .eq 14, 3) := by decide +kernel
theorem dX8_power_12 : decode cX8_power 12 = .ok (.new 66, 3) := by decide +kernel
theorem dX8_power_15 : decode cX8_power 15 = .ok (.dup, 1) := by decide +kernel
theorem dX8_power_16 : decode cX8_power 16 = .ok (.ldc_w 274, 3) := by decide +kernel
theorem dX8_power_19 : decode cX8_power 19 = .ok (.invokespecial 70, 3) := by decide +kernel
theorem dX8_power_22 : decode cX8_power 22 = .ok (.athrow, 1) := by decide +kernel
theorem dX8_power_23 : decode cX8_power 23 = .ok (.aload_n 0, 1) := by decide +kernel
theorem dX8_power_24 : decode cX8_power 24 = .ok (.getfield 43, 3) := by decide +kernel
theorem dX8_power_27 : decode cX8_power 27 = .ok (.aload_n 0, 1) := by decide +kernel
theorem dX8_power_28 : decode cX8_power 28 = .ok (.getfield 43, 3) := by decide +kernel
theorem dX8_power_31 : decode cX8_power 31 = .ok (.getfield 261, 3) := by decide +kernel
theorem dX8_power_34 : decode cX8_power 34 = .ok (.iload_n 1, 1) := by decide +kernel
theorem dX8_power_35 : decode cX8_power 35 = .ok (.invokevirtual 276, 3) := by decide +kernel
theorem dX8_power_38 : decode cX8_power 38 = .ok (.freturn, 1) := by decide +kernel
theorem dX8_halyard_0 : decode cX8_halyard 0 = .ok (.iload_n 1, 1) := by decide +kernel
theorem dX8_halyard_1 : decode cX8_halyard 1 = .ok (.i2l, 1) := by decide +kernel
theorem dX8_halyard_2 : decode cX8_halyard 2 = .ok (.lconst 0, 1) := by decide +kernel
theorem dX8_halyard_3 : decode cX8_halyard 3 = .ok (.ldc2_w 201, 3) := by decide +kernel
theorem dX8_halyard_6 : decode cX8_halyard 6 = .ok (.invokestatic 62, 3) := by decide +kernel
theorem dX8_halyard_9 : decode cX8_halyard 9 = .ok (.ifCond .ne 15, 3) := by decide +kernel
theorem dX8_halyard_12 : decode cX8_halyard 12 = .ok (.iload_n 2, 1) := by decide +kernel
theorem dX8_halyard_13 : decode cX8_halyard 13 = .ok (.i2l, 1) := by decide +kernel
theorem dX8_halyard_14 : decode cX8_halyard 14 = .ok (.lconst 0, 1) := by decide +kernel
theorem dX8_halyard_15 : decode cX8_halyard 15 = .ok (.ldc2_w 280, 3) := by decide +kernel
theorem dX8_halyard_18 : decode cX8_halyard 18 = .ok (.invokestatic 62, 3) := by decide +kernel
theorem dX8_halyard_21 : decode cX8_halyard 21 = .ok (.ifCond .eq 14, 3) := by decide +kernel
theorem dX8_halyard_24 : decode cX8_halyard 24 = .ok (.new 66, 3) := by decide +kernel
theorem dX8_halyard_27 : decode cX8_halyard 27 = .ok (.dup, 1) := by decide +kernel
theorem dX8_halyard_28 : decode cX8_halyard 28 = .ok (.ldc_w 282, 3) := by decide +kernel
theorem dX8_halyard_31 : decode cX8_halyard 31 = .ok (.invokespecial 70, 3) := by decide +kernel
theorem dX8_halyard_34 : decode cX8_halyard 34 = .ok (.athrow, 1) := by decide +kernel
theorem dX8_halyard_35 : decode cX8_halyard 35 = .ok (.iconst 0, 1) := by decide +kernel
theorem dX8_halyard_36 : decode cX8_halyard 36 = .ok (.istore_n 3, 1) := by decide +kernel
theorem dX8_halyard_37 : decode cX8_halyard 37 = .ok (.iload_n 3, 1) := by decide +kernel
theorem dX8_halyard_38 : decode cX8_halyard 38 = .ok (.bipush 100, 2) := by decide +kernel
theorem dX8_halyard_40 : decode cX8_halyard 40 = .ok (.if_icmp .gt 26, 3) := by decide +kernel
theorem dX8_halyard_43 : decode cX8_halyard 43 = .ok (.aload_n 0, 1) := by decide +kernel
theorem dX8_halyard_44 : decode cX8_halyard 44 = .ok (.getfield 43, 3) := by decide +kernel
theorem dX8_halyard_47 : decode cX8_halyard 47 = .ok (.iload_n 3, 1) := by decide +kernel
theorem dX8_halyard_48 : decode cX8_halyard 48 = .ok (.iload_n 1, 1) := by decide +kernel
theorem dX8_halyard_49 : decode cX8_halyard 49 = .ok (.invokevirtual 276, 3) := by decide +kernel
theorem dX8_halyard_52 : decode cX8_halyard 52 = .ok (.iload_n 2, 1) := by decide +kernel
theorem dX8_halyard_53 : decode cX8_halyard 53 = .ok (.i2f, 1) := by decide +kernel
theorem dX8_halyard_54 : decode cX8_halyard 54 = .ok (.fcmp .g, 1) := by decide +kernel
theorem dX8_halyard_55 : decode cX8_halyard 55 = .ok (.ifCond .gt 5, 3) := by decide +kernel
theorem dX8_halyard_58 : decode cX8_halyard 58 = .ok (.iload_n 3, 1) := by decide +kernel
theorem dX8_halyard_59 : decode cX8_halyard 59 = .ok (.ireturn, 1) := by decide +kernel
theorem dX8_halyard_60 : decode cX8_halyard 60 = .ok (.iinc 3 1, 3) := by decide +kernel
theorem dX8_halyard_63 : decode cX8_halyard 63 = .ok (.goto (-26), 3) := by decide +kernel
theorem dX8_halyard_66 : decode cX8_halyard 66 = .ok (.iconst (-1), 1) := by decide +kernel
theorem dX8_halyard_67 : decode cX8_halyard 67 = .ok (.ireturn, 1) := by decide +kernel
theorem dX8_pass_0 : decode cX8_pass 0 = .ok (.iload_n 1, 1) := by decide +kernel
theorem dX8_pass_1 : decode cX8_pass 1 = .ok (.i2l, 1) := by decide +kernel
theorem dX8_pass_2 : decode cX8_pass 2 = .ok (.lconst 1, 1) := by decide +kernel
theorem dX8_pass_3 : decode cX8_pass 3 = .ok (.ldc2_w 284, 3) := by decide +kernel
theorem dX8_pass_6 : decode cX8_pass 6 = .ok (.invokestatic 62, 3) := by decide +kernel
theorem dX8_pass_9 : decode cX8_pass 9 = .ok (.ifCond .eq 14, 3) := by decide +kernel
theorem dX8_pass_12 : decode cX8_pass 12 = .ok (.new 66, 3) := by decide +kernel
theorem dX8_pass_15 : decode cX8_pass 15 = .ok (.dup, 1) := by decide +kernel
theorem dX8_pass_16 : decode cX8_pass 16 = .ok (.ldc_w 286, 3) := by decide +kernel
theorem dX8_pass_19 : decode cX8_pass 19 = .ok (.invokespecial 70, 3) := by decide +kernel
theorem dX8_pass_22 : decode cX8_pass 22 = .ok (.athrow, 1) := by decide +kernel
theorem dX8_pass_23 : decode cX8_pass 23 = .ok (.aload_n 0, 1) := by decide +kernel
theorem dX8_pass_24 : decode cX8_pass 24 = .ok (.getfield 288, 3) := by decide +kernel
theorem dX8_pass_27 : decode cX8_pass 27 = .ok (.iload_n 1, 1) := by decide +kernel
theorem dX8_pass_28 : decode cX8_pass 28 = .ok (.iadd, 1) := by decide +kernel
theorem dX8_pass_29 : decode cX8_pass 29 = .ok (.ldc_w 291, 3) := by decide +kernel
theorem dX8_pass_32 : decode cX8_pass 32 = .ok (.if_icmp .le 14, 3) := by decide +kernel
theorem dX8_pass_35 : decode cX8_pass 35 = .ok (.new 77, 3) := by decide +kernel
theorem dX8_pass_38 : decode cX8_pass 38 = .ok (.dup, 1) := by decide +kernel
theorem dX8_pass_39 : decode cX8_pass 39 = .ok (.ldc_w 292, 3) := by decide +kernel
theorem dX8_pass_42 : decode cX8_pass 42 = .ok (.invokespecial 81, 3) := by decide +kernel
theorem dX8_pass_45 : decode cX8_pass 45 = .ok (.athrow, 1) := by decide +kernel
theorem dX8_pass_46 : decode cX8_pass 46 = .ok (.aload_n 0, 1) := by decide +kernel
theorem dX8_pass_47 : decode cX8_pass 47 = .ok (.dup, 1) := by decide +kernel
theorem dX8_pass_48 : decode cX8_pass 48 = .ok (.getfield 288, 3) := by decide +kernel
theorem dX8_pass_51 : decode cX8_pass 51 = .ok (.iload_n 1, 1) := by decide +kernel
theorem dX8_pass_52 : decode cX8_pass 52 = .ok (.iadd, 1) := by decide +kernel
theorem dX8_pass_53 : decode cX8_pass 53 = .ok (.putfield 288, 3) := by decide +kernel
theorem dX8_pass_56 : decode cX8_pass 56 = .ok (.aload_n 0, 1) := by decide +kernel
theorem dX8_pass_57 : decode cX8_pass 57 = .ok (.getfield 288, 3) := by decide +kernel
theorem dX8_pass_60 : decode cX8_pass 60 = .ok (.ireturn, 1) := by decide +kernel
theorem dX8_canopy_0 : decode cX8_canopy 0 = .ok (.aload_n 0, 1) := by decide +kernel
theorem dX8_canopy_1 : decode cX8_canopy 1 = .ok (.iload_n 1, 1) := by decide +kernel
theorem dX8_canopy_2 : decode cX8_canopy 2 = .ok (.invokevirtual 85, 3) := by decide +kernel
theorem dX8_canopy_5 : decode cX8_canopy 5 = .ok (.astore_n 2, 1) := by decide +kernel
theorem dX8_canopy_6 : decode cX8_canopy 6 = .ok (.aload_n 2, 1) := by decide +kernel
theorem dX8_canopy_7 : decode cX8_canopy 7 = .ok (.ifnonnull 13, 3) := by decide +kernel
theorem dX8_canopy_10 : decode cX8_canopy 10 = .ok (.new 89, 3) := by decide +kernel
theorem dX8_canopy_13 : decode cX8_canopy 13 = .ok (.dup, 1) := by decide +kernel
theorem dX8_canopy_14 : decode cX8_canopy 14 = .ok (.ldc 91, 2) := by decide +kernel
theorem dX8_canopy_16 : decode cX8_canopy 16 = .ok (.invokespecial 93, 3) := by decide +kernel
theorem dX8_canopy_19 : decode cX8_canopy 19 = .ok (.athrow, 1) := by decide +kernel
theorem dX8_canopy_20 : decode cX8_canopy 20 = .ok (.aload_n 0, 1) := by decide +kernel
theorem dX8_canopy_21 : decode cX8_canopy 21 = .ok (.getfield 294, 3) := by decide +kernel
theorem dX8_canopy_24 : decode cX8_canopy 24 = .ok (.aload_n 0, 1) := by decide +kernel
theorem dX8_canopy_25 : decode cX8_canopy 25 = .ok (.getfield 49, 3) := by decide +kernel
theorem dX8_canopy_28 : decode cX8_canopy 28 = .ok (.arraylength, 1) := by decide +kernel
theorem dX8_canopy_29 : decode cX8_canopy 29 = .ok (.if_icmp .lt 14, 3) := by decide +kernel
theorem dX8_canopy_32 : decode cX8_canopy 32 = .ok (.new 77, 3) := by decide +kernel
theorem dX8_canopy_35 : decode cX8_canopy 35 = .ok (.dup, 1) := by decide +kernel
theorem dX8_canopy_36 : decode cX8_canopy 36 = .ok (.ldc_w 297, 3) := by decide +kernel
theorem dX8_canopy_39 : decode cX8_canopy 39 = .ok (.invokespecial 81, 3) := by decide +kernel
theorem dX8_canopy_42 : decode cX8_canopy 42 = .ok (.athrow, 1) := by decide +kernel
theorem dX8_canopy_43 : decode cX8_canopy 43 = .ok (.aload_n 0, 1) := by decide +kernel
theorem dX8_canopy_44 : decode cX8_canopy 44 = .ok (.getfield 49, 3) := by decide +kernel
theorem dX8_canopy_47 : decode cX8_canopy 47 = .ok (.aload_n 0, 1) := by decide +kernel
theorem dX8_canopy_48 : decode cX8_canopy 48 = .ok (.getfield 294, 3) := by decide +kernel
theorem dX8_canopy_51 : decode cX8_canopy 51 = .ok (.new 47, 3) := by decide +kernel
theorem dX8_canopy_54 : decode cX8_canopy 54 = .ok (.dup, 1) := by decide +kernel
theorem dX8_canopy_55 : decode cX8_canopy 55 = .ok (.aload_n 2, 1) := by decide +kernel
theorem dX8_canopy_56 : decode cX8_canopy 56 = .ok (.iload_n 1, 1) := by decide +kernel
theorem dX8_canopy_57 : decode cX8_canopy 57 = .ok (.invokespecial 299, 3) := by decide +kernel
theorem dX8_canopy_60 : decode cX8_canopy 60 = .ok (.aastore, 1) := by decide +kernel
theorem dX8_canopy_61 : decode cX8_canopy 61 = .ok (.aload_n 0, 1) := by decide +kernel
theorem dX8_canopy_62 : decode cX8_canopy 62 = .ok (.dup, 1) := by decide +kernel
theorem dX8_canopy_63 : decode cX8_canopy 63 = .ok (.getfield 294, 3) := by decide +kernel
theorem dX8_canopy_66 : decode cX8_canopy 66 = .ok (.dup_x1, 1) := by decide +kernel
theorem dX8_canopy_67 : decode cX8_canopy 67 = .ok (.iconst 1, 1) := by decide +kernel
theorem dX8_canopy_68 : decode cX8_canopy 68 = .ok (.iadd, 1) := by decide +kernel
theorem dX8_canopy_69 : decode cX8_canopy 69 = .ok (.putfield 294, 3) := by decide +kernel
theorem dX8_canopy_72 : decode cX8_canopy 72 = .ok (.ireturn, 1) := by decide +kernel
theorem dX8_part_0 : decode cX8_part 0 = .ok (.aload_n 0, 1) := by decide +kernel
theorem dX8_part_1 : decode cX8_part 1 = .ok (.iload_n 1, 1) := by decide +kernel
theorem dX8_part_2 : decode cX8_part 2 = .ok (.invokevirtual 302, 3) := by decide +kernel
theorem dX8_part_5 : decode cX8_part 5 = .ok (.astore_n 3, 1) := by decide +kernel
theorem dX8_part_6 : decode cX8_part 6 = .ok (.aload_n 3, 1) := by decide +kernel
theorem dX8_part_7 : decode cX8_part 7 = .ok (.ifnonnull 14, 3) := by decide +kernel
theorem dX8_part_10 : decode cX8_part 10 = .ok (.new 89, 3) := by decide +kernel
theorem dX8_part_13 : decode cX8_part 13 = .ok (.dup, 1) := by decide +kernel
theorem dX8_part_14 : decode cX8_part 14 = .ok (.ldc_w 306, 3) := by decide +kernel
theorem dX8_part_17 : decode cX8_part 17 = .ok (.invokespecial 93, 3) := by decide +kernel
theorem dX8_part_20 : decode cX8_part 20 = .ok (.athrow, 1) := by decide +kernel
theorem dX8_part_21 : decode cX8_part 21 = .ok (.iload_n 2, 1) := by decide +kernel
theorem dX8_part_22 : decode cX8_part 22 = .ok (.i2l, 1) := by decide +kernel
theorem dX8_part_23 : decode cX8_part 23 = .ok (.lconst 0, 1) := by decide +kernel
theorem dX8_part_24 : decode cX8_part 24 = .ok (.ldc2_w 308, 3) := by decide +kernel
theorem dX8_part_27 : decode cX8_part 27 = .ok (.invokestatic 62, 3) := by decide +kernel
theorem dX8_part_30 : decode cX8_part 30 = .ok (.ifCond .eq 14, 3) := by decide +kernel
theorem dX8_part_33 : decode cX8_part 33 = .ok (.new 66, 3) := by decide +kernel
theorem dX8_part_36 : decode cX8_part 36 = .ok (.dup, 1) := by decide +kernel
theorem dX8_part_37 : decode cX8_part 37 = .ok (.ldc_w 310, 3) := by decide +kernel
theorem dX8_part_40 : decode cX8_part 40 = .ok (.invokespecial 70, 3) := by decide +kernel
theorem dX8_part_43 : decode cX8_part 43 = .ok (.athrow, 1) := by decide +kernel
theorem dX8_part_44 : decode cX8_part 44 = .ok (.aload_n 3, 1) := by decide +kernel
theorem dX8_part_45 : decode cX8_part 45 = .ok (.getfield 312, 3) := by decide +kernel
theorem dX8_part_48 : decode cX8_part 48 = .ok (.aload_n 3, 1) := by decide +kernel
theorem dX8_part_49 : decode cX8_part 49 = .ok (.getfield 315, 3) := by decide +kernel
theorem dX8_part_52 : decode cX8_part 52 = .ok (.arraylength, 1) := by decide +kernel
theorem dX8_part_53 : decode cX8_part 53 = .ok (.if_icmp .ge 10, 3) := by decide +kernel
theorem dX8_part_56 : decode cX8_part 56 = .ok (.aload_n 3, 1) := by decide +kernel
theorem dX8_part_57 : decode cX8_part 57 = .ok (.invokevirtual 318, 3) := by decide +kernel
theorem dX8_part_60 : decode cX8_part 60 = .ok (.ifCond .eq 14, 3) := by decide +kernel
theorem dX8_part_63 : decode cX8_part 63 = .ok (.new 77, 3) := by decide +kernel
theorem dX8_part_66 : decode cX8_part 66 = .ok (.dup, 1) := by decide +kernel
theorem dX8_part_67 : decode cX8_part 67 = .ok (.ldc_w 321, 3) := by decide +kernel
theorem dX8_part_70 : decode cX8_part 70 = .ok (.invokespecial 81, 3) := by decide +kernel
theorem dX8_part_73 : decode cX8_part 73 = .ok (.athrow, 1) := by decide +kernel
theorem dX8_part_74 : decode cX8_part 74 = .ok (.aload_n 3, 1) := by decide +kernel
theorem dX8_part_75 : decode cX8_part 75 = .ok (.getfield 315, 3) := by decide +kernel
theorem dX8_part_78 : decode cX8_part 78 = .ok (.aload_n 3, 1) := by decide +kernel
theorem dX8_part_79 : decode cX8_part 79 = .ok (.getfield 312, 3) := by decide +kernel
theorem dX8_part_82 : decode cX8_part 82 = .ok (.iload_n 2, 1) := by decide +kernel
theorem dX8_part_83 : decode cX8_part 83 = .ok (.iastore, 1) := by decide +kernel
theorem dX8_part_84 : decode cX8_part 84 = .ok (.aload_n 3, 1) := by decide +kernel
theorem dX8_part_85 : decode cX8_part 85 = .ok (.dup, 1) := by decide +kernel
theorem dX8_part_86 : decode cX8_part 86 = .ok (.getfield 312, 3) := by decide +kernel
theorem dX8_part_89 : decode cX8_part 89 = .ok (.dup_x1, 1) := by decide +kernel
theorem dX8_part_90 : decode cX8_part 90 = .ok (.iconst 1, 1) := by decide +kernel
theorem dX8_part_91 : decode cX8_part 91 = .ok (.iadd, 1) := by decide +kernel
theorem dX8_part_92 : decode cX8_part 92 = .ok (.putfield 312, 3) := by decide +kernel
theorem dX8_part_95 : decode cX8_part 95 = .ok (.ireturn, 1) := by decide +kernel
theorem dX8_opens_0 : decode cX8_opens 0 = .ok (.aload_n 0, 1) := by decide +kernel
theorem dX8_opens_1 : decode cX8_opens 1 = .ok (.iload_n 1, 1) := by decide +kernel
theorem dX8_opens_2 : decode cX8_opens 2 = .ok (.invokevirtual 302, 3) := by decide +kernel
theorem dX8_opens_5 : decode cX8_opens 5 = .ok (.astore_n 2, 1) := by decide +kernel
theorem dX8_opens_6 : decode cX8_opens 6 = .ok (.aload_n 2, 1) := by decide +kernel
theorem dX8_opens_7 : decode cX8_opens 7 = .ok (.ifnonnull 14, 3) := by decide +kernel
theorem dX8_opens_10 : decode cX8_opens 10 = .ok (.new 89, 3) := by decide +kernel
theorem dX8_opens_13 : decode cX8_opens 13 = .ok (.dup, 1) := by decide +kernel
theorem dX8_opens_14 : decode cX8_opens 14 = .ok (.ldc_w 306, 3) := by decide +kernel
theorem dX8_opens_17 : decode cX8_opens 17 = .ok (.invokespecial 93, 3) := by decide +kernel
theorem dX8_opens_20 : decode cX8_opens 20 = .ok (.athrow, 1) := by decide +kernel
theorem dX8_opens_21 : decode cX8_opens 21 = .ok (.aload_n 2, 1) := by decide +kernel
theorem dX8_opens_22 : decode cX8_opens 22 = .ok (.invokevirtual 323, 3) := by decide +kernel
theorem dX8_opens_25 : decode cX8_opens 25 = .ok (.ireturn, 1) := by decide +kernel
theorem dX8_seal_0 : decode cX8_seal 0 = .ok (.aload_n 0, 1) := by decide +kernel
theorem dX8_seal_1 : decode cX8_seal 1 = .ok (.iload_n 1, 1) := by decide +kernel
theorem dX8_seal_2 : decode cX8_seal 2 = .ok (.invokevirtual 302, 3) := by decide +kernel
theorem dX8_seal_5 : decode cX8_seal 5 = .ok (.astore_n 3, 1) := by decide +kernel
theorem dX8_seal_6 : decode cX8_seal 6 = .ok (.aload_n 3, 1) := by decide +kernel
theorem dX8_seal_7 : decode cX8_seal 7 = .ok (.ifnull 15, 3) := by decide +kernel
theorem dX8_seal_10 : decode cX8_seal 10 = .ok (.iload_n 2, 1) := by decide +kernel
theorem dX8_seal_11 : decode cX8_seal 11 = .ok (.i2l, 1) := by decide +kernel
theorem dX8_seal_12 : decode cX8_seal 12 = .ok (.lconst 0, 1) := by decide +kernel
theorem dX8_seal_13 : decode cX8_seal 13 = .ok (.ldc2_w 326, 3) := by decide +kernel
theorem dX8_seal_16 : decode cX8_seal 16 = .ok (.invokestatic 62, 3) := by decide +kernel
theorem dX8_seal_19 : decode cX8_seal 19 = .ok (.ifCond .eq 14, 3) := by decide +kernel
theorem dX8_seal_22 : decode cX8_seal 22 = .ok (.new 89, 3) := by decide +kernel
theorem dX8_seal_25 : decode cX8_seal 25 = .ok (.dup, 1) := by decide +kernel
theorem dX8_seal_26 : decode cX8_seal 26 = .ok (.ldc_w 328, 3) := by decide +kernel
theorem dX8_seal_29 : decode cX8_seal 29 = .ok (.invokespecial 93, 3) := by decide +kernel
theorem dX8_seal_32 : decode cX8_seal 32 = .ok (.athrow, 1) := by decide +kernel
theorem dX8_seal_33 : decode cX8_seal 33 = .ok (.aload_n 3, 1) := by decide +kernel
theorem dX8_seal_34 : decode cX8_seal 34 = .ok (.invokevirtual 330, 3) := by decide +kernel
theorem dX8_seal_37 : decode cX8_seal 37 = .ok (.ifCond .ne 14, 3) := by decide +kernel
theorem dX8_seal_40 : decode cX8_seal 40 = .ok (.new 77, 3) := by decide +kernel
theorem dX8_seal_43 : decode cX8_seal 43 = .ok (.dup, 1) := by decide +kernel
theorem dX8_seal_44 : decode cX8_seal 44 = .ok (.ldc_w 333, 3) := by decide +kernel
theorem dX8_seal_47 : decode cX8_seal 47 = .ok (.invokespecial 81, 3) := by decide +kernel
theorem dX8_seal_50 : decode cX8_seal 50 = .ok (.athrow, 1) := by decide +kernel
theorem dX8_seal_51 : decode cX8_seal 51 = .ok (.aload_n 3, 1) := by decide +kernel
theorem dX8_seal_52 : decode cX8_seal 52 = .ok (.iload_n 2, 1) := by decide +kernel
theorem dX8_seal_53 : decode cX8_seal 53 = .ok (.putfield 335, 3) := by decide +kernel
theorem dX8_seal_56 : decode cX8_seal 56 = .ok (.aload_n 3, 1) := by decide +kernel
theorem dX8_seal_57 : decode cX8_seal 57 = .ok (.aload_n 0, 1) := by decide +kernel
theorem dX8_seal_58 : decode cX8_seal 58 = .ok (.getfield 288, 3) := by decide +kernel
theorem dX8_seal_61 : decode cX8_seal 61 = .ok (.putfield 338, 3) := by decide +kernel
theorem dX8_seal_64 : decode cX8_seal 64 = .ok (.aload_n 3, 1) := by decide +kernel
theorem dX8_seal_65 : decode cX8_seal 65 = .ok (.dup, 1) := by decide +kernel
theorem dX8_seal_66 : decode cX8_seal 66 = .ok (.getfield 341, 3) := by decide +kernel
theorem dX8_seal_69 : decode cX8_seal 69 = .ok (.iconst 1, 1) := by decide +kernel
theorem dX8_seal_70 : decode cX8_seal 70 = .ok (.iadd, 1) := by decide +kernel
theorem dX8_seal_71 : decode cX8_seal 71 = .ok (.putfield 341, 3) := by decide +kernel
theorem dX8_seal_74 : decode cX8_seal 74 = .ok (.aload_n 0, 1) := by decide +kernel
theorem dX8_seal_75 : decode cX8_seal 75 = .ok (.getfield 56, 3) := by decide +kernel
theorem dX8_seal_78 : decode cX8_seal 78 = .ok (.iload_n 1, 1) := by decide +kernel
theorem dX8_seal_79 : decode cX8_seal 79 = .ok (.iconst 3, 1) := by decide +kernel
theorem dX8_seal_80 : decode cX8_seal 80 = .ok (.invokevirtual 344, 3) := by decide +kernel
theorem dX8_seal_83 : decode cX8_seal 83 = .ok (.aload_n 3, 1) := by decide +kernel
theorem dX8_seal_84 : decode cX8_seal 84 = .ok (.getfield 341, 3) := by decide +kernel
theorem dX8_seal_87 : decode cX8_seal 87 = .ok (.ireturn, 1) := by decide +kernel
theorem dX8_use_0 : decode cX8_use 0 = .ok (.aload_n 0, 1) := by decide +kernel
theorem dX8_use_1 : decode cX8_use 1 = .ok (.iload_n 1, 1) := by decide +kernel
theorem dX8_use_2 : decode cX8_use 2 = .ok (.invokevirtual 302, 3) := by decide +kernel
theorem dX8_use_5 : decode cX8_use 5 = .ok (.astore_n 2, 1) := by decide +kernel
theorem dX8_use_6 : decode cX8_use 6 = .ok (.aload_n 2, 1) := by decide +kernel
theorem dX8_use_7 : decode cX8_use 7 = .ok (.ifnonnull 14, 3) := by decide +kernel
theorem dX8_use_10 : decode cX8_use 10 = .ok (.new 89, 3) := by decide +kernel
theorem dX8_use_13 : decode cX8_use 13 = .ok (.dup, 1) := by decide +kernel
theorem dX8_use_14 : decode cX8_use 14 = .ok (.ldc_w 306, 3) := by decide +kernel
theorem dX8_use_17 : decode cX8_use 17 = .ok (.invokespecial 93, 3) := by decide +kernel
theorem dX8_use_20 : decode cX8_use 20 = .ok (.athrow, 1) := by decide +kernel
theorem dX8_use_21 : decode cX8_use 21 = .ok (.aload_n 2, 1) := by decide +kernel
theorem dX8_use_22 : decode cX8_use 22 = .ok (.invokevirtual 318, 3) := by decide +kernel
theorem dX8_use_25 : decode cX8_use 25 = .ok (.ifCond .eq 28, 3) := by decide +kernel
theorem dX8_use_28 : decode cX8_use 28 = .ok (.aload_n 0, 1) := by decide +kernel
theorem dX8_use_29 : decode cX8_use 29 = .ok (.getfield 288, 3) := by decide +kernel
theorem dX8_use_32 : decode cX8_use 32 = .ok (.aload_n 2, 1) := by decide +kernel
theorem dX8_use_33 : decode cX8_use 33 = .ok (.getfield 338, 3) := by decide +kernel
theorem dX8_use_36 : decode cX8_use 36 = .ok (.isub, 1) := by decide +kernel
theorem dX8_use_37 : decode cX8_use 37 = .ok (.sipush 180, 3) := by decide +kernel
theorem dX8_use_40 : decode cX8_use 40 = .ok (.if_icmp .gt 13, 3) := by decide +kernel
theorem dX8_use_43 : decode cX8_use 43 = .ok (.aload_n 2, 1) := by decide +kernel
theorem dX8_use_44 : decode cX8_use 44 = .ok (.getfield 347, 3) := by decide +kernel
theorem dX8_use_47 : decode cX8_use 47 = .ok (.getfield 351, 3) := by decide +kernel
theorem dX8_use_50 : decode cX8_use 50 = .ok (.ifCond .eq 14, 3) := by decide +kernel
theorem dX8_use_53 : decode cX8_use 53 = .ok (.new 77, 3) := by decide +kernel
theorem dX8_use_56 : decode cX8_use 56 = .ok (.dup, 1) := by decide +kernel
theorem dX8_use_57 : decode cX8_use 57 = .ok (.ldc_w 354, 3) := by decide +kernel
theorem dX8_use_60 : decode cX8_use 60 = .ok (.invokespecial 81, 3) := by decide +kernel
theorem dX8_use_63 : decode cX8_use 63 = .ok (.athrow, 1) := by decide +kernel
theorem dX8_use_64 : decode cX8_use 64 = .ok (.aload_n 2, 1) := by decide +kernel
theorem dX8_use_65 : decode cX8_use 65 = .ok (.getfield 335, 3) := by decide +kernel
theorem dX8_use_68 : decode cX8_use 68 = .ok (.istore_n 3, 1) := by decide +kernel
theorem dX8_use_69 : decode cX8_use 69 = .ok (.aload_n 2, 1) := by decide +kernel
theorem dX8_use_70 : decode cX8_use 70 = .ok (.invokevirtual 356, 3) := by decide +kernel
theorem dX8_use_73 : decode cX8_use 73 = .ok (.aload_n 2, 1) := by decide +kernel
theorem dX8_use_74 : decode cX8_use 74 = .ok (.dup, 1) := by decide +kernel
theorem dX8_use_75 : decode cX8_use 75 = .ok (.getfield 359, 3) := by decide +kernel
theorem dX8_use_78 : decode cX8_use 78 = .ok (.iconst 1, 1) := by decide +kernel
theorem dX8_use_79 : decode cX8_use 79 = .ok (.iadd, 1) := by decide +kernel
theorem dX8_use_80 : decode cX8_use 80 = .ok (.putfield 359, 3) := by decide +kernel
theorem dX8_use_83 : decode cX8_use 83 = .ok (.aload_n 0, 1) := by decide +kernel
theorem dX8_use_84 : decode cX8_use 84 = .ok (.getfield 56, 3) := by decide +kernel
theorem dX8_use_87 : decode cX8_use 87 = .ok (.iload_n 1, 1) := by decide +kernel
theorem dX8_use_88 : decode cX8_use 88 = .ok (.iconst 4, 1) := by decide +kernel
theorem dX8_use_89 : decode cX8_use 89 = .ok (.invokevirtual 344, 3) := by decide +kernel
theorem dX8_use_92 : decode cX8_use 92 = .ok (.iload_n 3, 1) := by decide +kernel
theorem dX8_use_93 : decode cX8_use 93 = .ok (.ireturn, 1) := by decide +kernel
theorem dX8_wet_0 : decode cX8_wet 0 = .ok (.aload_n 0, 1) := by decide +kernel
theorem dX8_wet_1 : decode cX8_wet 1 = .ok (.iload_n 1, 1) := by decide +kernel
theorem dX8_wet_2 : decode cX8_wet 2 = .ok (.invokevirtual 302, 3) := by decide +kernel
theorem dX8_wet_5 : decode cX8_wet 5 = .ok (.astore_n 3, 1) := by decide +kernel
theorem dX8_wet_6 : decode cX8_wet 6 = .ok (.aload_n 3, 1) := by decide +kernel
theorem dX8_wet_7 : decode cX8_wet 7 = .ok (.ifnonnull 14, 3) := by decide +kernel
theorem dX8_wet_10 : decode cX8_wet 10 = .ok (.new 89, 3) := by decide +kernel
theorem dX8_wet_13 : decode cX8_wet 13 = .ok (.dup, 1) := by decide +kernel
theorem dX8_wet_14 : decode cX8_wet 14 = .ok (.ldc_w 306, 3) := by decide +kernel
theorem dX8_wet_17 : decode cX8_wet 17 = .ok (.invokespecial 93, 3) := by decide +kernel
theorem dX8_wet_20 : decode cX8_wet 20 = .ok (.athrow, 1) := by decide +kernel
theorem dX8_wet_21 : decode cX8_wet 21 = .ok (.aload_n 3, 1) := by decide +kernel
theorem dX8_wet_22 : decode cX8_wet 22 = .ok (.invokevirtual 318, 3) := by decide +kernel
theorem dX8_wet_25 : decode cX8_wet 25 = .ok (.ifCond .eq 14, 3) := by decide +kernel
theorem dX8_wet_28 : decode cX8_wet 28 = .ok (.new 77, 3) := by decide +kernel
theorem dX8_wet_31 : decode cX8_wet 31 = .ok (.dup, 1) := by decide +kernel
theorem dX8_wet_32 : decode cX8_wet 32 = .ok (.ldc_w 362, 3) := by decide +kernel
theorem dX8_wet_35 : decode cX8_wet 35 = .ok (.invokespecial 81, 3) := by decide +kernel
theorem dX8_wet_38 : decode cX8_wet 38 = .ok (.athrow, 1) := by decide +kernel
theorem dX8_wet_39 : decode cX8_wet 39 = .ok (.iload_n 2, 1) := by decide +kernel
theorem dX8_wet_40 : decode cX8_wet 40 = .ok (.ifCond .eq 11, 3) := by decide +kernel
theorem dX8_wet_43 : decode cX8_wet 43 = .ok (.aload_n 3, 1) := by decide +kernel
theorem dX8_wet_44 : decode cX8_wet 44 = .ok (.iconst 0, 1) := by decide +kernel
theorem dX8_wet_45 : decode cX8_wet 45 = .ok (.putfield 364, 3) := by decide +kernel
theorem dX8_wet_48 : decode cX8_wet 48 = .ok (.goto 32, 3) := by decide +kernel
theorem dX8_wet_51 : decode cX8_wet 51 = .ok (.aload_n 3, 1) := by decide +kernel
theorem dX8_wet_52 : decode cX8_wet 52 = .ok (.dup, 1) := by decide +kernel
theorem dX8_wet_53 : decode cX8_wet 53 = .ok (.getfield 364, 3) := by decide +kernel
theorem dX8_wet_56 : decode cX8_wet 56 = .ok (.iconst 1, 1) := by decide +kernel
theorem dX8_wet_57 : decode cX8_wet 57 = .ok (.iadd, 1) := by decide +kernel
theorem dX8_wet_58 : decode cX8_wet 58 = .ok (.putfield 364, 3) := by decide +kernel
theorem dX8_wet_61 : decode cX8_wet 61 = .ok (.aload_n 3, 1) := by decide +kernel
theorem dX8_wet_62 : decode cX8_wet 62 = .ok (.dup, 1) := by decide +kernel
theorem dX8_wet_63 : decode cX8_wet 63 = .ok (.getfield 367, 3) := by decide +kernel
theorem dX8_wet_66 : decode cX8_wet 66 = .ok (.iconst 1, 1) := by decide +kernel
theorem dX8_wet_67 : decode cX8_wet 67 = .ok (.iadd, 1) := by decide +kernel
theorem dX8_wet_68 : decode cX8_wet 68 = .ok (.putfield 367, 3) := by decide +kernel
theorem dX8_wet_71 : decode cX8_wet 71 = .ok (.aload_n 0, 1) := by decide +kernel
theorem dX8_wet_72 : decode cX8_wet 72 = .ok (.getfield 56, 3) := by decide +kernel
theorem dX8_wet_75 : decode cX8_wet 75 = .ok (.iload_n 1, 1) := by decide +kernel
theorem dX8_wet_76 : decode cX8_wet 76 = .ok (.iconst 5, 1) := by decide +kernel
theorem dX8_wet_77 : decode cX8_wet 77 = .ok (.invokevirtual 344, 3) := by decide +kernel
theorem dX8_wet_80 : decode cX8_wet 80 = .ok (.aload_n 3, 1) := by decide +kernel
theorem dX8_wet_81 : decode cX8_wet 81 = .ok (.getfield 364, 3) := by decide +kernel
theorem dX8_wet_84 : decode cX8_wet 84 = .ok (.ireturn, 1) := by decide +kernel
theorem dX8_find_0 : decode cX8_find 0 = .ok (.aload_n 0, 1) := by decide +kernel
theorem dX8_find_1 : decode cX8_find 1 = .ok (.iload_n 1, 1) := by decide +kernel
theorem dX8_find_2 : decode cX8_find 2 = .ok (.invokevirtual 85, 3) := by decide +kernel
theorem dX8_find_5 : decode cX8_find 5 = .ok (.astore_n 3, 1) := by decide +kernel
theorem dX8_find_6 : decode cX8_find 6 = .ok (.aload_n 3, 1) := by decide +kernel
theorem dX8_find_7 : decode cX8_find 7 = .ok (.ifnonnull 13, 3) := by decide +kernel
theorem dX8_find_10 : decode cX8_find 10 = .ok (.new 89, 3) := by decide +kernel
theorem dX8_find_13 : decode cX8_find 13 = .ok (.dup, 1) := by decide +kernel
theorem dX8_find_14 : decode cX8_find 14 = .ok (.ldc 91, 2) := by decide +kernel
theorem dX8_find_16 : decode cX8_find 16 = .ok (.invokespecial 93, 3) := by decide +kernel
theorem dX8_find_19 : decode cX8_find 19 = .ok (.athrow, 1) := by decide +kernel
theorem dX8_find_20 : decode cX8_find 20 = .ok (.aload_n 3, 1) := by decide +kernel
theorem dX8_find_21 : decode cX8_find 21 = .ok (.getfield 351, 3) := by decide +kernel
theorem dX8_find_24 : decode cX8_find 24 = .ok (.iload_n 2, 1) := by decide +kernel
theorem dX8_find_25 : decode cX8_find 25 = .ok (.if_icmp .ne 14, 3) := by decide +kernel
theorem dX8_find_28 : decode cX8_find 28 = .ok (.new 77, 3) := by decide +kernel
theorem dX8_find_31 : decode cX8_find 31 = .ok (.dup, 1) := by decide +kernel
theorem dX8_find_32 : decode cX8_find 32 = .ok (.ldc_w 370, 3) := by decide +kernel
theorem dX8_find_35 : decode cX8_find 35 = .ok (.invokespecial 81, 3) := by decide +kernel
theorem dX8_find_38 : decode cX8_find 38 = .ok (.athrow, 1) := by decide +kernel
theorem dX8_find_39 : decode cX8_find 39 = .ok (.aload_n 3, 1) := by decide +kernel
theorem dX8_find_40 : decode cX8_find 40 = .ok (.iload_n 2, 1) := by decide +kernel
theorem dX8_find_41 : decode cX8_find 41 = .ok (.putfield 351, 3) := by decide +kernel
theorem dX8_find_44 : decode cX8_find 44 = .ok (.iload_n 2, 1) := by decide +kernel
theorem dX8_find_45 : decode cX8_find 45 = .ok (.ifCond .eq 11, 3) := by decide +kernel
theorem dX8_find_48 : decode cX8_find 48 = .ok (.aload_n 0, 1) := by decide +kernel
theorem dX8_find_49 : decode cX8_find 49 = .ok (.iload_n 1, 1) := by decide +kernel
theorem dX8_find_50 : decode cX8_find 50 = .ok (.invokevirtual 372, 3) := by decide +kernel
theorem dX8_find_53 : decode cX8_find 53 = .ok (.goto 4, 3) := by decide +kernel
theorem dX8_find_56 : decode cX8_find 56 = .ok (.iconst 0, 1) := by decide +kernel
theorem dX8_find_57 : decode cX8_find 57 = .ok (.ireturn, 1) := by decide +kernel
theorem dX8_ofCanopy_0 : decode cX8_ofCanopy 0 = .ok (.aload_n 0, 1) := by decide +kernel
theorem dX8_ofCanopy_1 : decode cX8_ofCanopy 1 = .ok (.iload_n 1, 1) := by decide +kernel
theorem dX8_ofCanopy_2 : decode cX8_ofCanopy 2 = .ok (.invokevirtual 302, 3) := by decide +kernel
theorem dX8_ofCanopy_5 : decode cX8_ofCanopy 5 = .ok (.astore_n 3, 1) := by decide +kernel
theorem dX8_ofCanopy_6 : decode cX8_ofCanopy 6 = .ok (.aload_n 3, 1) := by decide +kernel
theorem dX8_ofCanopy_7 : decode cX8_ofCanopy 7 = .ok (.ifnonnull 14, 3) := by decide +kernel
theorem dX8_ofCanopy_10 : decode cX8_ofCanopy 10 = .ok (.new 89, 3) := by decide +kernel
theorem dX8_ofCanopy_13 : decode cX8_ofCanopy 13 = .ok (.dup, 1) := by decide +kernel
theorem dX8_ofCanopy_14 : decode cX8_ofCanopy 14 = .ok (.ldc_w 306, 3) := by decide +kernel
theorem dX8_ofCanopy_17 : decode cX8_ofCanopy 17 = .ok (.invokespecial 93, 3) := by decide +kernel
theorem dX8_ofCanopy_20 : decode cX8_ofCanopy 20 = .ok (.athrow, 1) := by decide +kernel
theorem dX8_ofCanopy_21 : decode cX8_ofCanopy 21 = .ok (.iload_n 2, 1) := by decide +kernel
theorem dX8_ofCanopy_22 : decode cX8_ofCanopy 22 = .ok (.i2l, 1) := by decide +kernel
theorem dX8_ofCanopy_23 : decode cX8_ofCanopy 23 = .ok (.lconst 0, 1) := by decide +kernel
theorem dX8_ofCanopy_24 : decode cX8_ofCanopy 24 = .ok (.ldc2_w 376, 3) := by decide +kernel
theorem dX8_ofCanopy_27 : decode cX8_ofCanopy 27 = .ok (.invokestatic 62, 3) := by decide +kernel
theorem dX8_ofCanopy_30 : decode cX8_ofCanopy 30 = .ok (.ifCond .eq 14, 3) := by decide +kernel
theorem dX8_ofCanopy_33 : decode cX8_ofCanopy 33 = .ok (.new 66, 3) := by decide +kernel
theorem dX8_ofCanopy_36 : decode cX8_ofCanopy 36 = .ok (.dup, 1) := by decide +kernel
theorem dX8_ofCanopy_37 : decode cX8_ofCanopy 37 = .ok (.ldc_w 378, 3) := by decide +kernel
theorem dX8_ofCanopy_40 : decode cX8_ofCanopy 40 = .ok (.invokespecial 70, 3) := by decide +kernel
theorem dX8_ofCanopy_43 : decode cX8_ofCanopy 43 = .ok (.athrow, 1) := by decide +kernel
theorem dX8_ofCanopy_44 : decode cX8_ofCanopy 44 = .ok (.aload_n 3, 1) := by decide +kernel
theorem dX8_ofCanopy_45 : decode cX8_ofCanopy 45 = .ok (.iload_n 2, 1) := by decide +kernel
theorem dX8_ofCanopy_46 : decode cX8_ofCanopy 46 = .ok (.invokevirtual 380, 3) := by decide +kernel
theorem dX8_ofCanopy_49 : decode cX8_ofCanopy 49 = .ok (.ireturn, 1) := by decide +kernel
theorem dX8_lifeAnew_0 : decode cX8_lifeAnew 0 = .ok (.aload_n 0, 1) := by decide +kernel
theorem dX8_lifeAnew_1 : decode cX8_lifeAnew 1 = .ok (.iload_n 1, 1) := by decide +kernel
theorem dX8_lifeAnew_2 : decode cX8_lifeAnew 2 = .ok (.invokevirtual 302, 3) := by decide +kernel
theorem dX8_lifeAnew_5 : decode cX8_lifeAnew 5 = .ok (.ifnonnull 14, 3) := by decide +kernel
theorem dX8_lifeAnew_8 : decode cX8_lifeAnew 8 = .ok (.new 89, 3) := by decide +kernel
theorem dX8_lifeAnew_11 : decode cX8_lifeAnew 11 = .ok (.dup, 1) := by decide +kernel
theorem dX8_lifeAnew_12 : decode cX8_lifeAnew 12 = .ok (.ldc_w 306, 3) := by decide +kernel
theorem dX8_lifeAnew_15 : decode cX8_lifeAnew 15 = .ok (.invokespecial 93, 3) := by decide +kernel
theorem dX8_lifeAnew_18 : decode cX8_lifeAnew 18 = .ok (.athrow, 1) := by decide +kernel
theorem dX8_lifeAnew_19 : decode cX8_lifeAnew 19 = .ok (.iload_n 2, 1) := by decide +kernel
theorem dX8_lifeAnew_20 : decode cX8_lifeAnew 20 = .ok (.i2l, 1) := by decide +kernel
theorem dX8_lifeAnew_21 : decode cX8_lifeAnew 21 = .ok (.ldc2_w 257, 3) := by decide +kernel
theorem dX8_lifeAnew_24 : decode cX8_lifeAnew 24 = .ok (.ldc2_w 376, 3) := by decide +kernel
theorem dX8_lifeAnew_27 : decode cX8_lifeAnew 27 = .ok (.invokestatic 62, 3) := by decide +kernel
theorem dX8_lifeAnew_30 : decode cX8_lifeAnew 30 = .ok (.ifCond .eq 14, 3) := by decide +kernel
theorem dX8_lifeAnew_33 : decode cX8_lifeAnew 33 = .ok (.new 66, 3) := by decide +kernel
theorem dX8_lifeAnew_36 : decode cX8_lifeAnew 36 = .ok (.dup, 1) := by decide +kernel
theorem dX8_lifeAnew_37 : decode cX8_lifeAnew 37 = .ok (.ldc_w 378, 3) := by decide +kernel
theorem dX8_lifeAnew_40 : decode cX8_lifeAnew 40 = .ok (.invokespecial 70, 3) := by decide +kernel
theorem dX8_lifeAnew_43 : decode cX8_lifeAnew 43 = .ok (.athrow, 1) := by decide +kernel
theorem dX8_lifeAnew_44 : decode cX8_lifeAnew 44 = .ok (.aload_n 0, 1) := by decide +kernel
theorem dX8_lifeAnew_45 : decode cX8_lifeAnew 45 = .ok (.getfield 56, 3) := by decide +kernel
theorem dX8_lifeAnew_48 : decode cX8_lifeAnew 48 = .ok (.iload_n 1, 1) := by decide +kernel
theorem dX8_lifeAnew_49 : decode cX8_lifeAnew 49 = .ok (.iload_n 2, 1) := by decide +kernel
theorem dX8_lifeAnew_50 : decode cX8_lifeAnew 50 = .ok (.invokevirtual 383, 3) := by decide +kernel
theorem dX8_lifeAnew_53 : decode cX8_lifeAnew 53 = .ok (.ireturn, 1) := by decide +kernel
theorem dX8_canopyAt_0 : decode cX8_canopyAt 0 = .ok (.iload_n 1, 1) := by decide +kernel
theorem dX8_canopyAt_1 : decode cX8_canopyAt 1 = .ok (.i2l, 1) := by decide +kernel
theorem dX8_canopyAt_2 : decode cX8_canopyAt 2 = .ok (.lconst 0, 1) := by decide +kernel
theorem dX8_canopyAt_3 : decode cX8_canopyAt 3 = .ok (.aload_n 0, 1) := by decide +kernel
theorem dX8_canopyAt_4 : decode cX8_canopyAt 4 = .ok (.getfield 294, 3) := by decide +kernel
theorem dX8_canopyAt_7 : decode cX8_canopyAt 7 = .ok (.iconst 1, 1) := by decide +kernel
theorem dX8_canopyAt_8 : decode cX8_canopyAt 8 = .ok (.isub, 1) := by decide +kernel
theorem dX8_canopyAt_9 : decode cX8_canopyAt 9 = .ok (.i2l, 1) := by decide +kernel
theorem dX8_canopyAt_10 : decode cX8_canopyAt 10 = .ok (.invokestatic 62, 3) := by decide +kernel
theorem dX8_canopyAt_13 : decode cX8_canopyAt 13 = .ok (.ifCond .eq 7, 3) := by decide +kernel
theorem dX8_canopyAt_16 : decode cX8_canopyAt 16 = .ok (.aconst_null, 1) := by decide +kernel
theorem dX8_canopyAt_17 : decode cX8_canopyAt 17 = .ok (.goto 9, 3) := by decide +kernel
theorem dX8_canopyAt_20 : decode cX8_canopyAt 20 = .ok (.aload_n 0, 1) := by decide +kernel
theorem dX8_canopyAt_21 : decode cX8_canopyAt 21 = .ok (.getfield 49, 3) := by decide +kernel
theorem dX8_canopyAt_24 : decode cX8_canopyAt 24 = .ok (.iload_n 1, 1) := by decide +kernel
theorem dX8_canopyAt_25 : decode cX8_canopyAt 25 = .ok (.aaload, 1) := by decide +kernel
theorem dX8_canopyAt_26 : decode cX8_canopyAt 26 = .ok (.areturn, 1) := by decide +kernel
theorem dX8_takeSealsAway_0 : decode cX8_takeSealsAway 0 = .ok (.iconst 0, 1) := by decide +kernel
theorem dX8_takeSealsAway_1 : decode cX8_takeSealsAway 1 = .ok (.istore_n 2, 1) := by decide +kernel
theorem dX8_takeSealsAway_2 : decode cX8_takeSealsAway 2 = .ok (.aload_n 0, 1) := by decide +kernel
theorem dX8_takeSealsAway_3 : decode cX8_takeSealsAway 3 = .ok (.getfield 49, 3) := by decide +kernel
theorem dX8_takeSealsAway_6 : decode cX8_takeSealsAway 6 = .ok (.astore_n 3, 1) := by decide +kernel
theorem dX8_takeSealsAway_7 : decode cX8_takeSealsAway 7 = .ok (.aload_n 3, 1) := by decide +kernel
theorem dX8_takeSealsAway_8 : decode cX8_takeSealsAway 8 = .ok (.arraylength, 1) := by decide +kernel
theorem dX8_takeSealsAway_9 : decode cX8_takeSealsAway 9 = .ok (.istore 4, 2) := by decide +kernel
theorem dX8_takeSealsAway_11 : decode cX8_takeSealsAway 11 = .ok (.iconst 0, 1) := by decide +kernel
theorem dX8_takeSealsAway_12 : decode cX8_takeSealsAway 12 = .ok (.istore 5, 2) := by decide +kernel
theorem dX8_takeSealsAway_14 : decode cX8_takeSealsAway 14 = .ok (.iload 5, 2) := by decide +kernel
theorem dX8_takeSealsAway_16 : decode cX8_takeSealsAway 16 = .ok (.iload 4, 2) := by decide +kernel
theorem dX8_takeSealsAway_18 : decode cX8_takeSealsAway 18 = .ok (.if_icmp .ge 45, 3) := by decide +kernel
theorem dX8_takeSealsAway_21 : decode cX8_takeSealsAway 21 = .ok (.aload_n 3, 1) := by decide +kernel
theorem dX8_takeSealsAway_22 : decode cX8_takeSealsAway 22 = .ok (.iload 5, 2) := by decide +kernel
theorem dX8_takeSealsAway_24 : decode cX8_takeSealsAway 24 = .ok (.aaload, 1) := by decide +kernel
theorem dX8_takeSealsAway_25 : decode cX8_takeSealsAway 25 = .ok (.astore 6, 2) := by decide +kernel
theorem dX8_takeSealsAway_27 : decode cX8_takeSealsAway 27 = .ok (.aload 6, 2) := by decide +kernel
theorem dX8_takeSealsAway_29 : decode cX8_takeSealsAway 29 = .ok (.ifnull 28, 3) := by decide +kernel
theorem dX8_takeSealsAway_32 : decode cX8_takeSealsAway 32 = .ok (.aload 6, 2) := by decide +kernel
theorem dX8_takeSealsAway_34 : decode cX8_takeSealsAway 34 = .ok (.getfield 386, 3) := by decide +kernel
theorem dX8_takeSealsAway_37 : decode cX8_takeSealsAway 37 = .ok (.iload_n 1, 1) := by decide +kernel
theorem dX8_takeSealsAway_38 : decode cX8_takeSealsAway 38 = .ok (.if_icmp .ne 19, 3) := by decide +kernel
theorem dX8_takeSealsAway_41 : decode cX8_takeSealsAway 41 = .ok (.aload 6, 2) := by decide +kernel
theorem dX8_takeSealsAway_43 : decode cX8_takeSealsAway 43 = .ok (.invokevirtual 318, 3) := by decide +kernel
theorem dX8_takeSealsAway_46 : decode cX8_takeSealsAway 46 = .ok (.ifCond .eq 11, 3) := by decide +kernel
theorem dX8_takeSealsAway_49 : decode cX8_takeSealsAway 49 = .ok (.aload 6, 2) := by decide +kernel
theorem dX8_takeSealsAway_51 : decode cX8_takeSealsAway 51 = .ok (.invokevirtual 356, 3) := by decide +kernel
theorem dX8_takeSealsAway_54 : decode cX8_takeSealsAway 54 = .ok (.iinc 2 1, 3) := by decide +kernel
theorem dX8_takeSealsAway_57 : decode cX8_takeSealsAway 57 = .ok (.iinc 5 1, 3) := by decide +kernel
theorem dX8_takeSealsAway_60 : decode cX8_takeSealsAway 60 = .ok (.goto (-46), 3) := by decide +kernel
theorem dX8_takeSealsAway_63 : decode cX8_takeSealsAway 63 = .ok (.iload_n 2, 1) := by decide +kernel
theorem dX8_takeSealsAway_64 : decode cX8_takeSealsAway 64 = .ok (.ireturn, 1) := by decide +kernel
end
section
theorem dX9_init_0 : decode cX9_init 0 = .ok (.aload_n 0, 1) := by decide +kernel
theorem dX9_init_1 : decode cX9_init 1 = .ok (.invokespecial 1, 3) := by decide +kernel
theorem dX9_init_4 : decode cX9_init 4 = .ok (.aload_n 0, 1) := by decide +kernel
theorem dX9_init_5 : decode cX9_init 5 = .ok (.bipush 18, 2) := by decide +kernel
theorem dX9_init_7 : decode cX9_init 7 = .ok (.newarray .int, 2) := by decide +kernel
theorem dX9_init_9 : decode cX9_init 9 = .ok (.putfield 7, 3) := by decide +kernel
theorem dX9_init_12 : decode cX9_init 12 = .ok (.aload_n 0, 1) := by decide +kernel
theorem dX9_init_13 : decode cX9_init 13 = .ok (.bipush 6, 2) := by decide +kernel
theorem dX9_init_15 : decode cX9_init 15 = .ok (.newarray .int, 2) := by decide +kernel
theorem dX9_init_17 : decode cX9_init 17 = .ok (.putfield 13, 3) := by decide +kernel
theorem dX9_init_20 : decode cX9_init 20 = .ok (.aload_n 0, 1) := by decide +kernel
theorem dX9_init_21 : decode cX9_init 21 = .ok (.bipush 6, 2) := by decide +kernel
theorem dX9_init_23 : decode cX9_init 23 = .ok (.newarray .boolean, 2) := by decide +kernel
theorem dX9_init_25 : decode cX9_init 25 = .ok (.putfield 16, 3) := by decide +kernel
theorem dX9_init_28 : decode cX9_init 28 = .ok (.aload_n 0, 1) := by decide +kernel
theorem dX9_init_29 : decode cX9_init 29 = .ok (.bipush 12, 2) := by decide +kernel
theorem dX9_init_31 : decode cX9_init 31 = .ok (.newarray .int, 2) := by decide +kernel
theorem dX9_init_33 : decode cX9_init 33 = .ok (.putfield 20, 3) := by decide +kernel
theorem dX9_init_36 : decode cX9_init 36 = .ok (.aload_n 0, 1) := by decide +kernel
theorem dX9_init_37 : decode cX9_init 37 = .ok (.bipush 12, 2) := by decide +kernel
theorem dX9_init_39 : decode cX9_init 39 = .ok (.newarray .int, 2) := by decide +kernel
theorem dX9_init_41 : decode cX9_init 41 = .ok (.putfield 23, 3) := by decide +kernel
theorem dX9_init_44 : decode cX9_init 44 = .ok (.aload_n 0, 1) := by decide +kernel
theorem dX9_init_45 : decode cX9_init 45 = .ok (.bipush 12, 2) := by decide +kernel
theorem dX9_init_47 : decode cX9_init 47 = .ok (.newarray .int, 2) := by decide +kernel
theorem dX9_init_49 : decode cX9_init 49 = .ok (.putfield 26, 3) := by decide +kernel
theorem dX9_init_52 : decode cX9_init 52 = .ok (.aload_n 0, 1) := by decide +kernel
theorem dX9_init_53 : decode cX9_init 53 = .ok (.bipush 12, 2) := by decide +kernel
theorem dX9_init_55 : decode cX9_init 55 = .ok (.newarray .int, 2) := by decide +kernel
theorem dX9_init_57 : decode cX9_init 57 = .ok (.putfield 29, 3) := by decide +kernel
theorem dX9_init_60 : decode cX9_init 60 = .ok (.aload_n 0, 1) := by decide +kernel
theorem dX9_init_61 : decode cX9_init 61 = .ok (.bipush 30, 2) := by decide +kernel
theorem dX9_init_63 : decode cX9_init 63 = .ok (.newarray .int, 2) := by decide +kernel
theorem dX9_init_65 : decode cX9_init 65 = .ok (.putfield 32, 3) := by decide +kernel
theorem dX9_init_68 : decode cX9_init 68 = .ok (.aload_n 0, 1) := by decide +kernel
theorem dX9_init_69 : decode cX9_init 69 = .ok (.bipush 30, 2) := by decide +kernel
theorem dX9_init_71 : decode cX9_init 71 = .ok (.newarray .int, 2) := by decide +kernel
theorem dX9_init_73 : decode cX9_init 73 = .ok (.putfield 35, 3) := by decide +kernel
theorem dX9_init_76 : decode cX9_init 76 = .ok (.aload_n 0, 1) := by decide +kernel
theorem dX9_init_77 : decode cX9_init 77 = .ok (.bipush 30, 2) := by decide +kernel
theorem dX9_init_79 : decode cX9_init 79 = .ok (.newarray .int, 2) := by decide +kernel
theorem dX9_init_81 : decode cX9_init 81 = .ok (.putfield 38, 3) := by decide +kernel
theorem dX9_init_84 : decode cX9_init 84 = .ok (.aload_n 0, 1) := by decide +kernel
theorem dX9_init_85 : decode cX9_init 85 = .ok (.bipush 30, 2) := by decide +kernel
theorem dX9_init_87 : decode cX9_init 87 = .ok (.newarray .boolean, 2) := by decide +kernel
theorem dX9_init_89 : decode cX9_init 89 = .ok (.putfield 41, 3) := by decide +kernel
theorem dX9_init_92 : decode cX9_init 92 = .ok (.aload_n 0, 1) := by decide +kernel
theorem dX9_init_93 : decode cX9_init 93 = .ok (.bipush 12, 2) := by decide +kernel
theorem dX9_init_95 : decode cX9_init 95 = .ok (.newarray .long, 2) := by decide +kernel
theorem dX9_init_97 : decode cX9_init 97 = .ok (.putfield 44, 3) := by decide +kernel
theorem dX9_init_100 : decode cX9_init 100 = .ok (.aload_n 0, 1) := by decide +kernel
theorem dX9_init_101 : decode cX9_init 101 = .ok (.bipush 36, 2) := by decide +kernel
theorem dX9_init_103 : decode cX9_init 103 = .ok (.newarray .int, 2) := by decide +kernel
theorem dX9_init_105 : decode cX9_init 105 = .ok (.putfield 48, 3) := by decide +kernel
theorem dX9_init_108 : decode cX9_init 108 = .ok (.aload_n 0, 1) := by decide +kernel
theorem dX9_init_109 : decode cX9_init 109 = .ok (.bipush 36, 2) := by decide +kernel
theorem dX9_init_111 : decode cX9_init 111 = .ok (.newarray .int, 2) := by decide +kernel
theorem dX9_init_113 : decode cX9_init 113 = .ok (.putfield 51, 3) := by decide +kernel
theorem dX9_init_116 : decode cX9_init 116 = .ok (.aload_n 0, 1) := by decide +kernel
theorem dX9_init_117 : decode cX9_init 117 = .ok (.bipush 36, 2) := by decide +kernel
theorem dX9_init_119 : decode cX9_init 119 = .ok (.newarray .boolean, 2) := by decide +kernel
theorem dX9_init_121 : decode cX9_init 121 = .ok (.putfield 54, 3) := by decide +kernel
theorem dX9_init_124 : decode cX9_init 124 = .ok (.aload_n 0, 1) := by decide +kernel
theorem dX9_init_125 : decode cX9_init 125 = .ok (.bipush 8, 2) := by decide +kernel
theorem dX9_init_127 : decode cX9_init 127 = .ok (.newarray .long, 2) := by decide +kernel
theorem dX9_init_129 : decode cX9_init 129 = .ok (.putfield 57, 3) := by decide +kernel
theorem dX9_init_132 : decode cX9_init 132 = .ok (.aload_n 0, 1) := by decide +kernel
theorem dX9_init_133 : decode cX9_init 133 = .ok (.bipush 8, 2) := by decide +kernel
theorem dX9_init_135 : decode cX9_init 135 = .ok (.newarray .int, 2) := by decide +kernel
theorem dX9_init_137 : decode cX9_init 137 = .ok (.putfield 60, 3) := by decide +kernel
theorem dX9_init_140 : decode cX9_init 140 = .ok (.aload_n 0, 1) := by decide +kernel
theorem dX9_init_141 : decode cX9_init 141 = .ok (.bipush 8, 2) := by decide +kernel
theorem dX9_init_143 : decode cX9_init 143 = .ok (.newarray .boolean, 2) := by decide +kernel
theorem dX9_init_145 : decode cX9_init 145 = .ok (.putfield 63, 3) := by decide +kernel
theorem dX9_init_148 : decode cX9_init 148 = .ok (.aload_n 0, 1) := by decide +kernel
theorem dX9_init_149 : decode cX9_init 149 = .ok (.bipush 8, 2) := by decide +kernel
theorem dX9_init_151 : decode cX9_init 151 = .ok (.newarray .long, 2) := by decide +kernel
theorem dX9_init_153 : decode cX9_init 153 = .ok (.putfield 66, 3) := by decide +kernel
theorem dX9_init_156 : decode cX9_init 156 = .ok (.aload_n 0, 1) := by decide +kernel
theorem dX9_init_157 : decode cX9_init 157 = .ok (.bipush 6, 2) := by decide +kernel
theorem dX9_init_159 : decode cX9_init 159 = .ok (.newarray .int, 2) := by decide +kernel
theorem dX9_init_161 : decode cX9_init 161 = .ok (.putfield 69, 3) := by decide +kernel
theorem dX9_init_164 : decode cX9_init 164 = .ok (.aload_n 0, 1) := by decide +kernel
theorem dX9_init_165 : decode cX9_init 165 = .ok (.bipush 6, 2) := by decide +kernel
theorem dX9_init_167 : decode cX9_init 167 = .ok (.newarray .int, 2) := by decide +kernel
theorem dX9_init_169 : decode cX9_init 169 = .ok (.putfield 72, 3) := by decide +kernel
theorem dX9_init_172 : decode cX9_init 172 = .ok (.aload_n 0, 1) := by decide +kernel
theorem dX9_init_173 : decode cX9_init 173 = .ok (.bipush 48, 2) := by decide +kernel
theorem dX9_init_175 : decode cX9_init 175 = .ok (.newarray .int, 2) := by decide +kernel
theorem dX9_init_177 : decode cX9_init 177 = .ok (.putfield 75, 3) := by decide +kernel
theorem dX9_init_180 : decode cX9_init 180 = .ok (.aload_n 0, 1) := by decide +kernel
theorem dX9_init_181 : decode cX9_init 181 = .ok (.bipush 6, 2) := by decide +kernel
theorem dX9_init_183 : decode cX9_init 183 = .ok (.newarray .int, 2) := by decide +kernel
theorem dX9_init_185 : decode cX9_init 185 = .ok (.putfield 78, 3) := by decide +kernel
theorem dX9_init_188 : decode cX9_init 188 = .ok (.aload_n 0, 1) := by decide +kernel
theorem dX9_init_189 : decode cX9_init 189 = .ok (.bipush 6, 2) := by decide +kernel
theorem dX9_init_191 : decode cX9_init 191 = .ok (.newarray .int, 2) := by decide +kernel
theorem dX9_init_193 : decode cX9_init 193 = .ok (.putfield 81, 3) := by decide +kernel
theorem dX9_init_196 : decode cX9_init 196 = .ok (.aload_n 0, 1) := by decide +kernel
theorem dX9_init_197 : decode cX9_init 197 = .ok (.bipush 6, 2) := by decide +kernel
theorem dX9_init_199 : decode cX9_init 199 = .ok (.newarray .int, 2) := by decide +kernel
theorem dX9_init_201 : decode cX9_init 201 = .ok (.putfield 84, 3) := by decide +kernel
theorem dX9_init_204 : decode cX9_init 204 = .ok (.aload_n 0, 1) := by decide +kernel
theorem dX9_init_205 : decode cX9_init 205 = .ok (.bipush 6, 2) := by decide +kernel
theorem dX9_init_207 : decode cX9_init 207 = .ok (.newarray .int, 2) := by decide +kernel
theorem dX9_init_209 : decode cX9_init 209 = .ok (.putfield 87, 3) := by decide +kernel
theorem dX9_init_212 : decode cX9_init 212 = .ok (.aload_n 0, 1) := by decide +kernel
theorem dX9_init_213 : decode cX9_init 213 = .ok (.bipush 6, 2) := by decide +kernel
theorem dX9_init_215 : decode cX9_init 215 = .ok (.newarray .int, 2) := by decide +kernel
theorem dX9_init_217 : decode cX9_init 217 = .ok (.putfield 90, 3) := by decide +kernel
theorem dX9_init_220 : decode cX9_init 220 = .ok (.aload_n 0, 1) := by decide +kernel
theorem dX9_init_221 : decode cX9_init 221 = .ok (.bipush 6, 2) := by decide +kernel
theorem dX9_init_223 : decode cX9_init 223 = .ok (.newarray .int, 2) := by decide +kernel
theorem dX9_init_225 : decode cX9_init 225 = .ok (.putfield 93, 3) := by decide +kernel
theorem dX9_init_228 : decode cX9_init 228 = .ok (.iconst 0, 1) := by decide +kernel
theorem dX9_init_229 : decode cX9_init 229 = .ok (.istore_n 1, 1) := by decide +kernel
theorem dX9_init_230 : decode cX9_init 230 = .ok (.iload_n 1, 1) := by decide +kernel
theorem dX9_init_231 : decode cX9_init 231 = .ok (.bipush 36, 2) := by decide +kernel
theorem dX9_init_233 : decode cX9_init 233 = .ok (.if_icmp .ge 48, 3) := by decide +kernel
theorem dX9_init_236 : decode cX9_init 236 = .ok (.iload_n 1, 1) := by decide +kernel
theorem dX9_init_237 : decode cX9_init 237 = .ok (.bipush 6, 2) := by decide +kernel
theorem dX9_init_239 : decode cX9_init 239 = .ok (.idiv, 1) := by decide +kernel
theorem dX9_init_240 : decode cX9_init 240 = .ok (.istore_n 2, 1) := by decide +kernel
theorem dX9_init_241 : decode cX9_init 241 = .ok (.iload_n 1, 1) := by decide +kernel
theorem dX9_init_242 : decode cX9_init 242 = .ok (.bipush 6, 2) := by decide +kernel
theorem dX9_init_244 : decode cX9_init 244 = .ok (.irem, 1) := by decide +kernel
theorem dX9_init_245 : decode cX9_init 245 = .ok (.istore_n 3, 1) := by decide +kernel
theorem dX9_init_246 : decode cX9_init 246 = .ok (.aload_n 0, 1) := by decide +kernel
theorem dX9_init_247 : decode cX9_init 247 = .ok (.getfield 54, 3) := by decide +kernel
theorem dX9_init_250 : decode cX9_init 250 = .ok (.iload_n 1, 1) := by decide +kernel
theorem dX9_init_251 : decode cX9_init 251 = .ok (.iload_n 2, 1) := by decide +kernel
theorem dX9_init_252 : decode cX9_init 252 = .ok (.ifCond .eq 17, 3) := by decide +kernel
theorem dX9_init_255 : decode cX9_init 255 = .ok (.iload_n 2, 1) := by decide +kernel
theorem dX9_init_256 : decode cX9_init 256 = .ok (.iconst 5, 1) := by decide +kernel
theorem dX9_init_257 : decode cX9_init 257 = .ok (.if_icmp .eq 12, 3) := by decide +kernel
theorem dX9_init_260 : decode cX9_init 260 = .ok (.iload_n 3, 1) := by decide +kernel
theorem dX9_init_261 : decode cX9_init 261 = .ok (.ifCond .eq 8, 3) := by decide +kernel
theorem dX9_init_264 : decode cX9_init 264 = .ok (.iload_n 3, 1) := by decide +kernel
theorem dX9_init_265 : decode cX9_init 265 = .ok (.iconst 5, 1) := by decide +kernel
theorem dX9_init_266 : decode cX9_init 266 = .ok (.if_icmp .ne 7, 3) := by decide +kernel
theorem dX9_init_269 : decode cX9_init 269 = .ok (.iconst 1, 1) := by decide +kernel
theorem dX9_init_270 : decode cX9_init 270 = .ok (.goto 4, 3) := by decide +kernel
theorem dX9_init_273 : decode cX9_init 273 = .ok (.iconst 0, 1) := by decide +kernel
theorem dX9_init_274 : decode cX9_init 274 = .ok (.bastore, 1) := by decide +kernel
theorem dX9_init_275 : decode cX9_init 275 = .ok (.iinc 1 1, 3) := by decide +kernel
theorem dX9_init_278 : decode cX9_init 278 = .ok (.goto (-48), 3) := by decide +kernel
theorem dX9_init_281 : decode cX9_init 281 = .ok (.return_, 1) := by decide +kernel
theorem dX9_thrown_0 : decode cX9_thrown 0 = .ok (.aload_n 0, 1) := by decide +kernel
theorem dX9_thrown_1 : decode cX9_thrown 1 = .ok (.getfield 96, 3) := by decide +kernel
theorem dX9_thrown_4 : decode cX9_thrown 4 = .ok (.ireturn, 1) := by decide +kernel
theorem dX9_goes_0 : decode cX9_goes 0 = .ok (.aload_n 0, 1) := by decide +kernel
theorem dX9_goes_1 : decode cX9_goes 1 = .ok (.iload_n 1, 1) := by decide +kernel
theorem dX9_goes_2 : decode cX9_goes 2 = .ok (.putfield 96, 3) := by decide +kernel
theorem dX9_goes_5 : decode cX9_goes 5 = .ok (.iload_n 1, 1) := by decide +kernel
theorem dX9_goes_6 : decode cX9_goes 6 = .ok (.ifCond .ne 7, 3) := by decide +kernel
theorem dX9_goes_9 : decode cX9_goes 9 = .ok (.iconst 1, 1) := by decide +kernel
theorem dX9_goes_10 : decode cX9_goes 10 = .ok (.goto 4, 3) := by decide +kernel
theorem dX9_goes_13 : decode cX9_goes 13 = .ok (.iconst 0, 1) := by decide +kernel
theorem dX9_goes_14 : decode cX9_goes 14 = .ok (.ireturn, 1) := by decide +kernel
theorem dX9_isBetween_0 : decode cX9_isBetween 0 = .ok (.iload_n 0, 1) := by decide +kernel
theorem dX9_isBetween_1 : decode cX9_isBetween 1 = .ok (.iload_n 1, 1) := by decide +kernel
theorem dX9_isBetween_2 : decode cX9_isBetween 2 = .ok (.if_icmp .lt 12, 3) := by decide +kernel
theorem dX9_isBetween_5 : decode cX9_isBetween 5 = .ok (.iload_n 0, 1) := by decide +kernel
theorem dX9_isBetween_6 : decode cX9_isBetween 6 = .ok (.iload_n 2, 1) := by decide +kernel
theorem dX9_isBetween_7 : decode cX9_isBetween 7 = .ok (.if_icmp .gt 7, 3) := by decide +kernel
theorem dX9_isBetween_10 : decode cX9_isBetween 10 = .ok (.iconst 1, 1) := by decide +kernel
theorem dX9_isBetween_11 : decode cX9_isBetween 11 = .ok (.goto 4, 3) := by decide +kernel
theorem dX9_isBetween_14 : decode cX9_isBetween 14 = .ok (.iconst 0, 1) := by decide +kernel
theorem dX9_isBetween_15 : decode cX9_isBetween 15 = .ok (.ireturn, 1) := by decide +kernel
theorem dX9_isLot_0 : decode cX9_isLot 0 = .ok (.iload_n 1, 1) := by decide +kernel
theorem dX9_isLot_1 : decode cX9_isLot 1 = .ok (.iconst 0, 1) := by decide +kernel
theorem dX9_isLot_2 : decode cX9_isLot 2 = .ok (.aload_n 0, 1) := by decide +kernel
theorem dX9_isLot_3 : decode cX9_isLot 3 = .ok (.getfield 100, 3) := by decide +kernel
theorem dX9_isLot_6 : decode cX9_isLot 6 = .ok (.iconst 1, 1) := by decide +kernel
theorem dX9_isLot_7 : decode cX9_isLot 7 = .ok (.isub, 1) := by decide +kernel
theorem dX9_isLot_8 : decode cX9_isLot 8 = .ok (.invokestatic 103, 3) := by decide +kernel
theorem dX9_isLot_11 : decode cX9_isLot 11 = .ok (.ireturn, 1) := by decide +kernel
theorem dX9_isPanel_0 : decode cX9_isPanel 0 = .ok (.iload_n 1, 1) := by decide +kernel
theorem dX9_isPanel_1 : decode cX9_isPanel 1 = .ok (.iconst 0, 1) := by decide +kernel
theorem dX9_isPanel_2 : decode cX9_isPanel 2 = .ok (.aload_n 0, 1) := by decide +kernel
theorem dX9_isPanel_3 : decode cX9_isPanel 3 = .ok (.getfield 107, 3) := by decide +kernel
theorem dX9_isPanel_6 : decode cX9_isPanel 6 = .ok (.iconst 1, 1) := by decide +kernel
theorem dX9_isPanel_7 : decode cX9_isPanel 7 = .ok (.isub, 1) := by decide +kernel
theorem dX9_isPanel_8 : decode cX9_isPanel 8 = .ok (.invokestatic 103, 3) := by decide +kernel
theorem dX9_isPanel_11 : decode cX9_isPanel 11 = .ok (.ireturn, 1) := by decide +kernel
theorem dX9_lesser_0 : decode cX9_lesser 0 = .ok (.lload_n 0, 1) := by decide +kernel
theorem dX9_lesser_1 : decode cX9_lesser 1 = .ok (.lload_n 2, 1) := by decide +kernel
theorem dX9_lesser_2 : decode cX9_lesser 2 = .ok (.lcmp, 1) := by decide +kernel
theorem dX9_lesser_3 : decode cX9_lesser 3 = .ok (.ifCond .ge 7, 3) := by decide +kernel
theorem dX9_lesser_6 : decode cX9_lesser 6 = .ok (.lload_n 0, 1) := by decide +kernel
theorem dX9_lesser_7 : decode cX9_lesser 7 = .ok (.goto 4, 3) := by decide +kernel
theorem dX9_lesser_10 : decode cX9_lesser 10 = .ok (.lload_n 2, 1) := by decide +kernel
theorem dX9_lesser_11 : decode cX9_lesser 11 = .ok (.lreturn, 1) := by decide +kernel
theorem dX9_lot_0 : decode cX9_lot 0 = .ok (.iload_n 1, 1) := by decide +kernel
theorem dX9_lot_1 : decode cX9_lot 1 = .ok (.iconst 1, 1) := by decide +kernel
theorem dX9_lot_2 : decode cX9_lot 2 = .ok (.ldc 110, 2) := by decide +kernel
theorem dX9_lot_4 : decode cX9_lot 4 = .ok (.invokestatic 103, 3) := by decide +kernel
theorem dX9_lot_7 : decode cX9_lot 7 = .ok (.ifCond .eq 27, 3) := by decide +kernel
theorem dX9_lot_10 : decode cX9_lot 10 = .ok (.iload_n 2, 1) := by decide +kernel
theorem dX9_lot_11 : decode cX9_lot 11 = .ok (.iconst 1, 1) := by decide +kernel
theorem dX9_lot_12 : decode cX9_lot 12 = .ok (.ldc 110, 2) := by decide +kernel
theorem dX9_lot_14 : decode cX9_lot 14 = .ok (.invokestatic 103, 3) := by decide +kernel
theorem dX9_lot_17 : decode cX9_lot 17 = .ok (.ifCond .eq 17, 3) := by decide +kernel
theorem dX9_lot_20 : decode cX9_lot 20 = .ok (.iload_n 3, 1) := by decide +kernel
theorem dX9_lot_21 : decode cX9_lot 21 = .ok (.iconst 1, 1) := by decide +kernel
theorem dX9_lot_22 : decode cX9_lot 22 = .ok (.ldc 110, 2) := by decide +kernel
theorem dX9_lot_24 : decode cX9_lot 24 = .ok (.invokestatic 103, 3) := by decide +kernel
theorem dX9_lot_27 : decode cX9_lot 27 = .ok (.ifCond .eq 7, 3) := by decide +kernel
theorem dX9_lot_30 : decode cX9_lot 30 = .ok (.iconst 1, 1) := by decide +kernel
theorem dX9_lot_31 : decode cX9_lot 31 = .ok (.goto 4, 3) := by decide +kernel
theorem dX9_lot_34 : decode cX9_lot 34 = .ok (.iconst 0, 1) := by decide +kernel
theorem dX9_lot_35 : decode cX9_lot 35 = .ok (.istore 4, 2) := by decide +kernel
theorem dX9_lot_37 : decode cX9_lot 37 = .ok (.aload_n 0, 1) := by decide +kernel
theorem dX9_lot_38 : decode cX9_lot 38 = .ok (.iload 4, 2) := by decide +kernel
theorem dX9_lot_40 : decode cX9_lot 40 = .ok (.ifCond .ne 7, 3) := by decide +kernel
theorem dX9_lot_43 : decode cX9_lot 43 = .ok (.iconst 1, 1) := by decide +kernel
theorem dX9_lot_44 : decode cX9_lot 44 = .ok (.goto 17, 3) := by decide +kernel
theorem dX9_lot_47 : decode cX9_lot 47 = .ok (.aload_n 0, 1) := by decide +kernel
theorem dX9_lot_48 : decode cX9_lot 48 = .ok (.getfield 100, 3) := by decide +kernel
theorem dX9_lot_51 : decode cX9_lot 51 = .ok (.bipush 6, 2) := by decide +kernel
theorem dX9_lot_53 : decode cX9_lot 53 = .ok (.if_icmp .ne 7, 3) := by decide +kernel
theorem dX9_lot_56 : decode cX9_lot 56 = .ok (.iconst 2, 1) := by decide +kernel
theorem dX9_lot_57 : decode cX9_lot 57 = .ok (.goto 4, 3) := by decide +kernel
theorem dX9_lot_60 : decode cX9_lot 60 = .ok (.iconst 0, 1) := by decide +kernel
theorem dX9_lot_61 : decode cX9_lot 61 = .ok (.invokevirtual 111, 3) := by decide +kernel
theorem dX9_lot_64 : decode cX9_lot 64 = .ok (.ifCond .ne 5, 3) := by decide +kernel
theorem dX9_lot_67 : decode cX9_lot 67 = .ok (.iconst 0, 1) := by decide +kernel
theorem dX9_lot_68 : decode cX9_lot 68 = .ok (.ireturn, 1) := by decide +kernel
theorem dX9_lot_69 : decode cX9_lot 69 = .ok (.aload_n 0, 1) := by decide +kernel
theorem dX9_lot_70 : decode cX9_lot 70 = .ok (.getfield 7, 3) := by decide +kernel
theorem dX9_lot_73 : decode cX9_lot 73 = .ok (.iconst 3, 1) := by decide +kernel
theorem dX9_lot_74 : decode cX9_lot 74 = .ok (.aload_n 0, 1) := by decide +kernel
theorem dX9_lot_75 : decode cX9_lot 75 = .ok (.getfield 100, 3) := by decide +kernel
theorem dX9_lot_78 : decode cX9_lot 78 = .ok (.imul, 1) := by decide +kernel
theorem dX9_lot_79 : decode cX9_lot 79 = .ok (.iload_n 1, 1) := by decide +kernel
theorem dX9_lot_80 : decode cX9_lot 80 = .ok (.iastore, 1) := by decide +kernel
theorem dX9_lot_81 : decode cX9_lot 81 = .ok (.aload_n 0, 1) := by decide +kernel
theorem dX9_lot_82 : decode cX9_lot 82 = .ok (.getfield 7, 3) := by decide +kernel
theorem dX9_lot_85 : decode cX9_lot 85 = .ok (.iconst 3, 1) := by decide +kernel
theorem dX9_lot_86 : decode cX9_lot 86 = .ok (.aload_n 0, 1) := by decide +kernel
theorem dX9_lot_87 : decode cX9_lot 87 = .ok (.getfield 100, 3) := by decide +kernel
theorem dX9_lot_90 : decode cX9_lot 90 = .ok (.imul, 1) := by decide +kernel
theorem dX9_lot_91 : decode cX9_lot 91 = .ok (.iconst 1, 1) := by decide +kernel
theorem dX9_lot_92 : decode cX9_lot 92 = .ok (.iadd, 1) := by decide +kernel
theorem dX9_lot_93 : decode cX9_lot 93 = .ok (.iload_n 2, 1) := by decide +kernel
theorem dX9_lot_94 : decode cX9_lot 94 = .ok (.iastore, 1) := by decide +kernel
theorem dX9_lot_95 : decode cX9_lot 95 = .ok (.aload_n 0, 1) := by decide +kernel
theorem dX9_lot_96 : decode cX9_lot 96 = .ok (.getfield 7, 3) := by decide +kernel
theorem dX9_lot_99 : decode cX9_lot 99 = .ok (.iconst 3, 1) := by decide +kernel
theorem dX9_lot_100 : decode cX9_lot 100 = .ok (.aload_n 0, 1) := by decide +kernel
theorem dX9_lot_101 : decode cX9_lot 101 = .ok (.getfield 100, 3) := by decide +kernel
theorem dX9_lot_104 : decode cX9_lot 104 = .ok (.imul, 1) := by decide +kernel
theorem dX9_lot_105 : decode cX9_lot 105 = .ok (.iconst 2, 1) := by decide +kernel
theorem dX9_lot_106 : decode cX9_lot 106 = .ok (.iadd, 1) := by decide +kernel
theorem dX9_lot_107 : decode cX9_lot 107 = .ok (.iload_n 3, 1) := by decide +kernel
theorem dX9_lot_108 : decode cX9_lot 108 = .ok (.iastore, 1) := by decide +kernel
theorem dX9_lot_109 : decode cX9_lot 109 = .ok (.aload_n 0, 1) := by decide +kernel
theorem dX9_lot_110 : decode cX9_lot 110 = .ok (.dup, 1) := by decide +kernel
theorem dX9_lot_111 : decode cX9_lot 111 = .ok (.getfield 100, 3) := by decide +kernel
theorem dX9_lot_114 : decode cX9_lot 114 = .ok (.iconst 1, 1) := by decide +kernel
theorem dX9_lot_115 : decode cX9_lot 115 = .ok (.iadd, 1) := by decide +kernel
theorem dX9_lot_116 : decode cX9_lot 116 = .ok (.putfield 100, 3) := by decide +kernel
theorem dX9_lot_119 : decode cX9_lot 119 = .ok (.aload_n 0, 1) := by decide +kernel
theorem dX9_lot_120 : decode cX9_lot 120 = .ok (.getfield 100, 3) := by decide +kernel
theorem dX9_lot_123 : decode cX9_lot 123 = .ok (.iconst 1, 1) := by decide +kernel
theorem dX9_lot_124 : decode cX9_lot 124 = .ok (.isub, 1) := by decide +kernel
theorem dX9_lot_125 : decode cX9_lot 125 = .ok (.ireturn, 1) := by decide +kernel
theorem dX9_sun_0 : decode cX9_sun 0 = .ok (.aload_n 0, 1) := by decide +kernel
theorem dX9_sun_1 : decode cX9_sun 1 = .ok (.aload_n 0, 1) := by decide +kernel
theorem dX9_sun_2 : decode cX9_sun 2 = .ok (.iload_n 1, 1) := by decide +kernel
theorem dX9_sun_3 : decode cX9_sun 3 = .ok (.invokevirtual 115, 3) := by decide +kernel
theorem dX9_sun_6 : decode cX9_sun 6 = .ok (.ifCond .ne 7, 3) := by decide +kernel
theorem dX9_sun_9 : decode cX9_sun 9 = .ok (.iconst 1, 1) := by decide +kernel
theorem dX9_sun_10 : decode cX9_sun 10 = .ok (.goto 19, 3) := by decide +kernel
theorem dX9_sun_13 : decode cX9_sun 13 = .ok (.iload_n 2, 1) := by decide +kernel
theorem dX9_sun_14 : decode cX9_sun 14 = .ok (.iconst 1, 1) := by decide +kernel
theorem dX9_sun_15 : decode cX9_sun 15 = .ok (.sipush 10000, 3) := by decide +kernel
theorem dX9_sun_18 : decode cX9_sun 18 = .ok (.invokestatic 103, 3) := by decide +kernel
theorem dX9_sun_21 : decode cX9_sun 21 = .ok (.ifCond .eq 7, 3) := by decide +kernel
theorem dX9_sun_24 : decode cX9_sun 24 = .ok (.iconst 0, 1) := by decide +kernel
theorem dX9_sun_25 : decode cX9_sun 25 = .ok (.goto 4, 3) := by decide +kernel
theorem dX9_sun_28 : decode cX9_sun 28 = .ok (.iconst 2, 1) := by decide +kernel
theorem dX9_sun_29 : decode cX9_sun 29 = .ok (.invokevirtual 111, 3) := by decide +kernel
theorem dX9_sun_32 : decode cX9_sun 32 = .ok (.ifCond .ne 5, 3) := by decide +kernel
theorem dX9_sun_35 : decode cX9_sun 35 = .ok (.iconst 0, 1) := by decide +kernel
theorem dX9_sun_36 : decode cX9_sun 36 = .ok (.ireturn, 1) := by decide +kernel
theorem dX9_sun_37 : decode cX9_sun 37 = .ok (.aload_n 0, 1) := by decide +kernel
theorem dX9_sun_38 : decode cX9_sun 38 = .ok (.getfield 13, 3) := by decide +kernel
theorem dX9_sun_41 : decode cX9_sun 41 = .ok (.iload_n 1, 1) := by decide +kernel
theorem dX9_sun_42 : decode cX9_sun 42 = .ok (.aload_n 0, 1) := by decide +kernel
theorem dX9_sun_43 : decode cX9_sun 43 = .ok (.getfield 13, 3) := by decide +kernel
theorem dX9_sun_46 : decode cX9_sun 46 = .ok (.iload_n 1, 1) := by decide +kernel
theorem dX9_sun_47 : decode cX9_sun 47 = .ok (.iaload, 1) := by decide +kernel
theorem dX9_sun_48 : decode cX9_sun 48 = .ok (.iload_n 2, 1) := by decide +kernel
theorem dX9_sun_49 : decode cX9_sun 49 = .ok (.iadd, 1) := by decide +kernel
theorem dX9_sun_50 : decode cX9_sun 50 = .ok (.ldc 118, 2) := by decide +kernel
theorem dX9_sun_52 : decode cX9_sun 52 = .ok (.if_icmp .le 8, 3) := by decide +kernel
theorem dX9_sun_55 : decode cX9_sun 55 = .ok (.ldc 118, 2) := by decide +kernel
theorem dX9_sun_57 : decode cX9_sun 57 = .ok (.goto 11, 3) := by decide +kernel
theorem dX9_sun_60 : decode cX9_sun 60 = .ok (.aload_n 0, 1) := by decide +kernel
theorem dX9_sun_61 : decode cX9_sun 61 = .ok (.getfield 13, 3) := by decide +kernel
theorem dX9_sun_64 : decode cX9_sun 64 = .ok (.iload_n 1, 1) := by decide +kernel
theorem dX9_sun_65 : decode cX9_sun 65 = .ok (.iaload, 1) := by decide +kernel
theorem dX9_sun_66 : decode cX9_sun 66 = .ok (.iload_n 2, 1) := by decide +kernel
theorem dX9_sun_67 : decode cX9_sun 67 = .ok (.iadd, 1) := by decide +kernel
theorem dX9_sun_68 : decode cX9_sun 68 = .ok (.iastore, 1) := by decide +kernel
theorem dX9_sun_69 : decode cX9_sun 69 = .ok (.aload_n 0, 1) := by decide +kernel
theorem dX9_sun_70 : decode cX9_sun 70 = .ok (.getfield 13, 3) := by decide +kernel
theorem dX9_sun_73 : decode cX9_sun 73 = .ok (.iload_n 1, 1) := by decide +kernel
theorem dX9_sun_74 : decode cX9_sun 74 = .ok (.iaload, 1) := by decide +kernel
theorem dX9_sun_75 : decode cX9_sun 75 = .ok (.ireturn, 1) := by decide +kernel
theorem dX9_panel_0 : decode cX9_panel 0 = .ok (.iload_n 2, 1) := by decide +kernel
theorem dX9_panel_1 : decode cX9_panel 1 = .ok (.iconst 1, 1) := by decide +kernel
theorem dX9_panel_2 : decode cX9_panel 2 = .ok (.sipush 150, 3) := by decide +kernel
theorem dX9_panel_5 : decode cX9_panel 5 = .ok (.invokestatic 103, 3) := by decide +kernel
theorem dX9_panel_8 : decode cX9_panel 8 = .ok (.ifCond .eq 28, 3) := by decide +kernel
theorem dX9_panel_11 : decode cX9_panel 11 = .ok (.iload_n 3, 1) := by decide +kernel
theorem dX9_panel_12 : decode cX9_panel 12 = .ok (.iconst 1, 1) := by decide +kernel
theorem dX9_panel_13 : decode cX9_panel 13 = .ok (.sipush 150, 3) := by decide +kernel
theorem dX9_panel_16 : decode cX9_panel 16 = .ok (.invokestatic 103, 3) := by decide +kernel
theorem dX9_panel_19 : decode cX9_panel 19 = .ok (.ifCond .eq 17, 3) := by decide +kernel
theorem dX9_panel_22 : decode cX9_panel 22 = .ok (.iload 4, 2) := by decide +kernel
theorem dX9_panel_24 : decode cX9_panel 24 = .ok (.iconst 0, 1) := by decide +kernel
theorem dX9_panel_25 : decode cX9_panel 25 = .ok (.iconst 2, 1) := by decide +kernel
theorem dX9_panel_26 : decode cX9_panel 26 = .ok (.invokestatic 103, 3) := by decide +kernel
theorem dX9_panel_29 : decode cX9_panel 29 = .ok (.ifCond .eq 7, 3) := by decide +kernel
theorem dX9_panel_32 : decode cX9_panel 32 = .ok (.iconst 1, 1) := by decide +kernel
theorem dX9_panel_33 : decode cX9_panel 33 = .ok (.goto 4, 3) := by decide +kernel
theorem dX9_panel_36 : decode cX9_panel 36 = .ok (.iconst 0, 1) := by decide +kernel
theorem dX9_panel_37 : decode cX9_panel 37 = .ok (.istore 5, 2) := by decide +kernel
theorem dX9_panel_39 : decode cX9_panel 39 = .ok (.iload 4, 2) := by decide +kernel
theorem dX9_panel_41 : decode cX9_panel 41 = .ok (.iconst 2, 1) := by decide +kernel
theorem dX9_panel_42 : decode cX9_panel 42 = .ok (.if_icmp .ne 16, 3) := by decide +kernel
theorem dX9_panel_45 : decode cX9_panel 45 = .ok (.iload_n 2, 1) := by decide +kernel
theorem dX9_panel_46 : decode cX9_panel 46 = .ok (.iload_n 3, 1) := by decide +kernel
theorem dX9_panel_47 : decode cX9_panel 47 = .ok (.iadd, 1) := by decide +kernel
theorem dX9_panel_48 : decode cX9_panel 48 = .ok (.sipush 150, 3) := by decide +kernel
theorem dX9_panel_51 : decode cX9_panel 51 = .ok (.if_icmp .le 7, 3) := by decide +kernel
theorem dX9_panel_54 : decode cX9_panel 54 = .ok (.iconst 1, 1) := by decide +kernel
theorem dX9_panel_55 : decode cX9_panel 55 = .ok (.goto 4, 3) := by decide +kernel
theorem dX9_panel_58 : decode cX9_panel 58 = .ok (.iconst 0, 1) := by decide +kernel
theorem dX9_panel_59 : decode cX9_panel 59 = .ok (.istore 6, 2) := by decide +kernel
theorem dX9_panel_61 : decode cX9_panel 61 = .ok (.aload_n 0, 1) := by decide +kernel
theorem dX9_panel_62 : decode cX9_panel 62 = .ok (.aload_n 0, 1) := by decide +kernel
theorem dX9_panel_63 : decode cX9_panel 63 = .ok (.iload_n 1, 1) := by decide +kernel
theorem dX9_panel_64 : decode cX9_panel 64 = .ok (.invokevirtual 115, 3) := by decide +kernel
theorem dX9_panel_67 : decode cX9_panel 67 = .ok (.ifCond .ne 7, 3) := by decide +kernel
theorem dX9_panel_70 : decode cX9_panel 70 = .ok (.iconst 1, 1) := by decide +kernel
theorem dX9_panel_71 : decode cX9_panel 71 = .ok (.goto 31, 3) := by decide +kernel
theorem dX9_panel_74 : decode cX9_panel 74 = .ok (.iload 5, 2) := by decide +kernel
theorem dX9_panel_76 : decode cX9_panel 76 = .ok (.ifCond .eq 8, 3) := by decide +kernel
theorem dX9_panel_79 : decode cX9_panel 79 = .ok (.iload 6, 2) := by decide +kernel
theorem dX9_panel_81 : decode cX9_panel 81 = .ok (.ifCond .eq 7, 3) := by decide +kernel
theorem dX9_panel_84 : decode cX9_panel 84 = .ok (.iconst 2, 1) := by decide +kernel
theorem dX9_panel_85 : decode cX9_panel 85 = .ok (.goto 17, 3) := by decide +kernel
theorem dX9_panel_88 : decode cX9_panel 88 = .ok (.aload_n 0, 1) := by decide +kernel
theorem dX9_panel_89 : decode cX9_panel 89 = .ok (.getfield 107, 3) := by decide +kernel
theorem dX9_panel_92 : decode cX9_panel 92 = .ok (.bipush 12, 2) := by decide +kernel
theorem dX9_panel_94 : decode cX9_panel 94 = .ok (.if_icmp .ne 7, 3) := by decide +kernel
theorem dX9_panel_97 : decode cX9_panel 97 = .ok (.iconst 3, 1) := by decide +kernel
theorem dX9_panel_98 : decode cX9_panel 98 = .ok (.goto 4, 3) := by decide +kernel
theorem dX9_panel_101 : decode cX9_panel 101 = .ok (.iconst 0, 1) := by decide +kernel
theorem dX9_panel_102 : decode cX9_panel 102 = .ok (.invokevirtual 111, 3) := by decide +kernel
theorem dX9_panel_105 : decode cX9_panel 105 = .ok (.ifCond .ne 5, 3) := by decide +kernel
theorem dX9_panel_108 : decode cX9_panel 108 = .ok (.iconst 0, 1) := by decide +kernel
theorem dX9_panel_109 : decode cX9_panel 109 = .ok (.ireturn, 1) := by decide +kernel
theorem dX9_panel_110 : decode cX9_panel 110 = .ok (.aload_n 0, 1) := by decide +kernel
theorem dX9_panel_111 : decode cX9_panel 111 = .ok (.getfield 20, 3) := by decide +kernel
theorem dX9_panel_114 : decode cX9_panel 114 = .ok (.aload_n 0, 1) := by decide +kernel
theorem dX9_panel_115 : decode cX9_panel 115 = .ok (.getfield 107, 3) := by decide +kernel
theorem dX9_panel_118 : decode cX9_panel 118 = .ok (.iload_n 1, 1) := by decide +kernel
theorem dX9_panel_119 : decode cX9_panel 119 = .ok (.iastore, 1) := by decide +kernel
theorem dX9_panel_120 : decode cX9_panel 120 = .ok (.aload_n 0, 1) := by decide +kernel
theorem dX9_panel_121 : decode cX9_panel 121 = .ok (.getfield 23, 3) := by decide +kernel
theorem dX9_panel_124 : decode cX9_panel 124 = .ok (.aload_n 0, 1) := by decide +kernel
theorem dX9_panel_125 : decode cX9_panel 125 = .ok (.getfield 107, 3) := by decide +kernel
theorem dX9_panel_128 : decode cX9_panel 128 = .ok (.iload_n 2, 1) := by decide +kernel
theorem dX9_panel_129 : decode cX9_panel 129 = .ok (.iastore, 1) := by decide +kernel
theorem dX9_panel_130 : decode cX9_panel 130 = .ok (.aload_n 0, 1) := by decide +kernel
theorem dX9_panel_131 : decode cX9_panel 131 = .ok (.getfield 26, 3) := by decide +kernel
theorem dX9_panel_134 : decode cX9_panel 134 = .ok (.aload_n 0, 1) := by decide +kernel
theorem dX9_panel_135 : decode cX9_panel 135 = .ok (.getfield 107, 3) := by decide +kernel
theorem dX9_panel_138 : decode cX9_panel 138 = .ok (.iload_n 3, 1) := by decide +kernel
theorem dX9_panel_139 : decode cX9_panel 139 = .ok (.iastore, 1) := by decide +kernel
theorem dX9_panel_140 : decode cX9_panel 140 = .ok (.aload_n 0, 1) := by decide +kernel
theorem dX9_panel_141 : decode cX9_panel 141 = .ok (.getfield 29, 3) := by decide +kernel
theorem dX9_panel_144 : decode cX9_panel 144 = .ok (.aload_n 0, 1) := by decide +kernel
theorem dX9_panel_145 : decode cX9_panel 145 = .ok (.getfield 107, 3) := by decide +kernel
theorem dX9_panel_148 : decode cX9_panel 148 = .ok (.iload 4, 2) := by decide +kernel
theorem dX9_panel_150 : decode cX9_panel 150 = .ok (.iastore, 1) := by decide +kernel
theorem dX9_panel_151 : decode cX9_panel 151 = .ok (.aload_n 0, 1) := by decide +kernel
theorem dX9_panel_152 : decode cX9_panel 152 = .ok (.dup, 1) := by decide +kernel
theorem dX9_panel_153 : decode cX9_panel 153 = .ok (.getfield 107, 3) := by decide +kernel
theorem dX9_panel_156 : decode cX9_panel 156 = .ok (.iconst 1, 1) := by decide +kernel
theorem dX9_panel_157 : decode cX9_panel 157 = .ok (.iadd, 1) := by decide +kernel
theorem dX9_panel_158 : decode cX9_panel 158 = .ok (.putfield 107, 3) := by decide +kernel
theorem dX9_panel_161 : decode cX9_panel 161 = .ok (.aload_n 0, 1) := by decide +kernel
theorem dX9_panel_162 : decode cX9_panel 162 = .ok (.getfield 107, 3) := by decide +kernel
theorem dX9_panel_165 : decode cX9_panel 165 = .ok (.iconst 1, 1) := by decide +kernel
theorem dX9_panel_166 : decode cX9_panel 166 = .ok (.isub, 1) := by decide +kernel
theorem dX9_panel_167 : decode cX9_panel 167 = .ok (.ireturn, 1) := by decide +kernel
theorem dX9_strengthOf_0 : decode cX9_strengthOf 0 = .ok (.aload_n 0, 1) := by decide +kernel
theorem dX9_strengthOf_1 : decode cX9_strengthOf 1 = .ok (.getfield 20, 3) := by decide +kernel
theorem dX9_strengthOf_4 : decode cX9_strengthOf 4 = .ok (.iload_n 1, 1) := by decide +kernel
theorem dX9_strengthOf_5 : decode cX9_strengthOf 5 = .ok (.iaload, 1) := by decide +kernel
theorem dX9_strengthOf_6 : decode cX9_strengthOf 6 = .ok (.istore_n 2, 1) := by decide +kernel
theorem dX9_strengthOf_7 : decode cX9_strengthOf 7 = .ok (.sipush 1000, 3) := by decide +kernel
theorem dX9_strengthOf_10 : decode cX9_strengthOf 10 = .ok (.aload_n 0, 1) := by decide +kernel
theorem dX9_strengthOf_11 : decode cX9_strengthOf 11 = .ok (.getfield 13, 3) := by decide +kernel
theorem dX9_strengthOf_14 : decode cX9_strengthOf 14 = .ok (.iload_n 2, 1) := by decide +kernel
theorem dX9_strengthOf_15 : decode cX9_strengthOf 15 = .ok (.iaload, 1) := by decide +kernel
theorem dX9_strengthOf_16 : decode cX9_strengthOf 16 = .ok (.isub, 1) := by decide +kernel
theorem dX9_strengthOf_17 : decode cX9_strengthOf 17 = .ok (.bipush 100, 2) := by decide +kernel
theorem dX9_strengthOf_19 : decode cX9_strengthOf 19 = .ok (.if_icmp .ge 8, 3) := by decide +kernel
theorem dX9_strengthOf_22 : decode cX9_strengthOf 22 = .ok (.bipush 100, 2) := by decide +kernel
theorem dX9_strengthOf_24 : decode cX9_strengthOf 24 = .ok (.goto 13, 3) := by decide +kernel
theorem dX9_strengthOf_27 : decode cX9_strengthOf 27 = .ok (.sipush 1000, 3) := by decide +kernel
theorem dX9_strengthOf_30 : decode cX9_strengthOf 30 = .ok (.aload_n 0, 1) := by decide +kernel
theorem dX9_strengthOf_31 : decode cX9_strengthOf 31 = .ok (.getfield 13, 3) := by decide +kernel
theorem dX9_strengthOf_34 : decode cX9_strengthOf 34 = .ok (.iload_n 2, 1) := by decide +kernel
theorem dX9_strengthOf_35 : decode cX9_strengthOf 35 = .ok (.iaload, 1) := by decide +kernel
theorem dX9_strengthOf_36 : decode cX9_strengthOf 36 = .ok (.isub, 1) := by decide +kernel
theorem dX9_strengthOf_37 : decode cX9_strengthOf 37 = .ok (.istore_n 3, 1) := by decide +kernel
theorem dX9_strengthOf_38 : decode cX9_strengthOf 38 = .ok (.aload_n 0, 1) := by decide +kernel
theorem dX9_strengthOf_39 : decode cX9_strengthOf 39 = .ok (.getfield 7, 3) := by decide +kernel
theorem dX9_strengthOf_42 : decode cX9_strengthOf 42 = .ok (.iconst 3, 1) := by decide +kernel
theorem dX9_strengthOf_43 : decode cX9_strengthOf 43 = .ok (.iload_n 2, 1) := by decide +kernel
theorem dX9_strengthOf_44 : decode cX9_strengthOf 44 = .ok (.imul, 1) := by decide +kernel
theorem dX9_strengthOf_45 : decode cX9_strengthOf 45 = .ok (.aload_n 0, 1) := by decide +kernel
theorem dX9_strengthOf_46 : decode cX9_strengthOf 46 = .ok (.getfield 29, 3) := by decide +kernel
theorem dX9_strengthOf_49 : decode cX9_strengthOf 49 = .ok (.iload_n 1, 1) := by decide +kernel
theorem dX9_strengthOf_50 : decode cX9_strengthOf 50 = .ok (.iaload, 1) := by decide +kernel
theorem dX9_strengthOf_51 : decode cX9_strengthOf 51 = .ok (.iadd, 1) := by decide +kernel
theorem dX9_strengthOf_52 : decode cX9_strengthOf 52 = .ok (.iaload, 1) := by decide +kernel
theorem dX9_strengthOf_53 : decode cX9_strengthOf 53 = .ok (.i2l, 1) := by decide +kernel
theorem dX9_strengthOf_54 : decode cX9_strengthOf 54 = .ok (.iload_n 3, 1) := by decide +kernel
theorem dX9_strengthOf_55 : decode cX9_strengthOf 55 = .ok (.i2l, 1) := by decide +kernel
theorem dX9_strengthOf_56 : decode cX9_strengthOf 56 = .ok (.lmul, 1) := by decide +kernel
theorem dX9_strengthOf_57 : decode cX9_strengthOf 57 = .ok (.ldc2_w 119, 3) := by decide +kernel
theorem dX9_strengthOf_60 : decode cX9_strengthOf 60 = .ok (.ldiv, 1) := by decide +kernel
theorem dX9_strengthOf_61 : decode cX9_strengthOf 61 = .ok (.lstore 4, 2) := by decide +kernel
theorem dX9_strengthOf_63 : decode cX9_strengthOf 63 = .ok (.lload 4, 2) := by decide +kernel
theorem dX9_strengthOf_65 : decode cX9_strengthOf 65 = .ok (.aload_n 0, 1) := by decide +kernel
theorem dX9_strengthOf_66 : decode cX9_strengthOf 66 = .ok (.getfield 23, 3) := by decide +kernel
theorem dX9_strengthOf_69 : decode cX9_strengthOf 69 = .ok (.iload_n 1, 1) := by decide +kernel
theorem dX9_strengthOf_70 : decode cX9_strengthOf 70 = .ok (.iaload, 1) := by decide +kernel
theorem dX9_strengthOf_71 : decode cX9_strengthOf 71 = .ok (.i2l, 1) := by decide +kernel
theorem dX9_strengthOf_72 : decode cX9_strengthOf 72 = .ok (.lmul, 1) := by decide +kernel
theorem dX9_strengthOf_73 : decode cX9_strengthOf 73 = .ok (.lreturn, 1) := by decide +kernel
theorem dX9_strength_0 : decode cX9_strength 0 = .ok (.aload_n 0, 1) := by decide +kernel
theorem dX9_strength_1 : decode cX9_strength 1 = .ok (.aload_n 0, 1) := by decide +kernel
theorem dX9_strength_2 : decode cX9_strength 2 = .ok (.iload_n 1, 1) := by decide +kernel
theorem dX9_strength_3 : decode cX9_strength 3 = .ok (.invokevirtual 121, 3) := by decide +kernel
theorem dX9_strength_6 : decode cX9_strength 6 = .ok (.ifCond .eq 7, 3) := by decide +kernel
theorem dX9_strength_9 : decode cX9_strength 9 = .ok (.iconst 0, 1) := by decide +kernel
theorem dX9_strength_10 : decode cX9_strength 10 = .ok (.goto 4, 3) := by decide +kernel
theorem dX9_strength_13 : decode cX9_strength 13 = .ok (.iconst 1, 1) := by decide +kernel
theorem dX9_strength_14 : decode cX9_strength 14 = .ok (.invokevirtual 111, 3) := by decide +kernel
theorem dX9_strength_17 : decode cX9_strength 17 = .ok (.ifCond .eq 11, 3) := by decide +kernel
theorem dX9_strength_20 : decode cX9_strength 20 = .ok (.aload_n 0, 1) := by decide +kernel
theorem dX9_strength_21 : decode cX9_strength 21 = .ok (.iload_n 1, 1) := by decide +kernel
theorem dX9_strength_22 : decode cX9_strength 22 = .ok (.invokevirtual 124, 3) := by decide +kernel
theorem dX9_strength_25 : decode cX9_strength 25 = .ok (.goto 4, 3) := by decide +kernel
theorem dX9_strength_28 : decode cX9_strength 28 = .ok (.lconst 0, 1) := by decide +kernel
theorem dX9_strength_29 : decode cX9_strength 29 = .ok (.lreturn, 1) := by decide +kernel
theorem dX9_across_0 : decode cX9_across 0 = .ok (.aload_n 0, 1) := by decide +kernel
theorem dX9_across_1 : decode cX9_across 1 = .ok (.getfield 29, 3) := by decide +kernel
theorem dX9_across_4 : decode cX9_across 4 = .ok (.iload_n 1, 1) := by decide +kernel
theorem dX9_across_5 : decode cX9_across 5 = .ok (.iaload, 1) := by decide +kernel
theorem dX9_across_6 : decode cX9_across 6 = .ok (.ifCond .ne 12, 3) := by decide +kernel
theorem dX9_across_9 : decode cX9_across 9 = .ok (.aload_n 0, 1) := by decide +kernel
theorem dX9_across_10 : decode cX9_across 10 = .ok (.getfield 23, 3) := by decide +kernel
theorem dX9_across_13 : decode cX9_across 13 = .ok (.iload_n 1, 1) := by decide +kernel
theorem dX9_across_14 : decode cX9_across 14 = .ok (.iaload, 1) := by decide +kernel
theorem dX9_across_15 : decode cX9_across 15 = .ok (.goto 35, 3) := by decide +kernel
theorem dX9_across_18 : decode cX9_across 18 = .ok (.aload_n 0, 1) := by decide +kernel
theorem dX9_across_19 : decode cX9_across 19 = .ok (.getfield 29, 3) := by decide +kernel
theorem dX9_across_22 : decode cX9_across 22 = .ok (.iload_n 1, 1) := by decide +kernel
theorem dX9_across_23 : decode cX9_across 23 = .ok (.iaload, 1) := by decide +kernel
theorem dX9_across_24 : decode cX9_across 24 = .ok (.iconst 1, 1) := by decide +kernel
theorem dX9_across_25 : decode cX9_across 25 = .ok (.if_icmp .ne 12, 3) := by decide +kernel
theorem dX9_across_28 : decode cX9_across 28 = .ok (.aload_n 0, 1) := by decide +kernel
theorem dX9_across_29 : decode cX9_across 29 = .ok (.getfield 26, 3) := by decide +kernel
theorem dX9_across_32 : decode cX9_across 32 = .ok (.iload_n 1, 1) := by decide +kernel
theorem dX9_across_33 : decode cX9_across 33 = .ok (.iaload, 1) := by decide +kernel
theorem dX9_across_34 : decode cX9_across 34 = .ok (.goto 16, 3) := by decide +kernel
theorem dX9_across_37 : decode cX9_across 37 = .ok (.aload_n 0, 1) := by decide +kernel
theorem dX9_across_38 : decode cX9_across 38 = .ok (.getfield 23, 3) := by decide +kernel
theorem dX9_across_41 : decode cX9_across 41 = .ok (.iload_n 1, 1) := by decide +kernel
theorem dX9_across_42 : decode cX9_across 42 = .ok (.iaload, 1) := by decide +kernel
theorem dX9_across_43 : decode cX9_across 43 = .ok (.aload_n 0, 1) := by decide +kernel
theorem dX9_across_44 : decode cX9_across 44 = .ok (.getfield 26, 3) := by decide +kernel
theorem dX9_across_47 : decode cX9_across 47 = .ok (.iload_n 1, 1) := by decide +kernel
theorem dX9_across_48 : decode cX9_across 48 = .ok (.iaload, 1) := by decide +kernel
theorem dX9_across_49 : decode cX9_across 49 = .ok (.iadd, 1) := by decide +kernel
theorem dX9_across_50 : decode cX9_across 50 = .ok (.ireturn, 1) := by decide +kernel
theorem dX9_length_0 : decode cX9_length 0 = .ok (.aload_n 0, 1) := by decide +kernel
theorem dX9_length_1 : decode cX9_length 1 = .ok (.getfield 29, 3) := by decide +kernel
theorem dX9_length_4 : decode cX9_length 4 = .ok (.iload_n 1, 1) := by decide +kernel
theorem dX9_length_5 : decode cX9_length 5 = .ok (.iaload, 1) := by decide +kernel
theorem dX9_length_6 : decode cX9_length 6 = .ok (.ifCond .ne 12, 3) := by decide +kernel
theorem dX9_length_9 : decode cX9_length 9 = .ok (.aload_n 0, 1) := by decide +kernel
theorem dX9_length_10 : decode cX9_length 10 = .ok (.getfield 26, 3) := by decide +kernel
theorem dX9_length_13 : decode cX9_length 13 = .ok (.iload_n 1, 1) := by decide +kernel
theorem dX9_length_14 : decode cX9_length 14 = .ok (.iaload, 1) := by decide +kernel
theorem dX9_length_15 : decode cX9_length 15 = .ok (.goto 35, 3) := by decide +kernel
theorem dX9_length_18 : decode cX9_length 18 = .ok (.aload_n 0, 1) := by decide +kernel
theorem dX9_length_19 : decode cX9_length 19 = .ok (.getfield 29, 3) := by decide +kernel
theorem dX9_length_22 : decode cX9_length 22 = .ok (.iload_n 1, 1) := by decide +kernel
theorem dX9_length_23 : decode cX9_length 23 = .ok (.iaload, 1) := by decide +kernel
theorem dX9_length_24 : decode cX9_length 24 = .ok (.iconst 1, 1) := by decide +kernel
theorem dX9_length_25 : decode cX9_length 25 = .ok (.if_icmp .ne 12, 3) := by decide +kernel
theorem dX9_length_28 : decode cX9_length 28 = .ok (.aload_n 0, 1) := by decide +kernel
theorem dX9_length_29 : decode cX9_length 29 = .ok (.getfield 23, 3) := by decide +kernel
theorem dX9_length_32 : decode cX9_length 32 = .ok (.iload_n 1, 1) := by decide +kernel
theorem dX9_length_33 : decode cX9_length 33 = .ok (.iaload, 1) := by decide +kernel
theorem dX9_length_34 : decode cX9_length 34 = .ok (.goto 16, 3) := by decide +kernel
theorem dX9_length_37 : decode cX9_length 37 = .ok (.aload_n 0, 1) := by decide +kernel
theorem dX9_length_38 : decode cX9_length 38 = .ok (.getfield 23, 3) := by decide +kernel
theorem dX9_length_41 : decode cX9_length 41 = .ok (.iload_n 1, 1) := by decide +kernel
theorem dX9_length_42 : decode cX9_length 42 = .ok (.iaload, 1) := by decide +kernel
theorem dX9_length_43 : decode cX9_length 43 = .ok (.aload_n 0, 1) := by decide +kernel
theorem dX9_length_44 : decode cX9_length 44 = .ok (.getfield 26, 3) := by decide +kernel
theorem dX9_length_47 : decode cX9_length 47 = .ok (.iload_n 1, 1) := by decide +kernel
theorem dX9_length_48 : decode cX9_length 48 = .ok (.iaload, 1) := by decide +kernel
theorem dX9_length_49 : decode cX9_length 49 = .ok (.iadd, 1) := by decide +kernel
theorem dX9_length_50 : decode cX9_length 50 = .ok (.ireturn, 1) := by decide +kernel
theorem dX9_roll_0 : decode cX9_roll 0 = .ok (.aload_n 0, 1) := by decide +kernel
theorem dX9_roll_1 : decode cX9_roll 1 = .ok (.aload_n 0, 1) := by decide +kernel
theorem dX9_roll_2 : decode cX9_roll 2 = .ok (.iload_n 1, 1) := by decide +kernel
theorem dX9_roll_3 : decode cX9_roll 3 = .ok (.invokevirtual 115, 3) := by decide +kernel
theorem dX9_roll_6 : decode cX9_roll 6 = .ok (.ifCond .eq 7, 3) := by decide +kernel
theorem dX9_roll_9 : decode cX9_roll 9 = .ok (.iconst 0, 1) := by decide +kernel
theorem dX9_roll_10 : decode cX9_roll 10 = .ok (.goto 4, 3) := by decide +kernel
theorem dX9_roll_13 : decode cX9_roll 13 = .ok (.iconst 1, 1) := by decide +kernel
theorem dX9_roll_14 : decode cX9_roll 14 = .ok (.invokevirtual 111, 3) := by decide +kernel
theorem dX9_roll_17 : decode cX9_roll 17 = .ok (.ifCond .ne 5, 3) := by decide +kernel
theorem dX9_roll_20 : decode cX9_roll 20 = .ok (.iconst 0, 1) := by decide +kernel
theorem dX9_roll_21 : decode cX9_roll 21 = .ok (.ireturn, 1) := by decide +kernel
theorem dX9_roll_22 : decode cX9_roll 22 = .ok (.iconst 0, 1) := by decide +kernel
theorem dX9_roll_23 : decode cX9_roll 23 = .ok (.istore_n 2, 1) := by decide +kernel
theorem dX9_roll_24 : decode cX9_roll 24 = .ok (.iconst 0, 1) := by decide +kernel
theorem dX9_roll_25 : decode cX9_roll 25 = .ok (.istore_n 3, 1) := by decide +kernel
theorem dX9_roll_26 : decode cX9_roll 26 = .ok (.iconst 0, 1) := by decide +kernel
theorem dX9_roll_27 : decode cX9_roll 27 = .ok (.istore 4, 2) := by decide +kernel
theorem dX9_roll_29 : decode cX9_roll 29 = .ok (.iconst 0, 1) := by decide +kernel
theorem dX9_roll_30 : decode cX9_roll 30 = .ok (.istore 5, 2) := by decide +kernel
theorem dX9_roll_32 : decode cX9_roll 32 = .ok (.iload 5, 2) := by decide +kernel
theorem dX9_roll_34 : decode cX9_roll 34 = .ok (.aload_n 0, 1) := by decide +kernel
theorem dX9_roll_35 : decode cX9_roll 35 = .ok (.getfield 107, 3) := by decide +kernel
theorem dX9_roll_38 : decode cX9_roll 38 = .ok (.if_icmp .ge 107, 3) := by decide +kernel
theorem dX9_roll_41 : decode cX9_roll 41 = .ok (.aload_n 0, 1) := by decide +kernel
theorem dX9_roll_42 : decode cX9_roll 42 = .ok (.getfield 20, 3) := by decide +kernel
theorem dX9_roll_45 : decode cX9_roll 45 = .ok (.iload 5, 2) := by decide +kernel
theorem dX9_roll_47 : decode cX9_roll 47 = .ok (.iaload, 1) := by decide +kernel
theorem dX9_roll_48 : decode cX9_roll 48 = .ok (.iload_n 1, 1) := by decide +kernel
theorem dX9_roll_49 : decode cX9_roll 49 = .ok (.if_icmp .ne 90, 3) := by decide +kernel
theorem dX9_roll_52 : decode cX9_roll 52 = .ok (.iload_n 3, 1) := by decide +kernel
theorem dX9_roll_53 : decode cX9_roll 53 = .ok (.aload_n 0, 1) := by decide +kernel
theorem dX9_roll_54 : decode cX9_roll 54 = .ok (.iload 5, 2) := by decide +kernel
theorem dX9_roll_56 : decode cX9_roll 56 = .ok (.invokevirtual 128, 3) := by decide +kernel
theorem dX9_roll_59 : decode cX9_roll 59 = .ok (.iadd, 1) := by decide +kernel
theorem dX9_roll_60 : decode cX9_roll 60 = .ok (.sipush 150, 3) := by decide +kernel
theorem dX9_roll_63 : decode cX9_roll 63 = .ok (.if_icmp .gt 7, 3) := by decide +kernel
theorem dX9_roll_66 : decode cX9_roll 66 = .ok (.iconst 1, 1) := by decide +kernel
theorem dX9_roll_67 : decode cX9_roll 67 = .ok (.goto 4, 3) := by decide +kernel
theorem dX9_roll_70 : decode cX9_roll 70 = .ok (.iconst 0, 1) := by decide +kernel
theorem dX9_roll_71 : decode cX9_roll 71 = .ok (.istore 6, 2) := by decide +kernel
theorem dX9_roll_73 : decode cX9_roll 73 = .ok (.iload_n 2, 1) := by decide +kernel
theorem dX9_roll_74 : decode cX9_roll 74 = .ok (.iload 6, 2) := by decide +kernel
theorem dX9_roll_76 : decode cX9_roll 76 = .ok (.ifCond .eq 7, 3) := by decide +kernel
theorem dX9_roll_79 : decode cX9_roll 79 = .ok (.iconst 0, 1) := by decide +kernel
theorem dX9_roll_80 : decode cX9_roll 80 = .ok (.goto 5, 3) := by decide +kernel
theorem dX9_roll_83 : decode cX9_roll 83 = .ok (.iload 4, 2) := by decide +kernel
theorem dX9_roll_85 : decode cX9_roll 85 = .ok (.iadd, 1) := by decide +kernel
theorem dX9_roll_86 : decode cX9_roll 86 = .ok (.istore_n 2, 1) := by decide +kernel
theorem dX9_roll_87 : decode cX9_roll 87 = .ok (.iload 6, 2) := by decide +kernel
theorem dX9_roll_89 : decode cX9_roll 89 = .ok (.ifCond .eq 19, 3) := by decide +kernel
theorem dX9_roll_92 : decode cX9_roll 92 = .ok (.iload 4, 2) := by decide +kernel
theorem dX9_roll_94 : decode cX9_roll 94 = .ok (.aload_n 0, 1) := by decide +kernel
theorem dX9_roll_95 : decode cX9_roll 95 = .ok (.iload 5, 2) := by decide +kernel
theorem dX9_roll_97 : decode cX9_roll 97 = .ok (.invokevirtual 132, 3) := by decide +kernel
theorem dX9_roll_100 : decode cX9_roll 100 = .ok (.if_icmp .le 8, 3) := by decide +kernel
theorem dX9_roll_103 : decode cX9_roll 103 = .ok (.iload 4, 2) := by decide +kernel
theorem dX9_roll_105 : decode cX9_roll 105 = .ok (.goto 9, 3) := by decide +kernel
theorem dX9_roll_108 : decode cX9_roll 108 = .ok (.aload_n 0, 1) := by decide +kernel
theorem dX9_roll_109 : decode cX9_roll 109 = .ok (.iload 5, 2) := by decide +kernel
theorem dX9_roll_111 : decode cX9_roll 111 = .ok (.invokevirtual 132, 3) := by decide +kernel
theorem dX9_roll_114 : decode cX9_roll 114 = .ok (.istore 4, 2) := by decide +kernel
theorem dX9_roll_116 : decode cX9_roll 116 = .ok (.iload 6, 2) := by decide +kernel
theorem dX9_roll_118 : decode cX9_roll 118 = .ok (.ifCond .eq 14, 3) := by decide +kernel
theorem dX9_roll_121 : decode cX9_roll 121 = .ok (.iload_n 3, 1) := by decide +kernel
theorem dX9_roll_122 : decode cX9_roll 122 = .ok (.aload_n 0, 1) := by decide +kernel
theorem dX9_roll_123 : decode cX9_roll 123 = .ok (.iload 5, 2) := by decide +kernel
theorem dX9_roll_125 : decode cX9_roll 125 = .ok (.invokevirtual 128, 3) := by decide +kernel
theorem dX9_roll_128 : decode cX9_roll 128 = .ok (.iadd, 1) := by decide +kernel
theorem dX9_roll_129 : decode cX9_roll 129 = .ok (.goto 9, 3) := by decide +kernel
theorem dX9_roll_132 : decode cX9_roll 132 = .ok (.aload_n 0, 1) := by decide +kernel
theorem dX9_roll_133 : decode cX9_roll 133 = .ok (.iload 5, 2) := by decide +kernel
theorem dX9_roll_135 : decode cX9_roll 135 = .ok (.invokevirtual 128, 3) := by decide +kernel
theorem dX9_roll_138 : decode cX9_roll 138 = .ok (.istore_n 3, 1) := by decide +kernel
theorem dX9_roll_139 : decode cX9_roll 139 = .ok (.iinc 5 1, 3) := by decide +kernel
theorem dX9_roll_142 : decode cX9_roll 142 = .ok (.goto (-110), 3) := by decide +kernel
theorem dX9_roll_145 : decode cX9_roll 145 = .ok (.iload_n 2, 1) := by decide +kernel
theorem dX9_roll_146 : decode cX9_roll 146 = .ok (.iload 4, 2) := by decide +kernel
theorem dX9_roll_148 : decode cX9_roll 148 = .ok (.iadd, 1) := by decide +kernel
theorem dX9_roll_149 : decode cX9_roll 149 = .ok (.ireturn, 1) := by decide +kernel
theorem dX9_seam_0 : decode cX9_seam 0 = .ok (.aload_n 0, 1) := by decide +kernel
theorem dX9_seam_1 : decode cX9_seam 1 = .ok (.iload_n 1, 1) := by decide +kernel
theorem dX9_seam_2 : decode cX9_seam 2 = .ok (.invokevirtual 121, 3) := by decide +kernel
theorem dX9_seam_5 : decode cX9_seam 5 = .ok (.ifCond .eq 15, 3) := by decide +kernel
theorem dX9_seam_8 : decode cX9_seam 8 = .ok (.aload_n 0, 1) := by decide +kernel
theorem dX9_seam_9 : decode cX9_seam 9 = .ok (.iload_n 2, 1) := by decide +kernel
theorem dX9_seam_10 : decode cX9_seam 10 = .ok (.invokevirtual 121, 3) := by decide +kernel
theorem dX9_seam_13 : decode cX9_seam 13 = .ok (.ifCond .eq 7, 3) := by decide +kernel
theorem dX9_seam_16 : decode cX9_seam 16 = .ok (.iconst 1, 1) := by decide +kernel
theorem dX9_seam_17 : decode cX9_seam 17 = .ok (.goto 4, 3) := by decide +kernel
theorem dX9_seam_20 : decode cX9_seam 20 = .ok (.iconst 0, 1) := by decide +kernel
theorem dX9_seam_21 : decode cX9_seam 21 = .ok (.istore 4, 2) := by decide +kernel
theorem dX9_seam_23 : decode cX9_seam 23 = .ok (.aload_n 0, 1) := by decide +kernel
theorem dX9_seam_24 : decode cX9_seam 24 = .ok (.iload 4, 2) := by decide +kernel
theorem dX9_seam_26 : decode cX9_seam 26 = .ok (.ifCond .ne 7, 3) := by decide +kernel
theorem dX9_seam_29 : decode cX9_seam 29 = .ok (.iconst 1, 1) := by decide +kernel
theorem dX9_seam_30 : decode cX9_seam 30 = .ok (.goto 35, 3) := by decide +kernel
theorem dX9_seam_33 : decode cX9_seam 33 = .ok (.iload_n 1, 1) := by decide +kernel
theorem dX9_seam_34 : decode cX9_seam 34 = .ok (.iload_n 2, 1) := by decide +kernel
theorem dX9_seam_35 : decode cX9_seam 35 = .ok (.if_icmp .eq 12, 3) := by decide +kernel
theorem dX9_seam_38 : decode cX9_seam 38 = .ok (.iload_n 3, 1) := by decide +kernel
theorem dX9_seam_39 : decode cX9_seam 39 = .ok (.iconst 0, 1) := by decide +kernel
theorem dX9_seam_40 : decode cX9_seam 40 = .ok (.iconst 2, 1) := by decide +kernel
theorem dX9_seam_41 : decode cX9_seam 41 = .ok (.invokestatic 103, 3) := by decide +kernel
theorem dX9_seam_44 : decode cX9_seam 44 = .ok (.ifCond .ne 7, 3) := by decide +kernel
theorem dX9_seam_47 : decode cX9_seam 47 = .ok (.iconst 2, 1) := by decide +kernel
theorem dX9_seam_48 : decode cX9_seam 48 = .ok (.goto 17, 3) := by decide +kernel
theorem dX9_seam_51 : decode cX9_seam 51 = .ok (.aload_n 0, 1) := by decide +kernel
theorem dX9_seam_52 : decode cX9_seam 52 = .ok (.getfield 135, 3) := by decide +kernel
theorem dX9_seam_55 : decode cX9_seam 55 = .ok (.bipush 30, 2) := by decide +kernel
theorem dX9_seam_57 : decode cX9_seam 57 = .ok (.if_icmp .ne 7, 3) := by decide +kernel
theorem dX9_seam_60 : decode cX9_seam 60 = .ok (.iconst 3, 1) := by decide +kernel
theorem dX9_seam_61 : decode cX9_seam 61 = .ok (.goto 4, 3) := by decide +kernel
theorem dX9_seam_64 : decode cX9_seam 64 = .ok (.iconst 0, 1) := by decide +kernel
theorem dX9_seam_65 : decode cX9_seam 65 = .ok (.invokevirtual 111, 3) := by decide +kernel
theorem dX9_seam_68 : decode cX9_seam 68 = .ok (.ifCond .ne 5, 3) := by decide +kernel
theorem dX9_seam_71 : decode cX9_seam 71 = .ok (.iconst 0, 1) := by decide +kernel
theorem dX9_seam_72 : decode cX9_seam 72 = .ok (.ireturn, 1) := by decide +kernel
theorem dX9_seam_73 : decode cX9_seam 73 = .ok (.aload_n 0, 1) := by decide +kernel
theorem dX9_seam_74 : decode cX9_seam 74 = .ok (.getfield 32, 3) := by decide +kernel
theorem dX9_seam_77 : decode cX9_seam 77 = .ok (.aload_n 0, 1) := by decide +kernel
theorem dX9_seam_78 : decode cX9_seam 78 = .ok (.getfield 135, 3) := by decide +kernel
theorem dX9_seam_81 : decode cX9_seam 81 = .ok (.iload_n 1, 1) := by decide +kernel
theorem dX9_seam_82 : decode cX9_seam 82 = .ok (.iastore, 1) := by decide +kernel
theorem dX9_seam_83 : decode cX9_seam 83 = .ok (.aload_n 0, 1) := by decide +kernel
theorem dX9_seam_84 : decode cX9_seam 84 = .ok (.getfield 35, 3) := by decide +kernel
theorem dX9_seam_87 : decode cX9_seam 87 = .ok (.aload_n 0, 1) := by decide +kernel
theorem dX9_seam_88 : decode cX9_seam 88 = .ok (.getfield 135, 3) := by decide +kernel
theorem dX9_seam_91 : decode cX9_seam 91 = .ok (.iload_n 2, 1) := by decide +kernel
theorem dX9_seam_92 : decode cX9_seam 92 = .ok (.iastore, 1) := by decide +kernel
theorem dX9_seam_93 : decode cX9_seam 93 = .ok (.aload_n 0, 1) := by decide +kernel
theorem dX9_seam_94 : decode cX9_seam 94 = .ok (.getfield 38, 3) := by decide +kernel
theorem dX9_seam_97 : decode cX9_seam 97 = .ok (.aload_n 0, 1) := by decide +kernel
theorem dX9_seam_98 : decode cX9_seam 98 = .ok (.getfield 135, 3) := by decide +kernel
theorem dX9_seam_101 : decode cX9_seam 101 = .ok (.iload_n 3, 1) := by decide +kernel
theorem dX9_seam_102 : decode cX9_seam 102 = .ok (.iastore, 1) := by decide +kernel
theorem dX9_seam_103 : decode cX9_seam 103 = .ok (.aload_n 0, 1) := by decide +kernel
theorem dX9_seam_104 : decode cX9_seam 104 = .ok (.dup, 1) := by decide +kernel
theorem dX9_seam_105 : decode cX9_seam 105 = .ok (.getfield 135, 3) := by decide +kernel
theorem dX9_seam_108 : decode cX9_seam 108 = .ok (.iconst 1, 1) := by decide +kernel
theorem dX9_seam_109 : decode cX9_seam 109 = .ok (.iadd, 1) := by decide +kernel
theorem dX9_seam_110 : decode cX9_seam 110 = .ok (.putfield 135, 3) := by decide +kernel
theorem dX9_seam_113 : decode cX9_seam 113 = .ok (.aload_n 0, 1) := by decide +kernel
theorem dX9_seam_114 : decode cX9_seam 114 = .ok (.getfield 135, 3) := by decide +kernel
theorem dX9_seam_117 : decode cX9_seam 117 = .ok (.iconst 1, 1) := by decide +kernel
theorem dX9_seam_118 : decode cX9_seam 118 = .ok (.isub, 1) := by decide +kernel
theorem dX9_seam_119 : decode cX9_seam 119 = .ok (.ireturn, 1) := by decide +kernel
theorem dX9_seamOf_0 : decode cX9_seamOf 0 = .ok (.aload_n 0, 1) := by decide +kernel
theorem dX9_seamOf_1 : decode cX9_seamOf 1 = .ok (.getfield 38, 3) := by decide +kernel
theorem dX9_seamOf_4 : decode cX9_seamOf 4 = .ok (.iload_n 1, 1) := by decide +kernel
theorem dX9_seamOf_5 : decode cX9_seamOf 5 = .ok (.iaload, 1) := by decide +kernel
theorem dX9_seamOf_6 : decode cX9_seamOf 6 = .ok (.ifCond .ne 8, 3) := by decide +kernel
theorem dX9_seamOf_9 : decode cX9_seamOf 9 = .ok (.bipush 60, 2) := by decide +kernel
theorem dX9_seamOf_11 : decode cX9_seamOf 11 = .ok (.goto 20, 3) := by decide +kernel
theorem dX9_seamOf_14 : decode cX9_seamOf 14 = .ok (.aload_n 0, 1) := by decide +kernel
theorem dX9_seamOf_15 : decode cX9_seamOf 15 = .ok (.getfield 38, 3) := by decide +kernel
theorem dX9_seamOf_18 : decode cX9_seamOf 18 = .ok (.iload_n 1, 1) := by decide +kernel
theorem dX9_seamOf_19 : decode cX9_seamOf 19 = .ok (.iaload, 1) := by decide +kernel
theorem dX9_seamOf_20 : decode cX9_seamOf 20 = .ok (.iconst 1, 1) := by decide +kernel
theorem dX9_seamOf_21 : decode cX9_seamOf 21 = .ok (.if_icmp .ne 8, 3) := by decide +kernel
theorem dX9_seamOf_24 : decode cX9_seamOf 24 = .ok (.bipush 80, 2) := by decide +kernel
theorem dX9_seamOf_26 : decode cX9_seamOf 26 = .ok (.goto 5, 3) := by decide +kernel
theorem dX9_seamOf_29 : decode cX9_seamOf 29 = .ok (.bipush 40, 2) := by decide +kernel
theorem dX9_seamOf_31 : decode cX9_seamOf 31 = .ok (.istore_n 2, 1) := by decide +kernel
theorem dX9_seamOf_32 : decode cX9_seamOf 32 = .ok (.aload_n 0, 1) := by decide +kernel
theorem dX9_seamOf_33 : decode cX9_seamOf 33 = .ok (.aload_n 0, 1) := by decide +kernel
theorem dX9_seamOf_34 : decode cX9_seamOf 34 = .ok (.getfield 32, 3) := by decide +kernel
theorem dX9_seamOf_37 : decode cX9_seamOf 37 = .ok (.iload_n 1, 1) := by decide +kernel
theorem dX9_seamOf_38 : decode cX9_seamOf 38 = .ok (.iaload, 1) := by decide +kernel
theorem dX9_seamOf_39 : decode cX9_seamOf 39 = .ok (.invokevirtual 124, 3) := by decide +kernel
theorem dX9_seamOf_42 : decode cX9_seamOf 42 = .ok (.aload_n 0, 1) := by decide +kernel
theorem dX9_seamOf_43 : decode cX9_seamOf 43 = .ok (.aload_n 0, 1) := by decide +kernel
theorem dX9_seamOf_44 : decode cX9_seamOf 44 = .ok (.getfield 35, 3) := by decide +kernel
theorem dX9_seamOf_47 : decode cX9_seamOf 47 = .ok (.iload_n 1, 1) := by decide +kernel
theorem dX9_seamOf_48 : decode cX9_seamOf 48 = .ok (.iaload, 1) := by decide +kernel
theorem dX9_seamOf_49 : decode cX9_seamOf 49 = .ok (.invokevirtual 124, 3) := by decide +kernel
theorem dX9_seamOf_52 : decode cX9_seamOf 52 = .ok (.invokestatic 138, 3) := by decide +kernel
theorem dX9_seamOf_55 : decode cX9_seamOf 55 = .ok (.iload_n 2, 1) := by decide +kernel
theorem dX9_seamOf_56 : decode cX9_seamOf 56 = .ok (.i2l, 1) := by decide +kernel
theorem dX9_seamOf_57 : decode cX9_seamOf 57 = .ok (.lmul, 1) := by decide +kernel
theorem dX9_seamOf_58 : decode cX9_seamOf 58 = .ok (.ldc2_w 142, 3) := by decide +kernel
theorem dX9_seamOf_61 : decode cX9_seamOf 61 = .ok (.ldiv, 1) := by decide +kernel
theorem dX9_seamOf_62 : decode cX9_seamOf 62 = .ok (.lreturn, 1) := by decide +kernel
theorem dX9_rip_0 : decode cX9_rip 0 = .ok (.iload_n 1, 1) := by decide +kernel
theorem dX9_rip_1 : decode cX9_rip 1 = .ok (.iconst 0, 1) := by decide +kernel
theorem dX9_rip_2 : decode cX9_rip 2 = .ok (.aload_n 0, 1) := by decide +kernel
theorem dX9_rip_3 : decode cX9_rip 3 = .ok (.getfield 135, 3) := by decide +kernel
theorem dX9_rip_6 : decode cX9_rip 6 = .ok (.iconst 1, 1) := by decide +kernel
theorem dX9_rip_7 : decode cX9_rip 7 = .ok (.isub, 1) := by decide +kernel
theorem dX9_rip_8 : decode cX9_rip 8 = .ok (.invokestatic 103, 3) := by decide +kernel
theorem dX9_rip_11 : decode cX9_rip 11 = .ok (.ifCond .eq 16, 3) := by decide +kernel
theorem dX9_rip_14 : decode cX9_rip 14 = .ok (.aload_n 0, 1) := by decide +kernel
theorem dX9_rip_15 : decode cX9_rip 15 = .ok (.getfield 41, 3) := by decide +kernel
theorem dX9_rip_18 : decode cX9_rip 18 = .ok (.iload_n 1, 1) := by decide +kernel
theorem dX9_rip_19 : decode cX9_rip 19 = .ok (.baload, 1) := by decide +kernel
theorem dX9_rip_20 : decode cX9_rip 20 = .ok (.ifCond .ne 7, 3) := by decide +kernel
theorem dX9_rip_23 : decode cX9_rip 23 = .ok (.iconst 1, 1) := by decide +kernel
theorem dX9_rip_24 : decode cX9_rip 24 = .ok (.goto 4, 3) := by decide +kernel
theorem dX9_rip_27 : decode cX9_rip 27 = .ok (.iconst 0, 1) := by decide +kernel
theorem dX9_rip_28 : decode cX9_rip 28 = .ok (.istore_n 2, 1) := by decide +kernel
theorem dX9_rip_29 : decode cX9_rip 29 = .ok (.aload_n 0, 1) := by decide +kernel
theorem dX9_rip_30 : decode cX9_rip 30 = .ok (.iload_n 2, 1) := by decide +kernel
theorem dX9_rip_31 : decode cX9_rip 31 = .ok (.ifCond .eq 7, 3) := by decide +kernel
theorem dX9_rip_34 : decode cX9_rip 34 = .ok (.iconst 0, 1) := by decide +kernel
theorem dX9_rip_35 : decode cX9_rip 35 = .ok (.goto 4, 3) := by decide +kernel
theorem dX9_rip_38 : decode cX9_rip 38 = .ok (.iconst 1, 1) := by decide +kernel
theorem dX9_rip_39 : decode cX9_rip 39 = .ok (.invokevirtual 111, 3) := by decide +kernel
theorem dX9_rip_42 : decode cX9_rip 42 = .ok (.ifCond .ne 5, 3) := by decide +kernel
theorem dX9_rip_45 : decode cX9_rip 45 = .ok (.lconst 0, 1) := by decide +kernel
theorem dX9_rip_46 : decode cX9_rip 46 = .ok (.lreturn, 1) := by decide +kernel
theorem dX9_rip_47 : decode cX9_rip 47 = .ok (.aload_n 0, 1) := by decide +kernel
theorem dX9_rip_48 : decode cX9_rip 48 = .ok (.getfield 41, 3) := by decide +kernel
theorem dX9_rip_51 : decode cX9_rip 51 = .ok (.iload_n 1, 1) := by decide +kernel
theorem dX9_rip_52 : decode cX9_rip 52 = .ok (.iconst 1, 1) := by decide +kernel
theorem dX9_rip_53 : decode cX9_rip 53 = .ok (.bastore, 1) := by decide +kernel
theorem dX9_rip_54 : decode cX9_rip 54 = .ok (.aload_n 0, 1) := by decide +kernel
theorem dX9_rip_55 : decode cX9_rip 55 = .ok (.iload_n 1, 1) := by decide +kernel
theorem dX9_rip_56 : decode cX9_rip 56 = .ok (.invokevirtual 144, 3) := by decide +kernel
theorem dX9_rip_59 : decode cX9_rip 59 = .ok (.lreturn, 1) := by decide +kernel
theorem dX9_comes_0 : decode cX9_comes 0 = .ok (.aload_n 0, 1) := by decide +kernel
theorem dX9_comes_1 : decode cX9_comes 1 = .ok (.getfield 44, 3) := by decide +kernel
theorem dX9_comes_4 : decode cX9_comes 4 = .ok (.iload_n 1, 1) := by decide +kernel
theorem dX9_comes_5 : decode cX9_comes 5 = .ok (.laload, 1) := by decide +kernel
theorem dX9_comes_6 : decode cX9_comes 6 = .ok (.aload_n 0, 1) := by decide +kernel
theorem dX9_comes_7 : decode cX9_comes 7 = .ok (.iload_n 3, 1) := by decide +kernel
theorem dX9_comes_8 : decode cX9_comes 8 = .ok (.invokevirtual 144, 3) := by decide +kernel
theorem dX9_comes_11 : decode cX9_comes 11 = .ok (.aload_n 0, 1) := by decide +kernel
theorem dX9_comes_12 : decode cX9_comes 12 = .ok (.iload_n 2, 1) := by decide +kernel
theorem dX9_comes_13 : decode cX9_comes 13 = .ok (.invokevirtual 124, 3) := by decide +kernel
theorem dX9_comes_16 : decode cX9_comes 16 = .ok (.invokestatic 138, 3) := by decide +kernel
theorem dX9_comes_19 : decode cX9_comes 19 = .ok (.invokestatic 138, 3) := by decide +kernel
theorem dX9_comes_22 : decode cX9_comes 22 = .ok (.lstore 4, 2) := by decide +kernel
theorem dX9_comes_24 : decode cX9_comes 24 = .ok (.lload 4, 2) := by decide +kernel
theorem dX9_comes_26 : decode cX9_comes 26 = .ok (.aload_n 0, 1) := by decide +kernel
theorem dX9_comes_27 : decode cX9_comes 27 = .ok (.getfield 44, 3) := by decide +kernel
theorem dX9_comes_30 : decode cX9_comes 30 = .ok (.iload_n 2, 1) := by decide +kernel
theorem dX9_comes_31 : decode cX9_comes 31 = .ok (.laload, 1) := by decide +kernel
theorem dX9_comes_32 : decode cX9_comes 32 = .ok (.lcmp, 1) := by decide +kernel
theorem dX9_comes_33 : decode cX9_comes 33 = .ok (.ifCond .le 7, 3) := by decide +kernel
theorem dX9_comes_36 : decode cX9_comes 36 = .ok (.iconst 1, 1) := by decide +kernel
theorem dX9_comes_37 : decode cX9_comes 37 = .ok (.goto 4, 3) := by decide +kernel
theorem dX9_comes_40 : decode cX9_comes 40 = .ok (.iconst 0, 1) := by decide +kernel
theorem dX9_comes_41 : decode cX9_comes 41 = .ok (.istore 6, 2) := by decide +kernel
theorem dX9_comes_43 : decode cX9_comes 43 = .ok (.aload_n 0, 1) := by decide +kernel
theorem dX9_comes_44 : decode cX9_comes 44 = .ok (.getfield 44, 3) := by decide +kernel
theorem dX9_comes_47 : decode cX9_comes 47 = .ok (.iload_n 2, 1) := by decide +kernel
theorem dX9_comes_48 : decode cX9_comes 48 = .ok (.iload 6, 2) := by decide +kernel
theorem dX9_comes_50 : decode cX9_comes 50 = .ok (.ifCond .eq 8, 3) := by decide +kernel
theorem dX9_comes_53 : decode cX9_comes 53 = .ok (.lload 4, 2) := by decide +kernel
theorem dX9_comes_55 : decode cX9_comes 55 = .ok (.goto 9, 3) := by decide +kernel
theorem dX9_comes_58 : decode cX9_comes 58 = .ok (.aload_n 0, 1) := by decide +kernel
theorem dX9_comes_59 : decode cX9_comes 59 = .ok (.getfield 44, 3) := by decide +kernel
theorem dX9_comes_62 : decode cX9_comes 62 = .ok (.iload_n 2, 1) := by decide +kernel
theorem dX9_comes_63 : decode cX9_comes 63 = .ok (.laload, 1) := by decide +kernel
theorem dX9_comes_64 : decode cX9_comes 64 = .ok (.lastore, 1) := by decide +kernel
theorem dX9_comes_65 : decode cX9_comes 65 = .ok (.iload 6, 2) := by decide +kernel
theorem dX9_comes_67 : decode cX9_comes 67 = .ok (.ireturn, 1) := by decide +kernel
theorem dX9_bearsOf_0 : decode cX9_bearsOf 0 = .ok (.iconst 0, 1) := by decide +kernel
theorem dX9_bearsOf_1 : decode cX9_bearsOf 1 = .ok (.istore_n 3, 1) := by decide +kernel
theorem dX9_bearsOf_2 : decode cX9_bearsOf 2 = .ok (.iload_n 3, 1) := by decide +kernel
theorem dX9_bearsOf_3 : decode cX9_bearsOf 3 = .ok (.aload_n 0, 1) := by decide +kernel
theorem dX9_bearsOf_4 : decode cX9_bearsOf 4 = .ok (.getfield 107, 3) := by decide +kernel
theorem dX9_bearsOf_7 : decode cX9_bearsOf 7 = .ok (.if_icmp .ge 29, 3) := by decide +kernel
theorem dX9_bearsOf_10 : decode cX9_bearsOf 10 = .ok (.aload_n 0, 1) := by decide +kernel
theorem dX9_bearsOf_11 : decode cX9_bearsOf 11 = .ok (.getfield 44, 3) := by decide +kernel
theorem dX9_bearsOf_14 : decode cX9_bearsOf 14 = .ok (.iload_n 3, 1) := by decide +kernel
theorem dX9_bearsOf_15 : decode cX9_bearsOf 15 = .ok (.iload_n 3, 1) := by decide +kernel
theorem dX9_bearsOf_16 : decode cX9_bearsOf 16 = .ok (.iload_n 1, 1) := by decide +kernel
theorem dX9_bearsOf_17 : decode cX9_bearsOf 17 = .ok (.if_icmp .ne 11, 3) := by decide +kernel
theorem dX9_bearsOf_20 : decode cX9_bearsOf 20 = .ok (.aload_n 0, 1) := by decide +kernel
theorem dX9_bearsOf_21 : decode cX9_bearsOf 21 = .ok (.iload_n 1, 1) := by decide +kernel
theorem dX9_bearsOf_22 : decode cX9_bearsOf 22 = .ok (.invokevirtual 124, 3) := by decide +kernel
theorem dX9_bearsOf_25 : decode cX9_bearsOf 25 = .ok (.goto 4, 3) := by decide +kernel
theorem dX9_bearsOf_28 : decode cX9_bearsOf 28 = .ok (.lconst 0, 1) := by decide +kernel
theorem dX9_bearsOf_29 : decode cX9_bearsOf 29 = .ok (.lastore, 1) := by decide +kernel
theorem dX9_bearsOf_30 : decode cX9_bearsOf 30 = .ok (.iinc 3 1, 3) := by decide +kernel
theorem dX9_bearsOf_33 : decode cX9_bearsOf 33 = .ok (.goto (-31), 3) := by decide +kernel
theorem dX9_bearsOf_36 : decode cX9_bearsOf 36 = .ok (.iconst 1, 1) := by decide +kernel
theorem dX9_bearsOf_37 : decode cX9_bearsOf 37 = .ok (.istore_n 3, 1) := by decide +kernel
theorem dX9_bearsOf_38 : decode cX9_bearsOf 38 = .ok (.iload_n 3, 1) := by decide +kernel
theorem dX9_bearsOf_39 : decode cX9_bearsOf 39 = .ok (.ifCond .eq 100, 3) := by decide +kernel
theorem dX9_bearsOf_42 : decode cX9_bearsOf 42 = .ok (.iconst 0, 1) := by decide +kernel
theorem dX9_bearsOf_43 : decode cX9_bearsOf 43 = .ok (.istore_n 3, 1) := by decide +kernel
theorem dX9_bearsOf_44 : decode cX9_bearsOf 44 = .ok (.iconst 0, 1) := by decide +kernel
theorem dX9_bearsOf_45 : decode cX9_bearsOf 45 = .ok (.istore 4, 2) := by decide +kernel
theorem dX9_bearsOf_47 : decode cX9_bearsOf 47 = .ok (.iload 4, 2) := by decide +kernel
theorem dX9_bearsOf_49 : decode cX9_bearsOf 49 = .ok (.aload_n 0, 1) := by decide +kernel
theorem dX9_bearsOf_50 : decode cX9_bearsOf 50 = .ok (.getfield 135, 3) := by decide +kernel
theorem dX9_bearsOf_53 : decode cX9_bearsOf 53 = .ok (.if_icmp .ge 83, 3) := by decide +kernel
theorem dX9_bearsOf_56 : decode cX9_bearsOf 56 = .ok (.aload_n 0, 1) := by decide +kernel
theorem dX9_bearsOf_57 : decode cX9_bearsOf 57 = .ok (.getfield 41, 3) := by decide +kernel
theorem dX9_bearsOf_60 : decode cX9_bearsOf 60 = .ok (.iload 4, 2) := by decide +kernel
theorem dX9_bearsOf_62 : decode cX9_bearsOf 62 = .ok (.baload, 1) := by decide +kernel
theorem dX9_bearsOf_63 : decode cX9_bearsOf 63 = .ok (.ifCond .ne 67, 3) := by decide +kernel
theorem dX9_bearsOf_66 : decode cX9_bearsOf 66 = .ok (.aload_n 0, 1) := by decide +kernel
theorem dX9_bearsOf_67 : decode cX9_bearsOf 67 = .ok (.aload_n 0, 1) := by decide +kernel
theorem dX9_bearsOf_68 : decode cX9_bearsOf 68 = .ok (.getfield 32, 3) := by decide +kernel
theorem dX9_bearsOf_71 : decode cX9_bearsOf 71 = .ok (.iload 4, 2) := by decide +kernel
theorem dX9_bearsOf_73 : decode cX9_bearsOf 73 = .ok (.iaload, 1) := by decide +kernel
theorem dX9_bearsOf_74 : decode cX9_bearsOf 74 = .ok (.aload_n 0, 1) := by decide +kernel
theorem dX9_bearsOf_75 : decode cX9_bearsOf 75 = .ok (.getfield 35, 3) := by decide +kernel
theorem dX9_bearsOf_78 : decode cX9_bearsOf 78 = .ok (.iload 4, 2) := by decide +kernel
theorem dX9_bearsOf_80 : decode cX9_bearsOf 80 = .ok (.iaload, 1) := by decide +kernel
theorem dX9_bearsOf_81 : decode cX9_bearsOf 81 = .ok (.iload 4, 2) := by decide +kernel
theorem dX9_bearsOf_83 : decode cX9_bearsOf 83 = .ok (.invokevirtual 147, 3) := by decide +kernel
theorem dX9_bearsOf_86 : decode cX9_bearsOf 86 = .ok (.istore 5, 2) := by decide +kernel
theorem dX9_bearsOf_88 : decode cX9_bearsOf 88 = .ok (.aload_n 0, 1) := by decide +kernel
theorem dX9_bearsOf_89 : decode cX9_bearsOf 89 = .ok (.aload_n 0, 1) := by decide +kernel
theorem dX9_bearsOf_90 : decode cX9_bearsOf 90 = .ok (.getfield 35, 3) := by decide +kernel
theorem dX9_bearsOf_93 : decode cX9_bearsOf 93 = .ok (.iload 4, 2) := by decide +kernel
theorem dX9_bearsOf_95 : decode cX9_bearsOf 95 = .ok (.iaload, 1) := by decide +kernel
theorem dX9_bearsOf_96 : decode cX9_bearsOf 96 = .ok (.aload_n 0, 1) := by decide +kernel
theorem dX9_bearsOf_97 : decode cX9_bearsOf 97 = .ok (.getfield 32, 3) := by decide +kernel
theorem dX9_bearsOf_100 : decode cX9_bearsOf 100 = .ok (.iload 4, 2) := by decide +kernel
theorem dX9_bearsOf_102 : decode cX9_bearsOf 102 = .ok (.iaload, 1) := by decide +kernel
theorem dX9_bearsOf_103 : decode cX9_bearsOf 103 = .ok (.iload 4, 2) := by decide +kernel
theorem dX9_bearsOf_105 : decode cX9_bearsOf 105 = .ok (.invokevirtual 147, 3) := by decide +kernel
theorem dX9_bearsOf_108 : decode cX9_bearsOf 108 = .ok (.istore 6, 2) := by decide +kernel
theorem dX9_bearsOf_110 : decode cX9_bearsOf 110 = .ok (.iload_n 3, 1) := by decide +kernel
theorem dX9_bearsOf_111 : decode cX9_bearsOf 111 = .ok (.ifCond .ne 13, 3) := by decide +kernel
theorem dX9_bearsOf_114 : decode cX9_bearsOf 114 = .ok (.iload 5, 2) := by decide +kernel
theorem dX9_bearsOf_116 : decode cX9_bearsOf 116 = .ok (.ifCond .ne 8, 3) := by decide +kernel
theorem dX9_bearsOf_119 : decode cX9_bearsOf 119 = .ok (.iload 6, 2) := by decide +kernel
theorem dX9_bearsOf_121 : decode cX9_bearsOf 121 = .ok (.ifCond .eq 7, 3) := by decide +kernel
theorem dX9_bearsOf_124 : decode cX9_bearsOf 124 = .ok (.iconst 1, 1) := by decide +kernel
theorem dX9_bearsOf_125 : decode cX9_bearsOf 125 = .ok (.goto 4, 3) := by decide +kernel
theorem dX9_bearsOf_128 : decode cX9_bearsOf 128 = .ok (.iconst 0, 1) := by decide +kernel
theorem dX9_bearsOf_129 : decode cX9_bearsOf 129 = .ok (.istore_n 3, 1) := by decide +kernel
theorem dX9_bearsOf_130 : decode cX9_bearsOf 130 = .ok (.iinc 4 1, 3) := by decide +kernel
theorem dX9_bearsOf_133 : decode cX9_bearsOf 133 = .ok (.goto (-86), 3) := by decide +kernel
theorem dX9_bearsOf_136 : decode cX9_bearsOf 136 = .ok (.goto (-98), 3) := by decide +kernel
theorem dX9_bearsOf_139 : decode cX9_bearsOf 139 = .ok (.aload_n 0, 1) := by decide +kernel
theorem dX9_bearsOf_140 : decode cX9_bearsOf 140 = .ok (.getfield 44, 3) := by decide +kernel
theorem dX9_bearsOf_143 : decode cX9_bearsOf 143 = .ok (.iload_n 2, 1) := by decide +kernel
theorem dX9_bearsOf_144 : decode cX9_bearsOf 144 = .ok (.laload, 1) := by decide +kernel
theorem dX9_bearsOf_145 : decode cX9_bearsOf 145 = .ok (.lreturn, 1) := by decide +kernel
theorem dX9_bears_0 : decode cX9_bears 0 = .ok (.aload_n 0, 1) := by decide +kernel
theorem dX9_bears_1 : decode cX9_bears 1 = .ok (.aload_n 0, 1) := by decide +kernel
theorem dX9_bears_2 : decode cX9_bears 2 = .ok (.iload_n 1, 1) := by decide +kernel
theorem dX9_bears_3 : decode cX9_bears 3 = .ok (.invokevirtual 121, 3) := by decide +kernel
theorem dX9_bears_6 : decode cX9_bears 6 = .ok (.ifCond .eq 15, 3) := by decide +kernel
theorem dX9_bears_9 : decode cX9_bears 9 = .ok (.aload_n 0, 1) := by decide +kernel
theorem dX9_bears_10 : decode cX9_bears 10 = .ok (.iload_n 2, 1) := by decide +kernel
theorem dX9_bears_11 : decode cX9_bears 11 = .ok (.invokevirtual 121, 3) := by decide +kernel
theorem dX9_bears_14 : decode cX9_bears 14 = .ok (.ifCond .eq 7, 3) := by decide +kernel
theorem dX9_bears_17 : decode cX9_bears 17 = .ok (.iconst 0, 1) := by decide +kernel
theorem dX9_bears_18 : decode cX9_bears 18 = .ok (.goto 4, 3) := by decide +kernel
theorem dX9_bears_21 : decode cX9_bears 21 = .ok (.iconst 1, 1) := by decide +kernel
theorem dX9_bears_22 : decode cX9_bears 22 = .ok (.invokevirtual 111, 3) := by decide +kernel
theorem dX9_bears_25 : decode cX9_bears 25 = .ok (.ifCond .eq 12, 3) := by decide +kernel
theorem dX9_bears_28 : decode cX9_bears 28 = .ok (.aload_n 0, 1) := by decide +kernel
theorem dX9_bears_29 : decode cX9_bears 29 = .ok (.iload_n 1, 1) := by decide +kernel
theorem dX9_bears_30 : decode cX9_bears 30 = .ok (.iload_n 2, 1) := by decide +kernel
theorem dX9_bears_31 : decode cX9_bears 31 = .ok (.invokevirtual 150, 3) := by decide +kernel
theorem dX9_bears_34 : decode cX9_bears 34 = .ok (.goto 4, 3) := by decide +kernel
theorem dX9_bears_37 : decode cX9_bears 37 = .ok (.lconst 0, 1) := by decide +kernel
theorem dX9_bears_38 : decode cX9_bears 38 = .ok (.lreturn, 1) := by decide +kernel
theorem dX9_bearsAnew_0 : decode cX9_bearsAnew 0 = .ok (.aload_n 0, 1) := by decide +kernel
theorem dX9_bearsAnew_1 : decode cX9_bearsAnew 1 = .ok (.aload_n 0, 1) := by decide +kernel
theorem dX9_bearsAnew_2 : decode cX9_bearsAnew 2 = .ok (.iload_n 1, 1) := by decide +kernel
theorem dX9_bearsAnew_3 : decode cX9_bearsAnew 3 = .ok (.invokevirtual 121, 3) := by decide +kernel
theorem dX9_bearsAnew_6 : decode cX9_bearsAnew 6 = .ok (.ifCond .eq 15, 3) := by decide +kernel
theorem dX9_bearsAnew_9 : decode cX9_bearsAnew 9 = .ok (.aload_n 0, 1) := by decide +kernel
theorem dX9_bearsAnew_10 : decode cX9_bearsAnew 10 = .ok (.iload_n 2, 1) := by decide +kernel
theorem dX9_bearsAnew_11 : decode cX9_bearsAnew 11 = .ok (.invokevirtual 121, 3) := by decide +kernel
theorem dX9_bearsAnew_14 : decode cX9_bearsAnew 14 = .ok (.ifCond .eq 7, 3) := by decide +kernel
theorem dX9_bearsAnew_17 : decode cX9_bearsAnew 17 = .ok (.iconst 0, 1) := by decide +kernel
theorem dX9_bearsAnew_18 : decode cX9_bearsAnew 18 = .ok (.goto 4, 3) := by decide +kernel
theorem dX9_bearsAnew_21 : decode cX9_bearsAnew 21 = .ok (.iconst 1, 1) := by decide +kernel
theorem dX9_bearsAnew_22 : decode cX9_bearsAnew 22 = .ok (.invokevirtual 111, 3) := by decide +kernel
theorem dX9_bearsAnew_25 : decode cX9_bearsAnew 25 = .ok (.ifCond .eq 12, 3) := by decide +kernel
theorem dX9_bearsAnew_28 : decode cX9_bearsAnew 28 = .ok (.aload_n 0, 1) := by decide +kernel
theorem dX9_bearsAnew_29 : decode cX9_bearsAnew 29 = .ok (.iload_n 1, 1) := by decide +kernel
theorem dX9_bearsAnew_30 : decode cX9_bearsAnew 30 = .ok (.iload_n 2, 1) := by decide +kernel
theorem dX9_bearsAnew_31 : decode cX9_bearsAnew 31 = .ok (.invokevirtual 150, 3) := by decide +kernel
theorem dX9_bearsAnew_34 : decode cX9_bearsAnew 34 = .ok (.goto 4, 3) := by decide +kernel
theorem dX9_bearsAnew_37 : decode cX9_bearsAnew 37 = .ok (.lconst 0, 1) := by decide +kernel
theorem dX9_bearsAnew_38 : decode cX9_bearsAnew 38 = .ok (.lreturn, 1) := by decide +kernel
theorem dX9_isKnot_0 : decode cX9_isKnot 0 = .ok (.iload_n 0, 1) := by decide +kernel
theorem dX9_isKnot_1 : decode cX9_isKnot 1 = .ok (.iconst 0, 1) := by decide +kernel
theorem dX9_isKnot_2 : decode cX9_isKnot 2 = .ok (.bipush 35, 2) := by decide +kernel
theorem dX9_isKnot_4 : decode cX9_isKnot 4 = .ok (.invokestatic 103, 3) := by decide +kernel
theorem dX9_isKnot_7 : decode cX9_isKnot 7 = .ok (.ireturn, 1) := by decide +kernel
theorem dX9_knot_0 : decode cX9_knot 0 = .ok (.aload_n 0, 1) := by decide +kernel
theorem dX9_knot_1 : decode cX9_knot 1 = .ok (.iload_n 1, 1) := by decide +kernel
theorem dX9_knot_2 : decode cX9_knot 2 = .ok (.invokestatic 154, 3) := by decide +kernel
theorem dX9_knot_5 : decode cX9_knot 5 = .ok (.ifCond .ne 7, 3) := by decide +kernel
theorem dX9_knot_8 : decode cX9_knot 8 = .ok (.iconst 1, 1) := by decide +kernel
theorem dX9_knot_9 : decode cX9_knot 9 = .ok (.goto 21, 3) := by decide +kernel
theorem dX9_knot_12 : decode cX9_knot 12 = .ok (.iload_n 2, 1) := by decide +kernel
theorem dX9_knot_13 : decode cX9_knot 13 = .ok (.sipush (-10000), 3) := by decide +kernel
theorem dX9_knot_16 : decode cX9_knot 16 = .ok (.sipush 10000, 3) := by decide +kernel
theorem dX9_knot_19 : decode cX9_knot 19 = .ok (.invokestatic 103, 3) := by decide +kernel
theorem dX9_knot_22 : decode cX9_knot 22 = .ok (.ifCond .eq 7, 3) := by decide +kernel
theorem dX9_knot_25 : decode cX9_knot 25 = .ok (.iconst 0, 1) := by decide +kernel
theorem dX9_knot_26 : decode cX9_knot 26 = .ok (.goto 4, 3) := by decide +kernel
theorem dX9_knot_29 : decode cX9_knot 29 = .ok (.iconst 2, 1) := by decide +kernel
theorem dX9_knot_30 : decode cX9_knot 30 = .ok (.invokevirtual 111, 3) := by decide +kernel
theorem dX9_knot_33 : decode cX9_knot 33 = .ok (.ifCond .ne 5, 3) := by decide +kernel
theorem dX9_knot_36 : decode cX9_knot 36 = .ok (.iconst 0, 1) := by decide +kernel
theorem dX9_knot_37 : decode cX9_knot 37 = .ok (.ireturn, 1) := by decide +kernel
theorem dX9_knot_38 : decode cX9_knot 38 = .ok (.aload_n 0, 1) := by decide +kernel
theorem dX9_knot_39 : decode cX9_knot 39 = .ok (.getfield 48, 3) := by decide +kernel
theorem dX9_knot_42 : decode cX9_knot 42 = .ok (.iload_n 1, 1) := by decide +kernel
theorem dX9_knot_43 : decode cX9_knot 43 = .ok (.iaload, 1) := by decide +kernel
theorem dX9_knot_44 : decode cX9_knot 44 = .ok (.istore 4, 2) := by decide +kernel
theorem dX9_knot_46 : decode cX9_knot 46 = .ok (.aload_n 0, 1) := by decide +kernel
theorem dX9_knot_47 : decode cX9_knot 47 = .ok (.getfield 48, 3) := by decide +kernel
theorem dX9_knot_50 : decode cX9_knot 50 = .ok (.iload_n 1, 1) := by decide +kernel
theorem dX9_knot_51 : decode cX9_knot 51 = .ok (.iload_n 2, 1) := by decide +kernel
theorem dX9_knot_52 : decode cX9_knot 52 = .ok (.iastore, 1) := by decide +kernel
theorem dX9_knot_53 : decode cX9_knot 53 = .ok (.aload_n 0, 1) := by decide +kernel
theorem dX9_knot_54 : decode cX9_knot 54 = .ok (.getfield 54, 3) := by decide +kernel
theorem dX9_knot_57 : decode cX9_knot 57 = .ok (.iload_n 1, 1) := by decide +kernel
theorem dX9_knot_58 : decode cX9_knot 58 = .ok (.iload_n 3, 1) := by decide +kernel
theorem dX9_knot_59 : decode cX9_knot 59 = .ok (.bastore, 1) := by decide +kernel
theorem dX9_knot_60 : decode cX9_knot 60 = .ok (.iload 4, 2) := by decide +kernel
theorem dX9_knot_62 : decode cX9_knot 62 = .ok (.ireturn, 1) := by decide +kernel
theorem dX9_load_0 : decode cX9_load 0 = .ok (.aload_n 0, 1) := by decide +kernel
theorem dX9_load_1 : decode cX9_load 1 = .ok (.iload_n 1, 1) := by decide +kernel
theorem dX9_load_2 : decode cX9_load 2 = .ok (.iconst 0, 1) := by decide +kernel
theorem dX9_load_3 : decode cX9_load 3 = .ok (.bipush 100, 2) := by decide +kernel
theorem dX9_load_5 : decode cX9_load 5 = .ok (.invokestatic 103, 3) := by decide +kernel
theorem dX9_load_8 : decode cX9_load 8 = .ok (.ifCond .eq 7, 3) := by decide +kernel
theorem dX9_load_11 : decode cX9_load 11 = .ok (.iconst 0, 1) := by decide +kernel
theorem dX9_load_12 : decode cX9_load 12 = .ok (.goto 4, 3) := by decide +kernel
theorem dX9_load_15 : decode cX9_load 15 = .ok (.iconst 1, 1) := by decide +kernel
theorem dX9_load_16 : decode cX9_load 16 = .ok (.invokevirtual 111, 3) := by decide +kernel
theorem dX9_load_19 : decode cX9_load 19 = .ok (.ifCond .ne 5, 3) := by decide +kernel
theorem dX9_load_22 : decode cX9_load 22 = .ok (.iconst 0, 1) := by decide +kernel
theorem dX9_load_23 : decode cX9_load 23 = .ok (.ireturn, 1) := by decide +kernel
theorem dX9_load_24 : decode cX9_load 24 = .ok (.aload_n 0, 1) := by decide +kernel
theorem dX9_load_25 : decode cX9_load 25 = .ok (.getfield 157, 3) := by decide +kernel
theorem dX9_load_28 : decode cX9_load 28 = .ok (.istore_n 2, 1) := by decide +kernel
theorem dX9_load_29 : decode cX9_load 29 = .ok (.aload_n 0, 1) := by decide +kernel
theorem dX9_load_30 : decode cX9_load 30 = .ok (.iload_n 1, 1) := by decide +kernel
theorem dX9_load_31 : decode cX9_load 31 = .ok (.putfield 157, 3) := by decide +kernel
theorem dX9_load_34 : decode cX9_load 34 = .ok (.iload_n 2, 1) := by decide +kernel
theorem dX9_load_35 : decode cX9_load 35 = .ok (.ireturn, 1) := by decide +kernel
theorem dX9_beside_0 : decode cX9_beside 0 = .ok (.iload_n 0, 1) := by decide +kernel
theorem dX9_beside_1 : decode cX9_beside 1 = .ok (.bipush 6, 2) := by decide +kernel
theorem dX9_beside_3 : decode cX9_beside 3 = .ok (.idiv, 1) := by decide +kernel
theorem dX9_beside_4 : decode cX9_beside 4 = .ok (.iload_n 1, 1) := by decide +kernel
theorem dX9_beside_5 : decode cX9_beside 5 = .ok (.ifCond .ne 7, 3) := by decide +kernel
theorem dX9_beside_8 : decode cX9_beside 8 = .ok (.iconst (-1), 1) := by decide +kernel
theorem dX9_beside_9 : decode cX9_beside 9 = .ok (.goto 13, 3) := by decide +kernel
theorem dX9_beside_12 : decode cX9_beside 12 = .ok (.iload_n 1, 1) := by decide +kernel
theorem dX9_beside_13 : decode cX9_beside 13 = .ok (.iconst 1, 1) := by decide +kernel
theorem dX9_beside_14 : decode cX9_beside 14 = .ok (.if_icmp .ne 7, 3) := by decide +kernel
theorem dX9_beside_17 : decode cX9_beside 17 = .ok (.iconst 1, 1) := by decide +kernel
theorem dX9_beside_18 : decode cX9_beside 18 = .ok (.goto 4, 3) := by decide +kernel
theorem dX9_beside_21 : decode cX9_beside 21 = .ok (.iconst 0, 1) := by decide +kernel
theorem dX9_beside_22 : decode cX9_beside 22 = .ok (.iadd, 1) := by decide +kernel
theorem dX9_beside_23 : decode cX9_beside 23 = .ok (.istore_n 2, 1) := by decide +kernel
theorem dX9_beside_24 : decode cX9_beside 24 = .ok (.iload_n 0, 1) := by decide +kernel
theorem dX9_beside_25 : decode cX9_beside 25 = .ok (.bipush 6, 2) := by decide +kernel
theorem dX9_beside_27 : decode cX9_beside 27 = .ok (.irem, 1) := by decide +kernel
theorem dX9_beside_28 : decode cX9_beside 28 = .ok (.iload_n 1, 1) := by decide +kernel
theorem dX9_beside_29 : decode cX9_beside 29 = .ok (.iconst 2, 1) := by decide +kernel
theorem dX9_beside_30 : decode cX9_beside 30 = .ok (.if_icmp .ne 7, 3) := by decide +kernel
theorem dX9_beside_33 : decode cX9_beside 33 = .ok (.iconst (-1), 1) := by decide +kernel
theorem dX9_beside_34 : decode cX9_beside 34 = .ok (.goto 13, 3) := by decide +kernel
theorem dX9_beside_37 : decode cX9_beside 37 = .ok (.iload_n 1, 1) := by decide +kernel
theorem dX9_beside_38 : decode cX9_beside 38 = .ok (.iconst 3, 1) := by decide +kernel
theorem dX9_beside_39 : decode cX9_beside 39 = .ok (.if_icmp .ne 7, 3) := by decide +kernel
theorem dX9_beside_42 : decode cX9_beside 42 = .ok (.iconst 1, 1) := by decide +kernel
theorem dX9_beside_43 : decode cX9_beside 43 = .ok (.goto 4, 3) := by decide +kernel
theorem dX9_beside_46 : decode cX9_beside 46 = .ok (.iconst 0, 1) := by decide +kernel
theorem dX9_beside_47 : decode cX9_beside 47 = .ok (.iadd, 1) := by decide +kernel
theorem dX9_beside_48 : decode cX9_beside 48 = .ok (.istore_n 3, 1) := by decide +kernel
theorem dX9_beside_49 : decode cX9_beside 49 = .ok (.iload_n 2, 1) := by decide +kernel
theorem dX9_beside_50 : decode cX9_beside 50 = .ok (.iconst 0, 1) := by decide +kernel
theorem dX9_beside_51 : decode cX9_beside 51 = .ok (.iconst 5, 1) := by decide +kernel
theorem dX9_beside_52 : decode cX9_beside 52 = .ok (.invokestatic 103, 3) := by decide +kernel
theorem dX9_beside_55 : decode cX9_beside 55 = .ok (.ifCond .eq 21, 3) := by decide +kernel
theorem dX9_beside_58 : decode cX9_beside 58 = .ok (.iload_n 3, 1) := by decide +kernel
theorem dX9_beside_59 : decode cX9_beside 59 = .ok (.iconst 0, 1) := by decide +kernel
theorem dX9_beside_60 : decode cX9_beside 60 = .ok (.iconst 5, 1) := by decide +kernel
theorem dX9_beside_61 : decode cX9_beside 61 = .ok (.invokestatic 103, 3) := by decide +kernel
theorem dX9_beside_64 : decode cX9_beside 64 = .ok (.ifCond .eq 12, 3) := by decide +kernel
theorem dX9_beside_67 : decode cX9_beside 67 = .ok (.bipush 6, 2) := by decide +kernel
theorem dX9_beside_69 : decode cX9_beside 69 = .ok (.iload_n 2, 1) := by decide +kernel
theorem dX9_beside_70 : decode cX9_beside 70 = .ok (.imul, 1) := by decide +kernel
theorem dX9_beside_71 : decode cX9_beside 71 = .ok (.iload_n 3, 1) := by decide +kernel
theorem dX9_beside_72 : decode cX9_beside 72 = .ok (.iadd, 1) := by decide +kernel
theorem dX9_beside_73 : decode cX9_beside 73 = .ok (.goto 4, 3) := by decide +kernel
theorem dX9_beside_76 : decode cX9_beside 76 = .ok (.iconst (-1), 1) := by decide +kernel
theorem dX9_beside_77 : decode cX9_beside 77 = .ok (.ireturn, 1) := by decide +kernel
theorem dX9_comesTo_0 : decode cX9_comesTo 0 = .ok (.iconst 0, 1) := by decide +kernel
theorem dX9_comesTo_1 : decode cX9_comesTo 1 = .ok (.istore_n 2, 1) := by decide +kernel
theorem dX9_comesTo_2 : decode cX9_comesTo 2 = .ok (.iconst 0, 1) := by decide +kernel
theorem dX9_comesTo_3 : decode cX9_comesTo 3 = .ok (.istore_n 3, 1) := by decide +kernel
theorem dX9_comesTo_4 : decode cX9_comesTo 4 = .ok (.iconst 0, 1) := by decide +kernel
theorem dX9_comesTo_5 : decode cX9_comesTo 5 = .ok (.istore 4, 2) := by decide +kernel
theorem dX9_comesTo_7 : decode cX9_comesTo 7 = .ok (.iconst 0, 1) := by decide +kernel
theorem dX9_comesTo_8 : decode cX9_comesTo 8 = .ok (.istore 5, 2) := by decide +kernel
theorem dX9_comesTo_10 : decode cX9_comesTo 10 = .ok (.iload 5, 2) := by decide +kernel
theorem dX9_comesTo_12 : decode cX9_comesTo 12 = .ok (.iconst 4, 1) := by decide +kernel
theorem dX9_comesTo_13 : decode cX9_comesTo 13 = .ok (.if_icmp .ge 66, 3) := by decide +kernel
theorem dX9_comesTo_16 : decode cX9_comesTo 16 = .ok (.iload_n 1, 1) := by decide +kernel
theorem dX9_comesTo_17 : decode cX9_comesTo 17 = .ok (.iload 5, 2) := by decide +kernel
theorem dX9_comesTo_19 : decode cX9_comesTo 19 = .ok (.invokestatic 160, 3) := by decide +kernel
theorem dX9_comesTo_22 : decode cX9_comesTo 22 = .ok (.istore 6, 2) := by decide +kernel
theorem dX9_comesTo_24 : decode cX9_comesTo 24 = .ok (.iload 6, 2) := by decide +kernel
theorem dX9_comesTo_26 : decode cX9_comesTo 26 = .ok (.iconst (-1), 1) := by decide +kernel
theorem dX9_comesTo_27 : decode cX9_comesTo 27 = .ok (.if_icmp .eq 46, 3) := by decide +kernel
theorem dX9_comesTo_30 : decode cX9_comesTo 30 = .ok (.iload_n 2, 1) := by decide +kernel
theorem dX9_comesTo_31 : decode cX9_comesTo 31 = .ok (.aload_n 0, 1) := by decide +kernel
theorem dX9_comesTo_32 : decode cX9_comesTo 32 = .ok (.getfield 48, 3) := by decide +kernel
theorem dX9_comesTo_35 : decode cX9_comesTo 35 = .ok (.iload 6, 2) := by decide +kernel
theorem dX9_comesTo_37 : decode cX9_comesTo 37 = .ok (.iaload, 1) := by decide +kernel
theorem dX9_comesTo_38 : decode cX9_comesTo 38 = .ok (.iadd, 1) := by decide +kernel
theorem dX9_comesTo_39 : decode cX9_comesTo 39 = .ok (.istore_n 2, 1) := by decide +kernel
theorem dX9_comesTo_40 : decode cX9_comesTo 40 = .ok (.iload_n 3, 1) := by decide +kernel
theorem dX9_comesTo_41 : decode cX9_comesTo 41 = .ok (.ifCond .eq 15, 3) := by decide +kernel
theorem dX9_comesTo_44 : decode cX9_comesTo 44 = .ok (.aload_n 0, 1) := by decide +kernel
theorem dX9_comesTo_45 : decode cX9_comesTo 45 = .ok (.getfield 48, 3) := by decide +kernel
theorem dX9_comesTo_48 : decode cX9_comesTo 48 = .ok (.iload 6, 2) := by decide +kernel
theorem dX9_comesTo_50 : decode cX9_comesTo 50 = .ok (.iaload, 1) := by decide +kernel
theorem dX9_comesTo_51 : decode cX9_comesTo 51 = .ok (.iload 4, 2) := by decide +kernel
theorem dX9_comesTo_53 : decode cX9_comesTo 53 = .ok (.if_icmp .le 13, 3) := by decide +kernel
theorem dX9_comesTo_56 : decode cX9_comesTo 56 = .ok (.aload_n 0, 1) := by decide +kernel
theorem dX9_comesTo_57 : decode cX9_comesTo 57 = .ok (.getfield 48, 3) := by decide +kernel
theorem dX9_comesTo_60 : decode cX9_comesTo 60 = .ok (.iload 6, 2) := by decide +kernel
theorem dX9_comesTo_62 : decode cX9_comesTo 62 = .ok (.iaload, 1) := by decide +kernel
theorem dX9_comesTo_63 : decode cX9_comesTo 63 = .ok (.goto 5, 3) := by decide +kernel
theorem dX9_comesTo_66 : decode cX9_comesTo 66 = .ok (.iload 4, 2) := by decide +kernel
theorem dX9_comesTo_68 : decode cX9_comesTo 68 = .ok (.istore 4, 2) := by decide +kernel
theorem dX9_comesTo_70 : decode cX9_comesTo 70 = .ok (.iinc 3 1, 3) := by decide +kernel
theorem dX9_comesTo_73 : decode cX9_comesTo 73 = .ok (.iinc 5 1, 3) := by decide +kernel
theorem dX9_comesTo_76 : decode cX9_comesTo 76 = .ok (.goto (-66), 3) := by decide +kernel
theorem dX9_comesTo_79 : decode cX9_comesTo 79 = .ok (.iload_n 2, 1) := by decide +kernel
theorem dX9_comesTo_80 : decode cX9_comesTo 80 = .ok (.iload_n 3, 1) := by decide +kernel
theorem dX9_comesTo_81 : decode cX9_comesTo 81 = .ok (.idiv, 1) := by decide +kernel
theorem dX9_comesTo_82 : decode cX9_comesTo 82 = .ok (.istore 5, 2) := by decide +kernel
theorem dX9_comesTo_84 : decode cX9_comesTo 84 = .ok (.iload_n 2, 1) := by decide +kernel
theorem dX9_comesTo_85 : decode cX9_comesTo 85 = .ok (.ifCond .ge 16, 3) := by decide +kernel
theorem dX9_comesTo_88 : decode cX9_comesTo 88 = .ok (.iload_n 2, 1) := by decide +kernel
theorem dX9_comesTo_89 : decode cX9_comesTo 89 = .ok (.iload_n 3, 1) := by decide +kernel
theorem dX9_comesTo_90 : decode cX9_comesTo 90 = .ok (.irem, 1) := by decide +kernel
theorem dX9_comesTo_91 : decode cX9_comesTo 91 = .ok (.ifCond .eq 10, 3) := by decide +kernel
theorem dX9_comesTo_94 : decode cX9_comesTo 94 = .ok (.iload 5, 2) := by decide +kernel
theorem dX9_comesTo_96 : decode cX9_comesTo 96 = .ok (.iconst 1, 1) := by decide +kernel
theorem dX9_comesTo_97 : decode cX9_comesTo 97 = .ok (.isub, 1) := by decide +kernel
theorem dX9_comesTo_98 : decode cX9_comesTo 98 = .ok (.goto 5, 3) := by decide +kernel
theorem dX9_comesTo_101 : decode cX9_comesTo 101 = .ok (.iload 5, 2) := by decide +kernel
theorem dX9_comesTo_103 : decode cX9_comesTo 103 = .ok (.istore 5, 2) := by decide +kernel
theorem dX9_comesTo_105 : decode cX9_comesTo 105 = .ok (.iload 5, 2) := by decide +kernel
theorem dX9_comesTo_107 : decode cX9_comesTo 107 = .ok (.aload_n 0, 1) := by decide +kernel
theorem dX9_comesTo_108 : decode cX9_comesTo 108 = .ok (.getfield 157, 3) := by decide +kernel
theorem dX9_comesTo_111 : decode cX9_comesTo 111 = .ok (.isub, 1) := by decide +kernel
theorem dX9_comesTo_112 : decode cX9_comesTo 112 = .ok (.istore 6, 2) := by decide +kernel
theorem dX9_comesTo_114 : decode cX9_comesTo 114 = .ok (.iload 6, 2) := by decide +kernel
theorem dX9_comesTo_116 : decode cX9_comesTo 116 = .ok (.iload 4, 2) := by decide +kernel
theorem dX9_comesTo_118 : decode cX9_comesTo 118 = .ok (.if_icmp .le 8, 3) := by decide +kernel
theorem dX9_comesTo_121 : decode cX9_comesTo 121 = .ok (.iload 4, 2) := by decide +kernel
theorem dX9_comesTo_123 : decode cX9_comesTo 123 = .ok (.goto 5, 3) := by decide +kernel
theorem dX9_comesTo_126 : decode cX9_comesTo 126 = .ok (.iload 6, 2) := by decide +kernel
theorem dX9_comesTo_128 : decode cX9_comesTo 128 = .ok (.ireturn, 1) := by decide +kernel
theorem dX9_steps_0 : decode cX9_steps 0 = .ok (.iconst 0, 1) := by decide +kernel
theorem dX9_steps_1 : decode cX9_steps 1 = .ok (.istore_n 1, 1) := by decide +kernel
theorem dX9_steps_2 : decode cX9_steps 2 = .ok (.iconst 0, 1) := by decide +kernel
theorem dX9_steps_3 : decode cX9_steps 3 = .ok (.istore_n 2, 1) := by decide +kernel
theorem dX9_steps_4 : decode cX9_steps 4 = .ok (.iload_n 2, 1) := by decide +kernel
theorem dX9_steps_5 : decode cX9_steps 5 = .ok (.bipush 36, 2) := by decide +kernel
theorem dX9_steps_7 : decode cX9_steps 7 = .ok (.if_icmp .ge 63, 3) := by decide +kernel
theorem dX9_steps_10 : decode cX9_steps 10 = .ok (.aload_n 0, 1) := by decide +kernel
theorem dX9_steps_11 : decode cX9_steps 11 = .ok (.getfield 51, 3) := by decide +kernel
theorem dX9_steps_14 : decode cX9_steps 14 = .ok (.iload_n 2, 1) := by decide +kernel
theorem dX9_steps_15 : decode cX9_steps 15 = .ok (.aload_n 0, 1) := by decide +kernel
theorem dX9_steps_16 : decode cX9_steps 16 = .ok (.getfield 54, 3) := by decide +kernel
theorem dX9_steps_19 : decode cX9_steps 19 = .ok (.iload_n 2, 1) := by decide +kernel
theorem dX9_steps_20 : decode cX9_steps 20 = .ok (.baload, 1) := by decide +kernel
theorem dX9_steps_21 : decode cX9_steps 21 = .ok (.ifCond .eq 12, 3) := by decide +kernel
theorem dX9_steps_24 : decode cX9_steps 24 = .ok (.aload_n 0, 1) := by decide +kernel
theorem dX9_steps_25 : decode cX9_steps 25 = .ok (.getfield 48, 3) := by decide +kernel
theorem dX9_steps_28 : decode cX9_steps 28 = .ok (.iload_n 2, 1) := by decide +kernel
theorem dX9_steps_29 : decode cX9_steps 29 = .ok (.iaload, 1) := by decide +kernel
theorem dX9_steps_30 : decode cX9_steps 30 = .ok (.goto 8, 3) := by decide +kernel
theorem dX9_steps_33 : decode cX9_steps 33 = .ok (.aload_n 0, 1) := by decide +kernel
theorem dX9_steps_34 : decode cX9_steps 34 = .ok (.iload_n 2, 1) := by decide +kernel
theorem dX9_steps_35 : decode cX9_steps 35 = .ok (.invokevirtual 164, 3) := by decide +kernel
theorem dX9_steps_38 : decode cX9_steps 38 = .ok (.iastore, 1) := by decide +kernel
theorem dX9_steps_39 : decode cX9_steps 39 = .ok (.iload_n 1, 1) := by decide +kernel
theorem dX9_steps_40 : decode cX9_steps 40 = .ok (.ifCond .ne 18, 3) := by decide +kernel
theorem dX9_steps_43 : decode cX9_steps 43 = .ok (.aload_n 0, 1) := by decide +kernel
theorem dX9_steps_44 : decode cX9_steps 44 = .ok (.getfield 51, 3) := by decide +kernel
theorem dX9_steps_47 : decode cX9_steps 47 = .ok (.iload_n 2, 1) := by decide +kernel
theorem dX9_steps_48 : decode cX9_steps 48 = .ok (.iaload, 1) := by decide +kernel
theorem dX9_steps_49 : decode cX9_steps 49 = .ok (.aload_n 0, 1) := by decide +kernel
theorem dX9_steps_50 : decode cX9_steps 50 = .ok (.getfield 48, 3) := by decide +kernel
theorem dX9_steps_53 : decode cX9_steps 53 = .ok (.iload_n 2, 1) := by decide +kernel
theorem dX9_steps_54 : decode cX9_steps 54 = .ok (.iaload, 1) := by decide +kernel
theorem dX9_steps_55 : decode cX9_steps 55 = .ok (.if_icmp .eq 7, 3) := by decide +kernel
theorem dX9_steps_58 : decode cX9_steps 58 = .ok (.iconst 1, 1) := by decide +kernel
theorem dX9_steps_59 : decode cX9_steps 59 = .ok (.goto 4, 3) := by decide +kernel
theorem dX9_steps_62 : decode cX9_steps 62 = .ok (.iconst 0, 1) := by decide +kernel
theorem dX9_steps_63 : decode cX9_steps 63 = .ok (.istore_n 1, 1) := by decide +kernel
theorem dX9_steps_64 : decode cX9_steps 64 = .ok (.iinc 2 1, 3) := by decide +kernel
theorem dX9_steps_67 : decode cX9_steps 67 = .ok (.goto (-63), 3) := by decide +kernel
theorem dX9_steps_70 : decode cX9_steps 70 = .ok (.iconst 0, 1) := by decide +kernel
theorem dX9_steps_71 : decode cX9_steps 71 = .ok (.istore_n 2, 1) := by decide +kernel
theorem dX9_steps_72 : decode cX9_steps 72 = .ok (.iload_n 2, 1) := by decide +kernel
theorem dX9_steps_73 : decode cX9_steps 73 = .ok (.bipush 36, 2) := by decide +kernel
theorem dX9_steps_75 : decode cX9_steps 75 = .ok (.if_icmp .ge 21, 3) := by decide +kernel
theorem dX9_steps_78 : decode cX9_steps 78 = .ok (.aload_n 0, 1) := by decide +kernel
theorem dX9_steps_79 : decode cX9_steps 79 = .ok (.getfield 48, 3) := by decide +kernel
theorem dX9_steps_82 : decode cX9_steps 82 = .ok (.iload_n 2, 1) := by decide +kernel
theorem dX9_steps_83 : decode cX9_steps 83 = .ok (.aload_n 0, 1) := by decide +kernel
theorem dX9_steps_84 : decode cX9_steps 84 = .ok (.getfield 51, 3) := by decide +kernel
theorem dX9_steps_87 : decode cX9_steps 87 = .ok (.iload_n 2, 1) := by decide +kernel
theorem dX9_steps_88 : decode cX9_steps 88 = .ok (.iaload, 1) := by decide +kernel
theorem dX9_steps_89 : decode cX9_steps 89 = .ok (.iastore, 1) := by decide +kernel
theorem dX9_steps_90 : decode cX9_steps 90 = .ok (.iinc 2 1, 3) := by decide +kernel
theorem dX9_steps_93 : decode cX9_steps 93 = .ok (.goto (-21), 3) := by decide +kernel
theorem dX9_steps_96 : decode cX9_steps 96 = .ok (.iload_n 1, 1) := by decide +kernel
theorem dX9_steps_97 : decode cX9_steps 97 = .ok (.ireturn, 1) := by decide +kernel
theorem dX9_rest_0 : decode cX9_rest 0 = .ok (.aload_n 0, 1) := by decide +kernel
theorem dX9_rest_1 : decode cX9_rest 1 = .ok (.iload_n 1, 1) := by decide +kernel
theorem dX9_rest_2 : decode cX9_rest 2 = .ok (.iconst 1, 1) := by decide +kernel
theorem dX9_rest_3 : decode cX9_rest 3 = .ok (.bipush 50, 2) := by decide +kernel
theorem dX9_rest_5 : decode cX9_rest 5 = .ok (.invokestatic 103, 3) := by decide +kernel
theorem dX9_rest_8 : decode cX9_rest 8 = .ok (.ifCond .eq 7, 3) := by decide +kernel
theorem dX9_rest_11 : decode cX9_rest 11 = .ok (.iconst 0, 1) := by decide +kernel
theorem dX9_rest_12 : decode cX9_rest 12 = .ok (.goto 4, 3) := by decide +kernel
theorem dX9_rest_15 : decode cX9_rest 15 = .ok (.iconst 1, 1) := by decide +kernel
theorem dX9_rest_16 : decode cX9_rest 16 = .ok (.invokevirtual 111, 3) := by decide +kernel
theorem dX9_rest_19 : decode cX9_rest 19 = .ok (.ifCond .ne 5, 3) := by decide +kernel
theorem dX9_rest_22 : decode cX9_rest 22 = .ok (.iconst 0, 1) := by decide +kernel
theorem dX9_rest_23 : decode cX9_rest 23 = .ok (.ireturn, 1) := by decide +kernel
theorem dX9_rest_24 : decode cX9_rest 24 = .ok (.iconst 0, 1) := by decide +kernel
theorem dX9_rest_25 : decode cX9_rest 25 = .ok (.istore_n 2, 1) := by decide +kernel
theorem dX9_rest_26 : decode cX9_rest 26 = .ok (.iconst 1, 1) := by decide +kernel
theorem dX9_rest_27 : decode cX9_rest 27 = .ok (.istore_n 3, 1) := by decide +kernel
theorem dX9_rest_28 : decode cX9_rest 28 = .ok (.iload_n 3, 1) := by decide +kernel
theorem dX9_rest_29 : decode cX9_rest 29 = .ok (.ifCond .eq 28, 3) := by decide +kernel
theorem dX9_rest_32 : decode cX9_rest 32 = .ok (.iload_n 2, 1) := by decide +kernel
theorem dX9_rest_33 : decode cX9_rest 33 = .ok (.iload_n 1, 1) := by decide +kernel
theorem dX9_rest_34 : decode cX9_rest 34 = .ok (.if_icmp .ge 23, 3) := by decide +kernel
theorem dX9_rest_37 : decode cX9_rest 37 = .ok (.aload_n 0, 1) := by decide +kernel
theorem dX9_rest_38 : decode cX9_rest 38 = .ok (.invokevirtual 167, 3) := by decide +kernel
theorem dX9_rest_41 : decode cX9_rest 41 = .ok (.istore_n 3, 1) := by decide +kernel
theorem dX9_rest_42 : decode cX9_rest 42 = .ok (.iload_n 2, 1) := by decide +kernel
theorem dX9_rest_43 : decode cX9_rest 43 = .ok (.iload_n 3, 1) := by decide +kernel
theorem dX9_rest_44 : decode cX9_rest 44 = .ok (.ifCond .eq 7, 3) := by decide +kernel
theorem dX9_rest_47 : decode cX9_rest 47 = .ok (.iconst 1, 1) := by decide +kernel
theorem dX9_rest_48 : decode cX9_rest 48 = .ok (.goto 4, 3) := by decide +kernel
theorem dX9_rest_51 : decode cX9_rest 51 = .ok (.iconst 0, 1) := by decide +kernel
theorem dX9_rest_52 : decode cX9_rest 52 = .ok (.iadd, 1) := by decide +kernel
theorem dX9_rest_53 : decode cX9_rest 53 = .ok (.istore_n 2, 1) := by decide +kernel
theorem dX9_rest_54 : decode cX9_rest 54 = .ok (.goto (-26), 3) := by decide +kernel
theorem dX9_rest_57 : decode cX9_rest 57 = .ok (.iload_n 2, 1) := by decide +kernel
theorem dX9_rest_58 : decode cX9_rest 58 = .ok (.ireturn, 1) := by decide +kernel
theorem dX9_height_0 : decode cX9_height 0 = .ok (.aload_n 0, 1) := by decide +kernel
theorem dX9_height_1 : decode cX9_height 1 = .ok (.iload_n 1, 1) := by decide +kernel
theorem dX9_height_2 : decode cX9_height 2 = .ok (.invokestatic 154, 3) := by decide +kernel
theorem dX9_height_5 : decode cX9_height 5 = .ok (.ifCond .eq 7, 3) := by decide +kernel
theorem dX9_height_8 : decode cX9_height 8 = .ok (.iconst 0, 1) := by decide +kernel
theorem dX9_height_9 : decode cX9_height 9 = .ok (.goto 4, 3) := by decide +kernel
theorem dX9_height_12 : decode cX9_height 12 = .ok (.iconst 1, 1) := by decide +kernel
theorem dX9_height_13 : decode cX9_height 13 = .ok (.invokevirtual 111, 3) := by decide +kernel
theorem dX9_height_16 : decode cX9_height 16 = .ok (.ifCond .eq 12, 3) := by decide +kernel
theorem dX9_height_19 : decode cX9_height 19 = .ok (.aload_n 0, 1) := by decide +kernel
theorem dX9_height_20 : decode cX9_height 20 = .ok (.getfield 48, 3) := by decide +kernel
theorem dX9_height_23 : decode cX9_height 23 = .ok (.iload_n 1, 1) := by decide +kernel
theorem dX9_height_24 : decode cX9_height 24 = .ok (.iaload, 1) := by decide +kernel
theorem dX9_height_25 : decode cX9_height 25 = .ok (.goto 4, 3) := by decide +kernel
theorem dX9_height_28 : decode cX9_height 28 = .ok (.iconst 0, 1) := by decide +kernel
theorem dX9_height_29 : decode cX9_height 29 = .ok (.ireturn, 1) := by decide +kernel
theorem dX9_peg_0 : decode cX9_peg 0 = .ok (.lload_n 1, 1) := by decide +kernel
theorem dX9_peg_1 : decode cX9_peg 1 = .ok (.lconst 0, 1) := by decide +kernel
theorem dX9_peg_2 : decode cX9_peg 2 = .ok (.lcmp, 1) := by decide +kernel
theorem dX9_peg_3 : decode cX9_peg 3 = .ok (.ifCond .lt 25, 3) := by decide +kernel
theorem dX9_peg_6 : decode cX9_peg 6 = .ok (.lload_n 1, 1) := by decide +kernel
theorem dX9_peg_7 : decode cX9_peg 7 = .ok (.ldc2_w 171, 3) := by decide +kernel
theorem dX9_peg_10 : decode cX9_peg 10 = .ok (.lcmp, 1) := by decide +kernel
theorem dX9_peg_11 : decode cX9_peg 11 = .ok (.ifCond .gt 17, 3) := by decide +kernel
theorem dX9_peg_14 : decode cX9_peg 14 = .ok (.iload_n 3, 1) := by decide +kernel
theorem dX9_peg_15 : decode cX9_peg 15 = .ok (.iconst 1, 1) := by decide +kernel
theorem dX9_peg_16 : decode cX9_peg 16 = .ok (.bipush 100, 2) := by decide +kernel
theorem dX9_peg_18 : decode cX9_peg 18 = .ok (.invokestatic 103, 3) := by decide +kernel
theorem dX9_peg_21 : decode cX9_peg 21 = .ok (.ifCond .eq 7, 3) := by decide +kernel
theorem dX9_peg_24 : decode cX9_peg 24 = .ok (.iconst 1, 1) := by decide +kernel
theorem dX9_peg_25 : decode cX9_peg 25 = .ok (.goto 4, 3) := by decide +kernel
theorem dX9_peg_28 : decode cX9_peg 28 = .ok (.iconst 0, 1) := by decide +kernel
theorem dX9_peg_29 : decode cX9_peg 29 = .ok (.istore 4, 2) := by decide +kernel
theorem dX9_peg_31 : decode cX9_peg 31 = .ok (.aload_n 0, 1) := by decide +kernel
theorem dX9_peg_32 : decode cX9_peg 32 = .ok (.iload 4, 2) := by decide +kernel
theorem dX9_peg_34 : decode cX9_peg 34 = .ok (.ifCond .ne 7, 3) := by decide +kernel
theorem dX9_peg_37 : decode cX9_peg 37 = .ok (.iconst 1, 1) := by decide +kernel
theorem dX9_peg_38 : decode cX9_peg 38 = .ok (.goto 17, 3) := by decide +kernel
theorem dX9_peg_41 : decode cX9_peg 41 = .ok (.aload_n 0, 1) := by decide +kernel
theorem dX9_peg_42 : decode cX9_peg 42 = .ok (.getfield 173, 3) := by decide +kernel
theorem dX9_peg_45 : decode cX9_peg 45 = .ok (.bipush 8, 2) := by decide +kernel
theorem dX9_peg_47 : decode cX9_peg 47 = .ok (.if_icmp .ne 7, 3) := by decide +kernel
theorem dX9_peg_50 : decode cX9_peg 50 = .ok (.iconst 2, 1) := by decide +kernel
theorem dX9_peg_51 : decode cX9_peg 51 = .ok (.goto 4, 3) := by decide +kernel
theorem dX9_peg_54 : decode cX9_peg 54 = .ok (.iconst 0, 1) := by decide +kernel
theorem dX9_peg_55 : decode cX9_peg 55 = .ok (.invokevirtual 111, 3) := by decide +kernel
theorem dX9_peg_58 : decode cX9_peg 58 = .ok (.ifCond .ne 5, 3) := by decide +kernel
theorem dX9_peg_61 : decode cX9_peg 61 = .ok (.iconst 0, 1) := by decide +kernel
theorem dX9_peg_62 : decode cX9_peg 62 = .ok (.ireturn, 1) := by decide +kernel
theorem dX9_peg_63 : decode cX9_peg 63 = .ok (.aload_n 0, 1) := by decide +kernel
theorem dX9_peg_64 : decode cX9_peg 64 = .ok (.getfield 57, 3) := by decide +kernel
theorem dX9_peg_67 : decode cX9_peg 67 = .ok (.aload_n 0, 1) := by decide +kernel
theorem dX9_peg_68 : decode cX9_peg 68 = .ok (.getfield 173, 3) := by decide +kernel
theorem dX9_peg_71 : decode cX9_peg 71 = .ok (.lload_n 1, 1) := by decide +kernel
theorem dX9_peg_72 : decode cX9_peg 72 = .ok (.lastore, 1) := by decide +kernel
theorem dX9_peg_73 : decode cX9_peg 73 = .ok (.aload_n 0, 1) := by decide +kernel
theorem dX9_peg_74 : decode cX9_peg 74 = .ok (.getfield 60, 3) := by decide +kernel
theorem dX9_peg_77 : decode cX9_peg 77 = .ok (.aload_n 0, 1) := by decide +kernel
theorem dX9_peg_78 : decode cX9_peg 78 = .ok (.getfield 173, 3) := by decide +kernel
theorem dX9_peg_81 : decode cX9_peg 81 = .ok (.iload_n 3, 1) := by decide +kernel
theorem dX9_peg_82 : decode cX9_peg 82 = .ok (.iastore, 1) := by decide +kernel
theorem dX9_peg_83 : decode cX9_peg 83 = .ok (.aload_n 0, 1) := by decide +kernel
theorem dX9_peg_84 : decode cX9_peg 84 = .ok (.getfield 63, 3) := by decide +kernel
theorem dX9_peg_87 : decode cX9_peg 87 = .ok (.aload_n 0, 1) := by decide +kernel
theorem dX9_peg_88 : decode cX9_peg 88 = .ok (.getfield 173, 3) := by decide +kernel
theorem dX9_peg_91 : decode cX9_peg 91 = .ok (.iconst 1, 1) := by decide +kernel
theorem dX9_peg_92 : decode cX9_peg 92 = .ok (.bastore, 1) := by decide +kernel
theorem dX9_peg_93 : decode cX9_peg 93 = .ok (.aload_n 0, 1) := by decide +kernel
theorem dX9_peg_94 : decode cX9_peg 94 = .ok (.dup, 1) := by decide +kernel
theorem dX9_peg_95 : decode cX9_peg 95 = .ok (.getfield 173, 3) := by decide +kernel
theorem dX9_peg_98 : decode cX9_peg 98 = .ok (.iconst 1, 1) := by decide +kernel
theorem dX9_peg_99 : decode cX9_peg 99 = .ok (.iadd, 1) := by decide +kernel
theorem dX9_peg_100 : decode cX9_peg 100 = .ok (.putfield 173, 3) := by decide +kernel
theorem dX9_peg_103 : decode cX9_peg 103 = .ok (.aload_n 0, 1) := by decide +kernel
theorem dX9_peg_104 : decode cX9_peg 104 = .ok (.getfield 173, 3) := by decide +kernel
theorem dX9_peg_107 : decode cX9_peg 107 = .ok (.iconst 1, 1) := by decide +kernel
theorem dX9_peg_108 : decode cX9_peg 108 = .ok (.isub, 1) := by decide +kernel
theorem dX9_peg_109 : decode cX9_peg 109 = .ok (.ireturn, 1) := by decide +kernel
theorem dX9_shares_0 : decode cX9_shares 0 = .ok (.iconst 0, 1) := by decide +kernel
theorem dX9_shares_1 : decode cX9_shares 1 = .ok (.istore_n 3, 1) := by decide +kernel
theorem dX9_shares_2 : decode cX9_shares 2 = .ok (.iconst (-1), 1) := by decide +kernel
theorem dX9_shares_3 : decode cX9_shares 3 = .ok (.istore 4, 2) := by decide +kernel
theorem dX9_shares_5 : decode cX9_shares 5 = .ok (.aload_n 0, 1) := by decide +kernel
theorem dX9_shares_6 : decode cX9_shares 6 = .ok (.getfield 173, 3) := by decide +kernel
theorem dX9_shares_9 : decode cX9_shares 9 = .ok (.iconst 1, 1) := by decide +kernel
theorem dX9_shares_10 : decode cX9_shares 10 = .ok (.isub, 1) := by decide +kernel
theorem dX9_shares_11 : decode cX9_shares 11 = .ok (.istore 5, 2) := by decide +kernel
theorem dX9_shares_13 : decode cX9_shares 13 = .ok (.iload 5, 2) := by decide +kernel
theorem dX9_shares_15 : decode cX9_shares 15 = .ok (.ifCond .lt 52, 3) := by decide +kernel
theorem dX9_shares_18 : decode cX9_shares 18 = .ok (.iload_n 3, 1) := by decide +kernel
theorem dX9_shares_19 : decode cX9_shares 19 = .ok (.aload_n 0, 1) := by decide +kernel
theorem dX9_shares_20 : decode cX9_shares 20 = .ok (.getfield 63, 3) := by decide +kernel
theorem dX9_shares_23 : decode cX9_shares 23 = .ok (.iload 5, 2) := by decide +kernel
theorem dX9_shares_25 : decode cX9_shares 25 = .ok (.baload, 1) := by decide +kernel
theorem dX9_shares_26 : decode cX9_shares 26 = .ok (.ifCond .eq 13, 3) := by decide +kernel
theorem dX9_shares_29 : decode cX9_shares 29 = .ok (.aload_n 0, 1) := by decide +kernel
theorem dX9_shares_30 : decode cX9_shares 30 = .ok (.getfield 60, 3) := by decide +kernel
theorem dX9_shares_33 : decode cX9_shares 33 = .ok (.iload 5, 2) := by decide +kernel
theorem dX9_shares_35 : decode cX9_shares 35 = .ok (.iaload, 1) := by decide +kernel
theorem dX9_shares_36 : decode cX9_shares 36 = .ok (.goto 4, 3) := by decide +kernel
theorem dX9_shares_39 : decode cX9_shares 39 = .ok (.iconst 0, 1) := by decide +kernel
theorem dX9_shares_40 : decode cX9_shares 40 = .ok (.iadd, 1) := by decide +kernel
theorem dX9_shares_41 : decode cX9_shares 41 = .ok (.istore_n 3, 1) := by decide +kernel
theorem dX9_shares_42 : decode cX9_shares 42 = .ok (.aload_n 0, 1) := by decide +kernel
theorem dX9_shares_43 : decode cX9_shares 43 = .ok (.getfield 63, 3) := by decide +kernel
theorem dX9_shares_46 : decode cX9_shares 46 = .ok (.iload 5, 2) := by decide +kernel
theorem dX9_shares_48 : decode cX9_shares 48 = .ok (.baload, 1) := by decide +kernel
theorem dX9_shares_49 : decode cX9_shares 49 = .ok (.ifCond .eq 8, 3) := by decide +kernel
theorem dX9_shares_52 : decode cX9_shares 52 = .ok (.iload 5, 2) := by decide +kernel
theorem dX9_shares_54 : decode cX9_shares 54 = .ok (.goto 5, 3) := by decide +kernel
theorem dX9_shares_57 : decode cX9_shares 57 = .ok (.iload 4, 2) := by decide +kernel
theorem dX9_shares_59 : decode cX9_shares 59 = .ok (.istore 4, 2) := by decide +kernel
theorem dX9_shares_61 : decode cX9_shares 61 = .ok (.iinc 5 (-1), 3) := by decide +kernel
theorem dX9_shares_64 : decode cX9_shares 64 = .ok (.goto (-51), 3) := by decide +kernel
theorem dX9_shares_67 : decode cX9_shares 67 = .ok (.lload_n 1, 1) := by decide +kernel
theorem dX9_shares_68 : decode cX9_shares 68 = .ok (.lstore 5, 2) := by decide +kernel
theorem dX9_shares_70 : decode cX9_shares 70 = .ok (.iconst 0, 1) := by decide +kernel
theorem dX9_shares_71 : decode cX9_shares 71 = .ok (.istore 7, 2) := by decide +kernel
theorem dX9_shares_73 : decode cX9_shares 73 = .ok (.iload 7, 2) := by decide +kernel
theorem dX9_shares_75 : decode cX9_shares 75 = .ok (.aload_n 0, 1) := by decide +kernel
theorem dX9_shares_76 : decode cX9_shares 76 = .ok (.getfield 173, 3) := by decide +kernel
theorem dX9_shares_79 : decode cX9_shares 79 = .ok (.if_icmp .ge 51, 3) := by decide +kernel
theorem dX9_shares_82 : decode cX9_shares 82 = .ok (.aload_n 0, 1) := by decide +kernel
theorem dX9_shares_83 : decode cX9_shares 83 = .ok (.getfield 63, 3) := by decide +kernel
theorem dX9_shares_86 : decode cX9_shares 86 = .ok (.iload 7, 2) := by decide +kernel
theorem dX9_shares_88 : decode cX9_shares 88 = .ok (.baload, 1) := by decide +kernel
theorem dX9_shares_89 : decode cX9_shares 89 = .ok (.ifCond .eq 35, 3) := by decide +kernel
theorem dX9_shares_92 : decode cX9_shares 92 = .ok (.aload_n 0, 1) := by decide +kernel
theorem dX9_shares_93 : decode cX9_shares 93 = .ok (.getfield 66, 3) := by decide +kernel
theorem dX9_shares_96 : decode cX9_shares 96 = .ok (.iload 7, 2) := by decide +kernel
theorem dX9_shares_98 : decode cX9_shares 98 = .ok (.lload_n 1, 1) := by decide +kernel
theorem dX9_shares_99 : decode cX9_shares 99 = .ok (.aload_n 0, 1) := by decide +kernel
theorem dX9_shares_100 : decode cX9_shares 100 = .ok (.getfield 60, 3) := by decide +kernel
theorem dX9_shares_103 : decode cX9_shares 103 = .ok (.iload 7, 2) := by decide +kernel
theorem dX9_shares_105 : decode cX9_shares 105 = .ok (.iaload, 1) := by decide +kernel
theorem dX9_shares_106 : decode cX9_shares 106 = .ok (.i2l, 1) := by decide +kernel
theorem dX9_shares_107 : decode cX9_shares 107 = .ok (.lmul, 1) := by decide +kernel
theorem dX9_shares_108 : decode cX9_shares 108 = .ok (.iload_n 3, 1) := by decide +kernel
theorem dX9_shares_109 : decode cX9_shares 109 = .ok (.i2l, 1) := by decide +kernel
theorem dX9_shares_110 : decode cX9_shares 110 = .ok (.ldiv, 1) := by decide +kernel
theorem dX9_shares_111 : decode cX9_shares 111 = .ok (.lastore, 1) := by decide +kernel
theorem dX9_shares_112 : decode cX9_shares 112 = .ok (.lload 5, 2) := by decide +kernel
theorem dX9_shares_114 : decode cX9_shares 114 = .ok (.aload_n 0, 1) := by decide +kernel
theorem dX9_shares_115 : decode cX9_shares 115 = .ok (.getfield 66, 3) := by decide +kernel
theorem dX9_shares_118 : decode cX9_shares 118 = .ok (.iload 7, 2) := by decide +kernel
theorem dX9_shares_120 : decode cX9_shares 120 = .ok (.laload, 1) := by decide +kernel
theorem dX9_shares_121 : decode cX9_shares 121 = .ok (.lsub, 1) := by decide +kernel
theorem dX9_shares_122 : decode cX9_shares 122 = .ok (.lstore 5, 2) := by decide +kernel
theorem dX9_shares_124 : decode cX9_shares 124 = .ok (.iinc 7 1, 3) := by decide +kernel
theorem dX9_shares_127 : decode cX9_shares 127 = .ok (.goto (-54), 3) := by decide +kernel
theorem dX9_shares_130 : decode cX9_shares 130 = .ok (.iload 4, 2) := by decide +kernel
theorem dX9_shares_132 : decode cX9_shares 132 = .ok (.iconst (-1), 1) := by decide +kernel
theorem dX9_shares_133 : decode cX9_shares 133 = .ok (.if_icmp .eq 15, 3) := by decide +kernel
theorem dX9_shares_136 : decode cX9_shares 136 = .ok (.aload_n 0, 1) := by decide +kernel
theorem dX9_shares_137 : decode cX9_shares 137 = .ok (.getfield 66, 3) := by decide +kernel
theorem dX9_shares_140 : decode cX9_shares 140 = .ok (.iload 4, 2) := by decide +kernel
theorem dX9_shares_142 : decode cX9_shares 142 = .ok (.dup2, 1) := by decide +kernel
theorem dX9_shares_143 : decode cX9_shares 143 = .ok (.laload, 1) := by decide +kernel
theorem dX9_shares_144 : decode cX9_shares 144 = .ok (.lload 5, 2) := by decide +kernel
theorem dX9_shares_146 : decode cX9_shares 146 = .ok (.ladd, 1) := by decide +kernel
theorem dX9_shares_147 : decode cX9_shares 147 = .ok (.lastore, 1) := by decide +kernel
theorem dX9_shares_148 : decode cX9_shares 148 = .ok (.iconst 0, 1) := by decide +kernel
theorem dX9_shares_149 : decode cX9_shares 149 = .ok (.istore 7, 2) := by decide +kernel
theorem dX9_shares_151 : decode cX9_shares 151 = .ok (.iconst 0, 1) := by decide +kernel
theorem dX9_shares_152 : decode cX9_shares 152 = .ok (.istore 8, 2) := by decide +kernel
theorem dX9_shares_154 : decode cX9_shares 154 = .ok (.iload 8, 2) := by decide +kernel
theorem dX9_shares_156 : decode cX9_shares 156 = .ok (.aload_n 0, 1) := by decide +kernel
theorem dX9_shares_157 : decode cX9_shares 157 = .ok (.getfield 173, 3) := by decide +kernel
theorem dX9_shares_160 : decode cX9_shares 160 = .ok (.if_icmp .ge 48, 3) := by decide +kernel
theorem dX9_shares_163 : decode cX9_shares 163 = .ok (.aload_n 0, 1) := by decide +kernel
theorem dX9_shares_164 : decode cX9_shares 164 = .ok (.getfield 63, 3) := by decide +kernel
theorem dX9_shares_167 : decode cX9_shares 167 = .ok (.iload 8, 2) := by decide +kernel
theorem dX9_shares_169 : decode cX9_shares 169 = .ok (.baload, 1) := by decide +kernel
theorem dX9_shares_170 : decode cX9_shares 170 = .ok (.ifCond .eq 32, 3) := by decide +kernel
theorem dX9_shares_173 : decode cX9_shares 173 = .ok (.aload_n 0, 1) := by decide +kernel
theorem dX9_shares_174 : decode cX9_shares 174 = .ok (.getfield 66, 3) := by decide +kernel
theorem dX9_shares_177 : decode cX9_shares 177 = .ok (.iload 8, 2) := by decide +kernel
theorem dX9_shares_179 : decode cX9_shares 179 = .ok (.laload, 1) := by decide +kernel
theorem dX9_shares_180 : decode cX9_shares 180 = .ok (.aload_n 0, 1) := by decide +kernel
theorem dX9_shares_181 : decode cX9_shares 181 = .ok (.getfield 57, 3) := by decide +kernel
theorem dX9_shares_184 : decode cX9_shares 184 = .ok (.iload 8, 2) := by decide +kernel
theorem dX9_shares_186 : decode cX9_shares 186 = .ok (.laload, 1) := by decide +kernel
theorem dX9_shares_187 : decode cX9_shares 187 = .ok (.lcmp, 1) := by decide +kernel
theorem dX9_shares_188 : decode cX9_shares 188 = .ok (.ifCond .le 14, 3) := by decide +kernel
theorem dX9_shares_191 : decode cX9_shares 191 = .ok (.aload_n 0, 1) := by decide +kernel
theorem dX9_shares_192 : decode cX9_shares 192 = .ok (.getfield 63, 3) := by decide +kernel
theorem dX9_shares_195 : decode cX9_shares 195 = .ok (.iload 8, 2) := by decide +kernel
theorem dX9_shares_197 : decode cX9_shares 197 = .ok (.iconst 0, 1) := by decide +kernel
theorem dX9_shares_198 : decode cX9_shares 198 = .ok (.bastore, 1) := by decide +kernel
theorem dX9_shares_199 : decode cX9_shares 199 = .ok (.iinc 7 1, 3) := by decide +kernel
theorem dX9_shares_202 : decode cX9_shares 202 = .ok (.iinc 8 1, 3) := by decide +kernel
theorem dX9_shares_205 : decode cX9_shares 205 = .ok (.goto (-51), 3) := by decide +kernel
theorem dX9_shares_208 : decode cX9_shares 208 = .ok (.iload 7, 2) := by decide +kernel
theorem dX9_shares_210 : decode cX9_shares 210 = .ok (.ireturn, 1) := by decide +kernel
theorem dX9_gust_0 : decode cX9_gust 0 = .ok (.aload_n 0, 1) := by decide +kernel
theorem dX9_gust_1 : decode cX9_gust 1 = .ok (.lload_n 1, 1) := by decide +kernel
theorem dX9_gust_2 : decode cX9_gust 2 = .ok (.lconst 0, 1) := by decide +kernel
theorem dX9_gust_3 : decode cX9_gust 3 = .ok (.lcmp, 1) := by decide +kernel
theorem dX9_gust_4 : decode cX9_gust 4 = .ok (.ifCond .lt 15, 3) := by decide +kernel
theorem dX9_gust_7 : decode cX9_gust 7 = .ok (.lload_n 1, 1) := by decide +kernel
theorem dX9_gust_8 : decode cX9_gust 8 = .ok (.ldc2_w 176, 3) := by decide +kernel
theorem dX9_gust_11 : decode cX9_gust 11 = .ok (.lcmp, 1) := by decide +kernel
theorem dX9_gust_12 : decode cX9_gust 12 = .ok (.ifCond .gt 7, 3) := by decide +kernel
theorem dX9_gust_15 : decode cX9_gust 15 = .ok (.iconst 0, 1) := by decide +kernel
theorem dX9_gust_16 : decode cX9_gust 16 = .ok (.goto 4, 3) := by decide +kernel
theorem dX9_gust_19 : decode cX9_gust 19 = .ok (.iconst 1, 1) := by decide +kernel
theorem dX9_gust_20 : decode cX9_gust 20 = .ok (.invokevirtual 111, 3) := by decide +kernel
theorem dX9_gust_23 : decode cX9_gust 23 = .ok (.ifCond .ne 5, 3) := by decide +kernel
theorem dX9_gust_26 : decode cX9_gust 26 = .ok (.iconst 0, 1) := by decide +kernel
theorem dX9_gust_27 : decode cX9_gust 27 = .ok (.ireturn, 1) := by decide +kernel
theorem dX9_gust_28 : decode cX9_gust 28 = .ok (.iconst 0, 1) := by decide +kernel
theorem dX9_gust_29 : decode cX9_gust 29 = .ok (.istore_n 3, 1) := by decide +kernel
theorem dX9_gust_30 : decode cX9_gust 30 = .ok (.aload_n 0, 1) := by decide +kernel
theorem dX9_gust_31 : decode cX9_gust 31 = .ok (.lload_n 1, 1) := by decide +kernel
theorem dX9_gust_32 : decode cX9_gust 32 = .ok (.invokevirtual 178, 3) := by decide +kernel
theorem dX9_gust_35 : decode cX9_gust 35 = .ok (.istore 4, 2) := by decide +kernel
theorem dX9_gust_37 : decode cX9_gust 37 = .ok (.iload 4, 2) := by decide +kernel
theorem dX9_gust_39 : decode cX9_gust 39 = .ok (.ifCond .le 18, 3) := by decide +kernel
theorem dX9_gust_42 : decode cX9_gust 42 = .ok (.iload_n 3, 1) := by decide +kernel
theorem dX9_gust_43 : decode cX9_gust 43 = .ok (.iload 4, 2) := by decide +kernel
theorem dX9_gust_45 : decode cX9_gust 45 = .ok (.iadd, 1) := by decide +kernel
theorem dX9_gust_46 : decode cX9_gust 46 = .ok (.istore_n 3, 1) := by decide +kernel
theorem dX9_gust_47 : decode cX9_gust 47 = .ok (.aload_n 0, 1) := by decide +kernel
theorem dX9_gust_48 : decode cX9_gust 48 = .ok (.lload_n 1, 1) := by decide +kernel
theorem dX9_gust_49 : decode cX9_gust 49 = .ok (.invokevirtual 178, 3) := by decide +kernel
theorem dX9_gust_52 : decode cX9_gust 52 = .ok (.istore 4, 2) := by decide +kernel
theorem dX9_gust_54 : decode cX9_gust 54 = .ok (.goto (-17), 3) := by decide +kernel
theorem dX9_gust_57 : decode cX9_gust 57 = .ok (.iload_n 3, 1) := by decide +kernel
theorem dX9_gust_58 : decode cX9_gust 58 = .ok (.ireturn, 1) := by decide +kernel
theorem dX9_pulled_0 : decode cX9_pulled 0 = .ok (.aload_n 0, 1) := by decide +kernel
theorem dX9_pulled_1 : decode cX9_pulled 1 = .ok (.iload_n 1, 1) := by decide +kernel
theorem dX9_pulled_2 : decode cX9_pulled 2 = .ok (.iconst 0, 1) := by decide +kernel
theorem dX9_pulled_3 : decode cX9_pulled 3 = .ok (.aload_n 0, 1) := by decide +kernel
theorem dX9_pulled_4 : decode cX9_pulled 4 = .ok (.getfield 173, 3) := by decide +kernel
theorem dX9_pulled_7 : decode cX9_pulled 7 = .ok (.iconst 1, 1) := by decide +kernel
theorem dX9_pulled_8 : decode cX9_pulled 8 = .ok (.isub, 1) := by decide +kernel
theorem dX9_pulled_9 : decode cX9_pulled 9 = .ok (.invokestatic 103, 3) := by decide +kernel
theorem dX9_pulled_12 : decode cX9_pulled 12 = .ok (.ifCond .eq 7, 3) := by decide +kernel
theorem dX9_pulled_15 : decode cX9_pulled 15 = .ok (.iconst 0, 1) := by decide +kernel
theorem dX9_pulled_16 : decode cX9_pulled 16 = .ok (.goto 4, 3) := by decide +kernel
theorem dX9_pulled_19 : decode cX9_pulled 19 = .ok (.iconst 1, 1) := by decide +kernel
theorem dX9_pulled_20 : decode cX9_pulled 20 = .ok (.invokevirtual 111, 3) := by decide +kernel
theorem dX9_pulled_23 : decode cX9_pulled 23 = .ok (.ifCond .eq 12, 3) := by decide +kernel
theorem dX9_pulled_26 : decode cX9_pulled 26 = .ok (.aload_n 0, 1) := by decide +kernel
theorem dX9_pulled_27 : decode cX9_pulled 27 = .ok (.getfield 66, 3) := by decide +kernel
theorem dX9_pulled_30 : decode cX9_pulled 30 = .ok (.iload_n 1, 1) := by decide +kernel
theorem dX9_pulled_31 : decode cX9_pulled 31 = .ok (.laload, 1) := by decide +kernel
theorem dX9_pulled_32 : decode cX9_pulled 32 = .ok (.goto 4, 3) := by decide +kernel
theorem dX9_pulled_35 : decode cX9_pulled 35 = .ok (.lconst 0, 1) := by decide +kernel
theorem dX9_pulled_36 : decode cX9_pulled 36 = .ok (.lreturn, 1) := by decide +kernel
theorem dX9_pegs_0 : decode cX9_pegs 0 = .ok (.aload_n 0, 1) := by decide +kernel
theorem dX9_pegs_1 : decode cX9_pegs 1 = .ok (.iconst 0, 1) := by decide +kernel
theorem dX9_pegs_2 : decode cX9_pegs 2 = .ok (.putfield 96, 3) := by decide +kernel
theorem dX9_pegs_5 : decode cX9_pegs 5 = .ok (.iconst 0, 1) := by decide +kernel
theorem dX9_pegs_6 : decode cX9_pegs 6 = .ok (.istore_n 1, 1) := by decide +kernel
theorem dX9_pegs_7 : decode cX9_pegs 7 = .ok (.iconst 0, 1) := by decide +kernel
theorem dX9_pegs_8 : decode cX9_pegs 8 = .ok (.istore_n 2, 1) := by decide +kernel
theorem dX9_pegs_9 : decode cX9_pegs 9 = .ok (.iload_n 2, 1) := by decide +kernel
theorem dX9_pegs_10 : decode cX9_pegs 10 = .ok (.aload_n 0, 1) := by decide +kernel
theorem dX9_pegs_11 : decode cX9_pegs 11 = .ok (.getfield 173, 3) := by decide +kernel
theorem dX9_pegs_14 : decode cX9_pegs 14 = .ok (.if_icmp .ge 28, 3) := by decide +kernel
theorem dX9_pegs_17 : decode cX9_pegs 17 = .ok (.iload_n 1, 1) := by decide +kernel
theorem dX9_pegs_18 : decode cX9_pegs 18 = .ok (.aload_n 0, 1) := by decide +kernel
theorem dX9_pegs_19 : decode cX9_pegs 19 = .ok (.getfield 63, 3) := by decide +kernel
theorem dX9_pegs_22 : decode cX9_pegs 22 = .ok (.iload_n 2, 1) := by decide +kernel
theorem dX9_pegs_23 : decode cX9_pegs 23 = .ok (.baload, 1) := by decide +kernel
theorem dX9_pegs_24 : decode cX9_pegs 24 = .ok (.ifCond .eq 9, 3) := by decide +kernel
theorem dX9_pegs_27 : decode cX9_pegs 27 = .ok (.iconst 1, 1) := by decide +kernel
theorem dX9_pegs_28 : decode cX9_pegs 28 = .ok (.iload_n 2, 1) := by decide +kernel
theorem dX9_pegs_29 : decode cX9_pegs 29 = .ok (.ishl, 1) := by decide +kernel
theorem dX9_pegs_30 : decode cX9_pegs 30 = .ok (.goto 4, 3) := by decide +kernel
theorem dX9_pegs_33 : decode cX9_pegs 33 = .ok (.iconst 0, 1) := by decide +kernel
theorem dX9_pegs_34 : decode cX9_pegs 34 = .ok (.iadd, 1) := by decide +kernel
theorem dX9_pegs_35 : decode cX9_pegs 35 = .ok (.istore_n 1, 1) := by decide +kernel
theorem dX9_pegs_36 : decode cX9_pegs 36 = .ok (.iinc 2 1, 3) := by decide +kernel
theorem dX9_pegs_39 : decode cX9_pegs 39 = .ok (.goto (-30), 3) := by decide +kernel
theorem dX9_pegs_42 : decode cX9_pegs 42 = .ok (.iload_n 1, 1) := by decide +kernel
theorem dX9_pegs_43 : decode cX9_pegs 43 = .ok (.ireturn, 1) := by decide +kernel
theorem dX9_draft_0 : decode cX9_draft 0 = .ok (.iload_n 1, 1) := by decide +kernel
theorem dX9_draft_1 : decode cX9_draft 1 = .ok (.i2f, 1) := by decide +kernel
theorem dX9_draft_2 : decode cX9_draft 2 = .ok (.fstore_n 2, 1) := by decide +kernel
theorem dX9_draft_3 : decode cX9_draft 3 = .ok (.aload_n 0, 1) := by decide +kernel
theorem dX9_draft_4 : decode cX9_draft 4 = .ok (.getfield 182, 3) := by decide +kernel
theorem dX9_draft_7 : decode cX9_draft 7 = .ok (.i2f, 1) := by decide +kernel
theorem dX9_draft_8 : decode cX9_draft 8 = .ok (.fstore_n 3, 1) := by decide +kernel
theorem dX9_draft_9 : decode cX9_draft 9 = .ok (.ldc 185, 2) := by decide +kernel
theorem dX9_draft_11 : decode cX9_draft 11 = .ok (.ldc 186, 2) := by decide +kernel
theorem dX9_draft_13 : decode cX9_draft 13 = .ok (.fload_n 2, 1) := by decide +kernel
theorem dX9_draft_14 : decode cX9_draft 14 = .ok (.fmul, 1) := by decide +kernel
theorem dX9_draft_15 : decode cX9_draft 15 = .ok (.fsub, 1) := by decide +kernel
theorem dX9_draft_16 : decode cX9_draft 16 = .ok (.ldc 187, 2) := by decide +kernel
theorem dX9_draft_18 : decode cX9_draft 18 = .ok (.fload_n 3, 1) := by decide +kernel
theorem dX9_draft_19 : decode cX9_draft 19 = .ok (.fmul, 1) := by decide +kernel
theorem dX9_draft_20 : decode cX9_draft 20 = .ok (.fadd, 1) := by decide +kernel
theorem dX9_draft_21 : decode cX9_draft 21 = .ok (.freturn, 1) := by decide +kernel
theorem dX9_powerWith_0 : decode cX9_powerWith 0 = .ok (.aload_n 0, 1) := by decide +kernel
theorem dX9_powerWith_1 : decode cX9_powerWith 1 = .ok (.getfield 188, 3) := by decide +kernel
theorem dX9_powerWith_4 : decode cX9_powerWith 4 = .ok (.i2f, 1) := by decide +kernel
theorem dX9_powerWith_5 : decode cX9_powerWith 5 = .ok (.fstore_n 3, 1) := by decide +kernel
theorem dX9_powerWith_6 : decode cX9_powerWith 6 = .ok (.ldc 191, 2) := by decide +kernel
theorem dX9_powerWith_8 : decode cX9_powerWith 8 = .ok (.fconst 1, 1) := by decide +kernel
theorem dX9_powerWith_9 : decode cX9_powerWith 9 = .ok (.fload_n 3, 1) := by decide +kernel
theorem dX9_powerWith_10 : decode cX9_powerWith 10 = .ok (.fadd, 1) := by decide +kernel
theorem dX9_powerWith_11 : decode cX9_powerWith 11 = .ok (.fdiv, 1) := by decide +kernel
theorem dX9_powerWith_12 : decode cX9_powerWith 12 = .ok (.fstore 4, 2) := by decide +kernel
theorem dX9_powerWith_14 : decode cX9_powerWith 14 = .ok (.iload_n 2, 1) := by decide +kernel
theorem dX9_powerWith_15 : decode cX9_powerWith 15 = .ok (.i2f, 1) := by decide +kernel
theorem dX9_powerWith_16 : decode cX9_powerWith 16 = .ok (.fstore 5, 2) := by decide +kernel
theorem dX9_powerWith_18 : decode cX9_powerWith 18 = .ok (.aload_n 0, 1) := by decide +kernel
theorem dX9_powerWith_19 : decode cX9_powerWith 19 = .ok (.iload_n 1, 1) := by decide +kernel
theorem dX9_powerWith_20 : decode cX9_powerWith 20 = .ok (.invokevirtual 192, 3) := by decide +kernel
theorem dX9_powerWith_23 : decode cX9_powerWith 23 = .ok (.fload 4, 2) := by decide +kernel
theorem dX9_powerWith_25 : decode cX9_powerWith 25 = .ok (.fmul, 1) := by decide +kernel
theorem dX9_powerWith_26 : decode cX9_powerWith 26 = .ok (.fload 5, 2) := by decide +kernel
theorem dX9_powerWith_28 : decode cX9_powerWith 28 = .ok (.fmul, 1) := by decide +kernel
theorem dX9_powerWith_29 : decode cX9_powerWith 29 = .ok (.fload 5, 2) := by decide +kernel
theorem dX9_powerWith_31 : decode cX9_powerWith 31 = .ok (.fmul, 1) := by decide +kernel
theorem dX9_powerWith_32 : decode cX9_powerWith 32 = .ok (.freturn, 1) := by decide +kernel
theorem dX9_trim_0 : decode cX9_trim 0 = .ok (.iload_n 1, 1) := by decide +kernel
theorem dX9_trim_1 : decode cX9_trim 1 = .ok (.iconst 0, 1) := by decide +kernel
theorem dX9_trim_2 : decode cX9_trim 2 = .ok (.bipush 100, 2) := by decide +kernel
theorem dX9_trim_4 : decode cX9_trim 4 = .ok (.invokestatic 103, 3) := by decide +kernel
theorem dX9_trim_7 : decode cX9_trim 7 = .ok (.ifCond .eq 26, 3) := by decide +kernel
theorem dX9_trim_10 : decode cX9_trim 10 = .ok (.iload_n 2, 1) := by decide +kernel
theorem dX9_trim_11 : decode cX9_trim 11 = .ok (.iconst 0, 1) := by decide +kernel
theorem dX9_trim_12 : decode cX9_trim 12 = .ok (.bipush 100, 2) := by decide +kernel
theorem dX9_trim_14 : decode cX9_trim 14 = .ok (.invokestatic 103, 3) := by decide +kernel
theorem dX9_trim_17 : decode cX9_trim 17 = .ok (.ifCond .eq 16, 3) := by decide +kernel
theorem dX9_trim_20 : decode cX9_trim 20 = .ok (.iload_n 3, 1) := by decide +kernel
theorem dX9_trim_21 : decode cX9_trim 21 = .ok (.iconst 0, 1) := by decide +kernel
theorem dX9_trim_22 : decode cX9_trim 22 = .ok (.iconst 3, 1) := by decide +kernel
theorem dX9_trim_23 : decode cX9_trim 23 = .ok (.invokestatic 103, 3) := by decide +kernel
theorem dX9_trim_26 : decode cX9_trim 26 = .ok (.ifCond .eq 7, 3) := by decide +kernel
theorem dX9_trim_29 : decode cX9_trim 29 = .ok (.iconst 1, 1) := by decide +kernel
theorem dX9_trim_30 : decode cX9_trim 30 = .ok (.goto 4, 3) := by decide +kernel
theorem dX9_trim_33 : decode cX9_trim 33 = .ok (.iconst 0, 1) := by decide +kernel
theorem dX9_trim_34 : decode cX9_trim 34 = .ok (.istore 4, 2) := by decide +kernel
theorem dX9_trim_36 : decode cX9_trim 36 = .ok (.aload_n 0, 1) := by decide +kernel
theorem dX9_trim_37 : decode cX9_trim 37 = .ok (.iload 4, 2) := by decide +kernel
theorem dX9_trim_39 : decode cX9_trim 39 = .ok (.ifCond .eq 7, 3) := by decide +kernel
theorem dX9_trim_42 : decode cX9_trim 42 = .ok (.iconst 0, 1) := by decide +kernel
theorem dX9_trim_43 : decode cX9_trim 43 = .ok (.goto 4, 3) := by decide +kernel
theorem dX9_trim_46 : decode cX9_trim 46 = .ok (.iconst 1, 1) := by decide +kernel
theorem dX9_trim_47 : decode cX9_trim 47 = .ok (.invokevirtual 111, 3) := by decide +kernel
theorem dX9_trim_50 : decode cX9_trim 50 = .ok (.ifCond .ne 5, 3) := by decide +kernel
theorem dX9_trim_53 : decode cX9_trim 53 = .ok (.fconst 0, 1) := by decide +kernel
theorem dX9_trim_54 : decode cX9_trim 54 = .ok (.freturn, 1) := by decide +kernel
theorem dX9_trim_55 : decode cX9_trim 55 = .ok (.aload_n 0, 1) := by decide +kernel
theorem dX9_trim_56 : decode cX9_trim 56 = .ok (.iload_n 1, 1) := by decide +kernel
theorem dX9_trim_57 : decode cX9_trim 57 = .ok (.putfield 196, 3) := by decide +kernel
theorem dX9_trim_60 : decode cX9_trim 60 = .ok (.aload_n 0, 1) := by decide +kernel
theorem dX9_trim_61 : decode cX9_trim 61 = .ok (.iload_n 2, 1) := by decide +kernel
theorem dX9_trim_62 : decode cX9_trim 62 = .ok (.putfield 182, 3) := by decide +kernel
theorem dX9_trim_65 : decode cX9_trim 65 = .ok (.aload_n 0, 1) := by decide +kernel
theorem dX9_trim_66 : decode cX9_trim 66 = .ok (.iload_n 3, 1) := by decide +kernel
theorem dX9_trim_67 : decode cX9_trim 67 = .ok (.putfield 188, 3) := by decide +kernel
theorem dX9_trim_70 : decode cX9_trim 70 = .ok (.aload_n 0, 1) := by decide +kernel
theorem dX9_trim_71 : decode cX9_trim 71 = .ok (.aload_n 0, 1) := by decide +kernel
theorem dX9_trim_72 : decode cX9_trim 72 = .ok (.getfield 196, 3) := by decide +kernel
theorem dX9_trim_75 : decode cX9_trim 75 = .ok (.invokevirtual 192, 3) := by decide +kernel
theorem dX9_trim_78 : decode cX9_trim 78 = .ok (.freturn, 1) := by decide +kernel
theorem dX9_power_0 : decode cX9_power 0 = .ok (.aload_n 0, 1) := by decide +kernel
theorem dX9_power_1 : decode cX9_power 1 = .ok (.iload_n 1, 1) := by decide +kernel
theorem dX9_power_2 : decode cX9_power 2 = .ok (.iconst 0, 1) := by decide +kernel
theorem dX9_power_3 : decode cX9_power 3 = .ok (.bipush 100, 2) := by decide +kernel
theorem dX9_power_5 : decode cX9_power 5 = .ok (.invokestatic 103, 3) := by decide +kernel
theorem dX9_power_8 : decode cX9_power 8 = .ok (.ifCond .eq 7, 3) := by decide +kernel
theorem dX9_power_11 : decode cX9_power 11 = .ok (.iconst 0, 1) := by decide +kernel
theorem dX9_power_12 : decode cX9_power 12 = .ok (.goto 4, 3) := by decide +kernel
theorem dX9_power_15 : decode cX9_power 15 = .ok (.iconst 1, 1) := by decide +kernel
theorem dX9_power_16 : decode cX9_power 16 = .ok (.invokevirtual 111, 3) := by decide +kernel
theorem dX9_power_19 : decode cX9_power 19 = .ok (.ifCond .eq 15, 3) := by decide +kernel
theorem dX9_power_22 : decode cX9_power 22 = .ok (.aload_n 0, 1) := by decide +kernel
theorem dX9_power_23 : decode cX9_power 23 = .ok (.aload_n 0, 1) := by decide +kernel
theorem dX9_power_24 : decode cX9_power 24 = .ok (.getfield 196, 3) := by decide +kernel
theorem dX9_power_27 : decode cX9_power 27 = .ok (.iload_n 1, 1) := by decide +kernel
theorem dX9_power_28 : decode cX9_power 28 = .ok (.invokevirtual 199, 3) := by decide +kernel
theorem dX9_power_31 : decode cX9_power 31 = .ok (.goto 4, 3) := by decide +kernel
theorem dX9_power_34 : decode cX9_power 34 = .ok (.fconst 0, 1) := by decide +kernel
theorem dX9_power_35 : decode cX9_power 35 = .ok (.freturn, 1) := by decide +kernel
theorem dX9_halyard_0 : decode cX9_halyard 0 = .ok (.aload_n 0, 1) := by decide +kernel
theorem dX9_halyard_1 : decode cX9_halyard 1 = .ok (.iload_n 1, 1) := by decide +kernel
theorem dX9_halyard_2 : decode cX9_halyard 2 = .ok (.iconst 0, 1) := by decide +kernel
theorem dX9_halyard_3 : decode cX9_halyard 3 = .ok (.bipush 100, 2) := by decide +kernel
theorem dX9_halyard_5 : decode cX9_halyard 5 = .ok (.invokestatic 103, 3) := by decide +kernel
theorem dX9_halyard_8 : decode cX9_halyard 8 = .ok (.ifCond .eq 17, 3) := by decide +kernel
theorem dX9_halyard_11 : decode cX9_halyard 11 = .ok (.iload_n 2, 1) := by decide +kernel
theorem dX9_halyard_12 : decode cX9_halyard 12 = .ok (.iconst 0, 1) := by decide +kernel
theorem dX9_halyard_13 : decode cX9_halyard 13 = .ok (.ldc 203, 2) := by decide +kernel
theorem dX9_halyard_15 : decode cX9_halyard 15 = .ok (.invokestatic 103, 3) := by decide +kernel
theorem dX9_halyard_18 : decode cX9_halyard 18 = .ok (.ifCond .eq 7, 3) := by decide +kernel
theorem dX9_halyard_21 : decode cX9_halyard 21 = .ok (.iconst 0, 1) := by decide +kernel
theorem dX9_halyard_22 : decode cX9_halyard 22 = .ok (.goto 4, 3) := by decide +kernel
theorem dX9_halyard_25 : decode cX9_halyard 25 = .ok (.iconst 1, 1) := by decide +kernel
theorem dX9_halyard_26 : decode cX9_halyard 26 = .ok (.invokevirtual 111, 3) := by decide +kernel
theorem dX9_halyard_29 : decode cX9_halyard 29 = .ok (.ifCond .ne 5, 3) := by decide +kernel
theorem dX9_halyard_32 : decode cX9_halyard 32 = .ok (.iconst 0, 1) := by decide +kernel
theorem dX9_halyard_33 : decode cX9_halyard 33 = .ok (.ireturn, 1) := by decide +kernel
theorem dX9_halyard_34 : decode cX9_halyard 34 = .ok (.iload_n 2, 1) := by decide +kernel
theorem dX9_halyard_35 : decode cX9_halyard 35 = .ok (.i2f, 1) := by decide +kernel
theorem dX9_halyard_36 : decode cX9_halyard 36 = .ok (.fstore_n 3, 1) := by decide +kernel
theorem dX9_halyard_37 : decode cX9_halyard 37 = .ok (.iconst 0, 1) := by decide +kernel
theorem dX9_halyard_38 : decode cX9_halyard 38 = .ok (.istore 4, 2) := by decide +kernel
theorem dX9_halyard_40 : decode cX9_halyard 40 = .ok (.iload 4, 2) := by decide +kernel
theorem dX9_halyard_42 : decode cX9_halyard 42 = .ok (.bipush 100, 2) := by decide +kernel
theorem dX9_halyard_44 : decode cX9_halyard 44 = .ok (.if_icmp .gt 24, 3) := by decide +kernel
theorem dX9_halyard_47 : decode cX9_halyard 47 = .ok (.aload_n 0, 1) := by decide +kernel
theorem dX9_halyard_48 : decode cX9_halyard 48 = .ok (.iload 4, 2) := by decide +kernel
theorem dX9_halyard_50 : decode cX9_halyard 50 = .ok (.iload_n 1, 1) := by decide +kernel
theorem dX9_halyard_51 : decode cX9_halyard 51 = .ok (.invokevirtual 199, 3) := by decide +kernel
theorem dX9_halyard_54 : decode cX9_halyard 54 = .ok (.fload_n 3, 1) := by decide +kernel
theorem dX9_halyard_55 : decode cX9_halyard 55 = .ok (.fcmp .g, 1) := by decide +kernel
theorem dX9_halyard_56 : decode cX9_halyard 56 = .ok (.ifCond .gt 6, 3) := by decide +kernel
theorem dX9_halyard_59 : decode cX9_halyard 59 = .ok (.iload 4, 2) := by decide +kernel
theorem dX9_halyard_61 : decode cX9_halyard 61 = .ok (.ireturn, 1) := by decide +kernel
theorem dX9_halyard_62 : decode cX9_halyard 62 = .ok (.iinc 4 1, 3) := by decide +kernel
theorem dX9_halyard_65 : decode cX9_halyard 65 = .ok (.goto (-25), 3) := by decide +kernel
theorem dX9_halyard_68 : decode cX9_halyard 68 = .ok (.iconst (-1), 1) := by decide +kernel
theorem dX9_halyard_69 : decode cX9_halyard 69 = .ok (.ireturn, 1) := by decide +kernel
theorem dX9_isCanopy_0 : decode cX9_isCanopy 0 = .ok (.iload_n 1, 1) := by decide +kernel
theorem dX9_isCanopy_1 : decode cX9_isCanopy 1 = .ok (.iconst 0, 1) := by decide +kernel
theorem dX9_isCanopy_2 : decode cX9_isCanopy 2 = .ok (.aload_n 0, 1) := by decide +kernel
theorem dX9_isCanopy_3 : decode cX9_isCanopy 3 = .ok (.getfield 204, 3) := by decide +kernel
theorem dX9_isCanopy_6 : decode cX9_isCanopy 6 = .ok (.iconst 1, 1) := by decide +kernel
theorem dX9_isCanopy_7 : decode cX9_isCanopy 7 = .ok (.isub, 1) := by decide +kernel
theorem dX9_isCanopy_8 : decode cX9_isCanopy 8 = .ok (.invokestatic 103, 3) := by decide +kernel
theorem dX9_isCanopy_11 : decode cX9_isCanopy 11 = .ok (.ireturn, 1) := by decide +kernel
theorem dX9_hasSeal_0 : decode cX9_hasSeal 0 = .ok (.aload_n 0, 1) := by decide +kernel
theorem dX9_hasSeal_1 : decode cX9_hasSeal 1 = .ok (.getfield 78, 3) := by decide +kernel
theorem dX9_hasSeal_4 : decode cX9_hasSeal 4 = .ok (.iload_n 1, 1) := by decide +kernel
theorem dX9_hasSeal_5 : decode cX9_hasSeal 5 = .ok (.iaload, 1) := by decide +kernel
theorem dX9_hasSeal_6 : decode cX9_hasSeal 6 = .ok (.iconst (-1), 1) := by decide +kernel
theorem dX9_hasSeal_7 : decode cX9_hasSeal 7 = .ok (.if_icmp .eq 7, 3) := by decide +kernel
theorem dX9_hasSeal_10 : decode cX9_hasSeal 10 = .ok (.iconst 1, 1) := by decide +kernel
theorem dX9_hasSeal_11 : decode cX9_hasSeal 11 = .ok (.goto 4, 3) := by decide +kernel
theorem dX9_hasSeal_14 : decode cX9_hasSeal 14 = .ok (.iconst 0, 1) := by decide +kernel
theorem dX9_hasSeal_15 : decode cX9_hasSeal 15 = .ok (.ireturn, 1) := by decide +kernel
theorem dX9_pass_0 : decode cX9_pass 0 = .ok (.iload_n 1, 1) := by decide +kernel
theorem dX9_pass_1 : decode cX9_pass 1 = .ok (.iconst 1, 1) := by decide +kernel
theorem dX9_pass_2 : decode cX9_pass 2 = .ok (.sipush 400, 3) := by decide +kernel
theorem dX9_pass_5 : decode cX9_pass 5 = .ok (.invokestatic 103, 3) := by decide +kernel
theorem dX9_pass_8 : decode cX9_pass 8 = .ok (.istore_n 2, 1) := by decide +kernel
theorem dX9_pass_9 : decode cX9_pass 9 = .ok (.aload_n 0, 1) := by decide +kernel
theorem dX9_pass_10 : decode cX9_pass 10 = .ok (.iload_n 2, 1) := by decide +kernel
theorem dX9_pass_11 : decode cX9_pass 11 = .ok (.ifCond .ne 7, 3) := by decide +kernel
theorem dX9_pass_14 : decode cX9_pass 14 = .ok (.iconst 1, 1) := by decide +kernel
theorem dX9_pass_15 : decode cX9_pass 15 = .ok (.goto 19, 3) := by decide +kernel
theorem dX9_pass_18 : decode cX9_pass 18 = .ok (.aload_n 0, 1) := by decide +kernel
theorem dX9_pass_19 : decode cX9_pass 19 = .ok (.getfield 207, 3) := by decide +kernel
theorem dX9_pass_22 : decode cX9_pass 22 = .ok (.iload_n 1, 1) := by decide +kernel
theorem dX9_pass_23 : decode cX9_pass 23 = .ok (.iadd, 1) := by decide +kernel
theorem dX9_pass_24 : decode cX9_pass 24 = .ok (.ldc 203, 2) := by decide +kernel
theorem dX9_pass_26 : decode cX9_pass 26 = .ok (.if_icmp .le 7, 3) := by decide +kernel
theorem dX9_pass_29 : decode cX9_pass 29 = .ok (.iconst 2, 1) := by decide +kernel
theorem dX9_pass_30 : decode cX9_pass 30 = .ok (.goto 4, 3) := by decide +kernel
theorem dX9_pass_33 : decode cX9_pass 33 = .ok (.iconst 0, 1) := by decide +kernel
theorem dX9_pass_34 : decode cX9_pass 34 = .ok (.invokevirtual 111, 3) := by decide +kernel
theorem dX9_pass_37 : decode cX9_pass 37 = .ok (.ifCond .ne 5, 3) := by decide +kernel
theorem dX9_pass_40 : decode cX9_pass 40 = .ok (.iconst 0, 1) := by decide +kernel
theorem dX9_pass_41 : decode cX9_pass 41 = .ok (.ireturn, 1) := by decide +kernel
theorem dX9_pass_42 : decode cX9_pass 42 = .ok (.aload_n 0, 1) := by decide +kernel
theorem dX9_pass_43 : decode cX9_pass 43 = .ok (.dup, 1) := by decide +kernel
theorem dX9_pass_44 : decode cX9_pass 44 = .ok (.getfield 207, 3) := by decide +kernel
theorem dX9_pass_47 : decode cX9_pass 47 = .ok (.iload_n 1, 1) := by decide +kernel
theorem dX9_pass_48 : decode cX9_pass 48 = .ok (.iadd, 1) := by decide +kernel
theorem dX9_pass_49 : decode cX9_pass 49 = .ok (.putfield 207, 3) := by decide +kernel
theorem dX9_pass_52 : decode cX9_pass 52 = .ok (.aload_n 0, 1) := by decide +kernel
theorem dX9_pass_53 : decode cX9_pass 53 = .ok (.getfield 207, 3) := by decide +kernel
theorem dX9_pass_56 : decode cX9_pass 56 = .ok (.ireturn, 1) := by decide +kernel
theorem dX9_canopy_0 : decode cX9_canopy 0 = .ok (.aload_n 0, 1) := by decide +kernel
theorem dX9_canopy_1 : decode cX9_canopy 1 = .ok (.aload_n 0, 1) := by decide +kernel
theorem dX9_canopy_2 : decode cX9_canopy 2 = .ok (.iload_n 1, 1) := by decide +kernel
theorem dX9_canopy_3 : decode cX9_canopy 3 = .ok (.invokevirtual 115, 3) := by decide +kernel
theorem dX9_canopy_6 : decode cX9_canopy 6 = .ok (.ifCond .ne 7, 3) := by decide +kernel
theorem dX9_canopy_9 : decode cX9_canopy 9 = .ok (.iconst 1, 1) := by decide +kernel
theorem dX9_canopy_10 : decode cX9_canopy 10 = .ok (.goto 17, 3) := by decide +kernel
theorem dX9_canopy_13 : decode cX9_canopy 13 = .ok (.aload_n 0, 1) := by decide +kernel
theorem dX9_canopy_14 : decode cX9_canopy 14 = .ok (.getfield 204, 3) := by decide +kernel
theorem dX9_canopy_17 : decode cX9_canopy 17 = .ok (.bipush 6, 2) := by decide +kernel
theorem dX9_canopy_19 : decode cX9_canopy 19 = .ok (.if_icmp .ne 7, 3) := by decide +kernel
theorem dX9_canopy_22 : decode cX9_canopy 22 = .ok (.iconst 2, 1) := by decide +kernel
theorem dX9_canopy_23 : decode cX9_canopy 23 = .ok (.goto 4, 3) := by decide +kernel
theorem dX9_canopy_26 : decode cX9_canopy 26 = .ok (.iconst 0, 1) := by decide +kernel
theorem dX9_canopy_27 : decode cX9_canopy 27 = .ok (.invokevirtual 111, 3) := by decide +kernel
theorem dX9_canopy_30 : decode cX9_canopy 30 = .ok (.ifCond .ne 5, 3) := by decide +kernel
theorem dX9_canopy_33 : decode cX9_canopy 33 = .ok (.iconst 0, 1) := by decide +kernel
theorem dX9_canopy_34 : decode cX9_canopy 34 = .ok (.ireturn, 1) := by decide +kernel
theorem dX9_canopy_35 : decode cX9_canopy 35 = .ok (.aload_n 0, 1) := by decide +kernel
theorem dX9_canopy_36 : decode cX9_canopy 36 = .ok (.getfield 69, 3) := by decide +kernel
theorem dX9_canopy_39 : decode cX9_canopy 39 = .ok (.aload_n 0, 1) := by decide +kernel
theorem dX9_canopy_40 : decode cX9_canopy 40 = .ok (.getfield 204, 3) := by decide +kernel
theorem dX9_canopy_43 : decode cX9_canopy 43 = .ok (.iload_n 1, 1) := by decide +kernel
theorem dX9_canopy_44 : decode cX9_canopy 44 = .ok (.iastore, 1) := by decide +kernel
theorem dX9_canopy_45 : decode cX9_canopy 45 = .ok (.aload_n 0, 1) := by decide +kernel
theorem dX9_canopy_46 : decode cX9_canopy 46 = .ok (.getfield 78, 3) := by decide +kernel
theorem dX9_canopy_49 : decode cX9_canopy 49 = .ok (.aload_n 0, 1) := by decide +kernel
theorem dX9_canopy_50 : decode cX9_canopy 50 = .ok (.getfield 204, 3) := by decide +kernel
theorem dX9_canopy_53 : decode cX9_canopy 53 = .ok (.iconst (-1), 1) := by decide +kernel
theorem dX9_canopy_54 : decode cX9_canopy 54 = .ok (.iastore, 1) := by decide +kernel
theorem dX9_canopy_55 : decode cX9_canopy 55 = .ok (.aload_n 0, 1) := by decide +kernel
theorem dX9_canopy_56 : decode cX9_canopy 56 = .ok (.getfield 81, 3) := by decide +kernel
theorem dX9_canopy_59 : decode cX9_canopy 59 = .ok (.aload_n 0, 1) := by decide +kernel
theorem dX9_canopy_60 : decode cX9_canopy 60 = .ok (.getfield 204, 3) := by decide +kernel
theorem dX9_canopy_63 : decode cX9_canopy 63 = .ok (.iconst (-1), 1) := by decide +kernel
theorem dX9_canopy_64 : decode cX9_canopy 64 = .ok (.iastore, 1) := by decide +kernel
theorem dX9_canopy_65 : decode cX9_canopy 65 = .ok (.aload_n 0, 1) := by decide +kernel
theorem dX9_canopy_66 : decode cX9_canopy 66 = .ok (.dup, 1) := by decide +kernel
theorem dX9_canopy_67 : decode cX9_canopy 67 = .ok (.getfield 204, 3) := by decide +kernel
theorem dX9_canopy_70 : decode cX9_canopy 70 = .ok (.iconst 1, 1) := by decide +kernel
theorem dX9_canopy_71 : decode cX9_canopy 71 = .ok (.iadd, 1) := by decide +kernel
theorem dX9_canopy_72 : decode cX9_canopy 72 = .ok (.putfield 204, 3) := by decide +kernel
theorem dX9_canopy_75 : decode cX9_canopy 75 = .ok (.aload_n 0, 1) := by decide +kernel
theorem dX9_canopy_76 : decode cX9_canopy 76 = .ok (.getfield 204, 3) := by decide +kernel
theorem dX9_canopy_79 : decode cX9_canopy 79 = .ok (.iconst 1, 1) := by decide +kernel
theorem dX9_canopy_80 : decode cX9_canopy 80 = .ok (.isub, 1) := by decide +kernel
theorem dX9_canopy_81 : decode cX9_canopy 81 = .ok (.ireturn, 1) := by decide +kernel
theorem dX9_part_0 : decode cX9_part 0 = .ok (.aload_n 0, 1) := by decide +kernel
theorem dX9_part_1 : decode cX9_part 1 = .ok (.iload_n 1, 1) := by decide +kernel
theorem dX9_part_2 : decode cX9_part 2 = .ok (.invokevirtual 210, 3) := by decide +kernel
theorem dX9_part_5 : decode cX9_part 5 = .ok (.istore_n 3, 1) := by decide +kernel
theorem dX9_part_6 : decode cX9_part 6 = .ok (.aload_n 0, 1) := by decide +kernel
theorem dX9_part_7 : decode cX9_part 7 = .ok (.iload_n 3, 1) := by decide +kernel
theorem dX9_part_8 : decode cX9_part 8 = .ok (.ifCond .ne 7, 3) := by decide +kernel
theorem dX9_part_11 : decode cX9_part 11 = .ok (.iconst 1, 1) := by decide +kernel
theorem dX9_part_12 : decode cX9_part 12 = .ok (.goto 42, 3) := by decide +kernel
theorem dX9_part_15 : decode cX9_part 15 = .ok (.iload_n 2, 1) := by decide +kernel
theorem dX9_part_16 : decode cX9_part 16 = .ok (.iconst 0, 1) := by decide +kernel
theorem dX9_part_17 : decode cX9_part 17 = .ok (.sipush 255, 3) := by decide +kernel
theorem dX9_part_20 : decode cX9_part 20 = .ok (.invokestatic 103, 3) := by decide +kernel
theorem dX9_part_23 : decode cX9_part 23 = .ok (.ifCond .ne 7, 3) := by decide +kernel
theorem dX9_part_26 : decode cX9_part 26 = .ok (.iconst 2, 1) := by decide +kernel
theorem dX9_part_27 : decode cX9_part 27 = .ok (.goto 27, 3) := by decide +kernel
theorem dX9_part_30 : decode cX9_part 30 = .ok (.aload_n 0, 1) := by decide +kernel
theorem dX9_part_31 : decode cX9_part 31 = .ok (.getfield 72, 3) := by decide +kernel
theorem dX9_part_34 : decode cX9_part 34 = .ok (.iload_n 1, 1) := by decide +kernel
theorem dX9_part_35 : decode cX9_part 35 = .ok (.iaload, 1) := by decide +kernel
theorem dX9_part_36 : decode cX9_part 36 = .ok (.bipush 8, 2) := by decide +kernel
theorem dX9_part_38 : decode cX9_part 38 = .ok (.if_icmp .eq 11, 3) := by decide +kernel
theorem dX9_part_41 : decode cX9_part 41 = .ok (.aload_n 0, 1) := by decide +kernel
theorem dX9_part_42 : decode cX9_part 42 = .ok (.iload_n 1, 1) := by decide +kernel
theorem dX9_part_43 : decode cX9_part 43 = .ok (.invokevirtual 213, 3) := by decide +kernel
theorem dX9_part_46 : decode cX9_part 46 = .ok (.ifCond .eq 7, 3) := by decide +kernel
theorem dX9_part_49 : decode cX9_part 49 = .ok (.iconst 3, 1) := by decide +kernel
theorem dX9_part_50 : decode cX9_part 50 = .ok (.goto 4, 3) := by decide +kernel
theorem dX9_part_53 : decode cX9_part 53 = .ok (.iconst 0, 1) := by decide +kernel
theorem dX9_part_54 : decode cX9_part 54 = .ok (.invokevirtual 111, 3) := by decide +kernel
theorem dX9_part_57 : decode cX9_part 57 = .ok (.ifCond .ne 5, 3) := by decide +kernel
theorem dX9_part_60 : decode cX9_part 60 = .ok (.iconst 0, 1) := by decide +kernel
theorem dX9_part_61 : decode cX9_part 61 = .ok (.ireturn, 1) := by decide +kernel
theorem dX9_part_62 : decode cX9_part 62 = .ok (.aload_n 0, 1) := by decide +kernel
theorem dX9_part_63 : decode cX9_part 63 = .ok (.getfield 75, 3) := by decide +kernel
theorem dX9_part_66 : decode cX9_part 66 = .ok (.bipush 8, 2) := by decide +kernel
theorem dX9_part_68 : decode cX9_part 68 = .ok (.iload_n 1, 1) := by decide +kernel
theorem dX9_part_69 : decode cX9_part 69 = .ok (.imul, 1) := by decide +kernel
theorem dX9_part_70 : decode cX9_part 70 = .ok (.aload_n 0, 1) := by decide +kernel
theorem dX9_part_71 : decode cX9_part 71 = .ok (.getfield 72, 3) := by decide +kernel
theorem dX9_part_74 : decode cX9_part 74 = .ok (.iload_n 1, 1) := by decide +kernel
theorem dX9_part_75 : decode cX9_part 75 = .ok (.iaload, 1) := by decide +kernel
theorem dX9_part_76 : decode cX9_part 76 = .ok (.iadd, 1) := by decide +kernel
theorem dX9_part_77 : decode cX9_part 77 = .ok (.iload_n 2, 1) := by decide +kernel
theorem dX9_part_78 : decode cX9_part 78 = .ok (.iastore, 1) := by decide +kernel
theorem dX9_part_79 : decode cX9_part 79 = .ok (.aload_n 0, 1) := by decide +kernel
theorem dX9_part_80 : decode cX9_part 80 = .ok (.getfield 72, 3) := by decide +kernel
theorem dX9_part_83 : decode cX9_part 83 = .ok (.iload_n 1, 1) := by decide +kernel
theorem dX9_part_84 : decode cX9_part 84 = .ok (.dup2, 1) := by decide +kernel
theorem dX9_part_85 : decode cX9_part 85 = .ok (.iaload, 1) := by decide +kernel
theorem dX9_part_86 : decode cX9_part 86 = .ok (.iconst 1, 1) := by decide +kernel
theorem dX9_part_87 : decode cX9_part 87 = .ok (.iadd, 1) := by decide +kernel
theorem dX9_part_88 : decode cX9_part 88 = .ok (.iastore, 1) := by decide +kernel
theorem dX9_part_89 : decode cX9_part 89 = .ok (.aload_n 0, 1) := by decide +kernel
theorem dX9_part_90 : decode cX9_part 90 = .ok (.getfield 72, 3) := by decide +kernel
theorem dX9_part_93 : decode cX9_part 93 = .ok (.iload_n 1, 1) := by decide +kernel
theorem dX9_part_94 : decode cX9_part 94 = .ok (.iaload, 1) := by decide +kernel
theorem dX9_part_95 : decode cX9_part 95 = .ok (.iconst 1, 1) := by decide +kernel
theorem dX9_part_96 : decode cX9_part 96 = .ok (.isub, 1) := by decide +kernel
theorem dX9_part_97 : decode cX9_part 97 = .ok (.ireturn, 1) := by decide +kernel
theorem dX9_rounds_0 : decode cX9_rounds 0 = .ok (.iconst 1, 1) := by decide +kernel
theorem dX9_rounds_1 : decode cX9_rounds 1 = .ok (.aload_n 0, 1) := by decide +kernel
theorem dX9_rounds_2 : decode cX9_rounds 2 = .ok (.getfield 72, 3) := by decide +kernel
theorem dX9_rounds_5 : decode cX9_rounds 5 = .ok (.iload_n 1, 1) := by decide +kernel
theorem dX9_rounds_6 : decode cX9_rounds 6 = .ok (.iaload, 1) := by decide +kernel
theorem dX9_rounds_7 : decode cX9_rounds 7 = .ok (.ishl, 1) := by decide +kernel
theorem dX9_rounds_8 : decode cX9_rounds 8 = .ok (.iconst 1, 1) := by decide +kernel
theorem dX9_rounds_9 : decode cX9_rounds 9 = .ok (.isub, 1) := by decide +kernel
theorem dX9_rounds_10 : decode cX9_rounds 10 = .ok (.istore_n 2, 1) := by decide +kernel
theorem dX9_rounds_11 : decode cX9_rounds 11 = .ok (.iconst 0, 1) := by decide +kernel
theorem dX9_rounds_12 : decode cX9_rounds 12 = .ok (.istore_n 3, 1) := by decide +kernel
theorem dX9_rounds_13 : decode cX9_rounds 13 = .ok (.iconst 1, 1) := by decide +kernel
theorem dX9_rounds_14 : decode cX9_rounds 14 = .ok (.istore 4, 2) := by decide +kernel
theorem dX9_rounds_16 : decode cX9_rounds 16 = .ok (.iload 4, 2) := by decide +kernel
theorem dX9_rounds_18 : decode cX9_rounds 18 = .ok (.ifCond .eq 107, 3) := by decide +kernel
theorem dX9_rounds_21 : decode cX9_rounds 21 = .ok (.iload_n 2, 1) := by decide +kernel
theorem dX9_rounds_22 : decode cX9_rounds 22 = .ok (.ifCond .eq 103, 3) := by decide +kernel
theorem dX9_rounds_25 : decode cX9_rounds 25 = .ok (.iconst 0, 1) := by decide +kernel
theorem dX9_rounds_26 : decode cX9_rounds 26 = .ok (.istore 5, 2) := by decide +kernel
theorem dX9_rounds_28 : decode cX9_rounds 28 = .ok (.iconst 0, 1) := by decide +kernel
theorem dX9_rounds_29 : decode cX9_rounds 29 = .ok (.istore 6, 2) := by decide +kernel
theorem dX9_rounds_31 : decode cX9_rounds 31 = .ok (.iload 6, 2) := by decide +kernel
theorem dX9_rounds_33 : decode cX9_rounds 33 = .ok (.aload_n 0, 1) := by decide +kernel
theorem dX9_rounds_34 : decode cX9_rounds 34 = .ok (.getfield 72, 3) := by decide +kernel
theorem dX9_rounds_37 : decode cX9_rounds 37 = .ok (.iload_n 1, 1) := by decide +kernel
theorem dX9_rounds_38 : decode cX9_rounds 38 = .ok (.iaload, 1) := by decide +kernel
theorem dX9_rounds_39 : decode cX9_rounds 39 = .ok (.if_icmp .ge 61, 3) := by decide +kernel
theorem dX9_rounds_42 : decode cX9_rounds 42 = .ok (.iload_n 2, 1) := by decide +kernel
theorem dX9_rounds_43 : decode cX9_rounds 43 = .ok (.iload 6, 2) := by decide +kernel
theorem dX9_rounds_45 : decode cX9_rounds 45 = .ok (.ishr, 1) := by decide +kernel
theorem dX9_rounds_46 : decode cX9_rounds 46 = .ok (.iconst 1, 1) := by decide +kernel
theorem dX9_rounds_47 : decode cX9_rounds 47 = .ok (.iand, 1) := by decide +kernel
theorem dX9_rounds_48 : decode cX9_rounds 48 = .ok (.iconst 1, 1) := by decide +kernel
theorem dX9_rounds_49 : decode cX9_rounds 49 = .ok (.if_icmp .ne 24, 3) := by decide +kernel
theorem dX9_rounds_52 : decode cX9_rounds 52 = .ok (.aload_n 0, 1) := by decide +kernel
theorem dX9_rounds_53 : decode cX9_rounds 53 = .ok (.getfield 75, 3) := by decide +kernel
theorem dX9_rounds_56 : decode cX9_rounds 56 = .ok (.bipush 8, 2) := by decide +kernel
theorem dX9_rounds_58 : decode cX9_rounds 58 = .ok (.iload_n 1, 1) := by decide +kernel
theorem dX9_rounds_59 : decode cX9_rounds 59 = .ok (.imul, 1) := by decide +kernel
theorem dX9_rounds_60 : decode cX9_rounds 60 = .ok (.iload 6, 2) := by decide +kernel
theorem dX9_rounds_62 : decode cX9_rounds 62 = .ok (.iadd, 1) := by decide +kernel
theorem dX9_rounds_63 : decode cX9_rounds 63 = .ok (.iaload, 1) := by decide +kernel
theorem dX9_rounds_64 : decode cX9_rounds 64 = .ok (.iload_n 2, 1) := by decide +kernel
theorem dX9_rounds_65 : decode cX9_rounds 65 = .ok (.iand, 1) := by decide +kernel
theorem dX9_rounds_66 : decode cX9_rounds 66 = .ok (.ifCond .ne 7, 3) := by decide +kernel
theorem dX9_rounds_69 : decode cX9_rounds 69 = .ok (.iconst 1, 1) := by decide +kernel
theorem dX9_rounds_70 : decode cX9_rounds 70 = .ok (.goto 4, 3) := by decide +kernel
theorem dX9_rounds_73 : decode cX9_rounds 73 = .ok (.iconst 0, 1) := by decide +kernel
theorem dX9_rounds_74 : decode cX9_rounds 74 = .ok (.istore 7, 2) := by decide +kernel
theorem dX9_rounds_76 : decode cX9_rounds 76 = .ok (.iload 5, 2) := by decide +kernel
theorem dX9_rounds_78 : decode cX9_rounds 78 = .ok (.iload 7, 2) := by decide +kernel
theorem dX9_rounds_80 : decode cX9_rounds 80 = .ok (.ifCond .eq 10, 3) := by decide +kernel
theorem dX9_rounds_83 : decode cX9_rounds 83 = .ok (.iconst 1, 1) := by decide +kernel
theorem dX9_rounds_84 : decode cX9_rounds 84 = .ok (.iload 6, 2) := by decide +kernel
theorem dX9_rounds_86 : decode cX9_rounds 86 = .ok (.ishl, 1) := by decide +kernel
theorem dX9_rounds_87 : decode cX9_rounds 87 = .ok (.goto 4, 3) := by decide +kernel
theorem dX9_rounds_90 : decode cX9_rounds 90 = .ok (.iconst 0, 1) := by decide +kernel
theorem dX9_rounds_91 : decode cX9_rounds 91 = .ok (.ior, 1) := by decide +kernel
theorem dX9_rounds_92 : decode cX9_rounds 92 = .ok (.istore 5, 2) := by decide +kernel
theorem dX9_rounds_94 : decode cX9_rounds 94 = .ok (.iinc 6 1, 3) := by decide +kernel
theorem dX9_rounds_97 : decode cX9_rounds 97 = .ok (.goto (-66), 3) := by decide +kernel
theorem dX9_rounds_100 : decode cX9_rounds 100 = .ok (.iload_n 2, 1) := by decide +kernel
theorem dX9_rounds_101 : decode cX9_rounds 101 = .ok (.iload 5, 2) := by decide +kernel
theorem dX9_rounds_103 : decode cX9_rounds 103 = .ok (.iconst (-1), 1) := by decide +kernel
theorem dX9_rounds_104 : decode cX9_rounds 104 = .ok (.ixor, 1) := by decide +kernel
theorem dX9_rounds_105 : decode cX9_rounds 105 = .ok (.iand, 1) := by decide +kernel
theorem dX9_rounds_106 : decode cX9_rounds 106 = .ok (.istore_n 2, 1) := by decide +kernel
theorem dX9_rounds_107 : decode cX9_rounds 107 = .ok (.iload 5, 2) := by decide +kernel
theorem dX9_rounds_109 : decode cX9_rounds 109 = .ok (.ifCond .eq 7, 3) := by decide +kernel
theorem dX9_rounds_112 : decode cX9_rounds 112 = .ok (.iconst 1, 1) := by decide +kernel
theorem dX9_rounds_113 : decode cX9_rounds 113 = .ok (.goto 4, 3) := by decide +kernel
theorem dX9_rounds_116 : decode cX9_rounds 116 = .ok (.iconst 0, 1) := by decide +kernel
theorem dX9_rounds_117 : decode cX9_rounds 117 = .ok (.istore 4, 2) := by decide +kernel
theorem dX9_rounds_119 : decode cX9_rounds 119 = .ok (.iinc 3 1, 3) := by decide +kernel
theorem dX9_rounds_122 : decode cX9_rounds 122 = .ok (.goto (-106), 3) := by decide +kernel
theorem dX9_rounds_125 : decode cX9_rounds 125 = .ok (.iload_n 2, 1) := by decide +kernel
theorem dX9_rounds_126 : decode cX9_rounds 126 = .ok (.ifCond .ne 7, 3) := by decide +kernel
theorem dX9_rounds_129 : decode cX9_rounds 129 = .ok (.iload_n 3, 1) := by decide +kernel
theorem dX9_rounds_130 : decode cX9_rounds 130 = .ok (.goto 4, 3) := by decide +kernel
theorem dX9_rounds_133 : decode cX9_rounds 133 = .ok (.iconst (-1), 1) := by decide +kernel
theorem dX9_rounds_134 : decode cX9_rounds 134 = .ok (.ireturn, 1) := by decide +kernel
theorem dX9_opens_0 : decode cX9_opens 0 = .ok (.aload_n 0, 1) := by decide +kernel
theorem dX9_opens_1 : decode cX9_opens 1 = .ok (.aload_n 0, 1) := by decide +kernel
theorem dX9_opens_2 : decode cX9_opens 2 = .ok (.iload_n 1, 1) := by decide +kernel
theorem dX9_opens_3 : decode cX9_opens 3 = .ok (.invokevirtual 210, 3) := by decide +kernel
theorem dX9_opens_6 : decode cX9_opens 6 = .ok (.ifCond .eq 7, 3) := by decide +kernel
theorem dX9_opens_9 : decode cX9_opens 9 = .ok (.iconst 0, 1) := by decide +kernel
theorem dX9_opens_10 : decode cX9_opens 10 = .ok (.goto 4, 3) := by decide +kernel
theorem dX9_opens_13 : decode cX9_opens 13 = .ok (.iconst 1, 1) := by decide +kernel
theorem dX9_opens_14 : decode cX9_opens 14 = .ok (.invokevirtual 111, 3) := by decide +kernel
theorem dX9_opens_17 : decode cX9_opens 17 = .ok (.ifCond .eq 11, 3) := by decide +kernel
theorem dX9_opens_20 : decode cX9_opens 20 = .ok (.aload_n 0, 1) := by decide +kernel
theorem dX9_opens_21 : decode cX9_opens 21 = .ok (.iload_n 1, 1) := by decide +kernel
theorem dX9_opens_22 : decode cX9_opens 22 = .ok (.invokevirtual 216, 3) := by decide +kernel
theorem dX9_opens_25 : decode cX9_opens 25 = .ok (.goto 4, 3) := by decide +kernel
theorem dX9_opens_28 : decode cX9_opens 28 = .ok (.iconst 0, 1) := by decide +kernel
theorem dX9_opens_29 : decode cX9_opens 29 = .ok (.ireturn, 1) := by decide +kernel
theorem dX9_canSeal_0 : decode cX9_canSeal 0 = .ok (.aload_n 0, 1) := by decide +kernel
theorem dX9_canSeal_1 : decode cX9_canSeal 1 = .ok (.iload_n 1, 1) := by decide +kernel
theorem dX9_canSeal_2 : decode cX9_canSeal 2 = .ok (.invokevirtual 213, 3) := by decide +kernel
theorem dX9_canSeal_5 : decode cX9_canSeal 5 = .ok (.ifCond .ne 49, 3) := by decide +kernel
theorem dX9_canSeal_8 : decode cX9_canSeal 8 = .ok (.aload_n 0, 1) := by decide +kernel
theorem dX9_canSeal_9 : decode cX9_canSeal 9 = .ok (.getfield 16, 3) := by decide +kernel
theorem dX9_canSeal_12 : decode cX9_canSeal 12 = .ok (.aload_n 0, 1) := by decide +kernel
theorem dX9_canSeal_13 : decode cX9_canSeal 13 = .ok (.getfield 69, 3) := by decide +kernel
theorem dX9_canSeal_16 : decode cX9_canSeal 16 = .ok (.iload_n 1, 1) := by decide +kernel
theorem dX9_canSeal_17 : decode cX9_canSeal 17 = .ok (.iaload, 1) := by decide +kernel
theorem dX9_canSeal_18 : decode cX9_canSeal 18 = .ok (.baload, 1) := by decide +kernel
theorem dX9_canSeal_19 : decode cX9_canSeal 19 = .ok (.ifCond .ne 35, 3) := by decide +kernel
theorem dX9_canSeal_22 : decode cX9_canSeal 22 = .ok (.aload_n 0, 1) := by decide +kernel
theorem dX9_canSeal_23 : decode cX9_canSeal 23 = .ok (.getfield 72, 3) := by decide +kernel
theorem dX9_canSeal_26 : decode cX9_canSeal 26 = .ok (.iload_n 1, 1) := by decide +kernel
theorem dX9_canSeal_27 : decode cX9_canSeal 27 = .ok (.iaload, 1) := by decide +kernel
theorem dX9_canSeal_28 : decode cX9_canSeal 28 = .ok (.ifCond .le 26, 3) := by decide +kernel
theorem dX9_canSeal_31 : decode cX9_canSeal 31 = .ok (.aload_n 0, 1) := by decide +kernel
theorem dX9_canSeal_32 : decode cX9_canSeal 32 = .ok (.iload_n 1, 1) := by decide +kernel
theorem dX9_canSeal_33 : decode cX9_canSeal 33 = .ok (.invokevirtual 216, 3) := by decide +kernel
theorem dX9_canSeal_36 : decode cX9_canSeal 36 = .ok (.iconst (-1), 1) := by decide +kernel
theorem dX9_canSeal_37 : decode cX9_canSeal 37 = .ok (.if_icmp .eq 17, 3) := by decide +kernel
theorem dX9_canSeal_40 : decode cX9_canSeal 40 = .ok (.aload_n 0, 1) := by decide +kernel
theorem dX9_canSeal_41 : decode cX9_canSeal 41 = .ok (.getfield 93, 3) := by decide +kernel
theorem dX9_canSeal_44 : decode cX9_canSeal 44 = .ok (.iload_n 1, 1) := by decide +kernel
theorem dX9_canSeal_45 : decode cX9_canSeal 45 = .ok (.iaload, 1) := by decide +kernel
theorem dX9_canSeal_46 : decode cX9_canSeal 46 = .ok (.iconst 3, 1) := by decide +kernel
theorem dX9_canSeal_47 : decode cX9_canSeal 47 = .ok (.if_icmp .ge 7, 3) := by decide +kernel
theorem dX9_canSeal_50 : decode cX9_canSeal 50 = .ok (.iconst 1, 1) := by decide +kernel
theorem dX9_canSeal_51 : decode cX9_canSeal 51 = .ok (.goto 4, 3) := by decide +kernel
theorem dX9_canSeal_54 : decode cX9_canSeal 54 = .ok (.iconst 0, 1) := by decide +kernel
theorem dX9_canSeal_55 : decode cX9_canSeal 55 = .ok (.ireturn, 1) := by decide +kernel
theorem dX9_seal_0 : decode cX9_seal 0 = .ok (.aload_n 0, 1) := by decide +kernel
theorem dX9_seal_1 : decode cX9_seal 1 = .ok (.iload_n 1, 1) := by decide +kernel
theorem dX9_seal_2 : decode cX9_seal 2 = .ok (.invokevirtual 210, 3) := by decide +kernel
theorem dX9_seal_5 : decode cX9_seal 5 = .ok (.ifCond .eq 16, 3) := by decide +kernel
theorem dX9_seal_8 : decode cX9_seal 8 = .ok (.iload_n 2, 1) := by decide +kernel
theorem dX9_seal_9 : decode cX9_seal 9 = .ok (.iconst 0, 1) := by decide +kernel
theorem dX9_seal_10 : decode cX9_seal 10 = .ok (.iconst 4, 1) := by decide +kernel
theorem dX9_seal_11 : decode cX9_seal 11 = .ok (.invokestatic 103, 3) := by decide +kernel
theorem dX9_seal_14 : decode cX9_seal 14 = .ok (.ifCond .eq 7, 3) := by decide +kernel
theorem dX9_seal_17 : decode cX9_seal 17 = .ok (.iconst 1, 1) := by decide +kernel
theorem dX9_seal_18 : decode cX9_seal 18 = .ok (.goto 4, 3) := by decide +kernel
theorem dX9_seal_21 : decode cX9_seal 21 = .ok (.iconst 0, 1) := by decide +kernel
theorem dX9_seal_22 : decode cX9_seal 22 = .ok (.istore_n 3, 1) := by decide +kernel
theorem dX9_seal_23 : decode cX9_seal 23 = .ok (.aload_n 0, 1) := by decide +kernel
theorem dX9_seal_24 : decode cX9_seal 24 = .ok (.iload_n 3, 1) := by decide +kernel
theorem dX9_seal_25 : decode cX9_seal 25 = .ok (.ifCond .ne 7, 3) := by decide +kernel
theorem dX9_seal_28 : decode cX9_seal 28 = .ok (.iconst 1, 1) := by decide +kernel
theorem dX9_seal_29 : decode cX9_seal 29 = .ok (.goto 16, 3) := by decide +kernel
theorem dX9_seal_32 : decode cX9_seal 32 = .ok (.aload_n 0, 1) := by decide +kernel
theorem dX9_seal_33 : decode cX9_seal 33 = .ok (.iload_n 1, 1) := by decide +kernel
theorem dX9_seal_34 : decode cX9_seal 34 = .ok (.invokevirtual 219, 3) := by decide +kernel
theorem dX9_seal_37 : decode cX9_seal 37 = .ok (.ifCond .eq 7, 3) := by decide +kernel
theorem dX9_seal_40 : decode cX9_seal 40 = .ok (.iconst 0, 1) := by decide +kernel
theorem dX9_seal_41 : decode cX9_seal 41 = .ok (.goto 4, 3) := by decide +kernel
theorem dX9_seal_44 : decode cX9_seal 44 = .ok (.iconst 2, 1) := by decide +kernel
theorem dX9_seal_45 : decode cX9_seal 45 = .ok (.invokevirtual 111, 3) := by decide +kernel
theorem dX9_seal_48 : decode cX9_seal 48 = .ok (.ifCond .ne 5, 3) := by decide +kernel
theorem dX9_seal_51 : decode cX9_seal 51 = .ok (.iconst 0, 1) := by decide +kernel
theorem dX9_seal_52 : decode cX9_seal 52 = .ok (.ireturn, 1) := by decide +kernel
theorem dX9_seal_53 : decode cX9_seal 53 = .ok (.aload_n 0, 1) := by decide +kernel
theorem dX9_seal_54 : decode cX9_seal 54 = .ok (.getfield 78, 3) := by decide +kernel
theorem dX9_seal_57 : decode cX9_seal 57 = .ok (.iload_n 1, 1) := by decide +kernel
theorem dX9_seal_58 : decode cX9_seal 58 = .ok (.iload_n 2, 1) := by decide +kernel
theorem dX9_seal_59 : decode cX9_seal 59 = .ok (.iastore, 1) := by decide +kernel
theorem dX9_seal_60 : decode cX9_seal 60 = .ok (.aload_n 0, 1) := by decide +kernel
theorem dX9_seal_61 : decode cX9_seal 61 = .ok (.getfield 81, 3) := by decide +kernel
theorem dX9_seal_64 : decode cX9_seal 64 = .ok (.iload_n 1, 1) := by decide +kernel
theorem dX9_seal_65 : decode cX9_seal 65 = .ok (.aload_n 0, 1) := by decide +kernel
theorem dX9_seal_66 : decode cX9_seal 66 = .ok (.getfield 207, 3) := by decide +kernel
theorem dX9_seal_69 : decode cX9_seal 69 = .ok (.iastore, 1) := by decide +kernel
theorem dX9_seal_70 : decode cX9_seal 70 = .ok (.aload_n 0, 1) := by decide +kernel
theorem dX9_seal_71 : decode cX9_seal 71 = .ok (.getfield 84, 3) := by decide +kernel
theorem dX9_seal_74 : decode cX9_seal 74 = .ok (.iload_n 1, 1) := by decide +kernel
theorem dX9_seal_75 : decode cX9_seal 75 = .ok (.dup2, 1) := by decide +kernel
theorem dX9_seal_76 : decode cX9_seal 76 = .ok (.iaload, 1) := by decide +kernel
theorem dX9_seal_77 : decode cX9_seal 77 = .ok (.iconst 1, 1) := by decide +kernel
theorem dX9_seal_78 : decode cX9_seal 78 = .ok (.iadd, 1) := by decide +kernel
theorem dX9_seal_79 : decode cX9_seal 79 = .ok (.iastore, 1) := by decide +kernel
theorem dX9_seal_80 : decode cX9_seal 80 = .ok (.aload_n 0, 1) := by decide +kernel
theorem dX9_seal_81 : decode cX9_seal 81 = .ok (.getfield 84, 3) := by decide +kernel
theorem dX9_seal_84 : decode cX9_seal 84 = .ok (.iload_n 1, 1) := by decide +kernel
theorem dX9_seal_85 : decode cX9_seal 85 = .ok (.iaload, 1) := by decide +kernel
theorem dX9_seal_86 : decode cX9_seal 86 = .ok (.ireturn, 1) := by decide +kernel
theorem dX9_unseals_0 : decode cX9_unseals 0 = .ok (.aload_n 0, 1) := by decide +kernel
theorem dX9_unseals_1 : decode cX9_unseals 1 = .ok (.getfield 78, 3) := by decide +kernel
theorem dX9_unseals_4 : decode cX9_unseals 4 = .ok (.iload_n 1, 1) := by decide +kernel
theorem dX9_unseals_5 : decode cX9_unseals 5 = .ok (.iconst (-1), 1) := by decide +kernel
theorem dX9_unseals_6 : decode cX9_unseals 6 = .ok (.iastore, 1) := by decide +kernel
theorem dX9_unseals_7 : decode cX9_unseals 7 = .ok (.aload_n 0, 1) := by decide +kernel
theorem dX9_unseals_8 : decode cX9_unseals 8 = .ok (.getfield 81, 3) := by decide +kernel
theorem dX9_unseals_11 : decode cX9_unseals 11 = .ok (.iload_n 1, 1) := by decide +kernel
theorem dX9_unseals_12 : decode cX9_unseals 12 = .ok (.iconst (-1), 1) := by decide +kernel
theorem dX9_unseals_13 : decode cX9_unseals 13 = .ok (.iastore, 1) := by decide +kernel
theorem dX9_unseals_14 : decode cX9_unseals 14 = .ok (.return_, 1) := by decide +kernel
theorem dX9_use_0 : decode cX9_use 0 = .ok (.aload_n 0, 1) := by decide +kernel
theorem dX9_use_1 : decode cX9_use 1 = .ok (.iload_n 1, 1) := by decide +kernel
theorem dX9_use_2 : decode cX9_use 2 = .ok (.invokevirtual 210, 3) := by decide +kernel
theorem dX9_use_5 : decode cX9_use 5 = .ok (.istore_n 2, 1) := by decide +kernel
theorem dX9_use_6 : decode cX9_use 6 = .ok (.aload_n 0, 1) := by decide +kernel
theorem dX9_use_7 : decode cX9_use 7 = .ok (.iload_n 2, 1) := by decide +kernel
theorem dX9_use_8 : decode cX9_use 8 = .ok (.ifCond .ne 7, 3) := by decide +kernel
theorem dX9_use_11 : decode cX9_use 11 = .ok (.iconst 1, 1) := by decide +kernel
theorem dX9_use_12 : decode cX9_use 12 = .ok (.goto 47, 3) := by decide +kernel
theorem dX9_use_15 : decode cX9_use 15 = .ok (.aload_n 0, 1) := by decide +kernel
theorem dX9_use_16 : decode cX9_use 16 = .ok (.iload_n 1, 1) := by decide +kernel
theorem dX9_use_17 : decode cX9_use 17 = .ok (.invokevirtual 213, 3) := by decide +kernel
theorem dX9_use_20 : decode cX9_use 20 = .ok (.ifCond .eq 34, 3) := by decide +kernel
theorem dX9_use_23 : decode cX9_use 23 = .ok (.aload_n 0, 1) := by decide +kernel
theorem dX9_use_24 : decode cX9_use 24 = .ok (.getfield 207, 3) := by decide +kernel
theorem dX9_use_27 : decode cX9_use 27 = .ok (.aload_n 0, 1) := by decide +kernel
theorem dX9_use_28 : decode cX9_use 28 = .ok (.getfield 81, 3) := by decide +kernel
theorem dX9_use_31 : decode cX9_use 31 = .ok (.iload_n 1, 1) := by decide +kernel
theorem dX9_use_32 : decode cX9_use 32 = .ok (.iaload, 1) := by decide +kernel
theorem dX9_use_33 : decode cX9_use 33 = .ok (.isub, 1) := by decide +kernel
theorem dX9_use_34 : decode cX9_use 34 = .ok (.sipush 180, 3) := by decide +kernel
theorem dX9_use_37 : decode cX9_use 37 = .ok (.if_icmp .gt 17, 3) := by decide +kernel
theorem dX9_use_40 : decode cX9_use 40 = .ok (.aload_n 0, 1) := by decide +kernel
theorem dX9_use_41 : decode cX9_use 41 = .ok (.getfield 16, 3) := by decide +kernel
theorem dX9_use_44 : decode cX9_use 44 = .ok (.aload_n 0, 1) := by decide +kernel
theorem dX9_use_45 : decode cX9_use 45 = .ok (.getfield 69, 3) := by decide +kernel
theorem dX9_use_48 : decode cX9_use 48 = .ok (.iload_n 1, 1) := by decide +kernel
theorem dX9_use_49 : decode cX9_use 49 = .ok (.iaload, 1) := by decide +kernel
theorem dX9_use_50 : decode cX9_use 50 = .ok (.baload, 1) := by decide +kernel
theorem dX9_use_51 : decode cX9_use 51 = .ok (.ifCond .eq 7, 3) := by decide +kernel
theorem dX9_use_54 : decode cX9_use 54 = .ok (.iconst 2, 1) := by decide +kernel
theorem dX9_use_55 : decode cX9_use 55 = .ok (.goto 4, 3) := by decide +kernel
theorem dX9_use_58 : decode cX9_use 58 = .ok (.iconst 0, 1) := by decide +kernel
theorem dX9_use_59 : decode cX9_use 59 = .ok (.invokevirtual 111, 3) := by decide +kernel
theorem dX9_use_62 : decode cX9_use 62 = .ok (.ifCond .ne 5, 3) := by decide +kernel
theorem dX9_use_65 : decode cX9_use 65 = .ok (.iconst 0, 1) := by decide +kernel
theorem dX9_use_66 : decode cX9_use 66 = .ok (.ireturn, 1) := by decide +kernel
theorem dX9_use_67 : decode cX9_use 67 = .ok (.aload_n 0, 1) := by decide +kernel
theorem dX9_use_68 : decode cX9_use 68 = .ok (.getfield 78, 3) := by decide +kernel
theorem dX9_use_71 : decode cX9_use 71 = .ok (.iload_n 1, 1) := by decide +kernel
theorem dX9_use_72 : decode cX9_use 72 = .ok (.iaload, 1) := by decide +kernel
theorem dX9_use_73 : decode cX9_use 73 = .ok (.istore_n 3, 1) := by decide +kernel
theorem dX9_use_74 : decode cX9_use 74 = .ok (.aload_n 0, 1) := by decide +kernel
theorem dX9_use_75 : decode cX9_use 75 = .ok (.iload_n 1, 1) := by decide +kernel
theorem dX9_use_76 : decode cX9_use 76 = .ok (.invokevirtual 222, 3) := by decide +kernel
theorem dX9_use_79 : decode cX9_use 79 = .ok (.aload_n 0, 1) := by decide +kernel
theorem dX9_use_80 : decode cX9_use 80 = .ok (.getfield 87, 3) := by decide +kernel
theorem dX9_use_83 : decode cX9_use 83 = .ok (.iload_n 1, 1) := by decide +kernel
theorem dX9_use_84 : decode cX9_use 84 = .ok (.dup2, 1) := by decide +kernel
theorem dX9_use_85 : decode cX9_use 85 = .ok (.iaload, 1) := by decide +kernel
theorem dX9_use_86 : decode cX9_use 86 = .ok (.iconst 1, 1) := by decide +kernel
theorem dX9_use_87 : decode cX9_use 87 = .ok (.iadd, 1) := by decide +kernel
theorem dX9_use_88 : decode cX9_use 88 = .ok (.iastore, 1) := by decide +kernel
theorem dX9_use_89 : decode cX9_use 89 = .ok (.iload_n 3, 1) := by decide +kernel
theorem dX9_use_90 : decode cX9_use 90 = .ok (.ireturn, 1) := by decide +kernel
theorem dX9_wet_0 : decode cX9_wet 0 = .ok (.aload_n 0, 1) := by decide +kernel
theorem dX9_wet_1 : decode cX9_wet 1 = .ok (.iload_n 1, 1) := by decide +kernel
theorem dX9_wet_2 : decode cX9_wet 2 = .ok (.invokevirtual 210, 3) := by decide +kernel
theorem dX9_wet_5 : decode cX9_wet 5 = .ok (.istore_n 3, 1) := by decide +kernel
theorem dX9_wet_6 : decode cX9_wet 6 = .ok (.aload_n 0, 1) := by decide +kernel
theorem dX9_wet_7 : decode cX9_wet 7 = .ok (.iload_n 3, 1) := by decide +kernel
theorem dX9_wet_8 : decode cX9_wet 8 = .ok (.ifCond .ne 7, 3) := by decide +kernel
theorem dX9_wet_11 : decode cX9_wet 11 = .ok (.iconst 1, 1) := by decide +kernel
theorem dX9_wet_12 : decode cX9_wet 12 = .ok (.goto 16, 3) := by decide +kernel
theorem dX9_wet_15 : decode cX9_wet 15 = .ok (.aload_n 0, 1) := by decide +kernel
theorem dX9_wet_16 : decode cX9_wet 16 = .ok (.iload_n 1, 1) := by decide +kernel
theorem dX9_wet_17 : decode cX9_wet 17 = .ok (.invokevirtual 213, 3) := by decide +kernel
theorem dX9_wet_20 : decode cX9_wet 20 = .ok (.ifCond .eq 7, 3) := by decide +kernel
theorem dX9_wet_23 : decode cX9_wet 23 = .ok (.iconst 2, 1) := by decide +kernel
theorem dX9_wet_24 : decode cX9_wet 24 = .ok (.goto 4, 3) := by decide +kernel
theorem dX9_wet_27 : decode cX9_wet 27 = .ok (.iconst 0, 1) := by decide +kernel
theorem dX9_wet_28 : decode cX9_wet 28 = .ok (.invokevirtual 111, 3) := by decide +kernel
theorem dX9_wet_31 : decode cX9_wet 31 = .ok (.ifCond .ne 5, 3) := by decide +kernel
theorem dX9_wet_34 : decode cX9_wet 34 = .ok (.iconst 0, 1) := by decide +kernel
theorem dX9_wet_35 : decode cX9_wet 35 = .ok (.ireturn, 1) := by decide +kernel
theorem dX9_wet_36 : decode cX9_wet 36 = .ok (.aload_n 0, 1) := by decide +kernel
theorem dX9_wet_37 : decode cX9_wet 37 = .ok (.getfield 90, 3) := by decide +kernel
theorem dX9_wet_40 : decode cX9_wet 40 = .ok (.iload_n 1, 1) := by decide +kernel
theorem dX9_wet_41 : decode cX9_wet 41 = .ok (.dup2, 1) := by decide +kernel
theorem dX9_wet_42 : decode cX9_wet 42 = .ok (.iaload, 1) := by decide +kernel
theorem dX9_wet_43 : decode cX9_wet 43 = .ok (.iload_n 2, 1) := by decide +kernel
theorem dX9_wet_44 : decode cX9_wet 44 = .ok (.ifCond .eq 7, 3) := by decide +kernel
theorem dX9_wet_47 : decode cX9_wet 47 = .ok (.iconst 0, 1) := by decide +kernel
theorem dX9_wet_48 : decode cX9_wet 48 = .ok (.goto 4, 3) := by decide +kernel
theorem dX9_wet_51 : decode cX9_wet 51 = .ok (.iconst 1, 1) := by decide +kernel
theorem dX9_wet_52 : decode cX9_wet 52 = .ok (.iadd, 1) := by decide +kernel
theorem dX9_wet_53 : decode cX9_wet 53 = .ok (.iastore, 1) := by decide +kernel
theorem dX9_wet_54 : decode cX9_wet 54 = .ok (.aload_n 0, 1) := by decide +kernel
theorem dX9_wet_55 : decode cX9_wet 55 = .ok (.getfield 93, 3) := by decide +kernel
theorem dX9_wet_58 : decode cX9_wet 58 = .ok (.iload_n 1, 1) := by decide +kernel
theorem dX9_wet_59 : decode cX9_wet 59 = .ok (.iload_n 2, 1) := by decide +kernel
theorem dX9_wet_60 : decode cX9_wet 60 = .ok (.ifCond .eq 7, 3) := by decide +kernel
theorem dX9_wet_63 : decode cX9_wet 63 = .ok (.iconst 0, 1) := by decide +kernel
theorem dX9_wet_64 : decode cX9_wet 64 = .ok (.goto 11, 3) := by decide +kernel
theorem dX9_wet_67 : decode cX9_wet 67 = .ok (.aload_n 0, 1) := by decide +kernel
theorem dX9_wet_68 : decode cX9_wet 68 = .ok (.getfield 93, 3) := by decide +kernel
theorem dX9_wet_71 : decode cX9_wet 71 = .ok (.iload_n 1, 1) := by decide +kernel
theorem dX9_wet_72 : decode cX9_wet 72 = .ok (.iaload, 1) := by decide +kernel
theorem dX9_wet_73 : decode cX9_wet 73 = .ok (.iconst 1, 1) := by decide +kernel
theorem dX9_wet_74 : decode cX9_wet 74 = .ok (.iadd, 1) := by decide +kernel
theorem dX9_wet_75 : decode cX9_wet 75 = .ok (.iastore, 1) := by decide +kernel
theorem dX9_wet_76 : decode cX9_wet 76 = .ok (.aload_n 0, 1) := by decide +kernel
theorem dX9_wet_77 : decode cX9_wet 77 = .ok (.getfield 93, 3) := by decide +kernel
theorem dX9_wet_80 : decode cX9_wet 80 = .ok (.iload_n 1, 1) := by decide +kernel
theorem dX9_wet_81 : decode cX9_wet 81 = .ok (.iaload, 1) := by decide +kernel
theorem dX9_wet_82 : decode cX9_wet 82 = .ok (.ireturn, 1) := by decide +kernel
theorem dX9_find_0 : decode cX9_find 0 = .ok (.aload_n 0, 1) := by decide +kernel
theorem dX9_find_1 : decode cX9_find 1 = .ok (.aload_n 0, 1) := by decide +kernel
theorem dX9_find_2 : decode cX9_find 2 = .ok (.iload_n 1, 1) := by decide +kernel
theorem dX9_find_3 : decode cX9_find 3 = .ok (.invokevirtual 115, 3) := by decide +kernel
theorem dX9_find_6 : decode cX9_find 6 = .ok (.ifCond .ne 7, 3) := by decide +kernel
theorem dX9_find_9 : decode cX9_find 9 = .ok (.iconst 1, 1) := by decide +kernel
theorem dX9_find_10 : decode cX9_find 10 = .ok (.goto 18, 3) := by decide +kernel
theorem dX9_find_13 : decode cX9_find 13 = .ok (.aload_n 0, 1) := by decide +kernel
theorem dX9_find_14 : decode cX9_find 14 = .ok (.getfield 16, 3) := by decide +kernel
theorem dX9_find_17 : decode cX9_find 17 = .ok (.iload_n 1, 1) := by decide +kernel
theorem dX9_find_18 : decode cX9_find 18 = .ok (.baload, 1) := by decide +kernel
theorem dX9_find_19 : decode cX9_find 19 = .ok (.iload_n 2, 1) := by decide +kernel
theorem dX9_find_20 : decode cX9_find 20 = .ok (.if_icmp .ne 7, 3) := by decide +kernel
theorem dX9_find_23 : decode cX9_find 23 = .ok (.iconst 2, 1) := by decide +kernel
theorem dX9_find_24 : decode cX9_find 24 = .ok (.goto 4, 3) := by decide +kernel
theorem dX9_find_27 : decode cX9_find 27 = .ok (.iconst 0, 1) := by decide +kernel
theorem dX9_find_28 : decode cX9_find 28 = .ok (.invokevirtual 111, 3) := by decide +kernel
theorem dX9_find_31 : decode cX9_find 31 = .ok (.ifCond .ne 5, 3) := by decide +kernel
theorem dX9_find_34 : decode cX9_find 34 = .ok (.iconst 0, 1) := by decide +kernel
theorem dX9_find_35 : decode cX9_find 35 = .ok (.ireturn, 1) := by decide +kernel
theorem dX9_find_36 : decode cX9_find 36 = .ok (.aload_n 0, 1) := by decide +kernel
theorem dX9_find_37 : decode cX9_find 37 = .ok (.getfield 16, 3) := by decide +kernel
theorem dX9_find_40 : decode cX9_find 40 = .ok (.iload_n 1, 1) := by decide +kernel
theorem dX9_find_41 : decode cX9_find 41 = .ok (.iload_n 2, 1) := by decide +kernel
theorem dX9_find_42 : decode cX9_find 42 = .ok (.bastore, 1) := by decide +kernel
theorem dX9_find_43 : decode cX9_find 43 = .ok (.iconst 0, 1) := by decide +kernel
theorem dX9_find_44 : decode cX9_find 44 = .ok (.istore_n 3, 1) := by decide +kernel
theorem dX9_find_45 : decode cX9_find 45 = .ok (.iconst 0, 1) := by decide +kernel
theorem dX9_find_46 : decode cX9_find 46 = .ok (.istore 4, 2) := by decide +kernel
theorem dX9_find_48 : decode cX9_find 48 = .ok (.iload 4, 2) := by decide +kernel
theorem dX9_find_50 : decode cX9_find 50 = .ok (.aload_n 0, 1) := by decide +kernel
theorem dX9_find_51 : decode cX9_find 51 = .ok (.getfield 204, 3) := by decide +kernel
theorem dX9_find_54 : decode cX9_find 54 = .ok (.if_icmp .ge 42, 3) := by decide +kernel
theorem dX9_find_57 : decode cX9_find 57 = .ok (.iload_n 2, 1) := by decide +kernel
theorem dX9_find_58 : decode cX9_find 58 = .ok (.ifCond .eq 38, 3) := by decide +kernel
theorem dX9_find_61 : decode cX9_find 61 = .ok (.aload_n 0, 1) := by decide +kernel
theorem dX9_find_62 : decode cX9_find 62 = .ok (.getfield 69, 3) := by decide +kernel
theorem dX9_find_65 : decode cX9_find 65 = .ok (.iload 4, 2) := by decide +kernel
theorem dX9_find_67 : decode cX9_find 67 = .ok (.iaload, 1) := by decide +kernel
theorem dX9_find_68 : decode cX9_find 68 = .ok (.iload_n 1, 1) := by decide +kernel
theorem dX9_find_69 : decode cX9_find 69 = .ok (.if_icmp .ne 21, 3) := by decide +kernel
theorem dX9_find_72 : decode cX9_find 72 = .ok (.aload_n 0, 1) := by decide +kernel
theorem dX9_find_73 : decode cX9_find 73 = .ok (.iload 4, 2) := by decide +kernel
theorem dX9_find_75 : decode cX9_find 75 = .ok (.invokevirtual 213, 3) := by decide +kernel
theorem dX9_find_78 : decode cX9_find 78 = .ok (.ifCond .eq 12, 3) := by decide +kernel
theorem dX9_find_81 : decode cX9_find 81 = .ok (.aload_n 0, 1) := by decide +kernel
theorem dX9_find_82 : decode cX9_find 82 = .ok (.iload 4, 2) := by decide +kernel
theorem dX9_find_84 : decode cX9_find 84 = .ok (.invokevirtual 222, 3) := by decide +kernel
theorem dX9_find_87 : decode cX9_find 87 = .ok (.iinc 3 1, 3) := by decide +kernel
theorem dX9_find_90 : decode cX9_find 90 = .ok (.iinc 4 1, 3) := by decide +kernel
theorem dX9_find_93 : decode cX9_find 93 = .ok (.goto (-45), 3) := by decide +kernel
theorem dX9_find_96 : decode cX9_find 96 = .ok (.iload_n 3, 1) := by decide +kernel
theorem dX9_find_97 : decode cX9_find 97 = .ok (.ireturn, 1) := by decide +kernel
theorem dX9_lifeOf_0 : decode cX9_lifeOf 0 = .ok (.iload_n 2, 1) := by decide +kernel
theorem dX9_lifeOf_1 : decode cX9_lifeOf 1 = .ok (.iconst 3, 1) := by decide +kernel
theorem dX9_lifeOf_2 : decode cX9_lifeOf 2 = .ok (.if_icmp .ne 12, 3) := by decide +kernel
theorem dX9_lifeOf_5 : decode cX9_lifeOf 5 = .ok (.aload_n 0, 1) := by decide +kernel
theorem dX9_lifeOf_6 : decode cX9_lifeOf 6 = .ok (.getfield 84, 3) := by decide +kernel
theorem dX9_lifeOf_9 : decode cX9_lifeOf 9 = .ok (.iload_n 1, 1) := by decide +kernel
theorem dX9_lifeOf_10 : decode cX9_lifeOf 10 = .ok (.iaload, 1) := by decide +kernel
theorem dX9_lifeOf_11 : decode cX9_lifeOf 11 = .ok (.goto 23, 3) := by decide +kernel
theorem dX9_lifeOf_14 : decode cX9_lifeOf 14 = .ok (.iload_n 2, 1) := by decide +kernel
theorem dX9_lifeOf_15 : decode cX9_lifeOf 15 = .ok (.iconst 4, 1) := by decide +kernel
theorem dX9_lifeOf_16 : decode cX9_lifeOf 16 = .ok (.if_icmp .ne 12, 3) := by decide +kernel
theorem dX9_lifeOf_19 : decode cX9_lifeOf 19 = .ok (.aload_n 0, 1) := by decide +kernel
theorem dX9_lifeOf_20 : decode cX9_lifeOf 20 = .ok (.getfield 87, 3) := by decide +kernel
theorem dX9_lifeOf_23 : decode cX9_lifeOf 23 = .ok (.iload_n 1, 1) := by decide +kernel
theorem dX9_lifeOf_24 : decode cX9_lifeOf 24 = .ok (.iaload, 1) := by decide +kernel
theorem dX9_lifeOf_25 : decode cX9_lifeOf 25 = .ok (.goto 9, 3) := by decide +kernel
theorem dX9_lifeOf_28 : decode cX9_lifeOf 28 = .ok (.aload_n 0, 1) := by decide +kernel
theorem dX9_lifeOf_29 : decode cX9_lifeOf 29 = .ok (.getfield 90, 3) := by decide +kernel
theorem dX9_lifeOf_32 : decode cX9_lifeOf 32 = .ok (.iload_n 1, 1) := by decide +kernel
theorem dX9_lifeOf_33 : decode cX9_lifeOf 33 = .ok (.iaload, 1) := by decide +kernel
theorem dX9_lifeOf_34 : decode cX9_lifeOf 34 = .ok (.ireturn, 1) := by decide +kernel
theorem dX9_ofCanopy_0 : decode cX9_ofCanopy 0 = .ok (.aload_n 0, 1) := by decide +kernel
theorem dX9_ofCanopy_1 : decode cX9_ofCanopy 1 = .ok (.aload_n 0, 1) := by decide +kernel
theorem dX9_ofCanopy_2 : decode cX9_ofCanopy 2 = .ok (.iload_n 1, 1) := by decide +kernel
theorem dX9_ofCanopy_3 : decode cX9_ofCanopy 3 = .ok (.invokevirtual 210, 3) := by decide +kernel
theorem dX9_ofCanopy_6 : decode cX9_ofCanopy 6 = .ok (.ifCond .ne 7, 3) := by decide +kernel
theorem dX9_ofCanopy_9 : decode cX9_ofCanopy 9 = .ok (.iconst 1, 1) := by decide +kernel
theorem dX9_ofCanopy_10 : decode cX9_ofCanopy 10 = .ok (.goto 17, 3) := by decide +kernel
theorem dX9_ofCanopy_13 : decode cX9_ofCanopy 13 = .ok (.iload_n 2, 1) := by decide +kernel
theorem dX9_ofCanopy_14 : decode cX9_ofCanopy 14 = .ok (.iconst 0, 1) := by decide +kernel
theorem dX9_ofCanopy_15 : decode cX9_ofCanopy 15 = .ok (.iconst 5, 1) := by decide +kernel
theorem dX9_ofCanopy_16 : decode cX9_ofCanopy 16 = .ok (.invokestatic 103, 3) := by decide +kernel
theorem dX9_ofCanopy_19 : decode cX9_ofCanopy 19 = .ok (.ifCond .eq 7, 3) := by decide +kernel
theorem dX9_ofCanopy_22 : decode cX9_ofCanopy 22 = .ok (.iconst 0, 1) := by decide +kernel
theorem dX9_ofCanopy_23 : decode cX9_ofCanopy 23 = .ok (.goto 4, 3) := by decide +kernel
theorem dX9_ofCanopy_26 : decode cX9_ofCanopy 26 = .ok (.iconst 2, 1) := by decide +kernel
theorem dX9_ofCanopy_27 : decode cX9_ofCanopy 27 = .ok (.invokevirtual 111, 3) := by decide +kernel
theorem dX9_ofCanopy_30 : decode cX9_ofCanopy 30 = .ok (.ifCond .ne 5, 3) := by decide +kernel
theorem dX9_ofCanopy_33 : decode cX9_ofCanopy 33 = .ok (.iconst 0, 1) := by decide +kernel
theorem dX9_ofCanopy_34 : decode cX9_ofCanopy 34 = .ok (.ireturn, 1) := by decide +kernel
theorem dX9_ofCanopy_35 : decode cX9_ofCanopy 35 = .ok (.iload_n 2, 1) := by decide +kernel
theorem dX9_ofCanopy_36 : decode cX9_ofCanopy 36 = .ok (.ifCond .ne 12, 3) := by decide +kernel
theorem dX9_ofCanopy_39 : decode cX9_ofCanopy 39 = .ok (.aload_n 0, 1) := by decide +kernel
theorem dX9_ofCanopy_40 : decode cX9_ofCanopy 40 = .ok (.getfield 69, 3) := by decide +kernel
theorem dX9_ofCanopy_43 : decode cX9_ofCanopy 43 = .ok (.iload_n 1, 1) := by decide +kernel
theorem dX9_ofCanopy_44 : decode cX9_ofCanopy 44 = .ok (.iaload, 1) := by decide +kernel
theorem dX9_ofCanopy_45 : decode cX9_ofCanopy 45 = .ok (.goto 37, 3) := by decide +kernel
theorem dX9_ofCanopy_48 : decode cX9_ofCanopy 48 = .ok (.iload_n 2, 1) := by decide +kernel
theorem dX9_ofCanopy_49 : decode cX9_ofCanopy 49 = .ok (.iconst 1, 1) := by decide +kernel
theorem dX9_ofCanopy_50 : decode cX9_ofCanopy 50 = .ok (.if_icmp .ne 12, 3) := by decide +kernel
theorem dX9_ofCanopy_53 : decode cX9_ofCanopy 53 = .ok (.aload_n 0, 1) := by decide +kernel
theorem dX9_ofCanopy_54 : decode cX9_ofCanopy 54 = .ok (.getfield 78, 3) := by decide +kernel
theorem dX9_ofCanopy_57 : decode cX9_ofCanopy 57 = .ok (.iload_n 1, 1) := by decide +kernel
theorem dX9_ofCanopy_58 : decode cX9_ofCanopy 58 = .ok (.iaload, 1) := by decide +kernel
theorem dX9_ofCanopy_59 : decode cX9_ofCanopy 59 = .ok (.goto 23, 3) := by decide +kernel
theorem dX9_ofCanopy_62 : decode cX9_ofCanopy 62 = .ok (.iload_n 2, 1) := by decide +kernel
theorem dX9_ofCanopy_63 : decode cX9_ofCanopy 63 = .ok (.iconst 2, 1) := by decide +kernel
theorem dX9_ofCanopy_64 : decode cX9_ofCanopy 64 = .ok (.if_icmp .ne 12, 3) := by decide +kernel
theorem dX9_ofCanopy_67 : decode cX9_ofCanopy 67 = .ok (.aload_n 0, 1) := by decide +kernel
theorem dX9_ofCanopy_68 : decode cX9_ofCanopy 68 = .ok (.getfield 81, 3) := by decide +kernel
theorem dX9_ofCanopy_71 : decode cX9_ofCanopy 71 = .ok (.iload_n 1, 1) := by decide +kernel
theorem dX9_ofCanopy_72 : decode cX9_ofCanopy 72 = .ok (.iaload, 1) := by decide +kernel
theorem dX9_ofCanopy_73 : decode cX9_ofCanopy 73 = .ok (.goto 9, 3) := by decide +kernel
theorem dX9_ofCanopy_76 : decode cX9_ofCanopy 76 = .ok (.aload_n 0, 1) := by decide +kernel
theorem dX9_ofCanopy_77 : decode cX9_ofCanopy 77 = .ok (.iload_n 1, 1) := by decide +kernel
theorem dX9_ofCanopy_78 : decode cX9_ofCanopy 78 = .ok (.iload_n 2, 1) := by decide +kernel
theorem dX9_ofCanopy_79 : decode cX9_ofCanopy 79 = .ok (.invokevirtual 226, 3) := by decide +kernel
theorem dX9_ofCanopy_82 : decode cX9_ofCanopy 82 = .ok (.ireturn, 1) := by decide +kernel
theorem dX9_lifeAnew_0 : decode cX9_lifeAnew 0 = .ok (.aload_n 0, 1) := by decide +kernel
theorem dX9_lifeAnew_1 : decode cX9_lifeAnew 1 = .ok (.aload_n 0, 1) := by decide +kernel
theorem dX9_lifeAnew_2 : decode cX9_lifeAnew 2 = .ok (.iload_n 1, 1) := by decide +kernel
theorem dX9_lifeAnew_3 : decode cX9_lifeAnew 3 = .ok (.invokevirtual 210, 3) := by decide +kernel
theorem dX9_lifeAnew_6 : decode cX9_lifeAnew 6 = .ok (.ifCond .ne 7, 3) := by decide +kernel
theorem dX9_lifeAnew_9 : decode cX9_lifeAnew 9 = .ok (.iconst 1, 1) := by decide +kernel
theorem dX9_lifeAnew_10 : decode cX9_lifeAnew 10 = .ok (.goto 17, 3) := by decide +kernel
theorem dX9_lifeAnew_13 : decode cX9_lifeAnew 13 = .ok (.iload_n 2, 1) := by decide +kernel
theorem dX9_lifeAnew_14 : decode cX9_lifeAnew 14 = .ok (.iconst 3, 1) := by decide +kernel
theorem dX9_lifeAnew_15 : decode cX9_lifeAnew 15 = .ok (.iconst 5, 1) := by decide +kernel
theorem dX9_lifeAnew_16 : decode cX9_lifeAnew 16 = .ok (.invokestatic 103, 3) := by decide +kernel
theorem dX9_lifeAnew_19 : decode cX9_lifeAnew 19 = .ok (.ifCond .eq 7, 3) := by decide +kernel
theorem dX9_lifeAnew_22 : decode cX9_lifeAnew 22 = .ok (.iconst 0, 1) := by decide +kernel
theorem dX9_lifeAnew_23 : decode cX9_lifeAnew 23 = .ok (.goto 4, 3) := by decide +kernel
theorem dX9_lifeAnew_26 : decode cX9_lifeAnew 26 = .ok (.iconst 2, 1) := by decide +kernel
theorem dX9_lifeAnew_27 : decode cX9_lifeAnew 27 = .ok (.invokevirtual 111, 3) := by decide +kernel
theorem dX9_lifeAnew_30 : decode cX9_lifeAnew 30 = .ok (.ifCond .eq 12, 3) := by decide +kernel
theorem dX9_lifeAnew_33 : decode cX9_lifeAnew 33 = .ok (.aload_n 0, 1) := by decide +kernel
theorem dX9_lifeAnew_34 : decode cX9_lifeAnew 34 = .ok (.iload_n 1, 1) := by decide +kernel
theorem dX9_lifeAnew_35 : decode cX9_lifeAnew 35 = .ok (.iload_n 2, 1) := by decide +kernel
theorem dX9_lifeAnew_36 : decode cX9_lifeAnew 36 = .ok (.invokevirtual 226, 3) := by decide +kernel
theorem dX9_lifeAnew_39 : decode cX9_lifeAnew 39 = .ok (.goto 4, 3) := by decide +kernel
theorem dX9_lifeAnew_42 : decode cX9_lifeAnew 42 = .ok (.iconst 0, 1) := by decide +kernel
theorem dX9_lifeAnew_43 : decode cX9_lifeAnew 43 = .ok (.ireturn, 1) := by decide +kernel
end
section
/-! THE TYPED HEAP AND THE JUDGEMENT V. A heap is told by functions of the address: its kind (0: nothing of ours; 1..10 the classes; 11 int, 12 long, 13 boolean, 14 byte, 15 double, 16.. arrays of references), its length, and what its places hold. -/
abbrev cls : List vw_C := [(RX0, TX0, 10), (RX1, TX1, 2), (RX2, TX2, 8), (RX3, TX3, 4), (RX4, TX4, 5), (RX5, TX5, 4), (RX6, TX6, 3), (RX7, TX7, 3), (RX8, TX8, 14), (RX9, TX9, 39)]
/-- the kinds of a class' fields: 0 int, 1 long, 2 reference, 3 boolean -/
def lay (ci : Nat) : List Nat := match ci with
  | 0 => [2, 0, 2, 0, 0, 0, 0, 0, 0, 0]
  | 1 => [2, 0]
  | 2 => [0, 0, 0, 0, 3, 0, 0, 0]
  | 3 => [2, 2, 2, 0]
  | 4 => [2, 0, 0, 1, 0]
  | 5 => [1, 0, 3, 1]
  | 6 => [0, 0, 0]
  | 7 => [2, 2, 0]
  | 8 => [2, 0, 2, 0, 2, 0, 2, 2, 0, 2, 2, 0, 2, 0]
  | 9 => [0, 2, 2, 2, 0, 2, 2, 2, 2, 0, 2, 2, 2, 2, 2, 2, 2, 2, 0, 0, 2, 2, 2, 2, 0, 0, 0, 0, 0, 2, 2, 2, 2, 2, 2, 2, 2, 2, 0]
  | _ => []
abbrev GT : Type := (Nat → Nat) × (Nat → Nat) × (Nat → Nat → Int32) × (Nat → Nat → Int64) × (Nat → Nat → UInt64) × (Nat → Nat → Option Nat)
abbrev DT : Type := va_G × (Nat → ClassId)
def fv (i : Nat → Int32) (j : Nat → Int64) (r : Nat → Option Nat) (k t : Nat) : Value := if t = 1 then .long (j k) else if t = 2 then va_rf (r k) else .int (i k)
def flds (i : Nat → Int32) (j : Nat → Int64) (r : Nat → Option Nat) (l : List Nat) : List Value := l.mapIdx (fun k t => fv i j r k t)
def ent (dA : Nat → ClassId) (G : GT) (a : Nat) : va_E := match G with
  | (T, N, I, J, E, Rf) => if T a ≤ 10 then .inr (T a - 1, flds (I a) (J a) (Rf a) (lay (T a - 1))) else if T a = 12 then .inl (dA 12, N a, .inr (.inl (J a))) else if T a = 15 then .inl (dA 15, N a, .inr (.inr (.inr (.inl (E a))))) else if T a < 16 then .inl (dA (T a), N a, .inl (I a)) else .inl (dA (T a), N a, .inr (.inr (.inr (.inr (Rf a)))))
def tysL (dA : Nat → ClassId) : List (ClassId × FieldType) := [(dA 11, .int), (dA 12, .long), (dA 13, .boolean), (dA 14, .byte), (dA 15, .double), (dA 16, .object RX2), (dA 17, .object RX4), (dA 18, .object RX7), (dA 19, .object RX5), (dA 20, .object RX0)]
def wd (D : DT) (G : GT) (H : Heap) : Prop := ∃ L : List Nat, (∀ a, a ∈ L ↔ G.1 a ≠ 0) ∧ va_P D.1 cls (va_pl L (ent D.2 G)) H ∧ va_D (fun _ => True) (va_pl L (ent D.2 G))
def u2 {α : Type} (f : Nat → Nat → α) (a k : Nat) (v : α) : Nat → Nat → α := fun b j => if b = a ∧ j = k then v else f b j
def u1 {α : Type} (f : Nat → α) (a : Nat) (v : α) : Nat → α := fun b => if b = a then v else f b
def c2 {α : Type} (f : Nat → Nat → α) (a : Nat) (v : α) : Nat → Nat → α := fun b j => if b = a then v else f b j
theorem u2_s {α : Type} (f : Nat → Nat → α) (a k : Nat) (v : α) : u2 f a k v a k = v := by simp [u2]
theorem u2_n {α : Type} (f : Nat → Nat → α) {a b : Nat} (k j : Nat) (v : α) (h : b ≠ a) : u2 f a k v b j = f b j := by simp [u2, h]
theorem u2_k {α : Type} (f : Nat → Nat → α) {a b k j : Nat} (v : α) (h : j ≠ k) : u2 f a k v b j = f b j := by simp [u2, h]
theorem u1_s {α : Type} (f : Nat → α) (a : Nat) (v : α) : u1 f a v a = v := by simp [u1]
theorem u1_n {α : Type} (f : Nat → α) {a b : Nat} (v : α) (h : b ≠ a) : u1 f a v b = f b := by simp [u1, h]
theorem c2_s {α : Type} (f : Nat → Nat → α) (a j : Nat) (v : α) : c2 f a v a j = v := by simp [c2]
theorem c2_at {α : Type} (f : Nat → Nat → α) (a : Nat) (v : α) : c2 f a v a = fun _ => v := funext fun j => by simp [c2]
theorem c2_n {α : Type} (f : Nat → Nat → α) {a b : Nat} (j : Nat) (v : α) (h : b ≠ a) : c2 f a v b j = f b j := by simp [c2, h]
/-- the words that every method of ours is given -/
def lw_all : List Cond := lw_tbl.filter goodWord
theorem lw_mem {w : Cond} (i : Nat) (h : lw_tbl[i]? = some w) (hg : goodWord w = true) : w ∈ lw_all := List.mem_filter.mpr ⟨List.mem_of_getElem? h, hg⟩
theorem lw_good : ∀ w ∈ lw_all, goodWord w = true := fun _ h => (List.mem_filter.mp h).2
/-- words that aren't good ones, but stay -/
def ngW : List Cond := [(Jvm.Cond.arrayOver (Jvm.ClassFile.FieldType.object "BroadseamLoft$Lot")), (Jvm.Cond.arrayOver (Jvm.ClassFile.FieldType.object "BroadseamLoft$Panel")), (Jvm.Cond.arrayOver (Jvm.ClassFile.FieldType.object "BroadseamLoft$Seam")), (Jvm.Cond.arrayOver (Jvm.ClassFile.FieldType.object "BroadseamLoft$Peg")), (Jvm.Cond.methodLinkNest "BroadseamLoft" (42 : Nat) ({ cls := "BroadseamLoft$Sail", name := "<init>", desc := "()V" } : Jvm.MethodName) "BroadseamLoft"), (Jvm.Cond.arrayOver (Jvm.ClassFile.FieldType.object "BroadseamLoft$Canopy")), (Jvm.Cond.methodLinkNest "BroadseamLoft" (55 : Nat) ({ cls := "BroadseamLoft$Log", name := "<init>", desc := "()V" } : Jvm.MethodName) "BroadseamLoft"), (Jvm.Cond.castable "java/lang/IllegalArgumentException" "java/lang/IllegalArgumentException"), (Jvm.Cond.declares ({ cls := "java/lang/RuntimeException", name := "<init>", desc := "()V" } : Jvm.MethodName)), (Jvm.Cond.declares ({ cls := "java/lang/RuntimeException", name := "<init>", desc := "(Ljava/lang/String;)V" } : Jvm.MethodName)), (Jvm.Cond.declares ({ cls := "java/lang/Exception", name := "<init>", desc := "()V" } : Jvm.MethodName)), (Jvm.Cond.declares ({ cls := "java/lang/Exception", name := "<init>", desc := "(Ljava/lang/String;)V" } : Jvm.MethodName)), (Jvm.Cond.declares ({ cls := "java/lang/Throwable", name := "<init>", desc := "()V" } : Jvm.MethodName)), (Jvm.Cond.declares ({ cls := "java/lang/Throwable", name := "<init>", desc := "(Ljava/lang/String;)V" } : Jvm.MethodName)), (Jvm.Cond.castable "java/lang/IllegalStateException" "java/lang/IllegalStateException"), (Jvm.Cond.castable "java/lang/IndexOutOfBoundsException" "java/lang/IndexOutOfBoundsException"), (Jvm.Cond.methodLinkNest "BroadseamLoft$Net" (32 : Nat) ({ cls := "BroadseamLoft", name := "isOutside", desc := "(JJJ)Z" } : Jvm.MethodName) "BroadseamLoft")]
def ngS : List (String × Nat × String) := [("BroadseamLoft", 68, "a strength is out of range"), ("BroadseamLoft", 79, "there are 6 lots"), ("BroadseamLoft", 91, "no such lot"), ("BroadseamLoft", 96, "the hours are out of range"), ("BroadseamLoft", 112, "the panel does not lie on a roll so"), ("BroadseamLoft", 117, "there are 12 panels"), ("BroadseamLoft", 129, "no such panel"), ("BroadseamLoft", 139, "both panels are one, or the kind is out of range"), ("BroadseamLoft", 144, "there were 30 seams"), ("BroadseamLoft", 149, "no such seam"), ("BroadseamLoft", 187, "no such knot"), ("BroadseamLoft", 191, "the height is out of range"), ("BroadseamLoft", 203, "the load is out of range"), ("BroadseamLoft", 210, "the steps are out of range"), ("BroadseamLoft", 218, "the hold or the stiffness is out of range"), ("BroadseamLoft", 223, "there were 8 pegs"), ("BroadseamLoft", 230, "the force is out of range"), ("BroadseamLoft", 239, "there was no such peg"), ("BroadseamLoft", 259, "the halyard, the sheet or the reefs are out of range"), ("BroadseamLoft", 274, "the wind is out of range"), ("BroadseamLoft", 282, "the wind or the limit is out of range"), ("BroadseamLoft", 286, "the days are out of range"), ("BroadseamLoft", 292, "the day would be above 100000"), ("BroadseamLoft", 297, "there are 6 canopies"), ("BroadseamLoft", 306, "no such canopy"), ("BroadseamLoft", 310, "what holds the part is out of range"), ("BroadseamLoft", 321, "the canopy has 8 parts, or is sealed"), ("BroadseamLoft", 328, "no such canopy or rigger"), ("BroadseamLoft", 333, "the canopy cannot be sealed"), ("BroadseamLoft", 354, "the canopy has no seal, it is too old, or the lot is held"), ("BroadseamLoft", 362, "the canopy is sealed"), ("BroadseamLoft", 370, "the lot is so already"), ("BroadseamLoft", 378, "what is asked is out of range")]
def ES (A : Nat → Prop) (U : State) (H : Heap) : Prop := vx_Zq Bundle.tN "UNASSIGNED_STACK" Bundle.steD A U H ∧ vx_Zq Bundle.tN "SUPPRESSED_SENTINEL" Bundle.listD A U H ∧ (∀ w ∈ ngW, va_Nw w U) ∧ (∀ q ∈ ngS, ∃ sa, vk_R q.1 q.2.1 q.2.2 sa U)
theorem ng_warm {s U : State} (hW : s.WarmedH U.vm) {w : Cond} (hw : w ∈ ngW) (h : va_Nw w s) : va_Nw w U := by
  have hAO : ∀ C : String, va_Nw (.arrayOver (.object C)) s → va_Nw (.arrayOver (.object C)) U := fun C h => va_AO.moved hW.alike h
  simp only [ngW, List.mem_cons, List.not_mem_nil, or_false] at hw
  rcases hw with rfl | rfl | rfl | rfl | rfl | rfl | rfl | rfl | rfl | rfl | rfl | rfl | rfl | rfl | rfl | rfl | rfl
  · exact hAO _ h
  · exact hAO _ h
  · exact hAO _ h
  · exact hAO _ h
  · exact va_Nw.warmM hW h
  · exact hAO _ h
  · exact va_Nw.warmM hW h
  · exact va_Nw.warmC hW h
  · exact va_Nw.warmD hW h
  · exact va_Nw.warmD hW h
  · exact va_Nw.warmD hW h
  · exact va_Nw.warmD hW h
  · exact va_Nw.warmD hW h
  · exact va_Nw.warmD hW h
  · exact va_Nw.warmC hW h
  · exact va_Nw.warmC hW h
  · exact va_Nw.warmM hW h
theorem ng_use {w : Cond} (hw : w ∈ ngW) {A : Array Value} {U : State} (h : va_Nw w U) : w.before A U = true := by
  have hAO : ∀ C : String, va_Nw (.arrayOver (.object C)) U → (Cond.arrayOver (.object C)).before A U = true := fun C h => h
  simp only [ngW, List.mem_cons, List.not_mem_nil, or_false] at hw
  rcases hw with rfl | rfl | rfl | rfl | rfl | rfl | rfl | rfl | rfl | rfl | rfl | rfl | rfl | rfl | rfl | rfl | rfl
  · exact hAO _ h
  · exact hAO _ h
  · exact hAO _ h
  · exact hAO _ h
  · exact va_Nw.use rfl h
  · exact hAO _ h
  · exact va_Nw.use rfl h
  · exact va_Nw.use rfl h
  · exact va_Nw.use rfl h
  · exact va_Nw.use rfl h
  · exact va_Nw.use rfl h
  · exact va_Nw.use rfl h
  · exact va_Nw.use rfl h
  · exact va_Nw.use rfl h
  · exact va_Nw.use rfl h
  · exact va_Nw.use rfl h
  · exact va_Nw.use rfl h
theorem ES.warm {A : Nat → Prop} {s U : State} {H : Heap} (hW : s.WarmedH U.vm) (h : ES A s H) : ES A U H := ⟨vx_Zq.moved hW.alike h.1, vx_Zq.moved hW.alike h.2.1, fun w hw => ng_warm hW hw (h.2.2.1 w hw), fun q hq => (h.2.2.2 q hq).elim (fun sa hs => ⟨sa, vk_R.warm hW hs⟩)⟩
theorem ES.kept {A : Nat → Prop} {U : State} {H H1 : Heap} (h : ES A U H) (hq : ∀ a : Nat, a < H.size → ¬ A a → H1[a]? = H[a]?) : ES A U H1 := ⟨vx_Zq.kept h.1 hq, vx_Zq.kept h.2.1 hq, h.2.2⟩
theorem ES.narrow {A B : Nat → Prop} {U : State} {H : Heap} (h : ES A U H) (hAB : ∀ q, B q → A q) : ES B U H := ⟨vx_Zq.narrow h.1 hAB, vx_Zq.narrow h.2.1 hAB, h.2.2⟩
def FL (own : String) (idx ci k : Nat) : Prop := ∃ (C : String) (T : u_T) (N : Nat), cls[ci]? = some (C, T, N) ∧ k < N ∧ Cond.fieldLink own idx (T k).1 (T k).2.1 (T k).2.2.1 ∈ lw_all ∧ ∀ w ∈ u_ws C T N, w ∈ lw_all
def FW (own : String) (idx ci k : Nat) (ty : FieldType) (fin : Bool) : Prop := ∃ (C : String) (T : u_T) (N : Nat) (ty0 : Nat → FieldType), cls[ci]? = some (C, T, N) ∧ k < N ∧ Cond.fieldLink own idx (T k).1 (T k).2.1 (T k).2.2.1 ∈ lw_all ∧ (∀ w ∈ u_ws C T N, w ∈ lw_all) ∧ (∀ k, k < N → parseFieldDescriptor (T k).2.2.1 = some (ty0 k)) ∧ (∀ a, a < N → ∀ b, b < N → a ≠ b → (T a).2.1 ≠ (T b).2.1) ∧ (T k).2.2.2 = fin ∧ ty0 k = ty ∧ (fin = true → (T k).1 = own)
def NW (own : String) (idx ci : Nat) : Prop := ∃ (C : String) (T : u_T) (N : Nat) (ty0 : Nat → FieldType), cls[ci]? = some (C, T, N) ∧ (lay ci).length = N ∧ (∀ w ∈ u_ws C T N, w ∈ lw_all) ∧ (∀ k, k < N → parseFieldDescriptor (T k).2.2.1 = some (ty0 k)) ∧ (∀ j, j < N → defaultValue (ty0 j) = vp_V (flds (fun _ => 0) (fun _ => 0) (fun _ => none) (lay ci)) j) ∧ Cond.classLink own idx C ∈ lw_all ∧ Cond.instantiable C N ∈ lw_all ∧ Cond.initialized C ∈ lw_all
def CWm (own : String) (idx : Nat) (y : MethodName) (bytes : ByteArray) (maxL : Nat) (ret : Option FieldType) (k : Nat) : Prop := Cond.methodLink own idx y ∈ lw_all ∧ Cond.initialized y.cls ∈ lw_all ∧ Cond.code y bytes maxL ret ∈ lw_all ∧ y.cls ≠ "java/lang/invoke/MethodHandle" ∧ y.cls ≠ "java/lang/invoke/VarHandle" ∧ (parseMethodDescriptor y.desc).map (fun d => d.parameters.length) = some k
def TWm (own : String) (ik is ic : Nat) (X text : String) : Prop := Bundle.fit X = true ∧ Cond.classLink own ik X ∈ lw_all ∧ Cond.initialized X ∈ lw_all ∧ (own, is, text) ∈ ngS ∧ (∀ w ∈ (vx_atS own ic X ["java/lang/RuntimeException", "java/lang/Exception"]).filter goodWord, w ∈ lw_all) ∧ (∀ w ∈ (vx_atS own ic X ["java/lang/RuntimeException", "java/lang/Exception"]).filter (fun w => !goodWord w), w ∈ ngW) ∧ (∀ w ∈ Cond.classLink own ik X :: Cond.initialized X :: vx_atS own ic X ["java/lang/RuntimeException", "java/lang/Exception"], vx_ot w = true)
end
section
theorem lw_in {ws : List Cond} (ps : List Nat) (h : ps.map (fun i => lw_tbl[i]?) = ws.map some) (hg : ws.all goodWord = true) : ∀ w ∈ ws, w ∈ lw_all := by
  intro w hw
  obtain ⟨k, hk⟩ := List.getElem?_of_mem hw
  have h1 : (ps.map (fun i => lw_tbl[i]?))[k]? = some (some w) := by rw [h, List.getElem?_map, hk]; rfl
  rw [List.getElem?_map] at h1
  cases hi : ps[k]? with
  | none => rw [hi] at h1; cases h1
  | some i =>
    rw [hi] at h1
    exact lw_mem i (Option.some.inj h1) (List.all_eq_true.mp hg w hw)
theorem inA0 : ∀ w ∈ u_ws RX0 TX0 10, w ∈ lw_all := lw_in [684, 686, 688, 690, 692, 694, 696, 698, 700, 702] (by decide +kernel) (by decide +kernel)
theorem inA1 : ∀ w ∈ u_ws RX1 TX1 2, w ∈ lw_all := lw_in [119, 121] (by decide +kernel) (by decide +kernel)
theorem inA2 : ∀ w ∈ u_ws RX2 TX2 8, w ∈ lw_all := lw_in [283, 285, 287, 289, 291, 293, 295, 297] (by decide +kernel) (by decide +kernel)
theorem inA3 : ∀ w ∈ u_ws RX3 TX3 4, w ∈ lw_all := lw_in [78, 80, 82, 84] (by decide +kernel) (by decide +kernel)
theorem inA4 : ∀ w ∈ u_ws RX4 TX4 5, w ∈ lw_all := lw_in [356, 358, 360, 362, 364] (by decide +kernel) (by decide +kernel)
theorem inA5 : ∀ w ∈ u_ws RX5 TX5 4, w ∈ lw_all := lw_in [563, 565, 567, 569] (by decide +kernel) (by decide +kernel)
theorem inA6 : ∀ w ∈ u_ws RX6 TX6 3, w ∈ lw_all := lw_in [102, 104, 106] (by decide +kernel) (by decide +kernel)
theorem inA7 : ∀ w ∈ u_ws RX7 TX7 3, w ∈ lw_all := lw_in [425, 427, 429] (by decide +kernel) (by decide +kernel)
theorem inA8 : ∀ w ∈ u_ws RX8 TX8 14, w ∈ lw_all := lw_in [139, 141, 143, 145, 147, 149, 151, 153, 155, 157, 159, 161, 163, 165] (by decide +kernel) (by decide +kernel)
theorem inA9 : ∀ w ∈ u_ws RX9 TX9 39, w ∈ lw_all := lw_in [860, 862, 864, 866, 868, 870, 872, 874, 876, 878, 880, 882, 884, 886, 888, 890, 892, 894, 896, 898, 900, 902, 904, 906, 908, 910, 912, 914, 916, 918, 920, 922, 924, 926, 928, 930, 932, 934, 936] (by decide +kernel) (by decide +kernel)
theorem fw_X0_9 : FW "BroadseamLoft$Canopy" 9 0 2 (.array .int) true := ⟨RX0, TX0, 10, tyX0, rfl, by decide, (lw_mem 668 (by decide +kernel) rfl), inA0, tyX0_ok, nmX0, rfl, rfl, fun _ => rfl⟩
theorem fw_X0_15 : FW "BroadseamLoft$Canopy" 15 0 4 (.int) false := ⟨RX0, TX0, 10, tyX0, rfl, by decide, (lw_mem 672 (by decide +kernel) rfl), inA0, tyX0_ok, nmX0, rfl, rfl, by decide⟩
theorem fw_X0_19 : FW "BroadseamLoft$Canopy" 19 0 5 (.int) false := ⟨RX0, TX0, 10, tyX0, rfl, by decide, (lw_mem 674 (by decide +kernel) rfl), inA0, tyX0_ok, nmX0, rfl, rfl, by decide⟩
theorem fw_X0_22 : FW "BroadseamLoft$Canopy" 22 0 0 (.object "BroadseamLoft$Lot") true := ⟨RX0, TX0, 10, tyX0, rfl, by decide, (lw_mem 664 (by decide +kernel) rfl), inA0, tyX0_ok, nmX0, rfl, rfl, fun _ => rfl⟩
theorem fw_X0_26 : FW "BroadseamLoft$Canopy" 26 0 1 (.int) true := ⟨RX0, TX0, 10, tyX0, rfl, by decide, (lw_mem 666 (by decide +kernel) rfl), inA0, tyX0_ok, nmX0, rfl, rfl, fun _ => rfl⟩
theorem fl_X0_19 : FL "BroadseamLoft$Canopy" 19 0 5 := ⟨RX0, TX0, 10, rfl, by decide, (lw_mem 674 (by decide +kernel) rfl), inA0⟩
theorem cw_X0_29 : CWm "BroadseamLoft$Canopy" 29 yX0_isSealed cX0_isSealed 1 (Option.some Jvm.ClassFile.FieldType.boolean) 0 := ⟨(lw_mem 752 (by decide +kernel) rfl), (lw_mem 50 (by decide +kernel) rfl), (lw_mem 722 (by decide +kernel) rfl), by decide +kernel, by decide +kernel, by decide +kernel⟩
theorem im_yX0_isSealed : Cond.instanceMethod yX0_isSealed ∈ lw_all := (lw_mem 720 (by decide +kernel) rfl)
theorem se_yX0_isSealed : Cond.selects yX0_isSealed.cls yX0_isSealed yX0_isSealed ∈ lw_all := (lw_mem 721 (by decide +kernel) rfl)
theorem fl_X0_22 : FL "BroadseamLoft$Canopy" 22 0 0 := ⟨RX0, TX0, 10, rfl, by decide, (lw_mem 664 (by decide +kernel) rfl), inA0⟩
theorem fl_X0_33 : FL "BroadseamLoft$Canopy" 33 2 4 := ⟨RX2, TX2, 8, rfl, by decide, (lw_mem 278 (by decide +kernel) rfl), inA2⟩
theorem fl_X0_39 : FL "BroadseamLoft$Canopy" 39 0 3 := ⟨RX0, TX0, 10, rfl, by decide, (lw_mem 670 (by decide +kernel) rfl), inA0⟩
theorem fl_X0_42 : FL "BroadseamLoft$Canopy" 42 0 9 := ⟨RX0, TX0, 10, rfl, by decide, (lw_mem 682 (by decide +kernel) rfl), inA0⟩
theorem cw_X0_45 : CWm "BroadseamLoft$Canopy" 45 yX0_roundsToOpen cX0_roundsToOpen 3 (Option.some Jvm.ClassFile.FieldType.int) 0 := ⟨(lw_mem 753 (by decide +kernel) rfl), (lw_mem 50 (by decide +kernel) rfl), (lw_mem 734 (by decide +kernel) rfl), by decide +kernel, by decide +kernel, by decide +kernel⟩
theorem im_yX0_roundsToOpen : Cond.instanceMethod yX0_roundsToOpen ∈ lw_all := (lw_mem 732 (by decide +kernel) rfl)
theorem se_yX0_roundsToOpen : Cond.selects yX0_roundsToOpen.cls yX0_roundsToOpen yX0_roundsToOpen ∈ lw_all := (lw_mem 733 (by decide +kernel) rfl)
theorem cw_X0_49 : CWm "BroadseamLoft$Canopy" 49 yX0_shutAfterRound cX0_shutAfterRound 4 (Option.some Jvm.ClassFile.FieldType.int) 1 := ⟨(lw_mem 735 (by decide +kernel) rfl), (lw_mem 50 (by decide +kernel) rfl), (lw_mem 738 (by decide +kernel) rfl), by decide +kernel, by decide +kernel, by decide +kernel⟩
theorem im_yX0_shutAfterRound : Cond.instanceMethod yX0_shutAfterRound ∈ lw_all := (lw_mem 736 (by decide +kernel) rfl)
theorem se_yX0_shutAfterRound : Cond.selects yX0_shutAfterRound.cls yX0_shutAfterRound yX0_shutAfterRound ∈ lw_all := (lw_mem 737 (by decide +kernel) rfl)
theorem fl_X0_9 : FL "BroadseamLoft$Canopy" 9 0 2 := ⟨RX0, TX0, 10, rfl, by decide, (lw_mem 668 (by decide +kernel) rfl), inA0⟩
theorem fl_X0_26 : FL "BroadseamLoft$Canopy" 26 0 1 := ⟨RX0, TX0, 10, rfl, by decide, (lw_mem 666 (by decide +kernel) rfl), inA0⟩
theorem fl_X0_15 : FL "BroadseamLoft$Canopy" 15 0 4 := ⟨RX0, TX0, 10, rfl, by decide, (lw_mem 672 (by decide +kernel) rfl), inA0⟩
theorem fl_X0_53 : FL "BroadseamLoft$Canopy" 53 0 6 := ⟨RX0, TX0, 10, rfl, by decide, (lw_mem 676 (by decide +kernel) rfl), inA0⟩
theorem fl_X0_56 : FL "BroadseamLoft$Canopy" 56 0 7 := ⟨RX0, TX0, 10, rfl, by decide, (lw_mem 678 (by decide +kernel) rfl), inA0⟩
theorem fl_X0_59 : FL "BroadseamLoft$Canopy" 59 0 8 := ⟨RX0, TX0, 10, rfl, by decide, (lw_mem 680 (by decide +kernel) rfl), inA0⟩
theorem fw_X1_9 : FW "BroadseamLoft$Log" 9 1 0 (.array .byte) true := ⟨RX1, TX1, 2, tyX1, rfl, by decide, (lw_mem 117 (by decide +kernel) rfl), inA1, tyX1_ok, nmX1, rfl, rfl, fun _ => rfl⟩
theorem fl_X1_15 : FL "BroadseamLoft$Log" 15 1 1 := ⟨RX1, TX1, 2, rfl, by decide, (lw_mem 118 (by decide +kernel) rfl), inA1⟩
theorem fl_X1_9 : FL "BroadseamLoft$Log" 9 1 0 := ⟨RX1, TX1, 2, rfl, by decide, (lw_mem 117 (by decide +kernel) rfl), inA1⟩
theorem fw_X1_15 : FW "BroadseamLoft$Log" 15 1 1 (.int) false := ⟨RX1, TX1, 2, tyX1, rfl, by decide, (lw_mem 118 (by decide +kernel) rfl), inA1, tyX1_ok, nmX1, rfl, rfl, by decide⟩
theorem fw_X2_9 : FW "BroadseamLoft$Lot" 9 2 0 (.int) true := ⟨RX2, TX2, 8, tyX2, rfl, by decide, (lw_mem 273 (by decide +kernel) rfl), inA2, tyX2_ok, nmX2, rfl, rfl, fun _ => rfl⟩
theorem fw_X2_15 : FW "BroadseamLoft$Lot" 15 2 1 (.int) true := ⟨RX2, TX2, 8, tyX2, rfl, by decide, (lw_mem 274 (by decide +kernel) rfl), inA2, tyX2_ok, nmX2, rfl, rfl, fun _ => rfl⟩
theorem fw_X2_18 : FW "BroadseamLoft$Lot" 18 2 2 (.int) true := ⟨RX2, TX2, 8, tyX2, rfl, by decide, (lw_mem 275 (by decide +kernel) rfl), inA2, tyX2_ok, nmX2, rfl, rfl, fun _ => rfl⟩
theorem fl_X2_9 : FL "BroadseamLoft$Lot" 9 2 0 := ⟨RX2, TX2, 8, rfl, by decide, (lw_mem 273 (by decide +kernel) rfl), inA2⟩
theorem fl_X2_15 : FL "BroadseamLoft$Lot" 15 2 1 := ⟨RX2, TX2, 8, rfl, by decide, (lw_mem 274 (by decide +kernel) rfl), inA2⟩
theorem fl_X2_18 : FL "BroadseamLoft$Lot" 18 2 2 := ⟨RX2, TX2, 8, rfl, by decide, (lw_mem 275 (by decide +kernel) rfl), inA2⟩
theorem fl_X2_21 : FL "BroadseamLoft$Lot" 21 2 3 := ⟨RX2, TX2, 8, rfl, by decide, (lw_mem 276 (by decide +kernel) rfl), inA2⟩
theorem cw_X2_24 : CWm "BroadseamLoft$Lot" 24 yJ9_max_7cf53 cJ9_max_7cf53 2 (Option.some Jvm.ClassFile.FieldType.int) 2 := ⟨(lw_mem 371 (by decide +kernel) rfl), (lw_mem 45 (by decide +kernel) rfl), (lw_mem 373 (by decide +kernel) rfl), by decide +kernel, by decide +kernel, by decide +kernel⟩
theorem sm_yJ9_max_7cf53 : Cond.static yJ9_max_7cf53 ∈ lw_all := (lw_mem 372 (by decide +kernel) rfl)
theorem k_X2_30 : Cond.constantLong "BroadseamLoft$Lot" 30 (1000) ∈ lw_all := (lw_mem 394 (by decide +kernel) rfl)
theorem fl_X2_32 : FL "BroadseamLoft$Lot" 32 2 6 := ⟨RX2, TX2, 8, rfl, by decide, (lw_mem 281 (by decide +kernel) rfl), inA2⟩
theorem fl_X2_35 : FL "BroadseamLoft$Lot" 35 2 5 := ⟨RX2, TX2, 8, rfl, by decide, (lw_mem 280 (by decide +kernel) rfl), inA2⟩
theorem fl_X2_38 : FL "BroadseamLoft$Lot" 38 2 7 := ⟨RX2, TX2, 8, rfl, by decide, (lw_mem 282 (by decide +kernel) rfl), inA2⟩
theorem fw_X2_35 : FW "BroadseamLoft$Lot" 35 2 5 (.int) false := ⟨RX2, TX2, 8, tyX2, rfl, by decide, (lw_mem 280 (by decide +kernel) rfl), inA2, tyX2_ok, nmX2, rfl, rfl, by decide⟩
theorem fw_X2_32 : FW "BroadseamLoft$Lot" 32 2 6 (.int) false := ⟨RX2, TX2, 8, tyX2, rfl, by decide, (lw_mem 281 (by decide +kernel) rfl), inA2, tyX2_ok, nmX2, rfl, rfl, by decide⟩
theorem fw_X2_38 : FW "BroadseamLoft$Lot" 38 2 7 (.int) false := ⟨RX2, TX2, 8, tyX2, rfl, by decide, (lw_mem 282 (by decide +kernel) rfl), inA2, tyX2_ok, nmX2, rfl, rfl, by decide⟩
theorem fw_X3_9 : FW "BroadseamLoft$Net" 9 3 0 (.array .int) true := ⟨RX3, TX3, 4, tyX3, rfl, by decide, (lw_mem 71 (by decide +kernel) rfl), inA3, tyX3_ok, nmX3, rfl, rfl, fun _ => rfl⟩
theorem fw_X3_13 : FW "BroadseamLoft$Net" 13 3 1 (.array .int) true := ⟨RX3, TX3, 4, tyX3, rfl, by decide, (lw_mem 73 (by decide +kernel) rfl), inA3, tyX3_ok, nmX3, rfl, rfl, fun _ => rfl⟩
theorem fw_X3_16 : FW "BroadseamLoft$Net" 16 3 2 (.array .boolean) true := ⟨RX3, TX3, 4, tyX3, rfl, by decide, (lw_mem 74 (by decide +kernel) rfl), inA3, tyX3_ok, nmX3, rfl, rfl, fun _ => rfl⟩
theorem fl_X3_16 : FL "BroadseamLoft$Net" 16 3 2 := ⟨RX3, TX3, 4, rfl, by decide, (lw_mem 74 (by decide +kernel) rfl), inA3⟩
theorem fl_X3_9 : FL "BroadseamLoft$Net" 9 3 0 := ⟨RX3, TX3, 4, rfl, by decide, (lw_mem 71 (by decide +kernel) rfl), inA3⟩
theorem fl_X3_13 : FL "BroadseamLoft$Net" 13 3 1 := ⟨RX3, TX3, 4, rfl, by decide, (lw_mem 73 (by decide +kernel) rfl), inA3⟩
theorem cw_X3_26 : CWm "BroadseamLoft$Net" 26 yX3_pulledHeight cX3_pulledHeight 11 (Option.some Jvm.ClassFile.FieldType.int) 1 := ⟨(lw_mem 523 (by decide +kernel) rfl), (lw_mem 34 (by decide +kernel) rfl), (lw_mem 526 (by decide +kernel) rfl), by decide +kernel, by decide +kernel, by decide +kernel⟩
theorem im_yX3_pulledHeight : Cond.instanceMethod yX3_pulledHeight ∈ lw_all := (lw_mem 524 (by decide +kernel) rfl)
theorem se_yX3_pulledHeight : Cond.selects yX3_pulledHeight.cls yX3_pulledHeight yX3_pulledHeight ∈ lw_all := (lw_mem 525 (by decide +kernel) rfl)
theorem k_X3_30 : Cond.constantLong "BroadseamLoft$Net" 30 (5) ∈ lw_all := (lw_mem 527 (by decide +kernel) rfl)
theorem cn_X3_32 : Cond.methodLinkNest "BroadseamLoft$Net" 32 yX8_isOutside "BroadseamLoft" ∈ ngW := List.mem_of_getElem? (i := 16) rfl
theorem cm_yX8_isOutside : Cond.initialized yX8_isOutside.cls ∈ lw_all ∧ Cond.code yX8_isOutside cX8_isOutside 6 (Option.some Jvm.ClassFile.FieldType.boolean) ∈ lw_all ∧ yX8_isOutside.cls ≠ "java/lang/invoke/MethodHandle" ∧ yX8_isOutside.cls ≠ "java/lang/invoke/VarHandle" ∧ (parseMethodDescriptor yX8_isOutside.desc).map (fun d => d.parameters.length) = some 3 := ⟨(lw_mem 33 (by decide +kernel) rfl), (lw_mem 184 (by decide +kernel) rfl), by decide +kernel, by decide +kernel, by decide +kernel⟩
theorem sm_yX8_isOutside : Cond.static yX8_isOutside ∈ lw_all := (lw_mem 183 (by decide +kernel) rfl)
theorem cw_X3_38 : CWm "BroadseamLoft$Net" 38 yJ9_max_7cf53 cJ9_max_7cf53 2 (Option.some Jvm.ClassFile.FieldType.int) 2 := ⟨(lw_mem 529 (by decide +kernel) rfl), (lw_mem 45 (by decide +kernel) rfl), (lw_mem 373 (by decide +kernel) rfl), by decide +kernel, by decide +kernel, by decide +kernel⟩
theorem cw_X3_44 : CWm "BroadseamLoft$Net" 44 yJ9_floorDiv_7cf53 cJ9_floorDiv_7cf53 3 (Option.some Jvm.ClassFile.FieldType.int) 2 := ⟨(lw_mem 530 (by decide +kernel) rfl), (lw_mem 45 (by decide +kernel) rfl), (lw_mem 532 (by decide +kernel) rfl), by decide +kernel, by decide +kernel, by decide +kernel⟩
theorem sm_yJ9_floorDiv_7cf53 : Cond.static yJ9_floorDiv_7cf53 ∈ lw_all := (lw_mem 531 (by decide +kernel) rfl)
theorem fl_X3_47 : FL "BroadseamLoft$Net" 47 3 3 := ⟨RX3, TX3, 4, rfl, by decide, (lw_mem 76 (by decide +kernel) rfl), inA3⟩
theorem cw_X3_51 : CWm "BroadseamLoft$Net" 51 yJ9_min_7cf53 cJ9_min_7cf53 2 (Option.some Jvm.ClassFile.FieldType.int) 2 := ⟨(lw_mem 533 (by decide +kernel) rfl), (lw_mem 45 (by decide +kernel) rfl), (lw_mem 333 (by decide +kernel) rfl), by decide +kernel, by decide +kernel, by decide +kernel⟩
theorem sm_yJ9_min_7cf53 : Cond.static yJ9_min_7cf53 ∈ lw_all := (lw_mem 332 (by decide +kernel) rfl)
theorem fw_X4_7 : FW "BroadseamLoft$Panel" 7 4 0 (.object "BroadseamLoft$Lot") true := ⟨RX4, TX4, 5, tyX4, rfl, by decide, (lw_mem 350 (by decide +kernel) rfl), inA4, tyX4_ok, nmX4, rfl, rfl, fun _ => rfl⟩
theorem fw_X4_13 : FW "BroadseamLoft$Panel" 13 4 1 (.int) true := ⟨RX4, TX4, 5, tyX4, rfl, by decide, (lw_mem 351 (by decide +kernel) rfl), inA4, tyX4_ok, nmX4, rfl, rfl, fun _ => rfl⟩
theorem fw_X4_17 : FW "BroadseamLoft$Panel" 17 4 2 (.int) true := ⟨RX4, TX4, 5, tyX4, rfl, by decide, (lw_mem 352 (by decide +kernel) rfl), inA4, tyX4_ok, nmX4, rfl, rfl, fun _ => rfl⟩
theorem fl_X4_7 : FL "BroadseamLoft$Panel" 7 4 0 := ⟨RX4, TX4, 5, rfl, by decide, (lw_mem 350 (by decide +kernel) rfl), inA4⟩
theorem fl_X4_17 : FL "BroadseamLoft$Panel" 17 4 2 := ⟨RX4, TX4, 5, rfl, by decide, (lw_mem 352 (by decide +kernel) rfl), inA4⟩
theorem cw_X4_20 : CWm "BroadseamLoft$Panel" 20 yX2_strengthAlong cX2_strengthAlong 4 (Option.some Jvm.ClassFile.FieldType.long) 1 := ⟨(lw_mem 390 (by decide +kernel) rfl), (lw_mem 43 (by decide +kernel) rfl), (lw_mem 393 (by decide +kernel) rfl), by decide +kernel, by decide +kernel, by decide +kernel⟩
theorem im_yX2_strengthAlong : Cond.instanceMethod yX2_strengthAlong ∈ lw_all := (lw_mem 391 (by decide +kernel) rfl)
theorem se_yX2_strengthAlong : Cond.selects yX2_strengthAlong.cls yX2_strengthAlong yX2_strengthAlong ∈ lw_all := (lw_mem 392 (by decide +kernel) rfl)
theorem fl_X4_13 : FL "BroadseamLoft$Panel" 13 4 1 := ⟨RX4, TX4, 5, rfl, by decide, (lw_mem 351 (by decide +kernel) rfl), inA4⟩
theorem fw_X5_7 : FW "BroadseamLoft$Peg" 7 5 2 (.boolean) false := ⟨RX5, TX5, 4, tyX5, rfl, by decide, (lw_mem 560 (by decide +kernel) rfl), inA5, tyX5_ok, nmX5, rfl, rfl, by decide⟩
theorem fw_X5_13 : FW "BroadseamLoft$Peg" 13 5 0 (.long) true := ⟨RX5, TX5, 4, tyX5, rfl, by decide, (lw_mem 556 (by decide +kernel) rfl), inA5, tyX5_ok, nmX5, rfl, rfl, fun _ => rfl⟩
theorem fw_X5_17 : FW "BroadseamLoft$Peg" 17 5 1 (.int) true := ⟨RX5, TX5, 4, tyX5, rfl, by decide, (lw_mem 558 (by decide +kernel) rfl), inA5, tyX5_ok, nmX5, rfl, rfl, fun _ => rfl⟩
theorem k_X6_7 : Cond.constantFloat "BroadseamLoft$Sail" 7 (1041865114) ∈ lw_all := (lw_mem 614 (by decide +kernel) rfl)
theorem k_X6_8 : Cond.constantFloat "BroadseamLoft$Sail" 8 (981668463) ∈ lw_all := (lw_mem 615 (by decide +kernel) rfl)
theorem k_X6_9 : Cond.constantFloat "BroadseamLoft$Sail" 9 (973279855) ∈ lw_all := (lw_mem 616 (by decide +kernel) rfl)
theorem fl_X6_10 : FL "BroadseamLoft$Sail" 10 6 1 := ⟨RX6, TX6, 3, rfl, by decide, (lw_mem 98 (by decide +kernel) rfl), inA6⟩
theorem k_X6_16 : Cond.constantFloat "BroadseamLoft$Sail" 16 (1109393408) ∈ lw_all := (lw_mem 629 (by decide +kernel) rfl)
theorem fl_X6_17 : FL "BroadseamLoft$Sail" 17 6 2 := ⟨RX6, TX6, 3, rfl, by decide, (lw_mem 100 (by decide +kernel) rfl), inA6⟩
theorem cw_X6_20 : CWm "BroadseamLoft$Sail" 20 yX6_draftWith cX6_draftWith 2 (Option.some Jvm.ClassFile.FieldType.float) 1 := ⟨(lw_mem 630 (by decide +kernel) rfl), (lw_mem 35 (by decide +kernel) rfl), (lw_mem 613 (by decide +kernel) rfl), by decide +kernel, by decide +kernel, by decide +kernel⟩
theorem im_yX6_draftWith : Cond.instanceMethod yX6_draftWith ∈ lw_all := (lw_mem 611 (by decide +kernel) rfl)
theorem se_yX6_draftWith : Cond.selects yX6_draftWith.cls yX6_draftWith yX6_draftWith ∈ lw_all := (lw_mem 612 (by decide +kernel) rfl)
theorem fw_X7_9 : FW "BroadseamLoft$Seam" 9 7 0 (.object "BroadseamLoft$Panel") true := ⟨RX7, TX7, 3, tyX7, rfl, by decide, (lw_mem 420 (by decide +kernel) rfl), inA7, tyX7_ok, nmX7, rfl, rfl, fun _ => rfl⟩
theorem fw_X7_15 : FW "BroadseamLoft$Seam" 15 7 1 (.object "BroadseamLoft$Panel") true := ⟨RX7, TX7, 3, tyX7, rfl, by decide, (lw_mem 422 (by decide +kernel) rfl), inA7, tyX7_ok, nmX7, rfl, rfl, fun _ => rfl⟩
theorem fw_X7_18 : FW "BroadseamLoft$Seam" 18 7 2 (.int) true := ⟨RX7, TX7, 3, tyX7, rfl, by decide, (lw_mem 424 (by decide +kernel) rfl), inA7, tyX7_ok, nmX7, rfl, rfl, fun _ => rfl⟩
theorem fl_X7_9 : FL "BroadseamLoft$Seam" 9 7 0 := ⟨RX7, TX7, 3, rfl, by decide, (lw_mem 420 (by decide +kernel) rfl), inA7⟩
theorem cw_X7_22 : CWm "BroadseamLoft$Seam" 22 yX4_strengthNow cX4_strengthNow 1 (Option.some Jvm.ClassFile.FieldType.long) 0 := ⟨(lw_mem 444 (by decide +kernel) rfl), (lw_mem 46 (by decide +kernel) rfl), (lw_mem 389 (by decide +kernel) rfl), by decide +kernel, by decide +kernel, by decide +kernel⟩
theorem im_yX4_strengthNow : Cond.instanceMethod yX4_strengthNow ∈ lw_all := (lw_mem 387 (by decide +kernel) rfl)
theorem se_yX4_strengthNow : Cond.selects yX4_strengthNow.cls yX4_strengthNow yX4_strengthNow ∈ lw_all := (lw_mem 388 (by decide +kernel) rfl)
theorem fl_X7_15 : FL "BroadseamLoft$Seam" 15 7 1 := ⟨RX7, TX7, 3, rfl, by decide, (lw_mem 422 (by decide +kernel) rfl), inA7⟩
theorem cw_X7_28 : CWm "BroadseamLoft$Seam" 28 yJ9_min_f86c9 cJ9_min_f86c9 4 (Option.some Jvm.ClassFile.FieldType.long) 2 := ⟨(lw_mem 445 (by decide +kernel) rfl), (lw_mem 45 (by decide +kernel) rfl), (lw_mem 447 (by decide +kernel) rfl), by decide +kernel, by decide +kernel, by decide +kernel⟩
theorem sm_yJ9_min_f86c9 : Cond.static yJ9_min_f86c9 ∈ lw_all := (lw_mem 446 (by decide +kernel) rfl)
theorem fl_X7_18 : FL "BroadseamLoft$Seam" 18 7 2 := ⟨RX7, TX7, 3, rfl, by decide, (lw_mem 424 (by decide +kernel) rfl), inA7⟩
theorem k_X7_34 : Cond.constantLong "BroadseamLoft$Seam" 34 (100) ∈ lw_all := (lw_mem 448 (by decide +kernel) rfl)
theorem cw_X7_36 : CWm "BroadseamLoft$Seam" 36 yX7_strengthNow cX7_strengthNow 1 (Option.some Jvm.ClassFile.FieldType.long) 0 := ⟨(lw_mem 464 (by decide +kernel) rfl), (lw_mem 47 (by decide +kernel) rfl), (lw_mem 443 (by decide +kernel) rfl), by decide +kernel, by decide +kernel, by decide +kernel⟩
theorem im_yX7_strengthNow : Cond.instanceMethod yX7_strengthNow ∈ lw_all := (lw_mem 441 (by decide +kernel) rfl)
theorem se_yX7_strengthNow : Cond.selects yX7_strengthNow.cls yX7_strengthNow yX7_strengthNow ∈ lw_all := (lw_mem 442 (by decide +kernel) rfl)
theorem fl_X7_37 : FL "BroadseamLoft$Seam" 37 4 3 := ⟨RX4, TX4, 5, rfl, by decide, (lw_mem 353 (by decide +kernel) rfl), inA4⟩
theorem cw_X7_41 : CWm "BroadseamLoft$Seam" 41 yJ9_max_f86c9 cJ9_max_f86c9 4 (Option.some Jvm.ClassFile.FieldType.long) 2 := ⟨(lw_mem 465 (by decide +kernel) rfl), (lw_mem 45 (by decide +kernel) rfl), (lw_mem 467 (by decide +kernel) rfl), by decide +kernel, by decide +kernel, by decide +kernel⟩
theorem sm_yJ9_max_f86c9 : Cond.static yJ9_max_f86c9 ∈ lw_all := (lw_mem 466 (by decide +kernel) rfl)
theorem fw_X7_37 : FW "BroadseamLoft$Seam" 37 4 3 (.long) false := ⟨RX4, TX4, 5, tyX4, rfl, by decide, (lw_mem 353 (by decide +kernel) rfl), inA4, tyX4_ok, nmX4, rfl, rfl, by decide⟩
theorem cl_X8_9 : Cond.classLink "BroadseamLoft" 9 "BroadseamLoft$Lot" ∈ lw_all := (lw_mem 59 (by decide +kernel) rfl)
theorem fw_X8_11 : FW "BroadseamLoft" 11 8 0 (.array (.object "BroadseamLoft$Lot")) true := ⟨RX8, TX8, 14, tyX8, rfl, by decide, (lw_mem 125 (by decide +kernel) rfl), inA8, tyX8_ok, nmX8, rfl, rfl, fun _ => rfl⟩
theorem cl_X8_15 : Cond.classLink "BroadseamLoft" 15 "BroadseamLoft$Panel" ∈ lw_all := (lw_mem 61 (by decide +kernel) rfl)
theorem fw_X8_17 : FW "BroadseamLoft" 17 8 2 (.array (.object "BroadseamLoft$Panel")) true := ⟨RX8, TX8, 14, tyX8, rfl, by decide, (lw_mem 127 (by decide +kernel) rfl), inA8, tyX8_ok, nmX8, rfl, rfl, fun _ => rfl⟩
theorem cl_X8_21 : Cond.classLink "BroadseamLoft" 21 "BroadseamLoft$Seam" ∈ lw_all := (lw_mem 63 (by decide +kernel) rfl)
theorem fw_X8_23 : FW "BroadseamLoft" 23 8 4 (.array (.object "BroadseamLoft$Seam")) true := ⟨RX8, TX8, 14, tyX8, rfl, by decide, (lw_mem 129 (by decide +kernel) rfl), inA8, tyX8_ok, nmX8, rfl, rfl, fun _ => rfl⟩
theorem nw_X8_27 : NW "BroadseamLoft" 27 3 := ⟨RX3, TX3, 4, tyX3, rfl, rfl, inA3, tyX3_ok, by decide +kernel, (lw_mem 65 (by decide +kernel) rfl), (lw_mem 66 (by decide +kernel) rfl), (lw_mem 34 (by decide +kernel) rfl)⟩
theorem cw_X8_29 : CWm "BroadseamLoft" 29 yX3_init cX3_init 4 (Option.none : Option Jvm.ClassFile.FieldType) 0 := ⟨(lw_mem 67 (by decide +kernel) rfl), (lw_mem 34 (by decide +kernel) rfl), (lw_mem 69 (by decide +kernel) rfl), by decide +kernel, by decide +kernel, by decide +kernel⟩
theorem im_yX3_init : Cond.instanceMethod yX3_init ∈ lw_all := (lw_mem 68 (by decide +kernel) rfl)
theorem fw_X8_30 : FW "BroadseamLoft" 30 8 6 (.object "BroadseamLoft$Net") true := ⟨RX8, TX8, 14, tyX8, rfl, by decide, (lw_mem 131 (by decide +kernel) rfl), inA8, tyX8_ok, nmX8, rfl, rfl, fun _ => rfl⟩
theorem cl_X8_34 : Cond.classLink "BroadseamLoft" 34 "BroadseamLoft$Peg" ∈ lw_all := (lw_mem 89 (by decide +kernel) rfl)
theorem fw_X8_36 : FW "BroadseamLoft" 36 8 7 (.array (.object "BroadseamLoft$Peg")) true := ⟨RX8, TX8, 14, tyX8, rfl, by decide, (lw_mem 132 (by decide +kernel) rfl), inA8, tyX8_ok, nmX8, rfl, rfl, fun _ => rfl⟩
theorem nw_X8_40 : NW "BroadseamLoft" 40 6 := ⟨RX6, TX6, 3, tyX6, rfl, rfl, inA6, tyX6_ok, by decide +kernel, (lw_mem 91 (by decide +kernel) rfl), (lw_mem 92 (by decide +kernel) rfl), (lw_mem 35 (by decide +kernel) rfl)⟩
theorem cn_X8_42 : Cond.methodLinkNest "BroadseamLoft" 42 yX6_init "BroadseamLoft" ∈ ngW := List.mem_of_getElem? (i := 4) rfl
theorem cm_yX6_init : Cond.initialized yX6_init.cls ∈ lw_all ∧ Cond.code yX6_init cX6_init 1 (Option.none : Option Jvm.ClassFile.FieldType) ∈ lw_all ∧ yX6_init.cls ≠ "java/lang/invoke/MethodHandle" ∧ yX6_init.cls ≠ "java/lang/invoke/VarHandle" ∧ (parseMethodDescriptor yX6_init.desc).map (fun d => d.parameters.length) = some 0 := ⟨(lw_mem 35 (by decide +kernel) rfl), (lw_mem 95 (by decide +kernel) rfl), by decide +kernel, by decide +kernel, by decide +kernel⟩
theorem im_yX6_init : Cond.instanceMethod yX6_init ∈ lw_all := (lw_mem 94 (by decide +kernel) rfl)
theorem fw_X8_43 : FW "BroadseamLoft" 43 8 9 (.object "BroadseamLoft$Sail") true := ⟨RX8, TX8, 14, tyX8, rfl, by decide, (lw_mem 134 (by decide +kernel) rfl), inA8, tyX8_ok, nmX8, rfl, rfl, fun _ => rfl⟩
theorem cl_X8_47 : Cond.classLink "BroadseamLoft" 47 "BroadseamLoft$Canopy" ∈ lw_all := (lw_mem 109 (by decide +kernel) rfl)
theorem fw_X8_49 : FW "BroadseamLoft" 49 8 10 (.array (.object "BroadseamLoft$Canopy")) true := ⟨RX8, TX8, 14, tyX8, rfl, by decide, (lw_mem 135 (by decide +kernel) rfl), inA8, tyX8_ok, nmX8, rfl, rfl, fun _ => rfl⟩
theorem nw_X8_53 : NW "BroadseamLoft" 53 1 := ⟨RX1, TX1, 2, tyX1, rfl, rfl, inA1, tyX1_ok, by decide +kernel, (lw_mem 111 (by decide +kernel) rfl), (lw_mem 112 (by decide +kernel) rfl), (lw_mem 36 (by decide +kernel) rfl)⟩
theorem cn_X8_55 : Cond.methodLinkNest "BroadseamLoft" 55 yX1_init "BroadseamLoft" ∈ ngW := List.mem_of_getElem? (i := 6) rfl
theorem cm_yX1_init : Cond.initialized yX1_init.cls ∈ lw_all ∧ Cond.code yX1_init cX1_init 1 (Option.none : Option Jvm.ClassFile.FieldType) ∈ lw_all ∧ yX1_init.cls ≠ "java/lang/invoke/MethodHandle" ∧ yX1_init.cls ≠ "java/lang/invoke/VarHandle" ∧ (parseMethodDescriptor yX1_init.desc).map (fun d => d.parameters.length) = some 0 := ⟨(lw_mem 36 (by decide +kernel) rfl), (lw_mem 115 (by decide +kernel) rfl), by decide +kernel, by decide +kernel, by decide +kernel⟩
theorem im_yX1_init : Cond.instanceMethod yX1_init ∈ lw_all := (lw_mem 114 (by decide +kernel) rfl)
theorem fw_X8_56 : FW "BroadseamLoft" 56 8 12 (.object "BroadseamLoft$Log") true := ⟨RX8, TX8, 14, tyX8, rfl, by decide, (lw_mem 137 (by decide +kernel) rfl), inA8, tyX8_ok, nmX8, rfl, rfl, fun _ => rfl⟩
theorem k_X8_60 : Cond.constantLong "BroadseamLoft" 60 (2000000000) ∈ lw_all := (lw_mem 181 (by decide +kernel) rfl)
theorem cw_X8_62 : CWm "BroadseamLoft" 62 yX8_isOutside cX8_isOutside 6 (Option.some Jvm.ClassFile.FieldType.boolean) 3 := ⟨(lw_mem 182 (by decide +kernel) rfl), (lw_mem 33 (by decide +kernel) rfl), (lw_mem 184 (by decide +kernel) rfl), by decide +kernel, by decide +kernel, by decide +kernel⟩
theorem fl_X8_73 : FL "BroadseamLoft" 73 8 1 := ⟨RX8, TX8, 14, rfl, by decide, (lw_mem 126 (by decide +kernel) rfl), inA8⟩
theorem fl_X8_11 : FL "BroadseamLoft" 11 8 0 := ⟨RX8, TX8, 14, rfl, by decide, (lw_mem 125 (by decide +kernel) rfl), inA8⟩
theorem nw_X8_9 : NW "BroadseamLoft" 9 2 := ⟨RX2, TX2, 8, tyX2, rfl, rfl, inA2, tyX2_ok, by decide +kernel, (lw_mem 59 (by decide +kernel) rfl), (lw_mem 268 (by decide +kernel) rfl), (lw_mem 43 (by decide +kernel) rfl)⟩
theorem cw_X8_82 : CWm "BroadseamLoft" 82 yX2_init cX2_init 4 (Option.none : Option Jvm.ClassFile.FieldType) 3 := ⟨(lw_mem 269 (by decide +kernel) rfl), (lw_mem 43 (by decide +kernel) rfl), (lw_mem 271 (by decide +kernel) rfl), by decide +kernel, by decide +kernel, by decide +kernel⟩
theorem im_yX2_init : Cond.instanceMethod yX2_init ∈ lw_all := (lw_mem 270 (by decide +kernel) rfl)
theorem fw_X8_73 : FW "BroadseamLoft" 73 8 1 (.int) false := ⟨RX8, TX8, 14, tyX8, rfl, by decide, (lw_mem 126 (by decide +kernel) rfl), inA8, tyX8_ok, nmX8, rfl, rfl, by decide⟩
theorem cw_X8_85 : CWm "BroadseamLoft" 85 yX8_lotAt cX8_lotAt 2 (Option.some (Jvm.ClassFile.FieldType.object "BroadseamLoft$Lot")) 1 := ⟨(lw_mem 308 (by decide +kernel) rfl), (lw_mem 33 (by decide +kernel) rfl), (lw_mem 311 (by decide +kernel) rfl), by decide +kernel, by decide +kernel, by decide +kernel⟩
theorem im_yX8_lotAt : Cond.instanceMethod yX8_lotAt ∈ lw_all := (lw_mem 310 (by decide +kernel) rfl)
theorem se_yX8_lotAt : Cond.selects yX8_lotAt.cls yX8_lotAt yX8_lotAt ∈ lw_all := lw_mem 1 rfl rfl
theorem k_X8_94 : Cond.constantLong "BroadseamLoft" 94 (10000) ∈ lw_all := (lw_mem 328 (by decide +kernel) rfl)
theorem fl_X8_98 : FL "BroadseamLoft" 98 2 3 := ⟨RX2, TX2, 8, rfl, by decide, (lw_mem 277 (by decide +kernel) rfl), inA2⟩
theorem k_X8_101 : Cond.constant "BroadseamLoft" 101 (1000000) ∈ lw_all := (lw_mem 330 (by decide +kernel) rfl)
theorem cw_X8_102 : CWm "BroadseamLoft" 102 yJ9_min_7cf53 cJ9_min_7cf53 2 (Option.some Jvm.ClassFile.FieldType.int) 2 := ⟨(lw_mem 331 (by decide +kernel) rfl), (lw_mem 45 (by decide +kernel) rfl), (lw_mem 333 (by decide +kernel) rfl), by decide +kernel, by decide +kernel, by decide +kernel⟩
theorem fw_X8_98 : FW "BroadseamLoft" 98 2 3 (.int) false := ⟨RX2, TX2, 8, tyX2, rfl, by decide, (lw_mem 277 (by decide +kernel) rfl), inA2, tyX2_ok, nmX2, rfl, rfl, by decide⟩
theorem k_X8_108 : Cond.constantLong "BroadseamLoft" 108 (150) ∈ lw_all := (lw_mem 341 (by decide +kernel) rfl)
theorem k_X8_110 : Cond.constantLong "BroadseamLoft" 110 (2) ∈ lw_all := (lw_mem 342 (by decide +kernel) rfl)
theorem fl_X8_114 : FL "BroadseamLoft" 114 8 3 := ⟨RX8, TX8, 14, rfl, by decide, (lw_mem 128 (by decide +kernel) rfl), inA8⟩
theorem fl_X8_17 : FL "BroadseamLoft" 17 8 2 := ⟨RX8, TX8, 14, rfl, by decide, (lw_mem 127 (by decide +kernel) rfl), inA8⟩
theorem nw_X8_15 : NW "BroadseamLoft" 15 4 := ⟨RX4, TX4, 5, tyX4, rfl, rfl, inA4, tyX4_ok, by decide +kernel, (lw_mem 61 (by decide +kernel) rfl), (lw_mem 345 (by decide +kernel) rfl), (lw_mem 46 (by decide +kernel) rfl)⟩
theorem cw_X8_119 : CWm "BroadseamLoft" 119 yX4_init cX4_init 4 (Option.none : Option Jvm.ClassFile.FieldType) 3 := ⟨(lw_mem 346 (by decide +kernel) rfl), (lw_mem 46 (by decide +kernel) rfl), (lw_mem 348 (by decide +kernel) rfl), by decide +kernel, by decide +kernel, by decide +kernel⟩
theorem im_yX4_init : Cond.instanceMethod yX4_init ∈ lw_all := (lw_mem 347 (by decide +kernel) rfl)
theorem cw_X8_122 : CWm "BroadseamLoft" 122 yX2_layPanel cX2_layPanel 6 (Option.none : Option Jvm.ClassFile.FieldType) 3 := ⟨(lw_mem 367 (by decide +kernel) rfl), (lw_mem 43 (by decide +kernel) rfl), (lw_mem 370 (by decide +kernel) rfl), by decide +kernel, by decide +kernel, by decide +kernel⟩
theorem im_yX2_layPanel : Cond.instanceMethod yX2_layPanel ∈ lw_all := (lw_mem 368 (by decide +kernel) rfl)
theorem se_yX2_layPanel : Cond.selects yX2_layPanel.cls yX2_layPanel yX2_layPanel ∈ lw_all := (lw_mem 369 (by decide +kernel) rfl)
theorem fw_X8_114 : FW "BroadseamLoft" 114 8 3 (.int) false := ⟨RX8, TX8, 14, tyX8, rfl, by decide, (lw_mem 128 (by decide +kernel) rfl), inA8, tyX8_ok, nmX8, rfl, rfl, by decide⟩
theorem cw_X8_125 : CWm "BroadseamLoft" 125 yX8_panelAt cX8_panelAt 2 (Option.some (Jvm.ClassFile.FieldType.object "BroadseamLoft$Panel")) 1 := ⟨(lw_mem 381 (by decide +kernel) rfl), (lw_mem 33 (by decide +kernel) rfl), (lw_mem 384 (by decide +kernel) rfl), by decide +kernel, by decide +kernel, by decide +kernel⟩
theorem im_yX8_panelAt : Cond.instanceMethod yX8_panelAt ∈ lw_all := (lw_mem 383 (by decide +kernel) rfl)
theorem se_yX8_panelAt : Cond.selects yX8_panelAt.cls yX8_panelAt yX8_panelAt ∈ lw_all := lw_mem 2 rfl rfl
theorem cw_X8_131 : CWm "BroadseamLoft" 131 yX4_strengthNow cX4_strengthNow 1 (Option.some Jvm.ClassFile.FieldType.long) 0 := ⟨(lw_mem 386 (by decide +kernel) rfl), (lw_mem 46 (by decide +kernel) rfl), (lw_mem 389 (by decide +kernel) rfl), by decide +kernel, by decide +kernel, by decide +kernel⟩
theorem cw_X8_135 : CWm "BroadseamLoft" 135 yX2_rolledLength cX2_rolledLength 1 (Option.some Jvm.ClassFile.FieldType.int) 0 := ⟨(lw_mem 402 (by decide +kernel) rfl), (lw_mem 43 (by decide +kernel) rfl), (lw_mem 405 (by decide +kernel) rfl), by decide +kernel, by decide +kernel, by decide +kernel⟩
theorem im_yX2_rolledLength : Cond.instanceMethod yX2_rolledLength ∈ lw_all := (lw_mem 403 (by decide +kernel) rfl)
theorem se_yX2_rolledLength : Cond.selects yX2_rolledLength.cls yX2_rolledLength yX2_rolledLength ∈ lw_all := (lw_mem 404 (by decide +kernel) rfl)
theorem fl_X8_141 : FL "BroadseamLoft" 141 8 5 := ⟨RX8, TX8, 14, rfl, by decide, (lw_mem 130 (by decide +kernel) rfl), inA8⟩
theorem fl_X8_23 : FL "BroadseamLoft" 23 8 4 := ⟨RX8, TX8, 14, rfl, by decide, (lw_mem 129 (by decide +kernel) rfl), inA8⟩
theorem nw_X8_21 : NW "BroadseamLoft" 21 7 := ⟨RX7, TX7, 3, tyX7, rfl, rfl, inA7, tyX7_ok, by decide +kernel, (lw_mem 63 (by decide +kernel) rfl), (lw_mem 415 (by decide +kernel) rfl), (lw_mem 47 (by decide +kernel) rfl)⟩
theorem cw_X8_146 : CWm "BroadseamLoft" 146 yX7_init cX7_init 4 (Option.none : Option Jvm.ClassFile.FieldType) 3 := ⟨(lw_mem 416 (by decide +kernel) rfl), (lw_mem 47 (by decide +kernel) rfl), (lw_mem 418 (by decide +kernel) rfl), by decide +kernel, by decide +kernel, by decide +kernel⟩
theorem im_yX7_init : Cond.instanceMethod yX7_init ∈ lw_all := (lw_mem 417 (by decide +kernel) rfl)
theorem fw_X8_141 : FW "BroadseamLoft" 141 8 5 (.int) false := ⟨RX8, TX8, 14, tyX8, rfl, by decide, (lw_mem 130 (by decide +kernel) rfl), inA8, tyX8_ok, nmX8, rfl, rfl, by decide⟩
theorem cw_X8_151 : CWm "BroadseamLoft" 151 yX7_strengthNow cX7_strengthNow 1 (Option.some Jvm.ClassFile.FieldType.long) 0 := ⟨(lw_mem 440 (by decide +kernel) rfl), (lw_mem 47 (by decide +kernel) rfl), (lw_mem 443 (by decide +kernel) rfl), by decide +kernel, by decide +kernel, by decide +kernel⟩
theorem cw_X8_152 : CWm "BroadseamLoft" 152 yX8_spreadLoadFrom cX8_spreadLoadFrom 7 (Option.none : Option Jvm.ClassFile.FieldType) 1 := ⟨(lw_mem 456 (by decide +kernel) rfl), (lw_mem 33 (by decide +kernel) rfl), (lw_mem 459 (by decide +kernel) rfl), by decide +kernel, by decide +kernel, by decide +kernel⟩
theorem im_yX8_spreadLoadFrom : Cond.instanceMethod yX8_spreadLoadFrom ∈ lw_all := (lw_mem 458 (by decide +kernel) rfl)
theorem se_yX8_spreadLoadFrom : Cond.selects yX8_spreadLoadFrom.cls yX8_spreadLoadFrom yX8_spreadLoadFrom ∈ lw_all := lw_mem 3 rfl rfl
theorem fl_X8_156 : FL "BroadseamLoft" 156 4 3 := ⟨RX4, TX4, 5, rfl, by decide, (lw_mem 354 (by decide +kernel) rfl), inA4⟩
theorem cw_X8_160 : CWm "BroadseamLoft" 160 yX8_joinUntilTogether cX8_joinUntilTogether 5 (Option.some Jvm.ClassFile.FieldType.long) 2 := ⟨(lw_mem 475 (by decide +kernel) rfl), (lw_mem 33 (by decide +kernel) rfl), (lw_mem 478 (by decide +kernel) rfl), by decide +kernel, by decide +kernel, by decide +kernel⟩
theorem im_yX8_joinUntilTogether : Cond.instanceMethod yX8_joinUntilTogether ∈ lw_all := (lw_mem 477 (by decide +kernel) rfl)
theorem se_yX8_joinUntilTogether : Cond.selects yX8_joinUntilTogether.cls yX8_joinUntilTogether yX8_joinUntilTogether ∈ lw_all := lw_mem 4 rfl rfl
theorem fw_X8_156 : FW "BroadseamLoft" 156 4 3 (.long) false := ⟨RX4, TX4, 5, tyX4, rfl, by decide, (lw_mem 354 (by decide +kernel) rfl), inA4, tyX4_ok, nmX4, rfl, rfl, by decide⟩
theorem cw_X8_164 : CWm "BroadseamLoft" 164 yX7_passOnLoad cX7_passOnLoad 3 (Option.none : Option Jvm.ClassFile.FieldType) 0 := ⟨(lw_mem 460 (by decide +kernel) rfl), (lw_mem 47 (by decide +kernel) rfl), (lw_mem 463 (by decide +kernel) rfl), by decide +kernel, by decide +kernel, by decide +kernel⟩
theorem im_yX7_passOnLoad : Cond.instanceMethod yX7_passOnLoad ∈ lw_all := (lw_mem 461 (by decide +kernel) rfl)
theorem se_yX7_passOnLoad : Cond.selects yX7_passOnLoad.cls yX7_passOnLoad yX7_passOnLoad ∈ lw_all := (lw_mem 462 (by decide +kernel) rfl)
theorem fw_X8_167 : FW "BroadseamLoft" 167 4 4 (.int) false := ⟨RX4, TX4, 5, tyX4, rfl, by decide, (lw_mem 355 (by decide +kernel) rfl), inA4, tyX4_ok, nmX4, rfl, rfl, by decide⟩
theorem cw_X8_170 : CWm "BroadseamLoft" 170 yX8_strongestBetweenGroups cX8_strongestBetweenGroups 6 (Option.some (Jvm.ClassFile.FieldType.object "BroadseamLoft$Seam")) 0 := ⟨(lw_mem 479 (by decide +kernel) rfl), (lw_mem 33 (by decide +kernel) rfl), (lw_mem 482 (by decide +kernel) rfl), by decide +kernel, by decide +kernel, by decide +kernel⟩
theorem im_yX8_strongestBetweenGroups : Cond.instanceMethod yX8_strongestBetweenGroups ∈ lw_all := (lw_mem 481 (by decide +kernel) rfl)
theorem se_yX8_strongestBetweenGroups : Cond.selects yX8_strongestBetweenGroups.cls yX8_strongestBetweenGroups yX8_strongestBetweenGroups ∈ lw_all := lw_mem 5 rfl rfl
theorem fl_X8_174 : FL "BroadseamLoft" 174 7 1 := ⟨RX7, TX7, 3, rfl, by decide, (lw_mem 423 (by decide +kernel) rfl), inA7⟩
theorem fl_X8_167 : FL "BroadseamLoft" 167 4 4 := ⟨RX4, TX4, 5, rfl, by decide, (lw_mem 355 (by decide +kernel) rfl), inA4⟩
theorem fl_X8_178 : FL "BroadseamLoft" 178 7 0 := ⟨RX7, TX7, 3, rfl, by decide, (lw_mem 421 (by decide +kernel) rfl), inA7⟩
theorem cw_X8_181 : CWm "BroadseamLoft" 181 yX8_moveGroup cX8_moveGroup 7 (Option.none : Option Jvm.ClassFile.FieldType) 2 := ⟨(lw_mem 483 (by decide +kernel) rfl), (lw_mem 33 (by decide +kernel) rfl), (lw_mem 486 (by decide +kernel) rfl), by decide +kernel, by decide +kernel, by decide +kernel⟩
theorem im_yX8_moveGroup : Cond.instanceMethod yX8_moveGroup ∈ lw_all := (lw_mem 485 (by decide +kernel) rfl)
theorem se_yX8_moveGroup : Cond.selects yX8_moveGroup.cls yX8_moveGroup yX8_moveGroup ∈ lw_all := lw_mem 6 rfl rfl
theorem k_X8_185 : Cond.constantLong "BroadseamLoft" 185 (35) ∈ lw_all := (lw_mem 494 (by decide +kernel) rfl)
theorem k_X8_189 : Cond.constantLong "BroadseamLoft" 189 (-10000) ∈ lw_all := (lw_mem 496 (by decide +kernel) rfl)
theorem fl_X8_30 : FL "BroadseamLoft" 30 8 6 := ⟨RX8, TX8, 14, rfl, by decide, (lw_mem 131 (by decide +kernel) rfl), inA8⟩
theorem fl_X8_193 : FL "BroadseamLoft" 193 3 0 := ⟨RX3, TX3, 4, rfl, by decide, (lw_mem 72 (by decide +kernel) rfl), inA3⟩
theorem fl_X8_197 : FL "BroadseamLoft" 197 3 2 := ⟨RX3, TX3, 4, rfl, by decide, (lw_mem 75 (by decide +kernel) rfl), inA3⟩
theorem k_X8_201 : Cond.constantLong "BroadseamLoft" 201 (100) ∈ lw_all := (lw_mem 505 (by decide +kernel) rfl)
theorem fl_X8_205 : FL "BroadseamLoft" 205 3 3 := ⟨RX3, TX3, 4, rfl, by decide, (lw_mem 77 (by decide +kernel) rfl), inA3⟩
theorem fw_X8_205 : FW "BroadseamLoft" 205 3 3 (.int) false := ⟨RX3, TX3, 4, tyX3, rfl, by decide, (lw_mem 77 (by decide +kernel) rfl), inA3, tyX3_ok, nmX3, rfl, rfl, by decide⟩
theorem k_X8_208 : Cond.constantLong "BroadseamLoft" 208 (50) ∈ lw_all := (lw_mem 514 (by decide +kernel) rfl)
theorem cw_X8_212 : CWm "BroadseamLoft" 212 yX3_stepMoves cX3_stepMoves 3 (Option.some Jvm.ClassFile.FieldType.boolean) 0 := ⟨(lw_mem 516 (by decide +kernel) rfl), (lw_mem 34 (by decide +kernel) rfl), (lw_mem 519 (by decide +kernel) rfl), by decide +kernel, by decide +kernel, by decide +kernel⟩
theorem im_yX3_stepMoves : Cond.instanceMethod yX3_stepMoves ∈ lw_all := (lw_mem 517 (by decide +kernel) rfl)
theorem se_yX3_stepMoves : Cond.selects yX3_stepMoves.cls yX3_stepMoves yX3_stepMoves ∈ lw_all := (lw_mem 518 (by decide +kernel) rfl)
theorem k_X8_216 : Cond.constantLong "BroadseamLoft" 216 (4000000000000) ∈ lw_all := (lw_mem 548 (by decide +kernel) rfl)
theorem fl_X8_220 : FL "BroadseamLoft" 220 8 8 := ⟨RX8, TX8, 14, rfl, by decide, (lw_mem 133 (by decide +kernel) rfl), inA8⟩
theorem fl_X8_36 : FL "BroadseamLoft" 36 8 7 := ⟨RX8, TX8, 14, rfl, by decide, (lw_mem 132 (by decide +kernel) rfl), inA8⟩
theorem nw_X8_34 : NW "BroadseamLoft" 34 5 := ⟨RX5, TX5, 4, tyX5, rfl, rfl, inA5, tyX5_ok, by decide +kernel, (lw_mem 89 (by decide +kernel) rfl), (lw_mem 551 (by decide +kernel) rfl), (lw_mem 49 (by decide +kernel) rfl)⟩
theorem cw_X8_225 : CWm "BroadseamLoft" 225 yX5_init cX5_init 4 (Option.none : Option Jvm.ClassFile.FieldType) 2 := ⟨(lw_mem 552 (by decide +kernel) rfl), (lw_mem 49 (by decide +kernel) rfl), (lw_mem 554 (by decide +kernel) rfl), by decide +kernel, by decide +kernel, by decide +kernel⟩
theorem im_yX5_init : Cond.instanceMethod yX5_init ∈ lw_all := (lw_mem 553 (by decide +kernel) rfl)
theorem fw_X8_220 : FW "BroadseamLoft" 220 8 8 (.int) false := ⟨RX8, TX8, 14, tyX8, rfl, by decide, (lw_mem 133 (by decide +kernel) rfl), inA8, tyX8_ok, nmX8, rfl, rfl, by decide⟩
theorem k_X8_228 : Cond.constantLong "BroadseamLoft" 228 (40000000000000) ∈ lw_all := (lw_mem 579 (by decide +kernel) rfl)
theorem cw_X8_232 : CWm "BroadseamLoft" 232 yX8_shareForce cX8_shareForce 12 (Option.none : Option Jvm.ClassFile.FieldType) 1 := ⟨(lw_mem 581 (by decide +kernel) rfl), (lw_mem 33 (by decide +kernel) rfl), (lw_mem 584 (by decide +kernel) rfl), by decide +kernel, by decide +kernel, by decide +kernel⟩
theorem im_yX8_shareForce : Cond.instanceMethod yX8_shareForce ∈ lw_all := (lw_mem 583 (by decide +kernel) rfl)
theorem se_yX8_shareForce : Cond.selects yX8_shareForce.cls yX8_shareForce yX8_shareForce ∈ lw_all := lw_mem 7 rfl rfl
theorem cw_X8_236 : CWm "BroadseamLoft" 236 yX8_takeOutOverpulled cX8_takeOutOverpulled 6 (Option.some Jvm.ClassFile.FieldType.int) 0 := ⟨(lw_mem 589 (by decide +kernel) rfl), (lw_mem 33 (by decide +kernel) rfl), (lw_mem 592 (by decide +kernel) rfl), by decide +kernel, by decide +kernel, by decide +kernel⟩
theorem im_yX8_takeOutOverpulled : Cond.instanceMethod yX8_takeOutOverpulled ∈ lw_all := (lw_mem 591 (by decide +kernel) rfl)
theorem se_yX8_takeOutOverpulled : Cond.selects yX8_takeOutOverpulled.cls yX8_takeOutOverpulled yX8_takeOutOverpulled ∈ lw_all := lw_mem 9 rfl rfl
theorem fl_X8_241 : FL "BroadseamLoft" 241 5 3 := ⟨RX5, TX5, 4, rfl, by decide, (lw_mem 562 (by decide +kernel) rfl), inA5⟩
theorem fl_X8_244 : FL "BroadseamLoft" 244 5 2 := ⟨RX5, TX5, 4, rfl, by decide, (lw_mem 561 (by decide +kernel) rfl), inA5⟩
theorem cw_X8_248 : CWm "BroadseamLoft" 248 yX8_stiffnessTogether cX8_stiffnessTogether 7 (Option.some Jvm.ClassFile.FieldType.long) 0 := ⟨(lw_mem 585 (by decide +kernel) rfl), (lw_mem 33 (by decide +kernel) rfl), (lw_mem 588 (by decide +kernel) rfl), by decide +kernel, by decide +kernel, by decide +kernel⟩
theorem im_yX8_stiffnessTogether : Cond.instanceMethod yX8_stiffnessTogether ∈ lw_all := (lw_mem 587 (by decide +kernel) rfl)
theorem se_yX8_stiffnessTogether : Cond.selects yX8_stiffnessTogether.cls yX8_stiffnessTogether yX8_stiffnessTogether ∈ lw_all := lw_mem 8 rfl rfl
theorem fl_X8_251 : FL "BroadseamLoft" 251 5 1 := ⟨RX5, TX5, 4, rfl, by decide, (lw_mem 559 (by decide +kernel) rfl), inA5⟩
theorem fw_X8_241 : FW "BroadseamLoft" 241 5 3 (.long) false := ⟨RX5, TX5, 4, tyX5, rfl, by decide, (lw_mem 562 (by decide +kernel) rfl), inA5, tyX5_ok, nmX5, rfl, rfl, by decide⟩
theorem fl_X8_254 : FL "BroadseamLoft" 254 5 0 := ⟨RX5, TX5, 4, rfl, by decide, (lw_mem 557 (by decide +kernel) rfl), inA5⟩
theorem fw_X8_244 : FW "BroadseamLoft" 244 5 2 (.boolean) false := ⟨RX5, TX5, 4, tyX5, rfl, by decide, (lw_mem 561 (by decide +kernel) rfl), inA5, tyX5_ok, nmX5, rfl, rfl, by decide⟩
theorem k_X8_257 : Cond.constantLong "BroadseamLoft" 257 (3) ∈ lw_all := (lw_mem 608 (by decide +kernel) rfl)
theorem fl_X8_43 : FL "BroadseamLoft" 43 8 9 := ⟨RX8, TX8, 14, rfl, by decide, (lw_mem 134 (by decide +kernel) rfl), inA8⟩
theorem fw_X8_261 : FW "BroadseamLoft" 261 6 0 (.int) false := ⟨RX6, TX6, 3, tyX6, rfl, by decide, (lw_mem 97 (by decide +kernel) rfl), inA6, tyX6_ok, nmX6, rfl, rfl, by decide⟩
theorem fw_X8_264 : FW "BroadseamLoft" 264 6 1 (.int) false := ⟨RX6, TX6, 3, tyX6, rfl, by decide, (lw_mem 99 (by decide +kernel) rfl), inA6, tyX6_ok, nmX6, rfl, rfl, by decide⟩
theorem fw_X8_267 : FW "BroadseamLoft" 267 6 2 (.int) false := ⟨RX6, TX6, 3, tyX6, rfl, by decide, (lw_mem 101 (by decide +kernel) rfl), inA6, tyX6_ok, nmX6, rfl, rfl, by decide⟩
theorem cw_X8_270 : CWm "BroadseamLoft" 270 yX6_draftWith cX6_draftWith 2 (Option.some Jvm.ClassFile.FieldType.float) 1 := ⟨(lw_mem 610 (by decide +kernel) rfl), (lw_mem 35 (by decide +kernel) rfl), (lw_mem 613 (by decide +kernel) rfl), by decide +kernel, by decide +kernel, by decide +kernel⟩
theorem fl_X8_261 : FL "BroadseamLoft" 261 6 0 := ⟨RX6, TX6, 3, rfl, by decide, (lw_mem 97 (by decide +kernel) rfl), inA6⟩
theorem cw_X8_276 : CWm "BroadseamLoft" 276 yX6_powerWith cX6_powerWith 4 (Option.some Jvm.ClassFile.FieldType.float) 2 := ⟨(lw_mem 625 (by decide +kernel) rfl), (lw_mem 35 (by decide +kernel) rfl), (lw_mem 628 (by decide +kernel) rfl), by decide +kernel, by decide +kernel, by decide +kernel⟩
theorem im_yX6_powerWith : Cond.instanceMethod yX6_powerWith ∈ lw_all := (lw_mem 626 (by decide +kernel) rfl)
theorem se_yX6_powerWith : Cond.selects yX6_powerWith.cls yX6_powerWith yX6_powerWith ∈ lw_all := (lw_mem 627 (by decide +kernel) rfl)
theorem k_X8_280 : Cond.constantLong "BroadseamLoft" 280 (100000) ∈ lw_all := (lw_mem 638 (by decide +kernel) rfl)
theorem k_X8_284 : Cond.constantLong "BroadseamLoft" 284 (400) ∈ lw_all := (lw_mem 647 (by decide +kernel) rfl)
theorem fl_X8_288 : FL "BroadseamLoft" 288 8 13 := ⟨RX8, TX8, 14, rfl, by decide, (lw_mem 138 (by decide +kernel) rfl), inA8⟩
theorem k_X8_291 : Cond.constant "BroadseamLoft" 291 (100000) ∈ lw_all := (lw_mem 649 (by decide +kernel) rfl)
theorem fw_X8_288 : FW "BroadseamLoft" 288 8 13 (.int) false := ⟨RX8, TX8, 14, tyX8, rfl, by decide, (lw_mem 138 (by decide +kernel) rfl), inA8, tyX8_ok, nmX8, rfl, rfl, by decide⟩
theorem fl_X8_294 : FL "BroadseamLoft" 294 8 11 := ⟨RX8, TX8, 14, rfl, by decide, (lw_mem 136 (by decide +kernel) rfl), inA8⟩
theorem fl_X8_49 : FL "BroadseamLoft" 49 8 10 := ⟨RX8, TX8, 14, rfl, by decide, (lw_mem 135 (by decide +kernel) rfl), inA8⟩
theorem nw_X8_47 : NW "BroadseamLoft" 47 0 := ⟨RX0, TX0, 10, tyX0, rfl, rfl, inA0, tyX0_ok, by decide +kernel, (lw_mem 109 (by decide +kernel) rfl), (lw_mem 659 (by decide +kernel) rfl), (lw_mem 50 (by decide +kernel) rfl)⟩
theorem cw_X8_299 : CWm "BroadseamLoft" 299 yX0_init cX0_init 3 (Option.none : Option Jvm.ClassFile.FieldType) 2 := ⟨(lw_mem 660 (by decide +kernel) rfl), (lw_mem 50 (by decide +kernel) rfl), (lw_mem 662 (by decide +kernel) rfl), by decide +kernel, by decide +kernel, by decide +kernel⟩
theorem im_yX0_init : Cond.instanceMethod yX0_init ∈ lw_all := (lw_mem 661 (by decide +kernel) rfl)
theorem fw_X8_294 : FW "BroadseamLoft" 294 8 11 (.int) false := ⟨RX8, TX8, 14, tyX8, rfl, by decide, (lw_mem 136 (by decide +kernel) rfl), inA8, tyX8_ok, nmX8, rfl, rfl, by decide⟩
theorem cw_X8_302 : CWm "BroadseamLoft" 302 yX8_canopyAt cX8_canopyAt 2 (Option.some (Jvm.ClassFile.FieldType.object "BroadseamLoft$Canopy")) 1 := ⟨(lw_mem 712 (by decide +kernel) rfl), (lw_mem 33 (by decide +kernel) rfl), (lw_mem 715 (by decide +kernel) rfl), by decide +kernel, by decide +kernel, by decide +kernel⟩
theorem im_yX8_canopyAt : Cond.instanceMethod yX8_canopyAt ∈ lw_all := (lw_mem 714 (by decide +kernel) rfl)
theorem se_yX8_canopyAt : Cond.selects yX8_canopyAt.cls yX8_canopyAt yX8_canopyAt ∈ lw_all := lw_mem 10 rfl rfl
theorem k_X8_308 : Cond.constantLong "BroadseamLoft" 308 (255) ∈ lw_all := (lw_mem 717 (by decide +kernel) rfl)
theorem fl_X8_312 : FL "BroadseamLoft" 312 0 3 := ⟨RX0, TX0, 10, rfl, by decide, (lw_mem 671 (by decide +kernel) rfl), inA0⟩
theorem fl_X8_315 : FL "BroadseamLoft" 315 0 2 := ⟨RX0, TX0, 10, rfl, by decide, (lw_mem 669 (by decide +kernel) rfl), inA0⟩
theorem cw_X8_318 : CWm "BroadseamLoft" 318 yX0_isSealed cX0_isSealed 1 (Option.some Jvm.ClassFile.FieldType.boolean) 0 := ⟨(lw_mem 719 (by decide +kernel) rfl), (lw_mem 50 (by decide +kernel) rfl), (lw_mem 722 (by decide +kernel) rfl), by decide +kernel, by decide +kernel, by decide +kernel⟩
theorem fw_X8_312 : FW "BroadseamLoft" 312 0 3 (.int) false := ⟨RX0, TX0, 10, tyX0, rfl, by decide, (lw_mem 671 (by decide +kernel) rfl), inA0, tyX0_ok, nmX0, rfl, rfl, by decide⟩
theorem cw_X8_323 : CWm "BroadseamLoft" 323 yX0_roundsToOpen cX0_roundsToOpen 3 (Option.some Jvm.ClassFile.FieldType.int) 0 := ⟨(lw_mem 731 (by decide +kernel) rfl), (lw_mem 50 (by decide +kernel) rfl), (lw_mem 734 (by decide +kernel) rfl), by decide +kernel, by decide +kernel, by decide +kernel⟩
theorem k_X8_326 : Cond.constantLong "BroadseamLoft" 326 (4) ∈ lw_all := (lw_mem 746 (by decide +kernel) rfl)
theorem cw_X8_330 : CWm "BroadseamLoft" 330 yX0_isReadyToSeal cX0_isReadyToSeal 1 (Option.some Jvm.ClassFile.FieldType.boolean) 0 := ⟨(lw_mem 748 (by decide +kernel) rfl), (lw_mem 50 (by decide +kernel) rfl), (lw_mem 751 (by decide +kernel) rfl), by decide +kernel, by decide +kernel, by decide +kernel⟩
theorem im_yX0_isReadyToSeal : Cond.instanceMethod yX0_isReadyToSeal ∈ lw_all := (lw_mem 749 (by decide +kernel) rfl)
theorem se_yX0_isReadyToSeal : Cond.selects yX0_isReadyToSeal.cls yX0_isReadyToSeal yX0_isReadyToSeal ∈ lw_all := (lw_mem 750 (by decide +kernel) rfl)
theorem fw_X8_335 : FW "BroadseamLoft" 335 0 4 (.int) false := ⟨RX0, TX0, 10, tyX0, rfl, by decide, (lw_mem 673 (by decide +kernel) rfl), inA0, tyX0_ok, nmX0, rfl, rfl, by decide⟩
theorem fw_X8_338 : FW "BroadseamLoft" 338 0 5 (.int) false := ⟨RX0, TX0, 10, tyX0, rfl, by decide, (lw_mem 675 (by decide +kernel) rfl), inA0, tyX0_ok, nmX0, rfl, rfl, by decide⟩
theorem fl_X8_341 : FL "BroadseamLoft" 341 0 6 := ⟨RX0, TX0, 10, rfl, by decide, (lw_mem 677 (by decide +kernel) rfl), inA0⟩
theorem fw_X8_341 : FW "BroadseamLoft" 341 0 6 (.int) false := ⟨RX0, TX0, 10, tyX0, rfl, by decide, (lw_mem 677 (by decide +kernel) rfl), inA0, tyX0_ok, nmX0, rfl, rfl, by decide⟩
theorem fl_X8_56 : FL "BroadseamLoft" 56 8 12 := ⟨RX8, TX8, 14, rfl, by decide, (lw_mem 137 (by decide +kernel) rfl), inA8⟩
theorem cw_X8_344 : CWm "BroadseamLoft" 344 yX1_note cX1_note 3 (Option.none : Option Jvm.ClassFile.FieldType) 2 := ⟨(lw_mem 755 (by decide +kernel) rfl), (lw_mem 36 (by decide +kernel) rfl), (lw_mem 758 (by decide +kernel) rfl), by decide +kernel, by decide +kernel, by decide +kernel⟩
theorem im_yX1_note : Cond.instanceMethod yX1_note ∈ lw_all := (lw_mem 756 (by decide +kernel) rfl)
theorem se_yX1_note : Cond.selects yX1_note.cls yX1_note yX1_note ∈ lw_all := (lw_mem 757 (by decide +kernel) rfl)
theorem fl_X8_338 : FL "BroadseamLoft" 338 0 5 := ⟨RX0, TX0, 10, rfl, by decide, (lw_mem 675 (by decide +kernel) rfl), inA0⟩
theorem fl_X8_347 : FL "BroadseamLoft" 347 0 0 := ⟨RX0, TX0, 10, rfl, by decide, (lw_mem 665 (by decide +kernel) rfl), inA0⟩
theorem fl_X8_351 : FL "BroadseamLoft" 351 2 4 := ⟨RX2, TX2, 8, rfl, by decide, (lw_mem 279 (by decide +kernel) rfl), inA2⟩
theorem fl_X8_335 : FL "BroadseamLoft" 335 0 4 := ⟨RX0, TX0, 10, rfl, by decide, (lw_mem 673 (by decide +kernel) rfl), inA0⟩
theorem cw_X8_356 : CWm "BroadseamLoft" 356 yX0_loseSeal cX0_loseSeal 1 (Option.none : Option Jvm.ClassFile.FieldType) 0 := ⟨(lw_mem 767 (by decide +kernel) rfl), (lw_mem 50 (by decide +kernel) rfl), (lw_mem 770 (by decide +kernel) rfl), by decide +kernel, by decide +kernel, by decide +kernel⟩
theorem im_yX0_loseSeal : Cond.instanceMethod yX0_loseSeal ∈ lw_all := (lw_mem 768 (by decide +kernel) rfl)
theorem se_yX0_loseSeal : Cond.selects yX0_loseSeal.cls yX0_loseSeal yX0_loseSeal ∈ lw_all := (lw_mem 769 (by decide +kernel) rfl)
theorem fl_X8_359 : FL "BroadseamLoft" 359 0 7 := ⟨RX0, TX0, 10, rfl, by decide, (lw_mem 679 (by decide +kernel) rfl), inA0⟩
theorem fw_X8_359 : FW "BroadseamLoft" 359 0 7 (.int) false := ⟨RX0, TX0, 10, tyX0, rfl, by decide, (lw_mem 679 (by decide +kernel) rfl), inA0, tyX0_ok, nmX0, rfl, rfl, by decide⟩
theorem fw_X8_364 : FW "BroadseamLoft" 364 0 9 (.int) false := ⟨RX0, TX0, 10, tyX0, rfl, by decide, (lw_mem 683 (by decide +kernel) rfl), inA0, tyX0_ok, nmX0, rfl, rfl, by decide⟩
theorem fl_X8_364 : FL "BroadseamLoft" 364 0 9 := ⟨RX0, TX0, 10, rfl, by decide, (lw_mem 683 (by decide +kernel) rfl), inA0⟩
theorem fl_X8_367 : FL "BroadseamLoft" 367 0 8 := ⟨RX0, TX0, 10, rfl, by decide, (lw_mem 681 (by decide +kernel) rfl), inA0⟩
theorem fw_X8_367 : FW "BroadseamLoft" 367 0 8 (.int) false := ⟨RX0, TX0, 10, tyX0, rfl, by decide, (lw_mem 681 (by decide +kernel) rfl), inA0, tyX0_ok, nmX0, rfl, rfl, by decide⟩
theorem fw_X8_351 : FW "BroadseamLoft" 351 2 4 (.boolean) false := ⟨RX2, TX2, 8, tyX2, rfl, by decide, (lw_mem 279 (by decide +kernel) rfl), inA2, tyX2_ok, nmX2, rfl, rfl, by decide⟩
theorem cw_X8_372 : CWm "BroadseamLoft" 372 yX8_takeSealsAway cX8_takeSealsAway 7 (Option.some Jvm.ClassFile.FieldType.int) 1 := ⟨(lw_mem 787 (by decide +kernel) rfl), (lw_mem 33 (by decide +kernel) rfl), (lw_mem 790 (by decide +kernel) rfl), by decide +kernel, by decide +kernel, by decide +kernel⟩
theorem im_yX8_takeSealsAway : Cond.instanceMethod yX8_takeSealsAway ∈ lw_all := (lw_mem 789 (by decide +kernel) rfl)
theorem se_yX8_takeSealsAway : Cond.selects yX8_takeSealsAway.cls yX8_takeSealsAway yX8_takeSealsAway ∈ lw_all := lw_mem 11 rfl rfl
theorem k_X8_376 : Cond.constantLong "BroadseamLoft" 376 (5) ∈ lw_all := (lw_mem 798 (by decide +kernel) rfl)
theorem cw_X8_380 : CWm "BroadseamLoft" 380 yX0_numberOf cX0_numberOf 2 (Option.some Jvm.ClassFile.FieldType.int) 1 := ⟨(lw_mem 800 (by decide +kernel) rfl), (lw_mem 50 (by decide +kernel) rfl), (lw_mem 803 (by decide +kernel) rfl), by decide +kernel, by decide +kernel, by decide +kernel⟩
theorem im_yX0_numberOf : Cond.instanceMethod yX0_numberOf ∈ lw_all := (lw_mem 801 (by decide +kernel) rfl)
theorem se_yX0_numberOf : Cond.selects yX0_numberOf.cls yX0_numberOf yX0_numberOf ∈ lw_all := (lw_mem 802 (by decide +kernel) rfl)
theorem cw_X8_383 : CWm "BroadseamLoft" 383 yX1_timesNoted cX1_timesNoted 5 (Option.some Jvm.ClassFile.FieldType.int) 2 := ⟨(lw_mem 811 (by decide +kernel) rfl), (lw_mem 36 (by decide +kernel) rfl), (lw_mem 814 (by decide +kernel) rfl), by decide +kernel, by decide +kernel, by decide +kernel⟩
theorem im_yX1_timesNoted : Cond.instanceMethod yX1_timesNoted ∈ lw_all := (lw_mem 812 (by decide +kernel) rfl)
theorem se_yX1_timesNoted : Cond.selects yX1_timesNoted.cls yX1_timesNoted yX1_timesNoted ∈ lw_all := (lw_mem 813 (by decide +kernel) rfl)
theorem fl_X8_386 : FL "BroadseamLoft" 386 0 1 := ⟨RX0, TX0, 10, rfl, by decide, (lw_mem 667 (by decide +kernel) rfl), inA0⟩
theorem fw_X9_7 : FW "BroadseamLoftModel" 7 9 1 (.array .int) true := ⟨RX9, TX9, 39, tyX9, rfl, by decide, (lw_mem 822 (by decide +kernel) rfl), inA9, tyX9_ok, nmX9, rfl, rfl, fun _ => rfl⟩
theorem fw_X9_13 : FW "BroadseamLoftModel" 13 9 2 (.array .int) true := ⟨RX9, TX9, 39, tyX9, rfl, by decide, (lw_mem 823 (by decide +kernel) rfl), inA9, tyX9_ok, nmX9, rfl, rfl, fun _ => rfl⟩
theorem fw_X9_16 : FW "BroadseamLoftModel" 16 9 3 (.array .boolean) true := ⟨RX9, TX9, 39, tyX9, rfl, by decide, (lw_mem 824 (by decide +kernel) rfl), inA9, tyX9_ok, nmX9, rfl, rfl, fun _ => rfl⟩
theorem fw_X9_20 : FW "BroadseamLoftModel" 20 9 5 (.array .int) true := ⟨RX9, TX9, 39, tyX9, rfl, by decide, (lw_mem 826 (by decide +kernel) rfl), inA9, tyX9_ok, nmX9, rfl, rfl, fun _ => rfl⟩
theorem fw_X9_23 : FW "BroadseamLoftModel" 23 9 6 (.array .int) true := ⟨RX9, TX9, 39, tyX9, rfl, by decide, (lw_mem 827 (by decide +kernel) rfl), inA9, tyX9_ok, nmX9, rfl, rfl, fun _ => rfl⟩
theorem fw_X9_26 : FW "BroadseamLoftModel" 26 9 7 (.array .int) true := ⟨RX9, TX9, 39, tyX9, rfl, by decide, (lw_mem 828 (by decide +kernel) rfl), inA9, tyX9_ok, nmX9, rfl, rfl, fun _ => rfl⟩
theorem fw_X9_29 : FW "BroadseamLoftModel" 29 9 8 (.array .int) true := ⟨RX9, TX9, 39, tyX9, rfl, by decide, (lw_mem 829 (by decide +kernel) rfl), inA9, tyX9_ok, nmX9, rfl, rfl, fun _ => rfl⟩
theorem fw_X9_32 : FW "BroadseamLoftModel" 32 9 10 (.array .int) true := ⟨RX9, TX9, 39, tyX9, rfl, by decide, (lw_mem 831 (by decide +kernel) rfl), inA9, tyX9_ok, nmX9, rfl, rfl, fun _ => rfl⟩
theorem fw_X9_35 : FW "BroadseamLoftModel" 35 9 11 (.array .int) true := ⟨RX9, TX9, 39, tyX9, rfl, by decide, (lw_mem 832 (by decide +kernel) rfl), inA9, tyX9_ok, nmX9, rfl, rfl, fun _ => rfl⟩
theorem fw_X9_38 : FW "BroadseamLoftModel" 38 9 12 (.array .int) true := ⟨RX9, TX9, 39, tyX9, rfl, by decide, (lw_mem 833 (by decide +kernel) rfl), inA9, tyX9_ok, nmX9, rfl, rfl, fun _ => rfl⟩
theorem fw_X9_41 : FW "BroadseamLoftModel" 41 9 13 (.array .boolean) true := ⟨RX9, TX9, 39, tyX9, rfl, by decide, (lw_mem 834 (by decide +kernel) rfl), inA9, tyX9_ok, nmX9, rfl, rfl, fun _ => rfl⟩
theorem fw_X9_44 : FW "BroadseamLoftModel" 44 9 14 (.array .long) true := ⟨RX9, TX9, 39, tyX9, rfl, by decide, (lw_mem 835 (by decide +kernel) rfl), inA9, tyX9_ok, nmX9, rfl, rfl, fun _ => rfl⟩
theorem fw_X9_48 : FW "BroadseamLoftModel" 48 9 15 (.array .int) true := ⟨RX9, TX9, 39, tyX9, rfl, by decide, (lw_mem 836 (by decide +kernel) rfl), inA9, tyX9_ok, nmX9, rfl, rfl, fun _ => rfl⟩
theorem fw_X9_51 : FW "BroadseamLoftModel" 51 9 16 (.array .int) true := ⟨RX9, TX9, 39, tyX9, rfl, by decide, (lw_mem 837 (by decide +kernel) rfl), inA9, tyX9_ok, nmX9, rfl, rfl, fun _ => rfl⟩
theorem fw_X9_54 : FW "BroadseamLoftModel" 54 9 17 (.array .boolean) true := ⟨RX9, TX9, 39, tyX9, rfl, by decide, (lw_mem 838 (by decide +kernel) rfl), inA9, tyX9_ok, nmX9, rfl, rfl, fun _ => rfl⟩
theorem fw_X9_57 : FW "BroadseamLoftModel" 57 9 20 (.array .long) true := ⟨RX9, TX9, 39, tyX9, rfl, by decide, (lw_mem 841 (by decide +kernel) rfl), inA9, tyX9_ok, nmX9, rfl, rfl, fun _ => rfl⟩
theorem fw_X9_60 : FW "BroadseamLoftModel" 60 9 21 (.array .int) true := ⟨RX9, TX9, 39, tyX9, rfl, by decide, (lw_mem 842 (by decide +kernel) rfl), inA9, tyX9_ok, nmX9, rfl, rfl, fun _ => rfl⟩
theorem fw_X9_63 : FW "BroadseamLoftModel" 63 9 22 (.array .boolean) true := ⟨RX9, TX9, 39, tyX9, rfl, by decide, (lw_mem 843 (by decide +kernel) rfl), inA9, tyX9_ok, nmX9, rfl, rfl, fun _ => rfl⟩
theorem fw_X9_66 : FW "BroadseamLoftModel" 66 9 23 (.array .long) true := ⟨RX9, TX9, 39, tyX9, rfl, by decide, (lw_mem 844 (by decide +kernel) rfl), inA9, tyX9_ok, nmX9, rfl, rfl, fun _ => rfl⟩
theorem fw_X9_69 : FW "BroadseamLoftModel" 69 9 29 (.array .int) true := ⟨RX9, TX9, 39, tyX9, rfl, by decide, (lw_mem 850 (by decide +kernel) rfl), inA9, tyX9_ok, nmX9, rfl, rfl, fun _ => rfl⟩
theorem fw_X9_72 : FW "BroadseamLoftModel" 72 9 30 (.array .int) true := ⟨RX9, TX9, 39, tyX9, rfl, by decide, (lw_mem 851 (by decide +kernel) rfl), inA9, tyX9_ok, nmX9, rfl, rfl, fun _ => rfl⟩
theorem fw_X9_75 : FW "BroadseamLoftModel" 75 9 31 (.array .int) true := ⟨RX9, TX9, 39, tyX9, rfl, by decide, (lw_mem 852 (by decide +kernel) rfl), inA9, tyX9_ok, nmX9, rfl, rfl, fun _ => rfl⟩
theorem fw_X9_78 : FW "BroadseamLoftModel" 78 9 32 (.array .int) true := ⟨RX9, TX9, 39, tyX9, rfl, by decide, (lw_mem 853 (by decide +kernel) rfl), inA9, tyX9_ok, nmX9, rfl, rfl, fun _ => rfl⟩
theorem fw_X9_81 : FW "BroadseamLoftModel" 81 9 33 (.array .int) true := ⟨RX9, TX9, 39, tyX9, rfl, by decide, (lw_mem 854 (by decide +kernel) rfl), inA9, tyX9_ok, nmX9, rfl, rfl, fun _ => rfl⟩
theorem fw_X9_84 : FW "BroadseamLoftModel" 84 9 34 (.array .int) true := ⟨RX9, TX9, 39, tyX9, rfl, by decide, (lw_mem 855 (by decide +kernel) rfl), inA9, tyX9_ok, nmX9, rfl, rfl, fun _ => rfl⟩
theorem fw_X9_87 : FW "BroadseamLoftModel" 87 9 35 (.array .int) true := ⟨RX9, TX9, 39, tyX9, rfl, by decide, (lw_mem 856 (by decide +kernel) rfl), inA9, tyX9_ok, nmX9, rfl, rfl, fun _ => rfl⟩
theorem fw_X9_90 : FW "BroadseamLoftModel" 90 9 36 (.array .int) true := ⟨RX9, TX9, 39, tyX9, rfl, by decide, (lw_mem 857 (by decide +kernel) rfl), inA9, tyX9_ok, nmX9, rfl, rfl, fun _ => rfl⟩
theorem fw_X9_93 : FW "BroadseamLoftModel" 93 9 37 (.array .int) true := ⟨RX9, TX9, 39, tyX9, rfl, by decide, (lw_mem 858 (by decide +kernel) rfl), inA9, tyX9_ok, nmX9, rfl, rfl, fun _ => rfl⟩
theorem fl_X9_54 : FL "BroadseamLoftModel" 54 9 17 := ⟨RX9, TX9, 39, rfl, by decide, (lw_mem 838 (by decide +kernel) rfl), inA9⟩
theorem fl_X9_96 : FL "BroadseamLoftModel" 96 9 38 := ⟨RX9, TX9, 39, rfl, by decide, (lw_mem 859 (by decide +kernel) rfl), inA9⟩
theorem fw_X9_96 : FW "BroadseamLoftModel" 96 9 38 (.int) false := ⟨RX9, TX9, 39, tyX9, rfl, by decide, (lw_mem 859 (by decide +kernel) rfl), inA9, tyX9_ok, nmX9, rfl, rfl, by decide⟩
theorem fl_X9_100 : FL "BroadseamLoftModel" 100 9 0 := ⟨RX9, TX9, 39, rfl, by decide, (lw_mem 821 (by decide +kernel) rfl), inA9⟩
theorem cw_X9_103 : CWm "BroadseamLoftModel" 103 yX9_isBetween cX9_isBetween 3 (Option.some Jvm.ClassFile.FieldType.boolean) 3 := ⟨(lw_mem 949 (by decide +kernel) rfl), (lw_mem 37 (by decide +kernel) rfl), (lw_mem 951 (by decide +kernel) rfl), by decide +kernel, by decide +kernel, by decide +kernel⟩
theorem sm_yX9_isBetween : Cond.static yX9_isBetween ∈ lw_all := (lw_mem 950 (by decide +kernel) rfl)
theorem fl_X9_107 : FL "BroadseamLoftModel" 107 9 4 := ⟨RX9, TX9, 39, rfl, by decide, (lw_mem 825 (by decide +kernel) rfl), inA9⟩
theorem k_X9_110 : Cond.constant "BroadseamLoftModel" 110 (2000000000) ∈ lw_all := (lw_mem 948 (by decide +kernel) rfl)
theorem cw_X9_111 : CWm "BroadseamLoftModel" 111 yX9_goes cX9_goes 2 (Option.some Jvm.ClassFile.FieldType.boolean) 1 := ⟨(lw_mem 952 (by decide +kernel) rfl), (lw_mem 37 (by decide +kernel) rfl), (lw_mem 955 (by decide +kernel) rfl), by decide +kernel, by decide +kernel, by decide +kernel⟩
theorem im_yX9_goes : Cond.instanceMethod yX9_goes ∈ lw_all := (lw_mem 954 (by decide +kernel) rfl)
theorem se_yX9_goes : Cond.selects yX9_goes.cls yX9_goes yX9_goes ∈ lw_all := lw_mem 12 rfl rfl
theorem fl_X9_7 : FL "BroadseamLoftModel" 7 9 1 := ⟨RX9, TX9, 39, rfl, by decide, (lw_mem 822 (by decide +kernel) rfl), inA9⟩
theorem fw_X9_100 : FW "BroadseamLoftModel" 100 9 0 (.int) false := ⟨RX9, TX9, 39, tyX9, rfl, by decide, (lw_mem 821 (by decide +kernel) rfl), inA9, tyX9_ok, nmX9, rfl, rfl, by decide⟩
theorem cw_X9_115 : CWm "BroadseamLoftModel" 115 yX9_isLot cX9_isLot 2 (Option.some Jvm.ClassFile.FieldType.boolean) 1 := ⟨(lw_mem 960 (by decide +kernel) rfl), (lw_mem 37 (by decide +kernel) rfl), (lw_mem 963 (by decide +kernel) rfl), by decide +kernel, by decide +kernel, by decide +kernel⟩
theorem im_yX9_isLot : Cond.instanceMethod yX9_isLot ∈ lw_all := (lw_mem 962 (by decide +kernel) rfl)
theorem se_yX9_isLot : Cond.selects yX9_isLot.cls yX9_isLot yX9_isLot ∈ lw_all := lw_mem 13 rfl rfl
theorem fl_X9_13 : FL "BroadseamLoftModel" 13 9 2 := ⟨RX9, TX9, 39, rfl, by decide, (lw_mem 823 (by decide +kernel) rfl), inA9⟩
theorem k_X9_118 : Cond.constant "BroadseamLoftModel" 118 (1000000) ∈ lw_all := (lw_mem 964 (by decide +kernel) rfl)
theorem fl_X9_20 : FL "BroadseamLoftModel" 20 9 5 := ⟨RX9, TX9, 39, rfl, by decide, (lw_mem 826 (by decide +kernel) rfl), inA9⟩
theorem fl_X9_23 : FL "BroadseamLoftModel" 23 9 6 := ⟨RX9, TX9, 39, rfl, by decide, (lw_mem 827 (by decide +kernel) rfl), inA9⟩
theorem fl_X9_26 : FL "BroadseamLoftModel" 26 9 7 := ⟨RX9, TX9, 39, rfl, by decide, (lw_mem 828 (by decide +kernel) rfl), inA9⟩
theorem fl_X9_29 : FL "BroadseamLoftModel" 29 9 8 := ⟨RX9, TX9, 39, rfl, by decide, (lw_mem 829 (by decide +kernel) rfl), inA9⟩
theorem fw_X9_107 : FW "BroadseamLoftModel" 107 9 4 (.int) false := ⟨RX9, TX9, 39, tyX9, rfl, by decide, (lw_mem 825 (by decide +kernel) rfl), inA9, tyX9_ok, nmX9, rfl, rfl, by decide⟩
theorem k_X9_119 : Cond.constantLong "BroadseamLoftModel" 119 (1000) ∈ lw_all := (lw_mem 981 (by decide +kernel) rfl)
theorem cw_X9_121 : CWm "BroadseamLoftModel" 121 yX9_isPanel cX9_isPanel 2 (Option.some Jvm.ClassFile.FieldType.boolean) 1 := ⟨(lw_mem 973 (by decide +kernel) rfl), (lw_mem 37 (by decide +kernel) rfl), (lw_mem 976 (by decide +kernel) rfl), by decide +kernel, by decide +kernel, by decide +kernel⟩
theorem im_yX9_isPanel : Cond.instanceMethod yX9_isPanel ∈ lw_all := (lw_mem 975 (by decide +kernel) rfl)
theorem se_yX9_isPanel : Cond.selects yX9_isPanel.cls yX9_isPanel yX9_isPanel ∈ lw_all := lw_mem 14 rfl rfl
theorem cw_X9_124 : CWm "BroadseamLoftModel" 124 yX9_strengthOf cX9_strengthOf 6 (Option.some Jvm.ClassFile.FieldType.long) 1 := ⟨(lw_mem 977 (by decide +kernel) rfl), (lw_mem 37 (by decide +kernel) rfl), (lw_mem 980 (by decide +kernel) rfl), by decide +kernel, by decide +kernel, by decide +kernel⟩
theorem im_yX9_strengthOf : Cond.instanceMethod yX9_strengthOf ∈ lw_all := (lw_mem 979 (by decide +kernel) rfl)
theorem se_yX9_strengthOf : Cond.selects yX9_strengthOf.cls yX9_strengthOf yX9_strengthOf ∈ lw_all := lw_mem 15 rfl rfl
theorem cw_X9_128 : CWm "BroadseamLoftModel" 128 yX9_across cX9_across 2 (Option.some Jvm.ClassFile.FieldType.int) 1 := ⟨(lw_mem 986 (by decide +kernel) rfl), (lw_mem 37 (by decide +kernel) rfl), (lw_mem 989 (by decide +kernel) rfl), by decide +kernel, by decide +kernel, by decide +kernel⟩
theorem im_yX9_across : Cond.instanceMethod yX9_across ∈ lw_all := (lw_mem 988 (by decide +kernel) rfl)
theorem se_yX9_across : Cond.selects yX9_across.cls yX9_across yX9_across ∈ lw_all := lw_mem 16 rfl rfl
theorem cw_X9_132 : CWm "BroadseamLoftModel" 132 yX9_length cX9_length 2 (Option.some Jvm.ClassFile.FieldType.int) 1 := ⟨(lw_mem 990 (by decide +kernel) rfl), (lw_mem 37 (by decide +kernel) rfl), (lw_mem 993 (by decide +kernel) rfl), by decide +kernel, by decide +kernel, by decide +kernel⟩
theorem im_yX9_length : Cond.instanceMethod yX9_length ∈ lw_all := (lw_mem 992 (by decide +kernel) rfl)
theorem se_yX9_length : Cond.selects yX9_length.cls yX9_length yX9_length ∈ lw_all := lw_mem 17 rfl rfl
theorem fl_X9_135 : FL "BroadseamLoftModel" 135 9 9 := ⟨RX9, TX9, 39, rfl, by decide, (lw_mem 830 (by decide +kernel) rfl), inA9⟩
theorem fl_X9_32 : FL "BroadseamLoftModel" 32 9 10 := ⟨RX9, TX9, 39, rfl, by decide, (lw_mem 831 (by decide +kernel) rfl), inA9⟩
theorem fl_X9_35 : FL "BroadseamLoftModel" 35 9 11 := ⟨RX9, TX9, 39, rfl, by decide, (lw_mem 832 (by decide +kernel) rfl), inA9⟩
theorem fl_X9_38 : FL "BroadseamLoftModel" 38 9 12 := ⟨RX9, TX9, 39, rfl, by decide, (lw_mem 833 (by decide +kernel) rfl), inA9⟩
theorem fw_X9_135 : FW "BroadseamLoftModel" 135 9 9 (.int) false := ⟨RX9, TX9, 39, tyX9, rfl, by decide, (lw_mem 830 (by decide +kernel) rfl), inA9, tyX9_ok, nmX9, rfl, rfl, by decide⟩
theorem cw_X9_138 : CWm "BroadseamLoftModel" 138 yX9_lesser cX9_lesser 4 (Option.some Jvm.ClassFile.FieldType.long) 2 := ⟨(lw_mem 1006 (by decide +kernel) rfl), (lw_mem 37 (by decide +kernel) rfl), (lw_mem 1008 (by decide +kernel) rfl), by decide +kernel, by decide +kernel, by decide +kernel⟩
theorem sm_yX9_lesser : Cond.static yX9_lesser ∈ lw_all := (lw_mem 1007 (by decide +kernel) rfl)
theorem k_X9_142 : Cond.constantLong "BroadseamLoftModel" 142 (100) ∈ lw_all := (lw_mem 1009 (by decide +kernel) rfl)
theorem fl_X9_41 : FL "BroadseamLoftModel" 41 9 13 := ⟨RX9, TX9, 39, rfl, by decide, (lw_mem 834 (by decide +kernel) rfl), inA9⟩
theorem cw_X9_144 : CWm "BroadseamLoftModel" 144 yX9_seamOf cX9_seamOf 3 (Option.some Jvm.ClassFile.FieldType.long) 1 := ⟨(lw_mem 1002 (by decide +kernel) rfl), (lw_mem 37 (by decide +kernel) rfl), (lw_mem 1005 (by decide +kernel) rfl), by decide +kernel, by decide +kernel, by decide +kernel⟩
theorem im_yX9_seamOf : Cond.instanceMethod yX9_seamOf ∈ lw_all := (lw_mem 1004 (by decide +kernel) rfl)
theorem se_yX9_seamOf : Cond.selects yX9_seamOf.cls yX9_seamOf yX9_seamOf ∈ lw_all := lw_mem 18 rfl rfl
theorem fl_X9_44 : FL "BroadseamLoftModel" 44 9 14 := ⟨RX9, TX9, 39, rfl, by decide, (lw_mem 835 (by decide +kernel) rfl), inA9⟩
theorem cw_X9_147 : CWm "BroadseamLoftModel" 147 yX9_comes cX9_comes 7 (Option.some Jvm.ClassFile.FieldType.boolean) 3 := ⟨(lw_mem 1018 (by decide +kernel) rfl), (lw_mem 37 (by decide +kernel) rfl), (lw_mem 1021 (by decide +kernel) rfl), by decide +kernel, by decide +kernel, by decide +kernel⟩
theorem im_yX9_comes : Cond.instanceMethod yX9_comes ∈ lw_all := (lw_mem 1020 (by decide +kernel) rfl)
theorem se_yX9_comes : Cond.selects yX9_comes.cls yX9_comes yX9_comes ∈ lw_all := lw_mem 20 rfl rfl
theorem cw_X9_150 : CWm "BroadseamLoftModel" 150 yX9_bearsOf cX9_bearsOf 7 (Option.some Jvm.ClassFile.FieldType.long) 2 := ⟨(lw_mem 1014 (by decide +kernel) rfl), (lw_mem 37 (by decide +kernel) rfl), (lw_mem 1017 (by decide +kernel) rfl), by decide +kernel, by decide +kernel, by decide +kernel⟩
theorem im_yX9_bearsOf : Cond.instanceMethod yX9_bearsOf ∈ lw_all := (lw_mem 1016 (by decide +kernel) rfl)
theorem se_yX9_bearsOf : Cond.selects yX9_bearsOf.cls yX9_bearsOf yX9_bearsOf ∈ lw_all := lw_mem 19 rfl rfl
theorem cw_X9_154 : CWm "BroadseamLoftModel" 154 yX9_isKnot cX9_isKnot 1 (Option.some Jvm.ClassFile.FieldType.boolean) 1 := ⟨(lw_mem 1030 (by decide +kernel) rfl), (lw_mem 37 (by decide +kernel) rfl), (lw_mem 1032 (by decide +kernel) rfl), by decide +kernel, by decide +kernel, by decide +kernel⟩
theorem sm_yX9_isKnot : Cond.static yX9_isKnot ∈ lw_all := (lw_mem 1031 (by decide +kernel) rfl)
theorem fl_X9_48 : FL "BroadseamLoftModel" 48 9 15 := ⟨RX9, TX9, 39, rfl, by decide, (lw_mem 836 (by decide +kernel) rfl), inA9⟩
theorem fl_X9_157 : FL "BroadseamLoftModel" 157 9 18 := ⟨RX9, TX9, 39, rfl, by decide, (lw_mem 839 (by decide +kernel) rfl), inA9⟩
theorem fw_X9_157 : FW "BroadseamLoftModel" 157 9 18 (.int) false := ⟨RX9, TX9, 39, tyX9, rfl, by decide, (lw_mem 839 (by decide +kernel) rfl), inA9, tyX9_ok, nmX9, rfl, rfl, by decide⟩
theorem cw_X9_160 : CWm "BroadseamLoftModel" 160 yX9_beside cX9_beside 4 (Option.some Jvm.ClassFile.FieldType.int) 2 := ⟨(lw_mem 1049 (by decide +kernel) rfl), (lw_mem 37 (by decide +kernel) rfl), (lw_mem 1051 (by decide +kernel) rfl), by decide +kernel, by decide +kernel, by decide +kernel⟩
theorem sm_yX9_beside : Cond.static yX9_beside ∈ lw_all := (lw_mem 1050 (by decide +kernel) rfl)
theorem fl_X9_51 : FL "BroadseamLoftModel" 51 9 16 := ⟨RX9, TX9, 39, rfl, by decide, (lw_mem 837 (by decide +kernel) rfl), inA9⟩
theorem cw_X9_164 : CWm "BroadseamLoftModel" 164 yX9_comesTo cX9_comesTo 7 (Option.some Jvm.ClassFile.FieldType.int) 1 := ⟨(lw_mem 1045 (by decide +kernel) rfl), (lw_mem 37 (by decide +kernel) rfl), (lw_mem 1048 (by decide +kernel) rfl), by decide +kernel, by decide +kernel, by decide +kernel⟩
theorem im_yX9_comesTo : Cond.instanceMethod yX9_comesTo ∈ lw_all := (lw_mem 1047 (by decide +kernel) rfl)
theorem se_yX9_comesTo : Cond.selects yX9_comesTo.cls yX9_comesTo yX9_comesTo ∈ lw_all := lw_mem 22 rfl rfl
theorem cw_X9_167 : CWm "BroadseamLoftModel" 167 yX9_steps cX9_steps 3 (Option.some Jvm.ClassFile.FieldType.boolean) 0 := ⟨(lw_mem 1041 (by decide +kernel) rfl), (lw_mem 37 (by decide +kernel) rfl), (lw_mem 1044 (by decide +kernel) rfl), by decide +kernel, by decide +kernel, by decide +kernel⟩
theorem im_yX9_steps : Cond.instanceMethod yX9_steps ∈ lw_all := (lw_mem 1043 (by decide +kernel) rfl)
theorem se_yX9_steps : Cond.selects yX9_steps.cls yX9_steps yX9_steps ∈ lw_all := lw_mem 21 rfl rfl
theorem k_X9_171 : Cond.constantLong "BroadseamLoftModel" 171 (4000000000000) ∈ lw_all := (lw_mem 1060 (by decide +kernel) rfl)
theorem fl_X9_173 : FL "BroadseamLoftModel" 173 9 19 := ⟨RX9, TX9, 39, rfl, by decide, (lw_mem 840 (by decide +kernel) rfl), inA9⟩
theorem fl_X9_57 : FL "BroadseamLoftModel" 57 9 20 := ⟨RX9, TX9, 39, rfl, by decide, (lw_mem 841 (by decide +kernel) rfl), inA9⟩
theorem fl_X9_60 : FL "BroadseamLoftModel" 60 9 21 := ⟨RX9, TX9, 39, rfl, by decide, (lw_mem 842 (by decide +kernel) rfl), inA9⟩
theorem fl_X9_63 : FL "BroadseamLoftModel" 63 9 22 := ⟨RX9, TX9, 39, rfl, by decide, (lw_mem 843 (by decide +kernel) rfl), inA9⟩
theorem fw_X9_173 : FW "BroadseamLoftModel" 173 9 19 (.int) false := ⟨RX9, TX9, 39, tyX9, rfl, by decide, (lw_mem 840 (by decide +kernel) rfl), inA9, tyX9_ok, nmX9, rfl, rfl, by decide⟩
theorem fl_X9_66 : FL "BroadseamLoftModel" 66 9 23 := ⟨RX9, TX9, 39, rfl, by decide, (lw_mem 844 (by decide +kernel) rfl), inA9⟩
theorem k_X9_176 : Cond.constantLong "BroadseamLoftModel" 176 (40000000000000) ∈ lw_all := (lw_mem 1065 (by decide +kernel) rfl)
theorem cw_X9_178 : CWm "BroadseamLoftModel" 178 yX9_shares cX9_shares 9 (Option.some Jvm.ClassFile.FieldType.int) 1 := ⟨(lw_mem 1066 (by decide +kernel) rfl), (lw_mem 37 (by decide +kernel) rfl), (lw_mem 1069 (by decide +kernel) rfl), by decide +kernel, by decide +kernel, by decide +kernel⟩
theorem im_yX9_shares : Cond.instanceMethod yX9_shares ∈ lw_all := (lw_mem 1068 (by decide +kernel) rfl)
theorem se_yX9_shares : Cond.selects yX9_shares.cls yX9_shares yX9_shares ∈ lw_all := lw_mem 23 rfl rfl
theorem fl_X9_182 : FL "BroadseamLoftModel" 182 9 25 := ⟨RX9, TX9, 39, rfl, by decide, (lw_mem 846 (by decide +kernel) rfl), inA9⟩
theorem k_X9_185 : Cond.constantFloat "BroadseamLoftModel" 185 (1041865114) ∈ lw_all := (lw_mem 1086 (by decide +kernel) rfl)
theorem k_X9_186 : Cond.constantFloat "BroadseamLoftModel" 186 (981668463) ∈ lw_all := (lw_mem 1087 (by decide +kernel) rfl)
theorem k_X9_187 : Cond.constantFloat "BroadseamLoftModel" 187 (973279855) ∈ lw_all := (lw_mem 1088 (by decide +kernel) rfl)
theorem fl_X9_188 : FL "BroadseamLoftModel" 188 9 26 := ⟨RX9, TX9, 39, rfl, by decide, (lw_mem 847 (by decide +kernel) rfl), inA9⟩
theorem k_X9_191 : Cond.constantFloat "BroadseamLoftModel" 191 (1109393408) ∈ lw_all := (lw_mem 1097 (by decide +kernel) rfl)
theorem cw_X9_192 : CWm "BroadseamLoftModel" 192 yX9_draft cX9_draft 4 (Option.some Jvm.ClassFile.FieldType.float) 1 := ⟨(lw_mem 1082 (by decide +kernel) rfl), (lw_mem 37 (by decide +kernel) rfl), (lw_mem 1085 (by decide +kernel) rfl), by decide +kernel, by decide +kernel, by decide +kernel⟩
theorem im_yX9_draft : Cond.instanceMethod yX9_draft ∈ lw_all := (lw_mem 1084 (by decide +kernel) rfl)
theorem se_yX9_draft : Cond.selects yX9_draft.cls yX9_draft yX9_draft ∈ lw_all := lw_mem 24 rfl rfl
theorem fw_X9_196 : FW "BroadseamLoftModel" 196 9 24 (.int) false := ⟨RX9, TX9, 39, tyX9, rfl, by decide, (lw_mem 845 (by decide +kernel) rfl), inA9, tyX9_ok, nmX9, rfl, rfl, by decide⟩
theorem fw_X9_182 : FW "BroadseamLoftModel" 182 9 25 (.int) false := ⟨RX9, TX9, 39, tyX9, rfl, by decide, (lw_mem 846 (by decide +kernel) rfl), inA9, tyX9_ok, nmX9, rfl, rfl, by decide⟩
theorem fw_X9_188 : FW "BroadseamLoftModel" 188 9 26 (.int) false := ⟨RX9, TX9, 39, tyX9, rfl, by decide, (lw_mem 847 (by decide +kernel) rfl), inA9, tyX9_ok, nmX9, rfl, rfl, by decide⟩
theorem fl_X9_196 : FL "BroadseamLoftModel" 196 9 24 := ⟨RX9, TX9, 39, rfl, by decide, (lw_mem 845 (by decide +kernel) rfl), inA9⟩
theorem cw_X9_199 : CWm "BroadseamLoftModel" 199 yX9_powerWith cX9_powerWith 6 (Option.some Jvm.ClassFile.FieldType.float) 2 := ⟨(lw_mem 1093 (by decide +kernel) rfl), (lw_mem 37 (by decide +kernel) rfl), (lw_mem 1096 (by decide +kernel) rfl), by decide +kernel, by decide +kernel, by decide +kernel⟩
theorem im_yX9_powerWith : Cond.instanceMethod yX9_powerWith ∈ lw_all := (lw_mem 1095 (by decide +kernel) rfl)
theorem se_yX9_powerWith : Cond.selects yX9_powerWith.cls yX9_powerWith yX9_powerWith ∈ lw_all := lw_mem 25 rfl rfl
theorem k_X9_203 : Cond.constant "BroadseamLoftModel" 203 (100000) ∈ lw_all := (lw_mem 1102 (by decide +kernel) rfl)
theorem fl_X9_204 : FL "BroadseamLoftModel" 204 9 28 := ⟨RX9, TX9, 39, rfl, by decide, (lw_mem 849 (by decide +kernel) rfl), inA9⟩
theorem fl_X9_78 : FL "BroadseamLoftModel" 78 9 32 := ⟨RX9, TX9, 39, rfl, by decide, (lw_mem 853 (by decide +kernel) rfl), inA9⟩
theorem fl_X9_207 : FL "BroadseamLoftModel" 207 9 27 := ⟨RX9, TX9, 39, rfl, by decide, (lw_mem 848 (by decide +kernel) rfl), inA9⟩
theorem fw_X9_207 : FW "BroadseamLoftModel" 207 9 27 (.int) false := ⟨RX9, TX9, 39, tyX9, rfl, by decide, (lw_mem 848 (by decide +kernel) rfl), inA9, tyX9_ok, nmX9, rfl, rfl, by decide⟩
theorem fl_X9_69 : FL "BroadseamLoftModel" 69 9 29 := ⟨RX9, TX9, 39, rfl, by decide, (lw_mem 850 (by decide +kernel) rfl), inA9⟩
theorem fl_X9_81 : FL "BroadseamLoftModel" 81 9 33 := ⟨RX9, TX9, 39, rfl, by decide, (lw_mem 854 (by decide +kernel) rfl), inA9⟩
theorem fw_X9_204 : FW "BroadseamLoftModel" 204 9 28 (.int) false := ⟨RX9, TX9, 39, tyX9, rfl, by decide, (lw_mem 849 (by decide +kernel) rfl), inA9, tyX9_ok, nmX9, rfl, rfl, by decide⟩
theorem cw_X9_210 : CWm "BroadseamLoftModel" 210 yX9_isCanopy cX9_isCanopy 2 (Option.some Jvm.ClassFile.FieldType.boolean) 1 := ⟨(lw_mem 1115 (by decide +kernel) rfl), (lw_mem 37 (by decide +kernel) rfl), (lw_mem 1118 (by decide +kernel) rfl), by decide +kernel, by decide +kernel, by decide +kernel⟩
theorem im_yX9_isCanopy : Cond.instanceMethod yX9_isCanopy ∈ lw_all := (lw_mem 1117 (by decide +kernel) rfl)
theorem se_yX9_isCanopy : Cond.selects yX9_isCanopy.cls yX9_isCanopy yX9_isCanopy ∈ lw_all := lw_mem 26 rfl rfl
theorem fl_X9_72 : FL "BroadseamLoftModel" 72 9 30 := ⟨RX9, TX9, 39, rfl, by decide, (lw_mem 851 (by decide +kernel) rfl), inA9⟩
theorem cw_X9_213 : CWm "BroadseamLoftModel" 213 yX9_hasSeal cX9_hasSeal 2 (Option.some Jvm.ClassFile.FieldType.boolean) 1 := ⟨(lw_mem 1119 (by decide +kernel) rfl), (lw_mem 37 (by decide +kernel) rfl), (lw_mem 1122 (by decide +kernel) rfl), by decide +kernel, by decide +kernel, by decide +kernel⟩
theorem im_yX9_hasSeal : Cond.instanceMethod yX9_hasSeal ∈ lw_all := (lw_mem 1121 (by decide +kernel) rfl)
theorem se_yX9_hasSeal : Cond.selects yX9_hasSeal.cls yX9_hasSeal yX9_hasSeal ∈ lw_all := lw_mem 27 rfl rfl
theorem fl_X9_75 : FL "BroadseamLoftModel" 75 9 31 := ⟨RX9, TX9, 39, rfl, by decide, (lw_mem 852 (by decide +kernel) rfl), inA9⟩
theorem cw_X9_216 : CWm "BroadseamLoftModel" 216 yX9_rounds cX9_rounds 8 (Option.some Jvm.ClassFile.FieldType.int) 1 := ⟨(lw_mem 1127 (by decide +kernel) rfl), (lw_mem 37 (by decide +kernel) rfl), (lw_mem 1130 (by decide +kernel) rfl), by decide +kernel, by decide +kernel, by decide +kernel⟩
theorem im_yX9_rounds : Cond.instanceMethod yX9_rounds ∈ lw_all := (lw_mem 1129 (by decide +kernel) rfl)
theorem se_yX9_rounds : Cond.selects yX9_rounds.cls yX9_rounds yX9_rounds ∈ lw_all := lw_mem 28 rfl rfl
theorem fl_X9_16 : FL "BroadseamLoftModel" 16 9 3 := ⟨RX9, TX9, 39, rfl, by decide, (lw_mem 824 (by decide +kernel) rfl), inA9⟩
theorem fl_X9_93 : FL "BroadseamLoftModel" 93 9 37 := ⟨RX9, TX9, 39, rfl, by decide, (lw_mem 858 (by decide +kernel) rfl), inA9⟩
theorem cw_X9_219 : CWm "BroadseamLoftModel" 219 yX9_canSeal cX9_canSeal 2 (Option.some Jvm.ClassFile.FieldType.boolean) 1 := ⟨(lw_mem 1135 (by decide +kernel) rfl), (lw_mem 37 (by decide +kernel) rfl), (lw_mem 1138 (by decide +kernel) rfl), by decide +kernel, by decide +kernel, by decide +kernel⟩
theorem im_yX9_canSeal : Cond.instanceMethod yX9_canSeal ∈ lw_all := (lw_mem 1137 (by decide +kernel) rfl)
theorem se_yX9_canSeal : Cond.selects yX9_canSeal.cls yX9_canSeal yX9_canSeal ∈ lw_all := lw_mem 29 rfl rfl
theorem fl_X9_84 : FL "BroadseamLoftModel" 84 9 34 := ⟨RX9, TX9, 39, rfl, by decide, (lw_mem 855 (by decide +kernel) rfl), inA9⟩
theorem cw_X9_222 : CWm "BroadseamLoftModel" 222 yX9_unseals cX9_unseals 2 (Option.none : Option Jvm.ClassFile.FieldType) 1 := ⟨(lw_mem 1143 (by decide +kernel) rfl), (lw_mem 37 (by decide +kernel) rfl), (lw_mem 1146 (by decide +kernel) rfl), by decide +kernel, by decide +kernel, by decide +kernel⟩
theorem im_yX9_unseals : Cond.instanceMethod yX9_unseals ∈ lw_all := (lw_mem 1145 (by decide +kernel) rfl)
theorem se_yX9_unseals : Cond.selects yX9_unseals.cls yX9_unseals yX9_unseals ∈ lw_all := lw_mem 30 rfl rfl
theorem fl_X9_87 : FL "BroadseamLoftModel" 87 9 35 := ⟨RX9, TX9, 39, rfl, by decide, (lw_mem 856 (by decide +kernel) rfl), inA9⟩
theorem fl_X9_90 : FL "BroadseamLoftModel" 90 9 36 := ⟨RX9, TX9, 39, rfl, by decide, (lw_mem 857 (by decide +kernel) rfl), inA9⟩
theorem cw_X9_226 : CWm "BroadseamLoftModel" 226 yX9_lifeOf cX9_lifeOf 3 (Option.some Jvm.ClassFile.FieldType.int) 2 := ⟨(lw_mem 1159 (by decide +kernel) rfl), (lw_mem 37 (by decide +kernel) rfl), (lw_mem 1162 (by decide +kernel) rfl), by decide +kernel, by decide +kernel, by decide +kernel⟩
theorem im_yX9_lifeOf : Cond.instanceMethod yX9_lifeOf ∈ lw_all := (lw_mem 1161 (by decide +kernel) rfl)
theorem se_yX9_lifeOf : Cond.selects yX9_lifeOf.cls yX9_lifeOf yX9_lifeOf ∈ lw_all := lw_mem 31 rfl rfl
theorem cw_L_7 : CWm "BroadseamLoftLaw" 7 yX8_lot cX8_lot 4 (Option.some Jvm.ClassFile.FieldType.int) 3 := ⟨(lw_mem 177 (by decide +kernel) rfl), (lw_mem 33 (by decide +kernel) rfl), (lw_mem 180 (by decide +kernel) rfl), by decide +kernel, by decide +kernel, by decide +kernel⟩
theorem im_yX8_lot : Cond.instanceMethod yX8_lot ∈ lw_all := (lw_mem 178 (by decide +kernel) rfl)
theorem se_yX8_lot : Cond.selects yX8_lot.cls yX8_lot yX8_lot ∈ lw_all := (lw_mem 179 (by decide +kernel) rfl)
theorem cw_L_17 : CWm "BroadseamLoftLaw" 17 yX8_sun cX8_sun 4 (Option.some Jvm.ClassFile.FieldType.int) 2 := ⟨(lw_mem 304 (by decide +kernel) rfl), (lw_mem 33 (by decide +kernel) rfl), (lw_mem 307 (by decide +kernel) rfl), by decide +kernel, by decide +kernel, by decide +kernel⟩
theorem im_yX8_sun : Cond.instanceMethod yX8_sun ∈ lw_all := (lw_mem 305 (by decide +kernel) rfl)
theorem se_yX8_sun : Cond.selects yX8_sun.cls yX8_sun yX8_sun ∈ lw_all := (lw_mem 306 (by decide +kernel) rfl)
theorem cw_L_23 : CWm "BroadseamLoftLaw" 23 yX8_panel cX8_panel 6 (Option.some Jvm.ClassFile.FieldType.int) 4 := ⟨(lw_mem 337 (by decide +kernel) rfl), (lw_mem 33 (by decide +kernel) rfl), (lw_mem 340 (by decide +kernel) rfl), by decide +kernel, by decide +kernel, by decide +kernel⟩
theorem im_yX8_panel : Cond.instanceMethod yX8_panel ∈ lw_all := (lw_mem 338 (by decide +kernel) rfl)
theorem se_yX8_panel : Cond.selects yX8_panel.cls yX8_panel yX8_panel ∈ lw_all := (lw_mem 339 (by decide +kernel) rfl)
theorem cw_L_27 : CWm "BroadseamLoftLaw" 27 yX8_strength cX8_strength 3 (Option.some Jvm.ClassFile.FieldType.long) 1 := ⟨(lw_mem 377 (by decide +kernel) rfl), (lw_mem 33 (by decide +kernel) rfl), (lw_mem 380 (by decide +kernel) rfl), by decide +kernel, by decide +kernel, by decide +kernel⟩
theorem im_yX8_strength : Cond.instanceMethod yX8_strength ∈ lw_all := (lw_mem 378 (by decide +kernel) rfl)
theorem se_yX8_strength : Cond.selects yX8_strength.cls yX8_strength yX8_strength ∈ lw_all := (lw_mem 379 (by decide +kernel) rfl)
theorem cw_L_31 : CWm "BroadseamLoftLaw" 31 yX8_roll cX8_roll 3 (Option.some Jvm.ClassFile.FieldType.int) 1 := ⟨(lw_mem 398 (by decide +kernel) rfl), (lw_mem 33 (by decide +kernel) rfl), (lw_mem 401 (by decide +kernel) rfl), by decide +kernel, by decide +kernel, by decide +kernel⟩
theorem im_yX8_roll : Cond.instanceMethod yX8_roll ∈ lw_all := (lw_mem 399 (by decide +kernel) rfl)
theorem se_yX8_roll : Cond.selects yX8_roll.cls yX8_roll yX8_roll ∈ lw_all := (lw_mem 400 (by decide +kernel) rfl)
theorem cw_L_35 : CWm "BroadseamLoftLaw" 35 yX8_seam cX8_seam 6 (Option.some Jvm.ClassFile.FieldType.int) 3 := ⟨(lw_mem 409 (by decide +kernel) rfl), (lw_mem 33 (by decide +kernel) rfl), (lw_mem 412 (by decide +kernel) rfl), by decide +kernel, by decide +kernel, by decide +kernel⟩
theorem im_yX8_seam : Cond.instanceMethod yX8_seam ∈ lw_all := (lw_mem 410 (by decide +kernel) rfl)
theorem se_yX8_seam : Cond.selects yX8_seam.cls yX8_seam yX8_seam ∈ lw_all := (lw_mem 411 (by decide +kernel) rfl)
theorem cw_L_38 : CWm "BroadseamLoftLaw" 38 yX8_rip cX8_rip 3 (Option.some Jvm.ClassFile.FieldType.long) 1 := ⟨(lw_mem 435 (by decide +kernel) rfl), (lw_mem 33 (by decide +kernel) rfl), (lw_mem 438 (by decide +kernel) rfl), by decide +kernel, by decide +kernel, by decide +kernel⟩
theorem im_yX8_rip : Cond.instanceMethod yX8_rip ∈ lw_all := (lw_mem 436 (by decide +kernel) rfl)
theorem se_yX8_rip : Cond.selects yX8_rip.cls yX8_rip yX8_rip ∈ lw_all := (lw_mem 437 (by decide +kernel) rfl)
theorem cw_L_41 : CWm "BroadseamLoftLaw" 41 yX8_bears cX8_bears 5 (Option.some Jvm.ClassFile.FieldType.long) 2 := ⟨(lw_mem 452 (by decide +kernel) rfl), (lw_mem 33 (by decide +kernel) rfl), (lw_mem 455 (by decide +kernel) rfl), by decide +kernel, by decide +kernel, by decide +kernel⟩
theorem im_yX8_bears : Cond.instanceMethod yX8_bears ∈ lw_all := (lw_mem 453 (by decide +kernel) rfl)
theorem se_yX8_bears : Cond.selects yX8_bears.cls yX8_bears yX8_bears ∈ lw_all := (lw_mem 454 (by decide +kernel) rfl)
theorem cw_L_45 : CWm "BroadseamLoftLaw" 45 yX8_bearsAnew cX8_bearsAnew 5 (Option.some Jvm.ClassFile.FieldType.long) 2 := ⟨(lw_mem 471 (by decide +kernel) rfl), (lw_mem 33 (by decide +kernel) rfl), (lw_mem 474 (by decide +kernel) rfl), by decide +kernel, by decide +kernel, by decide +kernel⟩
theorem im_yX8_bearsAnew : Cond.instanceMethod yX8_bearsAnew ∈ lw_all := (lw_mem 472 (by decide +kernel) rfl)
theorem se_yX8_bearsAnew : Cond.selects yX8_bearsAnew.cls yX8_bearsAnew yX8_bearsAnew ∈ lw_all := (lw_mem 473 (by decide +kernel) rfl)
theorem cw_L_48 : CWm "BroadseamLoftLaw" 48 yX8_knot cX8_knot 5 (Option.some Jvm.ClassFile.FieldType.int) 3 := ⟨(lw_mem 490 (by decide +kernel) rfl), (lw_mem 33 (by decide +kernel) rfl), (lw_mem 493 (by decide +kernel) rfl), by decide +kernel, by decide +kernel, by decide +kernel⟩
theorem im_yX8_knot : Cond.instanceMethod yX8_knot ∈ lw_all := (lw_mem 491 (by decide +kernel) rfl)
theorem se_yX8_knot : Cond.selects yX8_knot.cls yX8_knot yX8_knot ∈ lw_all := (lw_mem 492 (by decide +kernel) rfl)
theorem cw_L_52 : CWm "BroadseamLoftLaw" 52 yX8_load cX8_load 3 (Option.some Jvm.ClassFile.FieldType.int) 1 := ⟨(lw_mem 501 (by decide +kernel) rfl), (lw_mem 33 (by decide +kernel) rfl), (lw_mem 504 (by decide +kernel) rfl), by decide +kernel, by decide +kernel, by decide +kernel⟩
theorem im_yX8_load : Cond.instanceMethod yX8_load ∈ lw_all := (lw_mem 502 (by decide +kernel) rfl)
theorem se_yX8_load : Cond.selects yX8_load.cls yX8_load yX8_load ∈ lw_all := (lw_mem 503 (by decide +kernel) rfl)
theorem cw_L_55 : CWm "BroadseamLoftLaw" 55 yX8_rest cX8_rest 3 (Option.some Jvm.ClassFile.FieldType.int) 1 := ⟨(lw_mem 510 (by decide +kernel) rfl), (lw_mem 33 (by decide +kernel) rfl), (lw_mem 513 (by decide +kernel) rfl), by decide +kernel, by decide +kernel, by decide +kernel⟩
theorem im_yX8_rest : Cond.instanceMethod yX8_rest ∈ lw_all := (lw_mem 511 (by decide +kernel) rfl)
theorem se_yX8_rest : Cond.selects yX8_rest.cls yX8_rest yX8_rest ∈ lw_all := (lw_mem 512 (by decide +kernel) rfl)
theorem cw_L_58 : CWm "BroadseamLoftLaw" 58 yX8_height cX8_height 2 (Option.some Jvm.ClassFile.FieldType.int) 1 := ⟨(lw_mem 537 (by decide +kernel) rfl), (lw_mem 33 (by decide +kernel) rfl), (lw_mem 540 (by decide +kernel) rfl), by decide +kernel, by decide +kernel, by decide +kernel⟩
theorem im_yX8_height : Cond.instanceMethod yX8_height ∈ lw_all := (lw_mem 538 (by decide +kernel) rfl)
theorem se_yX8_height : Cond.selects yX8_height.cls yX8_height yX8_height ∈ lw_all := (lw_mem 539 (by decide +kernel) rfl)
theorem cw_L_61 : CWm "BroadseamLoftLaw" 61 yX8_peg cX8_peg 4 (Option.some Jvm.ClassFile.FieldType.int) 2 := ⟨(lw_mem 544 (by decide +kernel) rfl), (lw_mem 33 (by decide +kernel) rfl), (lw_mem 547 (by decide +kernel) rfl), by decide +kernel, by decide +kernel, by decide +kernel⟩
theorem im_yX8_peg : Cond.instanceMethod yX8_peg ∈ lw_all := (lw_mem 545 (by decide +kernel) rfl)
theorem se_yX8_peg : Cond.selects yX8_peg.cls yX8_peg yX8_peg ∈ lw_all := (lw_mem 546 (by decide +kernel) rfl)
theorem cw_L_65 : CWm "BroadseamLoftLaw" 65 yX8_gust cX8_gust 6 (Option.some Jvm.ClassFile.FieldType.int) 1 := ⟨(lw_mem 575 (by decide +kernel) rfl), (lw_mem 33 (by decide +kernel) rfl), (lw_mem 578 (by decide +kernel) rfl), by decide +kernel, by decide +kernel, by decide +kernel⟩
theorem im_yX8_gust : Cond.instanceMethod yX8_gust ∈ lw_all := (lw_mem 576 (by decide +kernel) rfl)
theorem se_yX8_gust : Cond.selects yX8_gust.cls yX8_gust yX8_gust ∈ lw_all := (lw_mem 577 (by decide +kernel) rfl)
theorem cw_L_69 : CWm "BroadseamLoftLaw" 69 yX8_pulled cX8_pulled 3 (Option.some Jvm.ClassFile.FieldType.long) 1 := ⟨(lw_mem 596 (by decide +kernel) rfl), (lw_mem 33 (by decide +kernel) rfl), (lw_mem 599 (by decide +kernel) rfl), by decide +kernel, by decide +kernel, by decide +kernel⟩
theorem im_yX8_pulled : Cond.instanceMethod yX8_pulled ∈ lw_all := (lw_mem 597 (by decide +kernel) rfl)
theorem se_yX8_pulled : Cond.selects yX8_pulled.cls yX8_pulled yX8_pulled ∈ lw_all := (lw_mem 598 (by decide +kernel) rfl)
theorem cw_L_72 : CWm "BroadseamLoftLaw" 72 yX8_trim cX8_trim 4 (Option.some Jvm.ClassFile.FieldType.float) 3 := ⟨(lw_mem 604 (by decide +kernel) rfl), (lw_mem 33 (by decide +kernel) rfl), (lw_mem 607 (by decide +kernel) rfl), by decide +kernel, by decide +kernel, by decide +kernel⟩
theorem im_yX8_trim : Cond.instanceMethod yX8_trim ∈ lw_all := (lw_mem 605 (by decide +kernel) rfl)
theorem se_yX8_trim : Cond.selects yX8_trim.cls yX8_trim yX8_trim ∈ lw_all := (lw_mem 606 (by decide +kernel) rfl)
theorem cw_L_76 : CWm "BroadseamLoftLaw" 76 yX8_power cX8_power 2 (Option.some Jvm.ClassFile.FieldType.float) 1 := ⟨(lw_mem 620 (by decide +kernel) rfl), (lw_mem 33 (by decide +kernel) rfl), (lw_mem 623 (by decide +kernel) rfl), by decide +kernel, by decide +kernel, by decide +kernel⟩
theorem im_yX8_power : Cond.instanceMethod yX8_power ∈ lw_all := (lw_mem 621 (by decide +kernel) rfl)
theorem se_yX8_power : Cond.selects yX8_power.cls yX8_power yX8_power ∈ lw_all := (lw_mem 622 (by decide +kernel) rfl)
theorem cw_L_80 : CWm "BroadseamLoftLaw" 80 yX8_halyard cX8_halyard 4 (Option.some Jvm.ClassFile.FieldType.int) 2 := ⟨(lw_mem 634 (by decide +kernel) rfl), (lw_mem 33 (by decide +kernel) rfl), (lw_mem 637 (by decide +kernel) rfl), by decide +kernel, by decide +kernel, by decide +kernel⟩
theorem im_yX8_halyard : Cond.instanceMethod yX8_halyard ∈ lw_all := (lw_mem 635 (by decide +kernel) rfl)
theorem se_yX8_halyard : Cond.selects yX8_halyard.cls yX8_halyard yX8_halyard ∈ lw_all := (lw_mem 636 (by decide +kernel) rfl)
theorem cw_L_83 : CWm "BroadseamLoftLaw" 83 yX8_pass cX8_pass 2 (Option.some Jvm.ClassFile.FieldType.int) 1 := ⟨(lw_mem 643 (by decide +kernel) rfl), (lw_mem 33 (by decide +kernel) rfl), (lw_mem 646 (by decide +kernel) rfl), by decide +kernel, by decide +kernel, by decide +kernel⟩
theorem im_yX8_pass : Cond.instanceMethod yX8_pass ∈ lw_all := (lw_mem 644 (by decide +kernel) rfl)
theorem se_yX8_pass : Cond.selects yX8_pass.cls yX8_pass yX8_pass ∈ lw_all := (lw_mem 645 (by decide +kernel) rfl)
theorem cw_L_86 : CWm "BroadseamLoftLaw" 86 yX8_canopy cX8_canopy 3 (Option.some Jvm.ClassFile.FieldType.int) 1 := ⟨(lw_mem 654 (by decide +kernel) rfl), (lw_mem 33 (by decide +kernel) rfl), (lw_mem 657 (by decide +kernel) rfl), by decide +kernel, by decide +kernel, by decide +kernel⟩
theorem im_yX8_canopy : Cond.instanceMethod yX8_canopy ∈ lw_all := (lw_mem 655 (by decide +kernel) rfl)
theorem se_yX8_canopy : Cond.selects yX8_canopy.cls yX8_canopy yX8_canopy ∈ lw_all := (lw_mem 656 (by decide +kernel) rfl)
theorem cw_L_89 : CWm "BroadseamLoftLaw" 89 yX8_part cX8_part 4 (Option.some Jvm.ClassFile.FieldType.int) 2 := ⟨(lw_mem 708 (by decide +kernel) rfl), (lw_mem 33 (by decide +kernel) rfl), (lw_mem 711 (by decide +kernel) rfl), by decide +kernel, by decide +kernel, by decide +kernel⟩
theorem im_yX8_part : Cond.instanceMethod yX8_part ∈ lw_all := (lw_mem 709 (by decide +kernel) rfl)
theorem se_yX8_part : Cond.selects yX8_part.cls yX8_part yX8_part ∈ lw_all := (lw_mem 710 (by decide +kernel) rfl)
theorem cw_L_92 : CWm "BroadseamLoftLaw" 92 yX8_opens cX8_opens 3 (Option.some Jvm.ClassFile.FieldType.int) 1 := ⟨(lw_mem 727 (by decide +kernel) rfl), (lw_mem 33 (by decide +kernel) rfl), (lw_mem 730 (by decide +kernel) rfl), by decide +kernel, by decide +kernel, by decide +kernel⟩
theorem im_yX8_opens : Cond.instanceMethod yX8_opens ∈ lw_all := (lw_mem 728 (by decide +kernel) rfl)
theorem se_yX8_opens : Cond.selects yX8_opens.cls yX8_opens yX8_opens ∈ lw_all := (lw_mem 729 (by decide +kernel) rfl)
theorem cw_L_95 : CWm "BroadseamLoftLaw" 95 yX8_seal cX8_seal 4 (Option.some Jvm.ClassFile.FieldType.int) 2 := ⟨(lw_mem 742 (by decide +kernel) rfl), (lw_mem 33 (by decide +kernel) rfl), (lw_mem 745 (by decide +kernel) rfl), by decide +kernel, by decide +kernel, by decide +kernel⟩
theorem im_yX8_seal : Cond.instanceMethod yX8_seal ∈ lw_all := (lw_mem 743 (by decide +kernel) rfl)
theorem se_yX8_seal : Cond.selects yX8_seal.cls yX8_seal yX8_seal ∈ lw_all := (lw_mem 744 (by decide +kernel) rfl)
theorem cw_L_98 : CWm "BroadseamLoftLaw" 98 yX8_use cX8_use 4 (Option.some Jvm.ClassFile.FieldType.int) 1 := ⟨(lw_mem 762 (by decide +kernel) rfl), (lw_mem 33 (by decide +kernel) rfl), (lw_mem 765 (by decide +kernel) rfl), by decide +kernel, by decide +kernel, by decide +kernel⟩
theorem im_yX8_use : Cond.instanceMethod yX8_use ∈ lw_all := (lw_mem 763 (by decide +kernel) rfl)
theorem se_yX8_use : Cond.selects yX8_use.cls yX8_use yX8_use ∈ lw_all := (lw_mem 764 (by decide +kernel) rfl)
theorem cw_L_101 : CWm "BroadseamLoftLaw" 101 yX8_wet cX8_wet 4 (Option.some Jvm.ClassFile.FieldType.int) 2 := ⟨(lw_mem 774 (by decide +kernel) rfl), (lw_mem 33 (by decide +kernel) rfl), (lw_mem 777 (by decide +kernel) rfl), by decide +kernel, by decide +kernel, by decide +kernel⟩
theorem im_yX8_wet : Cond.instanceMethod yX8_wet ∈ lw_all := (lw_mem 775 (by decide +kernel) rfl)
theorem se_yX8_wet : Cond.selects yX8_wet.cls yX8_wet yX8_wet ∈ lw_all := (lw_mem 776 (by decide +kernel) rfl)
theorem cw_L_105 : CWm "BroadseamLoftLaw" 105 yX8_find cX8_find 4 (Option.some Jvm.ClassFile.FieldType.int) 2 := ⟨(lw_mem 782 (by decide +kernel) rfl), (lw_mem 33 (by decide +kernel) rfl), (lw_mem 785 (by decide +kernel) rfl), by decide +kernel, by decide +kernel, by decide +kernel⟩
theorem im_yX8_find : Cond.instanceMethod yX8_find ∈ lw_all := (lw_mem 783 (by decide +kernel) rfl)
theorem se_yX8_find : Cond.selects yX8_find.cls yX8_find yX8_find ∈ lw_all := (lw_mem 784 (by decide +kernel) rfl)
theorem cw_L_108 : CWm "BroadseamLoftLaw" 108 yX8_ofCanopy cX8_ofCanopy 4 (Option.some Jvm.ClassFile.FieldType.int) 2 := ⟨(lw_mem 794 (by decide +kernel) rfl), (lw_mem 33 (by decide +kernel) rfl), (lw_mem 797 (by decide +kernel) rfl), by decide +kernel, by decide +kernel, by decide +kernel⟩
theorem im_yX8_ofCanopy : Cond.instanceMethod yX8_ofCanopy ∈ lw_all := (lw_mem 795 (by decide +kernel) rfl)
theorem se_yX8_ofCanopy : Cond.selects yX8_ofCanopy.cls yX8_ofCanopy yX8_ofCanopy ∈ lw_all := (lw_mem 796 (by decide +kernel) rfl)
theorem cw_L_111 : CWm "BroadseamLoftLaw" 111 yX8_lifeAnew cX8_lifeAnew 3 (Option.some Jvm.ClassFile.FieldType.int) 2 := ⟨(lw_mem 807 (by decide +kernel) rfl), (lw_mem 33 (by decide +kernel) rfl), (lw_mem 810 (by decide +kernel) rfl), by decide +kernel, by decide +kernel, by decide +kernel⟩
theorem im_yX8_lifeAnew : Cond.instanceMethod yX8_lifeAnew ∈ lw_all := (lw_mem 808 (by decide +kernel) rfl)
theorem se_yX8_lifeAnew : Cond.selects yX8_lifeAnew.cls yX8_lifeAnew yX8_lifeAnew ∈ lw_all := (lw_mem 809 (by decide +kernel) rfl)
theorem nw_L_8 : NW "BroadseamLoftLaw" 8 8 := ⟨RX8, TX8, 14, tyX8, rfl, rfl, inA8, tyX8_ok, by decide +kernel, (lw_mem 51 (by decide +kernel) rfl), (lw_mem 52 (by decide +kernel) rfl), (lw_mem 33 (by decide +kernel) rfl)⟩
theorem cw_L_114 : CWm "BroadseamLoftLaw" 114 yX8_init cX8_init 1 (Option.none : Option Jvm.ClassFile.FieldType) 0 := ⟨(lw_mem 53 (by decide +kernel) rfl), (lw_mem 33 (by decide +kernel) rfl), (lw_mem 55 (by decide +kernel) rfl), by decide +kernel, by decide +kernel, by decide +kernel⟩
theorem im_yX8_init : Cond.instanceMethod yX8_init ∈ lw_all := (lw_mem 54 (by decide +kernel) rfl)
theorem nw_L_115 : NW "BroadseamLoftLaw" 115 9 := ⟨RX9, TX9, 39, tyX9, rfl, rfl, inA9, tyX9_ok, by decide +kernel, (lw_mem 815 (by decide +kernel) rfl), (lw_mem 816 (by decide +kernel) rfl), (lw_mem 37 (by decide +kernel) rfl)⟩
theorem cw_L_117 : CWm "BroadseamLoftLaw" 117 yX9_init cX9_init 4 (Option.none : Option Jvm.ClassFile.FieldType) 0 := ⟨(lw_mem 817 (by decide +kernel) rfl), (lw_mem 37 (by decide +kernel) rfl), (lw_mem 819 (by decide +kernel) rfl), by decide +kernel, by decide +kernel, by decide +kernel⟩
theorem im_yX9_init : Cond.instanceMethod yX9_init ∈ lw_all := (lw_mem 818 (by decide +kernel) rfl)
theorem cw_L_123 : CWm "BroadseamLoftLaw" 123 yX9_lot cX9_lot 5 (Option.some Jvm.ClassFile.FieldType.int) 3 := ⟨(lw_mem 944 (by decide +kernel) rfl), (lw_mem 37 (by decide +kernel) rfl), (lw_mem 947 (by decide +kernel) rfl), by decide +kernel, by decide +kernel, by decide +kernel⟩
theorem im_yX9_lot : Cond.instanceMethod yX9_lot ∈ lw_all := (lw_mem 945 (by decide +kernel) rfl)
theorem se_yX9_lot : Cond.selects yX9_lot.cls yX9_lot yX9_lot ∈ lw_all := (lw_mem 946 (by decide +kernel) rfl)
theorem cw_L_124 : CWm "BroadseamLoftLaw" 124 yX9_thrown cX9_thrown 1 (Option.some Jvm.ClassFile.FieldType.int) 0 := ⟨(lw_mem 940 (by decide +kernel) rfl), (lw_mem 37 (by decide +kernel) rfl), (lw_mem 943 (by decide +kernel) rfl), by decide +kernel, by decide +kernel, by decide +kernel⟩
theorem im_yX9_thrown : Cond.instanceMethod yX9_thrown ∈ lw_all := (lw_mem 941 (by decide +kernel) rfl)
theorem se_yX9_thrown : Cond.selects yX9_thrown.cls yX9_thrown yX9_thrown ∈ lw_all := (lw_mem 942 (by decide +kernel) rfl)
theorem cw_L_131 : CWm "BroadseamLoftLaw" 131 yX9_sun cX9_sun 3 (Option.some Jvm.ClassFile.FieldType.int) 2 := ⟨(lw_mem 956 (by decide +kernel) rfl), (lw_mem 37 (by decide +kernel) rfl), (lw_mem 959 (by decide +kernel) rfl), by decide +kernel, by decide +kernel, by decide +kernel⟩
theorem im_yX9_sun : Cond.instanceMethod yX9_sun ∈ lw_all := (lw_mem 957 (by decide +kernel) rfl)
theorem se_yX9_sun : Cond.selects yX9_sun.cls yX9_sun yX9_sun ∈ lw_all := (lw_mem 958 (by decide +kernel) rfl)
theorem cw_L_135 : CWm "BroadseamLoftLaw" 135 yX9_panel cX9_panel 7 (Option.some Jvm.ClassFile.FieldType.int) 4 := ⟨(lw_mem 965 (by decide +kernel) rfl), (lw_mem 37 (by decide +kernel) rfl), (lw_mem 968 (by decide +kernel) rfl), by decide +kernel, by decide +kernel, by decide +kernel⟩
theorem im_yX9_panel : Cond.instanceMethod yX9_panel ∈ lw_all := (lw_mem 966 (by decide +kernel) rfl)
theorem se_yX9_panel : Cond.selects yX9_panel.cls yX9_panel yX9_panel ∈ lw_all := (lw_mem 967 (by decide +kernel) rfl)
theorem cw_L_139 : CWm "BroadseamLoftLaw" 139 yX9_strength cX9_strength 2 (Option.some Jvm.ClassFile.FieldType.long) 1 := ⟨(lw_mem 969 (by decide +kernel) rfl), (lw_mem 37 (by decide +kernel) rfl), (lw_mem 972 (by decide +kernel) rfl), by decide +kernel, by decide +kernel, by decide +kernel⟩
theorem im_yX9_strength : Cond.instanceMethod yX9_strength ∈ lw_all := (lw_mem 970 (by decide +kernel) rfl)
theorem se_yX9_strength : Cond.selects yX9_strength.cls yX9_strength yX9_strength ∈ lw_all := (lw_mem 971 (by decide +kernel) rfl)
theorem cw_L_142 : CWm "BroadseamLoftLaw" 142 yX9_roll cX9_roll 7 (Option.some Jvm.ClassFile.FieldType.int) 1 := ⟨(lw_mem 982 (by decide +kernel) rfl), (lw_mem 37 (by decide +kernel) rfl), (lw_mem 985 (by decide +kernel) rfl), by decide +kernel, by decide +kernel, by decide +kernel⟩
theorem im_yX9_roll : Cond.instanceMethod yX9_roll ∈ lw_all := (lw_mem 983 (by decide +kernel) rfl)
theorem se_yX9_roll : Cond.selects yX9_roll.cls yX9_roll yX9_roll ∈ lw_all := (lw_mem 984 (by decide +kernel) rfl)
theorem cw_L_145 : CWm "BroadseamLoftLaw" 145 yX9_seam cX9_seam 5 (Option.some Jvm.ClassFile.FieldType.int) 3 := ⟨(lw_mem 994 (by decide +kernel) rfl), (lw_mem 37 (by decide +kernel) rfl), (lw_mem 997 (by decide +kernel) rfl), by decide +kernel, by decide +kernel, by decide +kernel⟩
theorem im_yX9_seam : Cond.instanceMethod yX9_seam ∈ lw_all := (lw_mem 995 (by decide +kernel) rfl)
theorem se_yX9_seam : Cond.selects yX9_seam.cls yX9_seam yX9_seam ∈ lw_all := (lw_mem 996 (by decide +kernel) rfl)
theorem cw_L_148 : CWm "BroadseamLoftLaw" 148 yX9_rip cX9_rip 3 (Option.some Jvm.ClassFile.FieldType.long) 1 := ⟨(lw_mem 998 (by decide +kernel) rfl), (lw_mem 37 (by decide +kernel) rfl), (lw_mem 1001 (by decide +kernel) rfl), by decide +kernel, by decide +kernel, by decide +kernel⟩
theorem im_yX9_rip : Cond.instanceMethod yX9_rip ∈ lw_all := (lw_mem 999 (by decide +kernel) rfl)
theorem se_yX9_rip : Cond.selects yX9_rip.cls yX9_rip yX9_rip ∈ lw_all := (lw_mem 1000 (by decide +kernel) rfl)
theorem cw_L_151 : CWm "BroadseamLoftLaw" 151 yX9_bears cX9_bears 3 (Option.some Jvm.ClassFile.FieldType.long) 2 := ⟨(lw_mem 1010 (by decide +kernel) rfl), (lw_mem 37 (by decide +kernel) rfl), (lw_mem 1013 (by decide +kernel) rfl), by decide +kernel, by decide +kernel, by decide +kernel⟩
theorem im_yX9_bears : Cond.instanceMethod yX9_bears ∈ lw_all := (lw_mem 1011 (by decide +kernel) rfl)
theorem se_yX9_bears : Cond.selects yX9_bears.cls yX9_bears yX9_bears ∈ lw_all := (lw_mem 1012 (by decide +kernel) rfl)
theorem cw_L_154 : CWm "BroadseamLoftLaw" 154 yX9_bearsAnew cX9_bearsAnew 3 (Option.some Jvm.ClassFile.FieldType.long) 2 := ⟨(lw_mem 1022 (by decide +kernel) rfl), (lw_mem 37 (by decide +kernel) rfl), (lw_mem 1025 (by decide +kernel) rfl), by decide +kernel, by decide +kernel, by decide +kernel⟩
theorem im_yX9_bearsAnew : Cond.instanceMethod yX9_bearsAnew ∈ lw_all := (lw_mem 1023 (by decide +kernel) rfl)
theorem se_yX9_bearsAnew : Cond.selects yX9_bearsAnew.cls yX9_bearsAnew yX9_bearsAnew ∈ lw_all := (lw_mem 1024 (by decide +kernel) rfl)
theorem cw_L_158 : CWm "BroadseamLoftLaw" 158 yX9_knot cX9_knot 5 (Option.some Jvm.ClassFile.FieldType.int) 3 := ⟨(lw_mem 1026 (by decide +kernel) rfl), (lw_mem 37 (by decide +kernel) rfl), (lw_mem 1029 (by decide +kernel) rfl), by decide +kernel, by decide +kernel, by decide +kernel⟩
theorem im_yX9_knot : Cond.instanceMethod yX9_knot ∈ lw_all := (lw_mem 1027 (by decide +kernel) rfl)
theorem se_yX9_knot : Cond.selects yX9_knot.cls yX9_knot yX9_knot ∈ lw_all := (lw_mem 1028 (by decide +kernel) rfl)
theorem cw_L_161 : CWm "BroadseamLoftLaw" 161 yX9_load cX9_load 3 (Option.some Jvm.ClassFile.FieldType.int) 1 := ⟨(lw_mem 1033 (by decide +kernel) rfl), (lw_mem 37 (by decide +kernel) rfl), (lw_mem 1036 (by decide +kernel) rfl), by decide +kernel, by decide +kernel, by decide +kernel⟩
theorem im_yX9_load : Cond.instanceMethod yX9_load ∈ lw_all := (lw_mem 1034 (by decide +kernel) rfl)
theorem se_yX9_load : Cond.selects yX9_load.cls yX9_load yX9_load ∈ lw_all := (lw_mem 1035 (by decide +kernel) rfl)
theorem cw_L_164 : CWm "BroadseamLoftLaw" 164 yX9_rest cX9_rest 4 (Option.some Jvm.ClassFile.FieldType.int) 1 := ⟨(lw_mem 1037 (by decide +kernel) rfl), (lw_mem 37 (by decide +kernel) rfl), (lw_mem 1040 (by decide +kernel) rfl), by decide +kernel, by decide +kernel, by decide +kernel⟩
theorem im_yX9_rest : Cond.instanceMethod yX9_rest ∈ lw_all := (lw_mem 1038 (by decide +kernel) rfl)
theorem se_yX9_rest : Cond.selects yX9_rest.cls yX9_rest yX9_rest ∈ lw_all := (lw_mem 1039 (by decide +kernel) rfl)
theorem cw_L_167 : CWm "BroadseamLoftLaw" 167 yX9_height cX9_height 2 (Option.some Jvm.ClassFile.FieldType.int) 1 := ⟨(lw_mem 1052 (by decide +kernel) rfl), (lw_mem 37 (by decide +kernel) rfl), (lw_mem 1055 (by decide +kernel) rfl), by decide +kernel, by decide +kernel, by decide +kernel⟩
theorem im_yX9_height : Cond.instanceMethod yX9_height ∈ lw_all := (lw_mem 1053 (by decide +kernel) rfl)
theorem se_yX9_height : Cond.selects yX9_height.cls yX9_height yX9_height ∈ lw_all := (lw_mem 1054 (by decide +kernel) rfl)
theorem k_L_168 : Cond.constantLong "BroadseamLoftLaw" 168 (4294967295) ∈ lw_all := (lw_mem 1167 (by decide +kernel) rfl)
theorem cw_L_173 : CWm "BroadseamLoftLaw" 173 yX9_peg cX9_peg 5 (Option.some Jvm.ClassFile.FieldType.int) 2 := ⟨(lw_mem 1056 (by decide +kernel) rfl), (lw_mem 37 (by decide +kernel) rfl), (lw_mem 1059 (by decide +kernel) rfl), by decide +kernel, by decide +kernel, by decide +kernel⟩
theorem im_yX9_peg : Cond.instanceMethod yX9_peg ∈ lw_all := (lw_mem 1057 (by decide +kernel) rfl)
theorem se_yX9_peg : Cond.selects yX9_peg.cls yX9_peg yX9_peg ∈ lw_all := (lw_mem 1058 (by decide +kernel) rfl)
theorem cw_L_177 : CWm "BroadseamLoftLaw" 177 yX9_gust cX9_gust 5 (Option.some Jvm.ClassFile.FieldType.int) 1 := ⟨(lw_mem 1061 (by decide +kernel) rfl), (lw_mem 37 (by decide +kernel) rfl), (lw_mem 1064 (by decide +kernel) rfl), by decide +kernel, by decide +kernel, by decide +kernel⟩
theorem im_yX9_gust : Cond.instanceMethod yX9_gust ∈ lw_all := (lw_mem 1062 (by decide +kernel) rfl)
theorem se_yX9_gust : Cond.selects yX9_gust.cls yX9_gust yX9_gust ∈ lw_all := (lw_mem 1063 (by decide +kernel) rfl)
theorem cw_L_180 : CWm "BroadseamLoftLaw" 180 yX9_pulled cX9_pulled 2 (Option.some Jvm.ClassFile.FieldType.long) 1 := ⟨(lw_mem 1070 (by decide +kernel) rfl), (lw_mem 37 (by decide +kernel) rfl), (lw_mem 1073 (by decide +kernel) rfl), by decide +kernel, by decide +kernel, by decide +kernel⟩
theorem im_yX9_pulled : Cond.instanceMethod yX9_pulled ∈ lw_all := (lw_mem 1071 (by decide +kernel) rfl)
theorem se_yX9_pulled : Cond.selects yX9_pulled.cls yX9_pulled yX9_pulled ∈ lw_all := (lw_mem 1072 (by decide +kernel) rfl)
theorem cw_L_181 : CWm "BroadseamLoftLaw" 181 yX8_pegs cX8_pegs 4 (Option.some Jvm.ClassFile.FieldType.int) 0 := ⟨(lw_mem 168 (by decide +kernel) rfl), (lw_mem 33 (by decide +kernel) rfl), (lw_mem 171 (by decide +kernel) rfl), by decide +kernel, by decide +kernel, by decide +kernel⟩
theorem im_yX8_pegs : Cond.instanceMethod yX8_pegs ∈ lw_all := (lw_mem 169 (by decide +kernel) rfl)
theorem se_yX8_pegs : Cond.selects yX8_pegs.cls yX8_pegs yX8_pegs ∈ lw_all := (lw_mem 170 (by decide +kernel) rfl)
theorem cw_L_184 : CWm "BroadseamLoftLaw" 184 yX9_pegs cX9_pegs 3 (Option.some Jvm.ClassFile.FieldType.int) 0 := ⟨(lw_mem 1074 (by decide +kernel) rfl), (lw_mem 37 (by decide +kernel) rfl), (lw_mem 1077 (by decide +kernel) rfl), by decide +kernel, by decide +kernel, by decide +kernel⟩
theorem im_yX9_pegs : Cond.instanceMethod yX9_pegs ∈ lw_all := (lw_mem 1075 (by decide +kernel) rfl)
theorem se_yX9_pegs : Cond.selects yX9_pegs.cls yX9_pegs yX9_pegs ∈ lw_all := (lw_mem 1076 (by decide +kernel) rfl)
theorem cw_L_188 : CWm "BroadseamLoftLaw" 188 yX9_trim cX9_trim 5 (Option.some Jvm.ClassFile.FieldType.float) 3 := ⟨(lw_mem 1078 (by decide +kernel) rfl), (lw_mem 37 (by decide +kernel) rfl), (lw_mem 1081 (by decide +kernel) rfl), by decide +kernel, by decide +kernel, by decide +kernel⟩
theorem im_yX9_trim : Cond.instanceMethod yX9_trim ∈ lw_all := (lw_mem 1079 (by decide +kernel) rfl)
theorem se_yX9_trim : Cond.selects yX9_trim.cls yX9_trim yX9_trim ∈ lw_all := (lw_mem 1080 (by decide +kernel) rfl)
theorem cw_L_192 : CWm "BroadseamLoftLaw" 192 yX9_power cX9_power 2 (Option.some Jvm.ClassFile.FieldType.float) 1 := ⟨(lw_mem 1089 (by decide +kernel) rfl), (lw_mem 37 (by decide +kernel) rfl), (lw_mem 1092 (by decide +kernel) rfl), by decide +kernel, by decide +kernel, by decide +kernel⟩
theorem im_yX9_power : Cond.instanceMethod yX9_power ∈ lw_all := (lw_mem 1090 (by decide +kernel) rfl)
theorem se_yX9_power : Cond.selects yX9_power.cls yX9_power yX9_power ∈ lw_all := (lw_mem 1091 (by decide +kernel) rfl)
theorem cw_L_195 : CWm "BroadseamLoftLaw" 195 yX9_halyard cX9_halyard 5 (Option.some Jvm.ClassFile.FieldType.int) 2 := ⟨(lw_mem 1098 (by decide +kernel) rfl), (lw_mem 37 (by decide +kernel) rfl), (lw_mem 1101 (by decide +kernel) rfl), by decide +kernel, by decide +kernel, by decide +kernel⟩
theorem im_yX9_halyard : Cond.instanceMethod yX9_halyard ∈ lw_all := (lw_mem 1099 (by decide +kernel) rfl)
theorem se_yX9_halyard : Cond.selects yX9_halyard.cls yX9_halyard yX9_halyard ∈ lw_all := (lw_mem 1100 (by decide +kernel) rfl)
theorem cw_L_198 : CWm "BroadseamLoftLaw" 198 yX9_pass cX9_pass 3 (Option.some Jvm.ClassFile.FieldType.int) 1 := ⟨(lw_mem 1103 (by decide +kernel) rfl), (lw_mem 37 (by decide +kernel) rfl), (lw_mem 1106 (by decide +kernel) rfl), by decide +kernel, by decide +kernel, by decide +kernel⟩
theorem im_yX9_pass : Cond.instanceMethod yX9_pass ∈ lw_all := (lw_mem 1104 (by decide +kernel) rfl)
theorem se_yX9_pass : Cond.selects yX9_pass.cls yX9_pass yX9_pass ∈ lw_all := (lw_mem 1105 (by decide +kernel) rfl)
theorem cw_L_201 : CWm "BroadseamLoftLaw" 201 yX9_canopy cX9_canopy 2 (Option.some Jvm.ClassFile.FieldType.int) 1 := ⟨(lw_mem 1107 (by decide +kernel) rfl), (lw_mem 37 (by decide +kernel) rfl), (lw_mem 1110 (by decide +kernel) rfl), by decide +kernel, by decide +kernel, by decide +kernel⟩
theorem im_yX9_canopy : Cond.instanceMethod yX9_canopy ∈ lw_all := (lw_mem 1108 (by decide +kernel) rfl)
theorem se_yX9_canopy : Cond.selects yX9_canopy.cls yX9_canopy yX9_canopy ∈ lw_all := (lw_mem 1109 (by decide +kernel) rfl)
theorem cw_L_204 : CWm "BroadseamLoftLaw" 204 yX9_part cX9_part 4 (Option.some Jvm.ClassFile.FieldType.int) 2 := ⟨(lw_mem 1111 (by decide +kernel) rfl), (lw_mem 37 (by decide +kernel) rfl), (lw_mem 1114 (by decide +kernel) rfl), by decide +kernel, by decide +kernel, by decide +kernel⟩
theorem im_yX9_part : Cond.instanceMethod yX9_part ∈ lw_all := (lw_mem 1112 (by decide +kernel) rfl)
theorem se_yX9_part : Cond.selects yX9_part.cls yX9_part yX9_part ∈ lw_all := (lw_mem 1113 (by decide +kernel) rfl)
theorem cw_L_207 : CWm "BroadseamLoftLaw" 207 yX9_opens cX9_opens 2 (Option.some Jvm.ClassFile.FieldType.int) 1 := ⟨(lw_mem 1123 (by decide +kernel) rfl), (lw_mem 37 (by decide +kernel) rfl), (lw_mem 1126 (by decide +kernel) rfl), by decide +kernel, by decide +kernel, by decide +kernel⟩
theorem im_yX9_opens : Cond.instanceMethod yX9_opens ∈ lw_all := (lw_mem 1124 (by decide +kernel) rfl)
theorem se_yX9_opens : Cond.selects yX9_opens.cls yX9_opens yX9_opens ∈ lw_all := (lw_mem 1125 (by decide +kernel) rfl)
theorem cw_L_210 : CWm "BroadseamLoftLaw" 210 yX9_seal cX9_seal 4 (Option.some Jvm.ClassFile.FieldType.int) 2 := ⟨(lw_mem 1131 (by decide +kernel) rfl), (lw_mem 37 (by decide +kernel) rfl), (lw_mem 1134 (by decide +kernel) rfl), by decide +kernel, by decide +kernel, by decide +kernel⟩
theorem im_yX9_seal : Cond.instanceMethod yX9_seal ∈ lw_all := (lw_mem 1132 (by decide +kernel) rfl)
theorem se_yX9_seal : Cond.selects yX9_seal.cls yX9_seal yX9_seal ∈ lw_all := (lw_mem 1133 (by decide +kernel) rfl)
theorem cw_L_213 : CWm "BroadseamLoftLaw" 213 yX9_use cX9_use 4 (Option.some Jvm.ClassFile.FieldType.int) 1 := ⟨(lw_mem 1139 (by decide +kernel) rfl), (lw_mem 37 (by decide +kernel) rfl), (lw_mem 1142 (by decide +kernel) rfl), by decide +kernel, by decide +kernel, by decide +kernel⟩
theorem im_yX9_use : Cond.instanceMethod yX9_use ∈ lw_all := (lw_mem 1140 (by decide +kernel) rfl)
theorem se_yX9_use : Cond.selects yX9_use.cls yX9_use yX9_use ∈ lw_all := (lw_mem 1141 (by decide +kernel) rfl)
theorem cw_L_217 : CWm "BroadseamLoftLaw" 217 yX9_wet cX9_wet 4 (Option.some Jvm.ClassFile.FieldType.int) 2 := ⟨(lw_mem 1147 (by decide +kernel) rfl), (lw_mem 37 (by decide +kernel) rfl), (lw_mem 1150 (by decide +kernel) rfl), by decide +kernel, by decide +kernel, by decide +kernel⟩
theorem im_yX9_wet : Cond.instanceMethod yX9_wet ∈ lw_all := (lw_mem 1148 (by decide +kernel) rfl)
theorem se_yX9_wet : Cond.selects yX9_wet.cls yX9_wet yX9_wet ∈ lw_all := (lw_mem 1149 (by decide +kernel) rfl)
theorem cw_L_220 : CWm "BroadseamLoftLaw" 220 yX9_find cX9_find 5 (Option.some Jvm.ClassFile.FieldType.int) 2 := ⟨(lw_mem 1151 (by decide +kernel) rfl), (lw_mem 37 (by decide +kernel) rfl), (lw_mem 1154 (by decide +kernel) rfl), by decide +kernel, by decide +kernel, by decide +kernel⟩
theorem im_yX9_find : Cond.instanceMethod yX9_find ∈ lw_all := (lw_mem 1152 (by decide +kernel) rfl)
theorem se_yX9_find : Cond.selects yX9_find.cls yX9_find yX9_find ∈ lw_all := (lw_mem 1153 (by decide +kernel) rfl)
theorem cw_L_223 : CWm "BroadseamLoftLaw" 223 yX9_ofCanopy cX9_ofCanopy 3 (Option.some Jvm.ClassFile.FieldType.int) 2 := ⟨(lw_mem 1155 (by decide +kernel) rfl), (lw_mem 37 (by decide +kernel) rfl), (lw_mem 1158 (by decide +kernel) rfl), by decide +kernel, by decide +kernel, by decide +kernel⟩
theorem im_yX9_ofCanopy : Cond.instanceMethod yX9_ofCanopy ∈ lw_all := (lw_mem 1156 (by decide +kernel) rfl)
theorem se_yX9_ofCanopy : Cond.selects yX9_ofCanopy.cls yX9_ofCanopy yX9_ofCanopy ∈ lw_all := (lw_mem 1157 (by decide +kernel) rfl)
theorem cw_L_226 : CWm "BroadseamLoftLaw" 226 yX9_lifeAnew cX9_lifeAnew 3 (Option.some Jvm.ClassFile.FieldType.int) 2 := ⟨(lw_mem 1163 (by decide +kernel) rfl), (lw_mem 37 (by decide +kernel) rfl), (lw_mem 1166 (by decide +kernel) rfl), by decide +kernel, by decide +kernel, by decide +kernel⟩
theorem im_yX9_lifeAnew : Cond.instanceMethod yX9_lifeAnew ∈ lw_all := (lw_mem 1164 (by decide +kernel) rfl)
theorem se_yX9_lifeAnew : Cond.selects yX9_lifeAnew.cls yX9_lifeAnew yX9_lifeAnew ∈ lw_all := (lw_mem 1165 (by decide +kernel) rfl)
theorem mc_imax : Cond.static Lib.Math.max.name ∈ lw_all ∧ Cond.initialized "java/lang/Math" ∈ lw_all ∧ Cond.code Lib.Math.max.name Lib.Math.max.code 2 (some .int) ∈ lw_all := ⟨(lw_mem 372 (by decide +kernel) rfl), (lw_mem 45 (by decide +kernel) rfl), (lw_mem 373 (by decide +kernel) rfl)⟩
theorem mc_imin : Cond.static Lib.Math.min.name ∈ lw_all ∧ Cond.initialized "java/lang/Math" ∈ lw_all ∧ Cond.code Lib.Math.min.name Lib.Math.min.code 2 (some .int) ∈ lw_all := ⟨(lw_mem 332 (by decide +kernel) rfl), (lw_mem 45 (by decide +kernel) rfl), (lw_mem 333 (by decide +kernel) rfl)⟩
theorem mc_lmax : Cond.static Lib.MathLoose.max_long.x ∈ lw_all ∧ Cond.initialized "java/lang/Math" ∈ lw_all ∧ Cond.code Lib.MathLoose.max_long.x Lib.MathLoose.max_long.code 4 (some .long) ∈ lw_all := ⟨(lw_mem 466 (by decide +kernel) rfl), (lw_mem 45 (by decide +kernel) rfl), (lw_mem 467 (by decide +kernel) rfl)⟩
theorem mc_lmin : Cond.static Lib.MathLoose.min_long.x ∈ lw_all ∧ Cond.initialized "java/lang/Math" ∈ lw_all ∧ Cond.code Lib.MathLoose.min_long.x Lib.MathLoose.min_long.code 4 (some .long) ∈ lw_all := ⟨(lw_mem 446 (by decide +kernel) rfl), (lw_mem 45 (by decide +kernel) rfl), (lw_mem 447 (by decide +kernel) rfl)⟩
theorem oi_X8_1 : Cond.methodLink "BroadseamLoft" 1 objectInit ∈ lw_all := (lw_mem 56 (by decide +kernel) rfl)
theorem oi_X3_3 : Cond.methodLink "BroadseamLoft$Net" 3 objectInit ∈ lw_all := (lw_mem 70 (by decide +kernel) rfl)
theorem oi_X6_1 : Cond.methodLink "BroadseamLoft$Sail" 1 objectInit ∈ lw_all := (lw_mem 96 (by decide +kernel) rfl)
theorem oi_X1_3 : Cond.methodLink "BroadseamLoft$Log" 3 objectInit ∈ lw_all := (lw_mem 116 (by decide +kernel) rfl)
theorem oi_X2_3 : Cond.methodLink "BroadseamLoft$Lot" 3 objectInit ∈ lw_all := (lw_mem 272 (by decide +kernel) rfl)
theorem ml_X8_102 : Cond.methodLink "BroadseamLoft" 102 Lib.Math.min.name ∈ lw_all := (lw_mem 331 (by decide +kernel) rfl)
theorem oi_X4_1 : Cond.methodLink "BroadseamLoft$Panel" 1 objectInit ∈ lw_all := (lw_mem 349 (by decide +kernel) rfl)
theorem ml_X2_24 : Cond.methodLink "BroadseamLoft$Lot" 24 Lib.Math.max.name ∈ lw_all := (lw_mem 371 (by decide +kernel) rfl)
theorem oi_X7_3 : Cond.methodLink "BroadseamLoft$Seam" 3 objectInit ∈ lw_all := (lw_mem 419 (by decide +kernel) rfl)
theorem ml_X7_28 : Cond.methodLink "BroadseamLoft$Seam" 28 Lib.MathLoose.min_long.x ∈ lw_all := (lw_mem 445 (by decide +kernel) rfl)
theorem ml_X7_41 : Cond.methodLink "BroadseamLoft$Seam" 41 Lib.MathLoose.max_long.x ∈ lw_all := (lw_mem 465 (by decide +kernel) rfl)
theorem ac_X3_20 : Cond.methodLink "BroadseamLoft$Net" 20 arraycopyName ∈ lw_all ∧ Cond.native arraycopyName ∈ lw_all ∧ Cond.static arraycopyName ∈ lw_all ∧ Cond.initialized "java/lang/System" ∈ lw_all := ⟨(lw_mem 520 (by decide +kernel) rfl), (lw_mem 522 (by decide +kernel) rfl), (lw_mem 521 (by decide +kernel) rfl), (lw_mem 48 (by decide +kernel) rfl)⟩
theorem ml_X3_38 : Cond.methodLink "BroadseamLoft$Net" 38 Lib.Math.max.name ∈ lw_all := (lw_mem 529 (by decide +kernel) rfl)
theorem ml_X3_51 : Cond.methodLink "BroadseamLoft$Net" 51 Lib.Math.min.name ∈ lw_all := (lw_mem 533 (by decide +kernel) rfl)
theorem oi_X5_1 : Cond.methodLink "BroadseamLoft$Peg" 1 objectInit ∈ lw_all := (lw_mem 555 (by decide +kernel) rfl)
theorem oi_X0_3 : Cond.methodLink "BroadseamLoft$Canopy" 3 objectInit ∈ lw_all := (lw_mem 663 (by decide +kernel) rfl)
theorem oi_X9_1 : Cond.methodLink "BroadseamLoftModel" 1 objectInit ∈ lw_all := (lw_mem 820 (by decide +kernel) rfl)
theorem oi_all : Cond.instanceMethod objectInit ∈ lw_all ∧ Cond.code objectInit ⟨#[0xb1]⟩ 1 none ∈ lw_all := ⟨(lw_mem 57 (by decide +kernel) rfl), (lw_mem 58 (by decide +kernel) rfl)⟩
theorem aw_int : Cond.arrayClass .int ∈ lw_all := (lw_mem 87 (by decide +kernel) rfl)
theorem aw_long : Cond.arrayClass .long ∈ lw_all := (lw_mem 939 (by decide +kernel) rfl)
theorem aw_boolean : Cond.arrayClass .boolean ∈ lw_all := (lw_mem 88 (by decide +kernel) rfl)
theorem aw_byte : Cond.arrayClass .byte ∈ lw_all := (lw_mem 124 (by decide +kernel) rfl)
theorem aw_double : Cond.arrayClass .double ∈ lw_all := (lw_mem 1168 (by decide +kernel) rfl)
theorem twg_X8_70 : ∀ w ∈ (vx_atS "BroadseamLoft" 70 "java/lang/IllegalArgumentException" ["java/lang/RuntimeException", "java/lang/Exception"]).filter goodWord, w ∈ lw_all := by
  have h : ∀ w ∈ (vx_atS "BroadseamLoft" 70 "java/lang/IllegalArgumentException" ["java/lang/RuntimeException", "java/lang/Exception"]).filter goodWord, w ∈ lw_tbl := by decide +kernel
  exact fun w hw => List.mem_filter.mpr ⟨h w hw, (List.mem_filter.mp hw).2⟩
theorem twn_X8_70 : ∀ w ∈ (vx_atS "BroadseamLoft" 70 "java/lang/IllegalArgumentException" ["java/lang/RuntimeException", "java/lang/Exception"]).filter (fun w => !goodWord w), w ∈ ngW := by decide +kernel
theorem twg_X8_81 : ∀ w ∈ (vx_atS "BroadseamLoft" 81 "java/lang/IllegalStateException" ["java/lang/RuntimeException", "java/lang/Exception"]).filter goodWord, w ∈ lw_all := by
  have h : ∀ w ∈ (vx_atS "BroadseamLoft" 81 "java/lang/IllegalStateException" ["java/lang/RuntimeException", "java/lang/Exception"]).filter goodWord, w ∈ lw_tbl := by decide +kernel
  exact fun w hw => List.mem_filter.mpr ⟨h w hw, (List.mem_filter.mp hw).2⟩
theorem twn_X8_81 : ∀ w ∈ (vx_atS "BroadseamLoft" 81 "java/lang/IllegalStateException" ["java/lang/RuntimeException", "java/lang/Exception"]).filter (fun w => !goodWord w), w ∈ ngW := by decide +kernel
theorem twg_X8_93 : ∀ w ∈ (vx_atS "BroadseamLoft" 93 "java/lang/IndexOutOfBoundsException" ["java/lang/RuntimeException", "java/lang/Exception"]).filter goodWord, w ∈ lw_all := by
  have h : ∀ w ∈ (vx_atS "BroadseamLoft" 93 "java/lang/IndexOutOfBoundsException" ["java/lang/RuntimeException", "java/lang/Exception"]).filter goodWord, w ∈ lw_tbl := by decide +kernel
  exact fun w hw => List.mem_filter.mpr ⟨h w hw, (List.mem_filter.mp hw).2⟩
theorem twn_X8_93 : ∀ w ∈ (vx_atS "BroadseamLoft" 93 "java/lang/IndexOutOfBoundsException" ["java/lang/RuntimeException", "java/lang/Exception"]).filter (fun w => !goodWord w), w ∈ ngW := by decide +kernel
theorem tw_X8_66_68_70 : TWm "BroadseamLoft" 66 68 70 "java/lang/IllegalArgumentException" "a strength is out of range" := ⟨by decide +kernel, (lw_mem 185 (by decide +kernel) rfl), (lw_mem 41 (by decide +kernel) rfl), List.mem_of_getElem? (i := 0) rfl, twg_X8_70, twn_X8_70, by decide +kernel⟩
theorem tw_X8_77_79_81 : TWm "BroadseamLoft" 77 79 81 "java/lang/IllegalStateException" "there are 6 lots" := ⟨by decide +kernel, (lw_mem 252 (by decide +kernel) rfl), (lw_mem 42 (by decide +kernel) rfl), List.mem_of_getElem? (i := 1) rfl, twg_X8_81, twn_X8_81, by decide +kernel⟩
theorem tw_X8_89_91_93 : TWm "BroadseamLoft" 89 91 93 "java/lang/IndexOutOfBoundsException" "no such lot" := ⟨by decide +kernel, (lw_mem 312 (by decide +kernel) rfl), (lw_mem 44 (by decide +kernel) rfl), List.mem_of_getElem? (i := 2) rfl, twg_X8_93, twn_X8_93, by decide +kernel⟩
theorem tw_X8_66_96_70 : TWm "BroadseamLoft" 66 96 70 "java/lang/IllegalArgumentException" "the hours are out of range" := ⟨by decide +kernel, (lw_mem 185 (by decide +kernel) rfl), (lw_mem 41 (by decide +kernel) rfl), List.mem_of_getElem? (i := 3) rfl, twg_X8_70, twn_X8_70, by decide +kernel⟩
theorem tw_X8_66_112_70 : TWm "BroadseamLoft" 66 112 70 "java/lang/IllegalArgumentException" "the panel does not lie on a roll so" := ⟨by decide +kernel, (lw_mem 185 (by decide +kernel) rfl), (lw_mem 41 (by decide +kernel) rfl), List.mem_of_getElem? (i := 4) rfl, twg_X8_70, twn_X8_70, by decide +kernel⟩
theorem tw_X8_77_117_81 : TWm "BroadseamLoft" 77 117 81 "java/lang/IllegalStateException" "there are 12 panels" := ⟨by decide +kernel, (lw_mem 252 (by decide +kernel) rfl), (lw_mem 42 (by decide +kernel) rfl), List.mem_of_getElem? (i := 5) rfl, twg_X8_81, twn_X8_81, by decide +kernel⟩
theorem tw_X8_89_129_93 : TWm "BroadseamLoft" 89 129 93 "java/lang/IndexOutOfBoundsException" "no such panel" := ⟨by decide +kernel, (lw_mem 312 (by decide +kernel) rfl), (lw_mem 44 (by decide +kernel) rfl), List.mem_of_getElem? (i := 6) rfl, twg_X8_93, twn_X8_93, by decide +kernel⟩
theorem tw_X8_66_139_70 : TWm "BroadseamLoft" 66 139 70 "java/lang/IllegalArgumentException" "both panels are one, or the kind is out of range" := ⟨by decide +kernel, (lw_mem 185 (by decide +kernel) rfl), (lw_mem 41 (by decide +kernel) rfl), List.mem_of_getElem? (i := 7) rfl, twg_X8_70, twn_X8_70, by decide +kernel⟩
theorem tw_X8_77_144_81 : TWm "BroadseamLoft" 77 144 81 "java/lang/IllegalStateException" "there were 30 seams" := ⟨by decide +kernel, (lw_mem 252 (by decide +kernel) rfl), (lw_mem 42 (by decide +kernel) rfl), List.mem_of_getElem? (i := 8) rfl, twg_X8_81, twn_X8_81, by decide +kernel⟩
theorem tw_X8_89_149_93 : TWm "BroadseamLoft" 89 149 93 "java/lang/IndexOutOfBoundsException" "no such seam" := ⟨by decide +kernel, (lw_mem 312 (by decide +kernel) rfl), (lw_mem 44 (by decide +kernel) rfl), List.mem_of_getElem? (i := 9) rfl, twg_X8_93, twn_X8_93, by decide +kernel⟩
theorem tw_X8_89_187_93 : TWm "BroadseamLoft" 89 187 93 "java/lang/IndexOutOfBoundsException" "no such knot" := ⟨by decide +kernel, (lw_mem 312 (by decide +kernel) rfl), (lw_mem 44 (by decide +kernel) rfl), List.mem_of_getElem? (i := 10) rfl, twg_X8_93, twn_X8_93, by decide +kernel⟩
theorem tw_X8_66_191_70 : TWm "BroadseamLoft" 66 191 70 "java/lang/IllegalArgumentException" "the height is out of range" := ⟨by decide +kernel, (lw_mem 185 (by decide +kernel) rfl), (lw_mem 41 (by decide +kernel) rfl), List.mem_of_getElem? (i := 11) rfl, twg_X8_70, twn_X8_70, by decide +kernel⟩
theorem tw_X8_66_203_70 : TWm "BroadseamLoft" 66 203 70 "java/lang/IllegalArgumentException" "the load is out of range" := ⟨by decide +kernel, (lw_mem 185 (by decide +kernel) rfl), (lw_mem 41 (by decide +kernel) rfl), List.mem_of_getElem? (i := 12) rfl, twg_X8_70, twn_X8_70, by decide +kernel⟩
theorem tw_X8_66_210_70 : TWm "BroadseamLoft" 66 210 70 "java/lang/IllegalArgumentException" "the steps are out of range" := ⟨by decide +kernel, (lw_mem 185 (by decide +kernel) rfl), (lw_mem 41 (by decide +kernel) rfl), List.mem_of_getElem? (i := 13) rfl, twg_X8_70, twn_X8_70, by decide +kernel⟩
theorem tw_X8_66_218_70 : TWm "BroadseamLoft" 66 218 70 "java/lang/IllegalArgumentException" "the hold or the stiffness is out of range" := ⟨by decide +kernel, (lw_mem 185 (by decide +kernel) rfl), (lw_mem 41 (by decide +kernel) rfl), List.mem_of_getElem? (i := 14) rfl, twg_X8_70, twn_X8_70, by decide +kernel⟩
theorem tw_X8_77_223_81 : TWm "BroadseamLoft" 77 223 81 "java/lang/IllegalStateException" "there were 8 pegs" := ⟨by decide +kernel, (lw_mem 252 (by decide +kernel) rfl), (lw_mem 42 (by decide +kernel) rfl), List.mem_of_getElem? (i := 15) rfl, twg_X8_81, twn_X8_81, by decide +kernel⟩
theorem tw_X8_66_230_70 : TWm "BroadseamLoft" 66 230 70 "java/lang/IllegalArgumentException" "the force is out of range" := ⟨by decide +kernel, (lw_mem 185 (by decide +kernel) rfl), (lw_mem 41 (by decide +kernel) rfl), List.mem_of_getElem? (i := 16) rfl, twg_X8_70, twn_X8_70, by decide +kernel⟩
theorem tw_X8_89_239_93 : TWm "BroadseamLoft" 89 239 93 "java/lang/IndexOutOfBoundsException" "there was no such peg" := ⟨by decide +kernel, (lw_mem 312 (by decide +kernel) rfl), (lw_mem 44 (by decide +kernel) rfl), List.mem_of_getElem? (i := 17) rfl, twg_X8_93, twn_X8_93, by decide +kernel⟩
theorem tw_X8_66_259_70 : TWm "BroadseamLoft" 66 259 70 "java/lang/IllegalArgumentException" "the halyard, the sheet or the reefs are out of range" := ⟨by decide +kernel, (lw_mem 185 (by decide +kernel) rfl), (lw_mem 41 (by decide +kernel) rfl), List.mem_of_getElem? (i := 18) rfl, twg_X8_70, twn_X8_70, by decide +kernel⟩
theorem tw_X8_66_274_70 : TWm "BroadseamLoft" 66 274 70 "java/lang/IllegalArgumentException" "the wind is out of range" := ⟨by decide +kernel, (lw_mem 185 (by decide +kernel) rfl), (lw_mem 41 (by decide +kernel) rfl), List.mem_of_getElem? (i := 19) rfl, twg_X8_70, twn_X8_70, by decide +kernel⟩
theorem tw_X8_66_282_70 : TWm "BroadseamLoft" 66 282 70 "java/lang/IllegalArgumentException" "the wind or the limit is out of range" := ⟨by decide +kernel, (lw_mem 185 (by decide +kernel) rfl), (lw_mem 41 (by decide +kernel) rfl), List.mem_of_getElem? (i := 20) rfl, twg_X8_70, twn_X8_70, by decide +kernel⟩
theorem tw_X8_66_286_70 : TWm "BroadseamLoft" 66 286 70 "java/lang/IllegalArgumentException" "the days are out of range" := ⟨by decide +kernel, (lw_mem 185 (by decide +kernel) rfl), (lw_mem 41 (by decide +kernel) rfl), List.mem_of_getElem? (i := 21) rfl, twg_X8_70, twn_X8_70, by decide +kernel⟩
theorem tw_X8_77_292_81 : TWm "BroadseamLoft" 77 292 81 "java/lang/IllegalStateException" "the day would be above 100000" := ⟨by decide +kernel, (lw_mem 252 (by decide +kernel) rfl), (lw_mem 42 (by decide +kernel) rfl), List.mem_of_getElem? (i := 22) rfl, twg_X8_81, twn_X8_81, by decide +kernel⟩
theorem tw_X8_77_297_81 : TWm "BroadseamLoft" 77 297 81 "java/lang/IllegalStateException" "there are 6 canopies" := ⟨by decide +kernel, (lw_mem 252 (by decide +kernel) rfl), (lw_mem 42 (by decide +kernel) rfl), List.mem_of_getElem? (i := 23) rfl, twg_X8_81, twn_X8_81, by decide +kernel⟩
theorem tw_X8_89_306_93 : TWm "BroadseamLoft" 89 306 93 "java/lang/IndexOutOfBoundsException" "no such canopy" := ⟨by decide +kernel, (lw_mem 312 (by decide +kernel) rfl), (lw_mem 44 (by decide +kernel) rfl), List.mem_of_getElem? (i := 24) rfl, twg_X8_93, twn_X8_93, by decide +kernel⟩
theorem tw_X8_66_310_70 : TWm "BroadseamLoft" 66 310 70 "java/lang/IllegalArgumentException" "what holds the part is out of range" := ⟨by decide +kernel, (lw_mem 185 (by decide +kernel) rfl), (lw_mem 41 (by decide +kernel) rfl), List.mem_of_getElem? (i := 25) rfl, twg_X8_70, twn_X8_70, by decide +kernel⟩
theorem tw_X8_77_321_81 : TWm "BroadseamLoft" 77 321 81 "java/lang/IllegalStateException" "the canopy has 8 parts, or is sealed" := ⟨by decide +kernel, (lw_mem 252 (by decide +kernel) rfl), (lw_mem 42 (by decide +kernel) rfl), List.mem_of_getElem? (i := 26) rfl, twg_X8_81, twn_X8_81, by decide +kernel⟩
theorem tw_X8_89_328_93 : TWm "BroadseamLoft" 89 328 93 "java/lang/IndexOutOfBoundsException" "no such canopy or rigger" := ⟨by decide +kernel, (lw_mem 312 (by decide +kernel) rfl), (lw_mem 44 (by decide +kernel) rfl), List.mem_of_getElem? (i := 27) rfl, twg_X8_93, twn_X8_93, by decide +kernel⟩
theorem tw_X8_77_333_81 : TWm "BroadseamLoft" 77 333 81 "java/lang/IllegalStateException" "the canopy cannot be sealed" := ⟨by decide +kernel, (lw_mem 252 (by decide +kernel) rfl), (lw_mem 42 (by decide +kernel) rfl), List.mem_of_getElem? (i := 28) rfl, twg_X8_81, twn_X8_81, by decide +kernel⟩
theorem tw_X8_77_354_81 : TWm "BroadseamLoft" 77 354 81 "java/lang/IllegalStateException" "the canopy has no seal, it is too old, or the lot is held" := ⟨by decide +kernel, (lw_mem 252 (by decide +kernel) rfl), (lw_mem 42 (by decide +kernel) rfl), List.mem_of_getElem? (i := 29) rfl, twg_X8_81, twn_X8_81, by decide +kernel⟩
theorem tw_X8_77_362_81 : TWm "BroadseamLoft" 77 362 81 "java/lang/IllegalStateException" "the canopy is sealed" := ⟨by decide +kernel, (lw_mem 252 (by decide +kernel) rfl), (lw_mem 42 (by decide +kernel) rfl), List.mem_of_getElem? (i := 30) rfl, twg_X8_81, twn_X8_81, by decide +kernel⟩
theorem tw_X8_77_370_81 : TWm "BroadseamLoft" 77 370 81 "java/lang/IllegalStateException" "the lot is so already" := ⟨by decide +kernel, (lw_mem 252 (by decide +kernel) rfl), (lw_mem 42 (by decide +kernel) rfl), List.mem_of_getElem? (i := 31) rfl, twg_X8_81, twn_X8_81, by decide +kernel⟩
theorem tw_X8_66_378_70 : TWm "BroadseamLoft" 66 378 70 "java/lang/IllegalArgumentException" "what is asked is out of range" := ⟨by decide +kernel, (lw_mem 185 (by decide +kernel) rfl), (lw_mem 41 (by decide +kernel) rfl), List.mem_of_getElem? (i := 32) rfl, twg_X8_70, twn_X8_70, by decide +kernel⟩
end
section
/-! locals: by their index; none where nothing is known -/
abbrev LV : Type := List (Option Value)
def lget (lv : LV) (i : Nat) : Option Value := (lv[i]?).join
def lokb (lv : LV) (i : Nat) : Bool := match i with
  | 0 => true
  | i + 1 => match lget lv i with
    | some w => w.category == 1
    | none => true
def lset (lv : LV) (i : Nat) (v : Value) : LV := lv.set i (some v)
def lset2 (lv : LV) (i : Nat) (v : Value) : LV := (lv.set (i + 1) none).set i (some v)
def lh (ls : Array Slot) (nL : Nat) (lv : LV) : Prop := ls.size = nL ∧ lv_wf ls ∧ ∀ (i : Nat) (v : Value), lget lv i = some v → ls[i]? = some (.val v)
def lprs (lv : LV) : List (Nat × Value) := (List.range lv.length).filterMap (fun i => (lget lv i).map (fun v => (i, v)))
theorem lget_lt {lv : LV} {i : Nat} {v : Value} (h : lget lv i = some v) : i < lv.length := by
  rcases Nat.lt_or_ge i lv.length with q | q
  · exact q
  · simp [lget, List.getElem?_eq_none q] at h
theorem lprs_mem {lv : LV} {i : Nat} {v : Value} : (i, v) ∈ lprs lv ↔ lget lv i = some v := by
  constructor
  · intro h
    obtain ⟨j, -, hj⟩ := List.mem_filterMap.mp h
    cases hg : lget lv j with
    | none => rw [hg] at hj; cases hj
    | some w => rw [hg] at hj; cases hj; exact hg
  · intro h
    exact List.mem_filterMap.mpr ⟨i, List.mem_range.mpr (lget_lt h), by rw [h]; rfl⟩
theorem lh_has {ls : Array Slot} {nL : Nat} {lv : LV} (h : lh ls nL lv) : lv_has ls nL (lprs lv) := ⟨h.1, h.2.1, fun q hq => h.2.2 q.1 q.2 (lprs_mem.mp hq)⟩
theorem lget_set {lv : LV} {i j : Nat} {x : Option Value} {w : Value} (h : lget (lv.set i x) j = some w) : (j = i ∧ x = some w) ∨ (j ≠ i ∧ lget lv j = some w) := by
  by_cases hj : j = i
  · subst hj
    left
    refine ⟨rfl, ?_⟩
    have hl : j < (lv.set j x).length := lget_lt h
    rw [List.length_set] at hl
    simp [lget, List.getElem?_set, hl] at h
    exact h
  · right
    refine ⟨hj, ?_⟩
    have e : (lv.set i x)[j]? = lv[j]? := List.getElem?_set_ne (fun q => hj q.symm)
    simpa only [lget, e] using h
theorem lokb_ne {lv : LV} {i j : Nat} {w : Value} (ho : lokb lv i = true) (h : lget lv j = some w) : ¬ (j + 1 = i ∧ w.category = 2) := by
  intro q
  obtain ⟨q1, q2⟩ := q
  subst q1
  simp [lokb, h, q2] at ho
theorem lh_set {ls ls' : Array Slot} {nL i : Nat} {lv : LV} {v : Value} (ho : lokb lv i = true) (h : lv_has ls' nL ((i, v) :: (lprs lv).filter (fun q => !(q.1 == i) && !(q.1 + 1 == i && q.2.category == 2)))) : lh ls' nL (lset lv i v) := by
  refine ⟨h.1, h.2.1, fun j w hw => ?_⟩
  rcases lget_set hw with ⟨rfl, h2⟩ | ⟨h1, h2⟩
  · cases h2
    exact h.2.2 (j, v) List.mem_cons_self
  · refine h.2.2 (j, w) (List.mem_cons_of_mem _ (List.mem_filter.mpr ⟨lprs_mem.mpr h2, ?_⟩))
    have := lokb_ne ho h2
    simp only [Bool.and_eq_true, Bool.not_eq_true', beq_eq_false_iff_ne, ne_eq, Bool.and_eq_false_imp, beq_iff_eq]
    exact ⟨h1, fun a b => this ⟨a, b⟩⟩
theorem lh_set2 {ls ls' : Array Slot} {nL i : Nat} {lv : LV} {v : Value} (ho : lokb lv i = true) (h : lv_has ls' nL ((i, v) :: (lprs lv).filter (fun q => !(q.1 == i) && (!(q.1 == i + 1) && !(q.1 + 1 == i && q.2.category == 2))))) : lh ls' nL (lset2 lv i v) := by
  refine ⟨h.1, h.2.1, fun j w hw => ?_⟩
  rcases lget_set hw with ⟨rfl, h2⟩ | ⟨h1, h2⟩
  · cases h2
    exact h.2.2 (j, v) List.mem_cons_self
  · rcases lget_set h2 with ⟨_, h4⟩ | ⟨h3, h4⟩
    · cases h4
    · refine h.2.2 (j, w) (List.mem_cons_of_mem _ (List.mem_filter.mpr ⟨lprs_mem.mpr h4, ?_⟩))
      have := lokb_ne ho h4
      simp only [Bool.and_eq_true, Bool.not_eq_true', beq_eq_false_iff_ne, ne_eq, Bool.and_eq_false_imp, beq_iff_eq]
      exact ⟨h1, h3, fun a b => this ⟨a, b⟩⟩
/-- the locals at a method's entry -/
def lent (As : List Value) : LV := match As with
  | [] => []
  | v :: r => if v.category = 2 then some v :: none :: lent r else some v :: lent r
theorem lent_args (As : List Value) : ∀ (o i : Nat) (v : Value), lget (lent As) i = some v → (o + i, v) ∈ lv_args o As := by
  induction As with
  | nil => intro o i v h; simp [lget, lent] at h
  | cons a r ih =>
    intro o i v h
    by_cases hc : a.category = 2
    · simp only [lent, hc, if_true] at h
      simp only [lv_args, hc, if_true]
      match i, h with
      | 0, h => simp [lget] at h; subst h; exact List.mem_cons_self
      | 1, h => simp [lget] at h
      | i + 2, h =>
        have := ih (o + 2) i v (by simpa [lget] using h)
        exact List.mem_cons_of_mem _ (by rw [show o + (i + 2) = o + 2 + i by omega]; exact this)
    · simp only [lent, hc, if_false] at h
      simp only [lv_args, hc, if_false]
      match i, h with
      | 0, h => simp [lget] at h; subst h; exact List.mem_cons_self
      | i + 1, h =>
        have := ih (o + 1) i v (by simpa [lget] using h)
        exact List.mem_cons_of_mem _ (by rw [show o + (i + 1) = o + 1 + i by omega]; exact this)
def lpad (lv : LV) (n : Nat) : LV := lv ++ List.replicate (n - lv.length) none
theorem lget_pad {lv : LV} {n i : Nat} {v : Value} (h : lget (lpad lv n) i = some v) : lget lv i = some v := by
  by_cases hi : i < lv.length
  · have e : (lpad lv n)[i]? = lv[i]? := List.getElem?_append_left hi
    simpa only [lget, e] using h
  · have e : (lpad lv n)[i]? = (List.replicate (n - lv.length) (none : Option Value))[i - lv.length]? := List.getElem?_append_right (by omega)
    simp only [lget, e, List.getElem?_replicate] at h
    split at h <;> simp at h
/-! THE CONTEXT of a walk: a tuple; what holds in it -/
abbrev KT : Type := Program × Launch × Env × State × MethodId × Array Value × List Frame × Method × Code × (Nat → Prop) × (State → Prop)
def V (cc : ByteArray) (own : String) (nL : Nat) (R : Room) (D : DT) (K : KT) (pc : Nat) (lv : LV) (st : List Value) (G : GT) (n : Nat × Nat) : Prop := match K with
  | (p, l, e, s, m, args, below, meth, c, A, Q) =>
    (p.tables.exec = Jvm.exec ∧ c.code = cc ∧ c.maxLocals = nL ∧ s.vm.findClass own = some m.cls ∧ (∀ w ∈ lw_all, w.before args s = true) ∧ va_K D.1 cls (tysL D.2) s ∧ (∀ q : Nat, s.heap.size ≤ q → A q) ∧ meth.locks = false ∧ ES A s s.heap ∧ l.stackTraces = false) →
    ∀ (H : Heap) (locs : List Loc) (ls : Array Slot), wd D G H → (∀ q : Nat, G.1 q ≠ 0 → A q) → va_S A s.heap H locs → lh ls nL lv → W p l e R s m args below meth c H locs n.1 n.2 Q (F0 m pc ls st)

theorem v_iconst {cc : ByteArray} {own : String} {nL : Nat} {R : Room} {D : DT} {K : KT} {pc : Nat} {lv : LV} {st : List Value} {G : GT} {n : Nat × Nat} {i : Int} {v : Int32} (hd : decode cc pc = .ok (.iconst i, 1)) (hv : Int32.ofInt i = v) (k : V cc own nL R D K (pc + 1) lv (.int v :: st) G n) : V cc own nL R D K pc lv st G n := by
  obtain ⟨p, l, e, s, m, args, below, meth, c, A, Q⟩ := K
  intro O H locs ls h1 h2 h3 h4
  exact lv_iconst O.1 O.2.1 hd hv (k O H locs ls h1 h2 h3 h4)
theorem v_bipush {cc : ByteArray} {own : String} {nL : Nat} {R : Room} {D : DT} {K : KT} {pc : Nat} {lv : LV} {st : List Value} {G : GT} {n : Nat × Nat} {i : Int} {v : Int32} (hd : decode cc pc = .ok (.bipush i, 2)) (hv : (Int8.ofInt i).toInt32 = v) (k : V cc own nL R D K (pc + 2) lv (.int v :: st) G n) : V cc own nL R D K pc lv st G n := by
  obtain ⟨p, l, e, s, m, args, below, meth, c, A, Q⟩ := K
  intro O H locs ls h1 h2 h3 h4
  exact lv_bipush O.1 O.2.1 hd hv (k O H locs ls h1 h2 h3 h4)
theorem v_sipush {cc : ByteArray} {own : String} {nL : Nat} {R : Room} {D : DT} {K : KT} {pc : Nat} {lv : LV} {st : List Value} {G : GT} {n : Nat × Nat} {i : Int} {v : Int32} (hd : decode cc pc = .ok (.sipush i, 3)) (hv : (Int16.ofInt i).toInt32 = v) (k : V cc own nL R D K (pc + 3) lv (.int v :: st) G n) : V cc own nL R D K pc lv st G n := by
  obtain ⟨p, l, e, s, m, args, below, meth, c, A, Q⟩ := K
  intro O H locs ls h1 h2 h3 h4
  exact lv_sipush O.1 O.2.1 hd hv (k O H locs ls h1 h2 h3 h4)
theorem v_lconst {cc : ByteArray} {own : String} {nL : Nat} {R : Room} {D : DT} {K : KT} {pc : Nat} {lv : LV} {st : List Value} {G : GT} {n : Nat × Nat} {i : Fin 2} {v : Int64} (hd : decode cc pc = .ok (.lconst i, 1)) (hv : Int64.ofNat (i : Nat) = v) (k : V cc own nL R D K (pc + 1) lv (.long v :: st) G n) : V cc own nL R D K pc lv st G n := by
  obtain ⟨p, l, e, s, m, args, below, meth, c, A, Q⟩ := K
  intro O H locs ls h1 h2 h3 h4
  exact lv_lconst O.1 O.2.1 hd hv (k O H locs ls h1 h2 h3 h4)
theorem v_fconst0 {cc : ByteArray} {own : String} {nL : Nat} {R : Room} {D : DT} {K : KT} {pc : Nat} {lv : LV} {st : List Value} {G : GT} {n : Nat × Nat}  (hd : decode cc pc = .ok (.fconst 0, 1)) (k : V cc own nL R D K (pc + 1) lv (.float FP.fconst0 :: st) G n) : V cc own nL R D K pc lv st G n := by
  obtain ⟨p, l, e, s, m, args, below, meth, c, A, Q⟩ := K
  intro O H locs ls h1 h2 h3 h4
  exact lv_fconst0 O.1 O.2.1 hd (k O H locs ls h1 h2 h3 h4)
theorem v_fconst1 {cc : ByteArray} {own : String} {nL : Nat} {R : Room} {D : DT} {K : KT} {pc : Nat} {lv : LV} {st : List Value} {G : GT} {n : Nat × Nat}  (hd : decode cc pc = .ok (.fconst 1, 1)) (k : V cc own nL R D K (pc + 1) lv (.float FP.fconst1 :: st) G n) : V cc own nL R D K pc lv st G n := by
  obtain ⟨p, l, e, s, m, args, below, meth, c, A, Q⟩ := K
  intro O H locs ls h1 h2 h3 h4
  exact lv_fconst1 O.1 O.2.1 hd (k O H locs ls h1 h2 h3 h4)
theorem v_null {cc : ByteArray} {own : String} {nL : Nat} {R : Room} {D : DT} {K : KT} {pc : Nat} {lv : LV} {st : List Value} {G : GT} {n : Nat × Nat}  (hd : decode cc pc = .ok (.aconst_null, 1)) (k : V cc own nL R D K (pc + 1) lv (.null :: st) G n) : V cc own nL R D K pc lv st G n := by
  obtain ⟨p, l, e, s, m, args, below, meth, c, A, Q⟩ := K
  intro O H locs ls h1 h2 h3 h4
  exact lv_null O.1 O.2.1 hd (k O H locs ls h1 h2 h3 h4)
theorem v_dup {cc : ByteArray} {own : String} {nL : Nat} {R : Room} {D : DT} {K : KT} {pc : Nat} {lv : LV} {st : List Value} {G : GT} {n : Nat × Nat} {x : Value} (hd : decode cc pc = .ok (.dup, 1)) (hx : x.category = 1) (k : V cc own nL R D K (pc + 1) lv (x :: x :: st) G n) : V cc own nL R D K pc lv (x :: st) G n := by
  obtain ⟨p, l, e, s, m, args, below, meth, c, A, Q⟩ := K
  intro O H locs ls h1 h2 h3 h4
  exact lv_dup O.1 O.2.1 hd hx (k O H locs ls h1 h2 h3 h4)
theorem v_dup_x1 {cc : ByteArray} {own : String} {nL : Nat} {R : Room} {D : DT} {K : KT} {pc : Nat} {lv : LV} {st : List Value} {G : GT} {n : Nat × Nat} {x y : Value} (hd : decode cc pc = .ok (.dup_x1, 1)) (hx : x.category = 1) (hy : y.category = 1) (k : V cc own nL R D K (pc + 1) lv (x :: y :: x :: st) G n) : V cc own nL R D K pc lv (x :: y :: st) G n := by
  obtain ⟨p, l, e, s, m, args, below, meth, c, A, Q⟩ := K
  intro O H locs ls h1 h2 h3 h4
  exact lv_dup_x1 O.1 O.2.1 hd hx hy (k O H locs ls h1 h2 h3 h4)
theorem v_dup2 {cc : ByteArray} {own : String} {nL : Nat} {R : Room} {D : DT} {K : KT} {pc : Nat} {lv : LV} {st : List Value} {G : GT} {n : Nat × Nat} {x y : Value} (hd : decode cc pc = .ok (.dup2, 1)) (hx : x.category = 1) (hy : y.category = 1) (k : V cc own nL R D K (pc + 1) lv (x :: y :: x :: y :: st) G n) : V cc own nL R D K pc lv (x :: y :: st) G n := by
  obtain ⟨p, l, e, s, m, args, below, meth, c, A, Q⟩ := K
  intro O H locs ls h1 h2 h3 h4
  exact lv_dup2_11 O.1 O.2.1 hd hx hy (k O H locs ls h1 h2 h3 h4)
theorem v_iadd {cc : ByteArray} {own : String} {nL : Nat} {R : Room} {D : DT} {K : KT} {pc : Nat} {lv : LV} {st : List Value} {G : GT} {n : Nat × Nat} {x y : Int32} (hd : decode cc pc = .ok (.iadd, 1)) (k : V cc own nL R D K (pc + 1) lv (.int (x + y) :: st) G n) : V cc own nL R D K pc lv (.int y :: .int x :: st) G n := by
  obtain ⟨p, l, e, s, m, args, below, meth, c, A, Q⟩ := K
  intro O H locs ls h1 h2 h3 h4
  exact lv_iadd O.1 O.2.1 hd (k O H locs ls h1 h2 h3 h4)
theorem v_isub {cc : ByteArray} {own : String} {nL : Nat} {R : Room} {D : DT} {K : KT} {pc : Nat} {lv : LV} {st : List Value} {G : GT} {n : Nat × Nat} {x y : Int32} (hd : decode cc pc = .ok (.isub, 1)) (k : V cc own nL R D K (pc + 1) lv (.int (x - y) :: st) G n) : V cc own nL R D K pc lv (.int y :: .int x :: st) G n := by
  obtain ⟨p, l, e, s, m, args, below, meth, c, A, Q⟩ := K
  intro O H locs ls h1 h2 h3 h4
  exact lv_isub O.1 O.2.1 hd (k O H locs ls h1 h2 h3 h4)
theorem v_imul {cc : ByteArray} {own : String} {nL : Nat} {R : Room} {D : DT} {K : KT} {pc : Nat} {lv : LV} {st : List Value} {G : GT} {n : Nat × Nat} {x y : Int32} (hd : decode cc pc = .ok (.imul, 1)) (k : V cc own nL R D K (pc + 1) lv (.int (x * y) :: st) G n) : V cc own nL R D K pc lv (.int y :: .int x :: st) G n := by
  obtain ⟨p, l, e, s, m, args, below, meth, c, A, Q⟩ := K
  intro O H locs ls h1 h2 h3 h4
  exact lv_imul O.1 O.2.1 hd (k O H locs ls h1 h2 h3 h4)
theorem v_iand {cc : ByteArray} {own : String} {nL : Nat} {R : Room} {D : DT} {K : KT} {pc : Nat} {lv : LV} {st : List Value} {G : GT} {n : Nat × Nat} {x y : Int32} (hd : decode cc pc = .ok (.iand, 1)) (k : V cc own nL R D K (pc + 1) lv (.int (x &&& y) :: st) G n) : V cc own nL R D K pc lv (.int y :: .int x :: st) G n := by
  obtain ⟨p, l, e, s, m, args, below, meth, c, A, Q⟩ := K
  intro O H locs ls h1 h2 h3 h4
  exact lv_iand O.1 O.2.1 hd (k O H locs ls h1 h2 h3 h4)
theorem v_ior {cc : ByteArray} {own : String} {nL : Nat} {R : Room} {D : DT} {K : KT} {pc : Nat} {lv : LV} {st : List Value} {G : GT} {n : Nat × Nat} {x y : Int32} (hd : decode cc pc = .ok (.ior, 1)) (k : V cc own nL R D K (pc + 1) lv (.int (x ||| y) :: st) G n) : V cc own nL R D K pc lv (.int y :: .int x :: st) G n := by
  obtain ⟨p, l, e, s, m, args, below, meth, c, A, Q⟩ := K
  intro O H locs ls h1 h2 h3 h4
  exact lv_ior O.1 O.2.1 hd (k O H locs ls h1 h2 h3 h4)
theorem v_ixor {cc : ByteArray} {own : String} {nL : Nat} {R : Room} {D : DT} {K : KT} {pc : Nat} {lv : LV} {st : List Value} {G : GT} {n : Nat × Nat} {x y : Int32} (hd : decode cc pc = .ok (.ixor, 1)) (k : V cc own nL R D K (pc + 1) lv (.int (x ^^^ y) :: st) G n) : V cc own nL R D K pc lv (.int y :: .int x :: st) G n := by
  obtain ⟨p, l, e, s, m, args, below, meth, c, A, Q⟩ := K
  intro O H locs ls h1 h2 h3 h4
  exact lv_ixor O.1 O.2.1 hd (k O H locs ls h1 h2 h3 h4)
theorem v_ladd {cc : ByteArray} {own : String} {nL : Nat} {R : Room} {D : DT} {K : KT} {pc : Nat} {lv : LV} {st : List Value} {G : GT} {n : Nat × Nat} {x y : Int64} (hd : decode cc pc = .ok (.ladd, 1)) (k : V cc own nL R D K (pc + 1) lv (.long (x + y) :: st) G n) : V cc own nL R D K pc lv (.long y :: .long x :: st) G n := by
  obtain ⟨p, l, e, s, m, args, below, meth, c, A, Q⟩ := K
  intro O H locs ls h1 h2 h3 h4
  exact lv_ladd O.1 O.2.1 hd (k O H locs ls h1 h2 h3 h4)
theorem v_lsub {cc : ByteArray} {own : String} {nL : Nat} {R : Room} {D : DT} {K : KT} {pc : Nat} {lv : LV} {st : List Value} {G : GT} {n : Nat × Nat} {x y : Int64} (hd : decode cc pc = .ok (.lsub, 1)) (k : V cc own nL R D K (pc + 1) lv (.long (x - y) :: st) G n) : V cc own nL R D K pc lv (.long y :: .long x :: st) G n := by
  obtain ⟨p, l, e, s, m, args, below, meth, c, A, Q⟩ := K
  intro O H locs ls h1 h2 h3 h4
  exact lv_lsub O.1 O.2.1 hd (k O H locs ls h1 h2 h3 h4)
theorem v_lmul {cc : ByteArray} {own : String} {nL : Nat} {R : Room} {D : DT} {K : KT} {pc : Nat} {lv : LV} {st : List Value} {G : GT} {n : Nat × Nat} {x y : Int64} (hd : decode cc pc = .ok (.lmul, 1)) (k : V cc own nL R D K (pc + 1) lv (.long (x * y) :: st) G n) : V cc own nL R D K pc lv (.long y :: .long x :: st) G n := by
  obtain ⟨p, l, e, s, m, args, below, meth, c, A, Q⟩ := K
  intro O H locs ls h1 h2 h3 h4
  exact lv_lmul O.1 O.2.1 hd (k O H locs ls h1 h2 h3 h4)
theorem v_land {cc : ByteArray} {own : String} {nL : Nat} {R : Room} {D : DT} {K : KT} {pc : Nat} {lv : LV} {st : List Value} {G : GT} {n : Nat × Nat} {x y : Int64} (hd : decode cc pc = .ok (.land, 1)) (k : V cc own nL R D K (pc + 1) lv (.long (x &&& y) :: st) G n) : V cc own nL R D K pc lv (.long y :: .long x :: st) G n := by
  obtain ⟨p, l, e, s, m, args, below, meth, c, A, Q⟩ := K
  intro O H locs ls h1 h2 h3 h4
  exact lv_land O.1 O.2.1 hd (k O H locs ls h1 h2 h3 h4)
theorem v_lor {cc : ByteArray} {own : String} {nL : Nat} {R : Room} {D : DT} {K : KT} {pc : Nat} {lv : LV} {st : List Value} {G : GT} {n : Nat × Nat} {x y : Int64} (hd : decode cc pc = .ok (.lor, 1)) (k : V cc own nL R D K (pc + 1) lv (.long (x ||| y) :: st) G n) : V cc own nL R D K pc lv (.long y :: .long x :: st) G n := by
  obtain ⟨p, l, e, s, m, args, below, meth, c, A, Q⟩ := K
  intro O H locs ls h1 h2 h3 h4
  exact lv_lor O.1 O.2.1 hd (k O H locs ls h1 h2 h3 h4)
theorem v_idiv {cc : ByteArray} {own : String} {nL : Nat} {R : Room} {D : DT} {K : KT} {pc : Nat} {lv : LV} {st : List Value} {G : GT} {n : Nat × Nat} {x y : Int32} (hd : decode cc pc = .ok (.idiv, 1)) (hne : ¬ y = 0) (k : V cc own nL R D K (pc + 1) lv (.int (x / y) :: st) G n) : V cc own nL R D K pc lv (.int y :: .int x :: st) G n := by
  obtain ⟨p, l, e, s, m, args, below, meth, c, A, Q⟩ := K
  intro O H locs ls h1 h2 h3 h4
  exact lv_idiv O.1 O.2.1 hd hne (k O H locs ls h1 h2 h3 h4)
theorem v_irem {cc : ByteArray} {own : String} {nL : Nat} {R : Room} {D : DT} {K : KT} {pc : Nat} {lv : LV} {st : List Value} {G : GT} {n : Nat × Nat} {x y : Int32} (hd : decode cc pc = .ok (.irem, 1)) (hne : ¬ y = 0) (k : V cc own nL R D K (pc + 1) lv (.int (x - (x / y) * y) :: st) G n) : V cc own nL R D K pc lv (.int y :: .int x :: st) G n := by
  obtain ⟨p, l, e, s, m, args, below, meth, c, A, Q⟩ := K
  intro O H locs ls h1 h2 h3 h4
  exact lv_irem O.1 O.2.1 hd hne (k O H locs ls h1 h2 h3 h4)
theorem v_ldiv {cc : ByteArray} {own : String} {nL : Nat} {R : Room} {D : DT} {K : KT} {pc : Nat} {lv : LV} {st : List Value} {G : GT} {n : Nat × Nat} {x y : Int64} (hd : decode cc pc = .ok (.ldiv, 1)) (hne : ¬ y = 0) (k : V cc own nL R D K (pc + 1) lv (.long (x / y) :: st) G n) : V cc own nL R D K pc lv (.long y :: .long x :: st) G n := by
  obtain ⟨p, l, e, s, m, args, below, meth, c, A, Q⟩ := K
  intro O H locs ls h1 h2 h3 h4
  exact lv_ldiv O.1 O.2.1 hd hne (k O H locs ls h1 h2 h3 h4)
theorem v_ishl {cc : ByteArray} {own : String} {nL : Nat} {R : Room} {D : DT} {K : KT} {pc : Nat} {lv : LV} {st : List Value} {G : GT} {n : Nat × Nat} {x y : Int32} (hd : decode cc pc = .ok (.ishl, 1)) (k : V cc own nL R D K (pc + 1) lv (.int (x <<< (y &&& 31)) :: st) G n) : V cc own nL R D K pc lv (.int y :: .int x :: st) G n := by
  obtain ⟨p, l, e, s, m, args, below, meth, c, A, Q⟩ := K
  intro O H locs ls h1 h2 h3 h4
  exact lv_ishl O.1 O.2.1 hd (k O H locs ls h1 h2 h3 h4)
theorem v_ishr {cc : ByteArray} {own : String} {nL : Nat} {R : Room} {D : DT} {K : KT} {pc : Nat} {lv : LV} {st : List Value} {G : GT} {n : Nat × Nat} {x y : Int32} (hd : decode cc pc = .ok (.ishr, 1)) (k : V cc own nL R D K (pc + 1) lv (.int (x >>> (y &&& 31)) :: st) G n) : V cc own nL R D K pc lv (.int y :: .int x :: st) G n := by
  obtain ⟨p, l, e, s, m, args, below, meth, c, A, Q⟩ := K
  intro O H locs ls h1 h2 h3 h4
  exact lv_ishr O.1 O.2.1 hd (k O H locs ls h1 h2 h3 h4)
theorem v_lshl {cc : ByteArray} {own : String} {nL : Nat} {R : Room} {D : DT} {K : KT} {pc : Nat} {lv : LV} {st : List Value} {G : GT} {n : Nat × Nat} {x : Int64} {y : Int32} (hd : decode cc pc = .ok (.lshl, 1)) (k : V cc own nL R D K (pc + 1) lv (.long (x <<< (y.toInt64 &&& 63)) :: st) G n) : V cc own nL R D K pc lv (.int y :: .long x :: st) G n := by
  obtain ⟨p, l, e, s, m, args, below, meth, c, A, Q⟩ := K
  intro O H locs ls h1 h2 h3 h4
  exact lv_lshl O.1 O.2.1 hd rfl (k O H locs ls h1 h2 h3 h4)
theorem v_i2l {cc : ByteArray} {own : String} {nL : Nat} {R : Room} {D : DT} {K : KT} {pc : Nat} {lv : LV} {st : List Value} {G : GT} {n : Nat × Nat} {x : Int32} (hd : decode cc pc = .ok (.i2l, 1)) (k : V cc own nL R D K (pc + 1) lv (.long x.toInt64 :: st) G n) : V cc own nL R D K pc lv (.int x :: st) G n := by
  obtain ⟨p, l, e, s, m, args, below, meth, c, A, Q⟩ := K
  intro O H locs ls h1 h2 h3 h4
  exact lv_i2l O.1 O.2.1 hd rfl (k O H locs ls h1 h2 h3 h4)
theorem v_i2b {cc : ByteArray} {own : String} {nL : Nat} {R : Room} {D : DT} {K : KT} {pc : Nat} {lv : LV} {st : List Value} {G : GT} {n : Nat × Nat} {x : Int32} (hd : decode cc pc = .ok (.i2b, 1)) (k : V cc own nL R D K (pc + 1) lv (.int x.toInt8.toInt32 :: st) G n) : V cc own nL R D K pc lv (.int x :: st) G n := by
  obtain ⟨p, l, e, s, m, args, below, meth, c, A, Q⟩ := K
  intro O H locs ls h1 h2 h3 h4
  exact lv_i2b O.1 O.2.1 hd rfl (k O H locs ls h1 h2 h3 h4)
theorem v_i2f {cc : ByteArray} {own : String} {nL : Nat} {R : Room} {D : DT} {K : KT} {pc : Nat} {lv : LV} {st : List Value} {G : GT} {n : Nat × Nat} {x : Int32} (hd : decode cc pc = .ok (.i2f, 1)) (k : V cc own nL R D K (pc + 1) lv (.float (FP.i2f x) :: st) G n) : V cc own nL R D K pc lv (.int x :: st) G n := by
  obtain ⟨p, l, e, s, m, args, below, meth, c, A, Q⟩ := K
  intro O H locs ls h1 h2 h3 h4
  exact lv_i2f O.1 O.2.1 hd (k O H locs ls h1 h2 h3 h4)
theorem v_f2d {cc : ByteArray} {own : String} {nL : Nat} {R : Room} {D : DT} {K : KT} {pc : Nat} {lv : LV} {st : List Value} {G : GT} {n : Nat × Nat} {x : UInt32} (hd : decode cc pc = .ok (.f2d, 1)) (hne : vf_n64 (FP.f2d x)) (k : V cc own nL R D K (pc + 1) lv (.double (FP.f2d x) :: st) G n) : V cc own nL R D K pc lv (.float x :: st) G n := by
  obtain ⟨p, l, e, s, m, args, below, meth, c, A, Q⟩ := K
  intro O H locs ls h1 h2 h3 h4
  exact lv_f2d O.1 O.2.1 hd hne (k O H locs ls h1 h2 h3 h4)
theorem v_fadd {cc : ByteArray} {own : String} {nL : Nat} {R : Room} {D : DT} {K : KT} {pc : Nat} {lv : LV} {st : List Value} {G : GT} {n : Nat × Nat} {x y : UInt32} (hd : decode cc pc = .ok (.fadd, 1)) (hne : vf_n32 (FP.fadd x y)) (k : V cc own nL R D K (pc + 1) lv (.float (FP.fadd x y) :: st) G n) : V cc own nL R D K pc lv (.float y :: .float x :: st) G n := by
  obtain ⟨p, l, e, s, m, args, below, meth, c, A, Q⟩ := K
  intro O H locs ls h1 h2 h3 h4
  exact lv_fadd O.1 O.2.1 hd hne (k O H locs ls h1 h2 h3 h4)
theorem v_fsub {cc : ByteArray} {own : String} {nL : Nat} {R : Room} {D : DT} {K : KT} {pc : Nat} {lv : LV} {st : List Value} {G : GT} {n : Nat × Nat} {x y : UInt32} (hd : decode cc pc = .ok (.fsub, 1)) (hne : vf_n32 (FP.fsub x y)) (k : V cc own nL R D K (pc + 1) lv (.float (FP.fsub x y) :: st) G n) : V cc own nL R D K pc lv (.float y :: .float x :: st) G n := by
  obtain ⟨p, l, e, s, m, args, below, meth, c, A, Q⟩ := K
  intro O H locs ls h1 h2 h3 h4
  exact lv_fsub O.1 O.2.1 hd hne (k O H locs ls h1 h2 h3 h4)
theorem v_fmul {cc : ByteArray} {own : String} {nL : Nat} {R : Room} {D : DT} {K : KT} {pc : Nat} {lv : LV} {st : List Value} {G : GT} {n : Nat × Nat} {x y : UInt32} (hd : decode cc pc = .ok (.fmul, 1)) (hne : vf_n32 (FP.fmul x y)) (k : V cc own nL R D K (pc + 1) lv (.float (FP.fmul x y) :: st) G n) : V cc own nL R D K pc lv (.float y :: .float x :: st) G n := by
  obtain ⟨p, l, e, s, m, args, below, meth, c, A, Q⟩ := K
  intro O H locs ls h1 h2 h3 h4
  exact lv_fmul O.1 O.2.1 hd hne (k O H locs ls h1 h2 h3 h4)
theorem v_fdiv {cc : ByteArray} {own : String} {nL : Nat} {R : Room} {D : DT} {K : KT} {pc : Nat} {lv : LV} {st : List Value} {G : GT} {n : Nat × Nat} {x y : UInt32} (hd : decode cc pc = .ok (.fdiv, 1)) (hne : vf_n32 (FP.fdiv x y)) (k : V cc own nL R D K (pc + 1) lv (.float (FP.fdiv x y) :: st) G n) : V cc own nL R D K pc lv (.float y :: .float x :: st) G n := by
  obtain ⟨p, l, e, s, m, args, below, meth, c, A, Q⟩ := K
  intro O H locs ls h1 h2 h3 h4
  exact lv_fdiv O.1 O.2.1 hd hne (k O H locs ls h1 h2 h3 h4)
theorem v_fcmp {cc : ByteArray} {own : String} {nL : Nat} {R : Room} {D : DT} {K : KT} {pc : Nat} {lv : LV} {st : List Value} {G : GT} {n : Nat × Nat} {x y : UInt32} {op : CmpOp} (hd : decode cc pc = .ok (.fcmp op, 1)) (k : V cc own nL R D K (pc + 1) lv (.int (Op.cmpValue (FP.fcmp x y) op) :: st) G n) : V cc own nL R D K pc lv (.float y :: .float x :: st) G n := by
  obtain ⟨p, l, e, s, m, args, below, meth, c, A, Q⟩ := K
  intro O H locs ls h1 h2 h3 h4
  exact lv_fcmp O.1 O.2.1 hd (k O H locs ls h1 h2 h3 h4)
theorem v_dcmp {cc : ByteArray} {own : String} {nL : Nat} {R : Room} {D : DT} {K : KT} {pc : Nat} {lv : LV} {st : List Value} {G : GT} {n : Nat × Nat} {x y : UInt64} {op : CmpOp} (hd : decode cc pc = .ok (.dcmp op, 1)) (k : V cc own nL R D K (pc + 1) lv (.int (Op.cmpValue (FP.dcmp x y) op) :: st) G n) : V cc own nL R D K pc lv (.double y :: .double x :: st) G n := by
  obtain ⟨p, l, e, s, m, args, below, meth, c, A, Q⟩ := K
  intro O H locs ls h1 h2 h3 h4
  exact lv_dcmp O.1 O.2.1 hd (k O H locs ls h1 h2 h3 h4)
theorem v_iload_n {cc : ByteArray} {own : String} {nL : Nat} {R : Room} {D : DT} {K : KT} {pc : Nat} {lv : LV} {st : List Value} {G : GT} {n : Nat × Nat} {i : Fin 4} {j : Nat} {x : Int32} (hd : decode cc pc = .ok (.iload_n i, 1)) (hi : (i : Nat) = j) (hx : lget lv j = some (.int x)) (k : V cc own nL R D K (pc + 1) lv (.int x :: st) G n) : V cc own nL R D K pc lv st G n := by
  obtain ⟨p, l, e, s, m, args, below, meth, c, A, Q⟩ := K
  intro O H locs ls h1 h2 h3 h4
  exact lv_iload_n O.1 O.2.1 hd hi (h4.2.2 _ _ hx) (k O H locs ls h1 h2 h3 h4)
theorem v_iload {cc : ByteArray} {own : String} {nL : Nat} {R : Room} {D : DT} {K : KT} {pc : Nat} {lv : LV} {st : List Value} {G : GT} {n : Nat × Nat} {j : Nat} {x : Int32} (hd : decode cc pc = .ok (.iload j, 2)) (hx : lget lv j = some (.int x)) (k : V cc own nL R D K (pc + 2) lv (.int x :: st) G n) : V cc own nL R D K pc lv st G n := by
  obtain ⟨p, l, e, s, m, args, below, meth, c, A, Q⟩ := K
  intro O H locs ls h1 h2 h3 h4
  exact lv_iload O.1 O.2.1 hd (h4.2.2 _ _ hx) (k O H locs ls h1 h2 h3 h4)
theorem v_lload_n {cc : ByteArray} {own : String} {nL : Nat} {R : Room} {D : DT} {K : KT} {pc : Nat} {lv : LV} {st : List Value} {G : GT} {n : Nat × Nat} {i : Fin 4} {j : Nat} {x : Int64} (hd : decode cc pc = .ok (.lload_n i, 1)) (hi : (i : Nat) = j) (hx : lget lv j = some (.long x)) (k : V cc own nL R D K (pc + 1) lv (.long x :: st) G n) : V cc own nL R D K pc lv st G n := by
  obtain ⟨p, l, e, s, m, args, below, meth, c, A, Q⟩ := K
  intro O H locs ls h1 h2 h3 h4
  exact lv_lload_n O.1 O.2.1 hd hi (h4.2.2 _ _ hx) (k O H locs ls h1 h2 h3 h4)
theorem v_lload {cc : ByteArray} {own : String} {nL : Nat} {R : Room} {D : DT} {K : KT} {pc : Nat} {lv : LV} {st : List Value} {G : GT} {n : Nat × Nat} {j : Nat} {x : Int64} (hd : decode cc pc = .ok (.lload j, 2)) (hx : lget lv j = some (.long x)) (k : V cc own nL R D K (pc + 2) lv (.long x :: st) G n) : V cc own nL R D K pc lv st G n := by
  obtain ⟨p, l, e, s, m, args, below, meth, c, A, Q⟩ := K
  intro O H locs ls h1 h2 h3 h4
  exact lv_lload O.1 O.2.1 hd (h4.2.2 _ _ hx) (k O H locs ls h1 h2 h3 h4)
theorem v_fload_n {cc : ByteArray} {own : String} {nL : Nat} {R : Room} {D : DT} {K : KT} {pc : Nat} {lv : LV} {st : List Value} {G : GT} {n : Nat × Nat} {i : Fin 4} {j : Nat} {x : UInt32} (hd : decode cc pc = .ok (.fload_n i, 1)) (hi : (i : Nat) = j) (hx : lget lv j = some (.float x)) (k : V cc own nL R D K (pc + 1) lv (.float x :: st) G n) : V cc own nL R D K pc lv st G n := by
  obtain ⟨p, l, e, s, m, args, below, meth, c, A, Q⟩ := K
  intro O H locs ls h1 h2 h3 h4
  exact lv_fload_n O.1 O.2.1 hd hi (h4.2.2 _ _ hx) (k O H locs ls h1 h2 h3 h4)
theorem v_fload {cc : ByteArray} {own : String} {nL : Nat} {R : Room} {D : DT} {K : KT} {pc : Nat} {lv : LV} {st : List Value} {G : GT} {n : Nat × Nat} {j : Nat} {x : UInt32} (hd : decode cc pc = .ok (.fload j, 2)) (hx : lget lv j = some (.float x)) (k : V cc own nL R D K (pc + 2) lv (.float x :: st) G n) : V cc own nL R D K pc lv st G n := by
  obtain ⟨p, l, e, s, m, args, below, meth, c, A, Q⟩ := K
  intro O H locs ls h1 h2 h3 h4
  exact lv_fload O.1 O.2.1 hd (h4.2.2 _ _ hx) (k O H locs ls h1 h2 h3 h4)
theorem v_aload_n {cc : ByteArray} {own : String} {nL : Nat} {R : Room} {D : DT} {K : KT} {pc : Nat} {lv : LV} {st : List Value} {G : GT} {n : Nat × Nat} {i : Fin 4} {j : Nat} {x : Nat} (hd : decode cc pc = .ok (.aload_n i, 1)) (hi : (i : Nat) = j) (hx : lget lv j = some (.ref x)) (k : V cc own nL R D K (pc + 1) lv (.ref x :: st) G n) : V cc own nL R D K pc lv st G n := by
  obtain ⟨p, l, e, s, m, args, below, meth, c, A, Q⟩ := K
  intro O H locs ls h1 h2 h3 h4
  exact lv_aload_n O.1 O.2.1 hd hi (h4.2.2 _ _ hx) (k O H locs ls h1 h2 h3 h4)
theorem v_aload {cc : ByteArray} {own : String} {nL : Nat} {R : Room} {D : DT} {K : KT} {pc : Nat} {lv : LV} {st : List Value} {G : GT} {n : Nat × Nat} {j : Nat} {x : Nat} (hd : decode cc pc = .ok (.aload j, 2)) (hx : lget lv j = some (.ref x)) (k : V cc own nL R D K (pc + 2) lv (.ref x :: st) G n) : V cc own nL R D K pc lv st G n := by
  obtain ⟨p, l, e, s, m, args, below, meth, c, A, Q⟩ := K
  intro O H locs ls h1 h2 h3 h4
  exact lv_aload O.1 O.2.1 hd (h4.2.2 _ _ hx) (k O H locs ls h1 h2 h3 h4)
theorem v_aload_nN {cc : ByteArray} {own : String} {nL : Nat} {R : Room} {D : DT} {K : KT} {pc : Nat} {lv : LV} {st : List Value} {G : GT} {n : Nat × Nat} {i : Fin 4} {j : Nat} (hd : decode cc pc = .ok (.aload_n i, 1)) (hi : (i : Nat) = j) (hx : lget lv j = some .null) (k : V cc own nL R D K (pc + 1) lv (.null :: st) G n) : V cc own nL R D K pc lv st G n := by
  obtain ⟨p, l, e, s, m, args, below, meth, c, A, Q⟩ := K
  intro O H locs ls h1 h2 h3 h4
  exact lv_aload_nN O.1 O.2.1 hd hi (h4.2.2 _ _ hx) (k O H locs ls h1 h2 h3 h4)
theorem v_aloadN {cc : ByteArray} {own : String} {nL : Nat} {R : Room} {D : DT} {K : KT} {pc : Nat} {lv : LV} {st : List Value} {G : GT} {n : Nat × Nat} {j : Nat} (hd : decode cc pc = .ok (.aload j, 2)) (hx : lget lv j = some .null) (k : V cc own nL R D K (pc + 2) lv (.null :: st) G n) : V cc own nL R D K pc lv st G n := by
  obtain ⟨p, l, e, s, m, args, below, meth, c, A, Q⟩ := K
  intro O H locs ls h1 h2 h3 h4
  exact lv_aloadN O.1 O.2.1 hd (h4.2.2 _ _ hx) (k O H locs ls h1 h2 h3 h4)
theorem v_istore_n {cc : ByteArray} {own : String} {nL : Nat} {R : Room} {D : DT} {K : KT} {pc : Nat} {lv : LV} {st : List Value} {G : GT} {n : Nat × Nat} {i : Fin 4} {j : Nat} {x : Int32} (hd : decode cc pc = .ok (.istore_n i, 1)) (hi : (i : Nat) = j) (ho : lokb lv j = true) (hn : j < nL) (k : V cc own nL R D K (pc + 1) (lset lv j (.int x)) st G n) : V cc own nL R D K pc lv ((.int x) :: st) G n := by
  obtain ⟨p, l, e, s, m, args, below, meth, c, A, Q⟩ := K
  intro O H locs ls h1 h2 h3 h4
  exact lv_istore_n O.1 O.2.1 hd hi (lh_has h4) hn rfl (fun ls' h' => k O H locs ls' h1 h2 h3 (lh_set (ls := ls) ho h'))
theorem v_istore {cc : ByteArray} {own : String} {nL : Nat} {R : Room} {D : DT} {K : KT} {pc : Nat} {lv : LV} {st : List Value} {G : GT} {n : Nat × Nat} {j : Nat} {x : Int32} (hd : decode cc pc = .ok (.istore j, 2)) (ho : lokb lv j = true) (hn : j < nL) (k : V cc own nL R D K (pc + 2) (lset lv j (.int x)) st G n) : V cc own nL R D K pc lv ((.int x) :: st) G n := by
  obtain ⟨p, l, e, s, m, args, below, meth, c, A, Q⟩ := K
  intro O H locs ls h1 h2 h3 h4
  exact lv_istore O.1 O.2.1 hd (lh_has h4) hn rfl (fun ls' h' => k O H locs ls' h1 h2 h3 (lh_set (ls := ls) ho h'))
theorem v_lstore_n {cc : ByteArray} {own : String} {nL : Nat} {R : Room} {D : DT} {K : KT} {pc : Nat} {lv : LV} {st : List Value} {G : GT} {n : Nat × Nat} {i : Fin 4} {j : Nat} {x : Int64} (hd : decode cc pc = .ok (.lstore_n i, 1)) (hi : (i : Nat) = j) (ho : lokb lv j = true) (hn : j + 1 < nL) (k : V cc own nL R D K (pc + 1) (lset2 lv j (.long x)) st G n) : V cc own nL R D K pc lv ((.long x) :: st) G n := by
  obtain ⟨p, l, e, s, m, args, below, meth, c, A, Q⟩ := K
  intro O H locs ls h1 h2 h3 h4
  exact lv_lstore_n O.1 O.2.1 hd hi (lh_has h4) hn rfl (fun ls' h' => k O H locs ls' h1 h2 h3 (lh_set2 (ls := ls) ho h'))
theorem v_lstore {cc : ByteArray} {own : String} {nL : Nat} {R : Room} {D : DT} {K : KT} {pc : Nat} {lv : LV} {st : List Value} {G : GT} {n : Nat × Nat} {j : Nat} {x : Int64} (hd : decode cc pc = .ok (.lstore j, 2)) (ho : lokb lv j = true) (hn : j + 1 < nL) (k : V cc own nL R D K (pc + 2) (lset2 lv j (.long x)) st G n) : V cc own nL R D K pc lv ((.long x) :: st) G n := by
  obtain ⟨p, l, e, s, m, args, below, meth, c, A, Q⟩ := K
  intro O H locs ls h1 h2 h3 h4
  exact lv_lstore O.1 O.2.1 hd (lh_has h4) hn rfl (fun ls' h' => k O H locs ls' h1 h2 h3 (lh_set2 (ls := ls) ho h'))
theorem v_fstore_n {cc : ByteArray} {own : String} {nL : Nat} {R : Room} {D : DT} {K : KT} {pc : Nat} {lv : LV} {st : List Value} {G : GT} {n : Nat × Nat} {i : Fin 4} {j : Nat} {x : UInt32} (hd : decode cc pc = .ok (.fstore_n i, 1)) (hi : (i : Nat) = j) (ho : lokb lv j = true) (hn : j < nL) (k : V cc own nL R D K (pc + 1) (lset lv j (.float x)) st G n) : V cc own nL R D K pc lv ((.float x) :: st) G n := by
  obtain ⟨p, l, e, s, m, args, below, meth, c, A, Q⟩ := K
  intro O H locs ls h1 h2 h3 h4
  exact lv_fstore_n O.1 O.2.1 hd hi (lh_has h4) hn rfl (fun ls' h' => k O H locs ls' h1 h2 h3 (lh_set (ls := ls) ho h'))
theorem v_fstore {cc : ByteArray} {own : String} {nL : Nat} {R : Room} {D : DT} {K : KT} {pc : Nat} {lv : LV} {st : List Value} {G : GT} {n : Nat × Nat} {j : Nat} {x : UInt32} (hd : decode cc pc = .ok (.fstore j, 2)) (ho : lokb lv j = true) (hn : j < nL) (k : V cc own nL R D K (pc + 2) (lset lv j (.float x)) st G n) : V cc own nL R D K pc lv ((.float x) :: st) G n := by
  obtain ⟨p, l, e, s, m, args, below, meth, c, A, Q⟩ := K
  intro O H locs ls h1 h2 h3 h4
  exact lv_fstore O.1 O.2.1 hd (lh_has h4) hn rfl (fun ls' h' => k O H locs ls' h1 h2 h3 (lh_set (ls := ls) ho h'))
theorem v_astore_n {cc : ByteArray} {own : String} {nL : Nat} {R : Room} {D : DT} {K : KT} {pc : Nat} {lv : LV} {st : List Value} {G : GT} {n : Nat × Nat} {i : Fin 4} {j : Nat} {x : Nat} (hd : decode cc pc = .ok (.astore_n i, 1)) (hi : (i : Nat) = j) (ho : lokb lv j = true) (hn : j < nL) (k : V cc own nL R D K (pc + 1) (lset lv j (.ref x)) st G n) : V cc own nL R D K pc lv ((.ref x) :: st) G n := by
  obtain ⟨p, l, e, s, m, args, below, meth, c, A, Q⟩ := K
  intro O H locs ls h1 h2 h3 h4
  exact lv_astore_n O.1 O.2.1 hd hi (lh_has h4) hn rfl (fun ls' h' => k O H locs ls' h1 h2 h3 (lh_set (ls := ls) ho h'))
theorem v_astore {cc : ByteArray} {own : String} {nL : Nat} {R : Room} {D : DT} {K : KT} {pc : Nat} {lv : LV} {st : List Value} {G : GT} {n : Nat × Nat} {j : Nat} {x : Nat} (hd : decode cc pc = .ok (.astore j, 2)) (ho : lokb lv j = true) (hn : j < nL) (k : V cc own nL R D K (pc + 2) (lset lv j (.ref x)) st G n) : V cc own nL R D K pc lv ((.ref x) :: st) G n := by
  obtain ⟨p, l, e, s, m, args, below, meth, c, A, Q⟩ := K
  intro O H locs ls h1 h2 h3 h4
  exact lv_astore O.1 O.2.1 hd (lh_has h4) hn rfl (fun ls' h' => k O H locs ls' h1 h2 h3 (lh_set (ls := ls) ho h'))
theorem v_astore_nN {cc : ByteArray} {own : String} {nL : Nat} {R : Room} {D : DT} {K : KT} {pc : Nat} {lv : LV} {st : List Value} {G : GT} {n : Nat × Nat} {i : Fin 4} {j : Nat} (hd : decode cc pc = .ok (.astore_n i, 1)) (hi : (i : Nat) = j) (ho : lokb lv j = true) (hn : j < nL) (k : V cc own nL R D K (pc + 1) (lset lv j .null) st G n) : V cc own nL R D K pc lv (.null :: st) G n := by
  obtain ⟨p, l, e, s, m, args, below, meth, c, A, Q⟩ := K
  intro O H locs ls h1 h2 h3 h4
  exact lv_astore_nN O.1 O.2.1 hd hi (lh_has h4) hn rfl (fun ls' h' => k O H locs ls' h1 h2 h3 (lh_set (ls := ls) ho h'))
theorem v_astoreN {cc : ByteArray} {own : String} {nL : Nat} {R : Room} {D : DT} {K : KT} {pc : Nat} {lv : LV} {st : List Value} {G : GT} {n : Nat × Nat} {j : Nat} (hd : decode cc pc = .ok (.astore j, 2)) (ho : lokb lv j = true) (hn : j < nL) (k : V cc own nL R D K (pc + 2) (lset lv j .null) st G n) : V cc own nL R D K pc lv (.null :: st) G n := by
  obtain ⟨p, l, e, s, m, args, below, meth, c, A, Q⟩ := K
  intro O H locs ls h1 h2 h3 h4
  exact lv_astoreN O.1 O.2.1 hd (lh_has h4) hn rfl (fun ls' h' => k O H locs ls' h1 h2 h3 (lh_set (ls := ls) ho h'))
theorem v_iinc {cc : ByteArray} {own : String} {nL : Nat} {R : Room} {D : DT} {K : KT} {pc : Nat} {lv : LV} {st : List Value} {G : GT} {n : Nat × Nat} {j : Nat} {i : Int} {x v : Int32} (hd : decode cc pc = .ok (.iinc j i, 3)) (hx : lget lv j = some (.int x)) (hv : x + Int32.ofInt i = v) (ho : lokb lv j = true) (hn : j < nL) (k : V cc own nL R D K (pc + 3) (lset lv j (.int v)) st G n) : V cc own nL R D K pc lv st G n := by
  obtain ⟨p, l, e, s, m, args, below, meth, c, A, Q⟩ := K
  intro O H locs ls h1 h2 h3 h4
  obtain ⟨k0, hk0⟩ := List.getElem?_of_mem (lprs_mem.mpr hx)
  exact lv_iinc O.1 O.2.1 hd (lh_has h4) (k := k0) hk0 hv hn rfl (fun ls' h' => k O H locs ls' h1 h2 h3 (lh_set (ls := ls) ho h'))
theorem v_if_eq {cc : ByteArray} {own : String} {nL : Nat} {R : Room} {D : DT} {K : KT} {pc : Nat} {lv : LV} {st : List Value} {G : GT} {n : Nat × Nat} {x : Int32} {off : Int} {tgt : Nat} (hd : decode cc pc = .ok (.ifCond .eq off, 3)) (ht : (pc : Int) + off = (tgt : Int)) (kt : x = 0 → V cc own nL R D K tgt lv st G n) (kf : ¬ x = 0 → V cc own nL R D K (pc + 3) lv st G n) : V cc own nL R D K pc lv (.int x :: st) G n := by
  obtain ⟨p, l, e, s, m, args, below, meth, c, A, Q⟩ := K
  intro O H locs ls h1 h2 h3 h4
  exact lv_if_eq O.1 O.2.1 hd ht (fun h => kt h O H locs ls h1 h2 h3 h4) (fun h => kf h O H locs ls h1 h2 h3 h4)
theorem v_if_ne {cc : ByteArray} {own : String} {nL : Nat} {R : Room} {D : DT} {K : KT} {pc : Nat} {lv : LV} {st : List Value} {G : GT} {n : Nat × Nat} {x : Int32} {off : Int} {tgt : Nat} (hd : decode cc pc = .ok (.ifCond .ne off, 3)) (ht : (pc : Int) + off = (tgt : Int)) (kt : ¬ x = 0 → V cc own nL R D K tgt lv st G n) (kf : x = 0 → V cc own nL R D K (pc + 3) lv st G n) : V cc own nL R D K pc lv (.int x :: st) G n := by
  obtain ⟨p, l, e, s, m, args, below, meth, c, A, Q⟩ := K
  intro O H locs ls h1 h2 h3 h4
  exact lv_if_ne O.1 O.2.1 hd ht (fun h => kt h O H locs ls h1 h2 h3 h4) (fun h => kf h O H locs ls h1 h2 h3 h4)
theorem v_if_lt {cc : ByteArray} {own : String} {nL : Nat} {R : Room} {D : DT} {K : KT} {pc : Nat} {lv : LV} {st : List Value} {G : GT} {n : Nat × Nat} {x : Int32} {off : Int} {tgt : Nat} (hd : decode cc pc = .ok (.ifCond .lt off, 3)) (ht : (pc : Int) + off = (tgt : Int)) (kt : x < 0 → V cc own nL R D K tgt lv st G n) (kf : ¬ x < 0 → V cc own nL R D K (pc + 3) lv st G n) : V cc own nL R D K pc lv (.int x :: st) G n := by
  obtain ⟨p, l, e, s, m, args, below, meth, c, A, Q⟩ := K
  intro O H locs ls h1 h2 h3 h4
  exact lv_if_lt O.1 O.2.1 hd ht (fun h => kt h O H locs ls h1 h2 h3 h4) (fun h => kf h O H locs ls h1 h2 h3 h4)
theorem v_if_ge {cc : ByteArray} {own : String} {nL : Nat} {R : Room} {D : DT} {K : KT} {pc : Nat} {lv : LV} {st : List Value} {G : GT} {n : Nat × Nat} {x : Int32} {off : Int} {tgt : Nat} (hd : decode cc pc = .ok (.ifCond .ge off, 3)) (ht : (pc : Int) + off = (tgt : Int)) (kt : 0 ≤ x → V cc own nL R D K tgt lv st G n) (kf : ¬ 0 ≤ x → V cc own nL R D K (pc + 3) lv st G n) : V cc own nL R D K pc lv (.int x :: st) G n := by
  obtain ⟨p, l, e, s, m, args, below, meth, c, A, Q⟩ := K
  intro O H locs ls h1 h2 h3 h4
  exact lv_if_ge O.1 O.2.1 hd ht (fun h => kt h O H locs ls h1 h2 h3 h4) (fun h => kf h O H locs ls h1 h2 h3 h4)
theorem v_if_gt {cc : ByteArray} {own : String} {nL : Nat} {R : Room} {D : DT} {K : KT} {pc : Nat} {lv : LV} {st : List Value} {G : GT} {n : Nat × Nat} {x : Int32} {off : Int} {tgt : Nat} (hd : decode cc pc = .ok (.ifCond .gt off, 3)) (ht : (pc : Int) + off = (tgt : Int)) (kt : 0 < x → V cc own nL R D K tgt lv st G n) (kf : ¬ 0 < x → V cc own nL R D K (pc + 3) lv st G n) : V cc own nL R D K pc lv (.int x :: st) G n := by
  obtain ⟨p, l, e, s, m, args, below, meth, c, A, Q⟩ := K
  intro O H locs ls h1 h2 h3 h4
  exact lv_if_gt O.1 O.2.1 hd ht (fun h => kt h O H locs ls h1 h2 h3 h4) (fun h => kf h O H locs ls h1 h2 h3 h4)
theorem v_if_le {cc : ByteArray} {own : String} {nL : Nat} {R : Room} {D : DT} {K : KT} {pc : Nat} {lv : LV} {st : List Value} {G : GT} {n : Nat × Nat} {x : Int32} {off : Int} {tgt : Nat} (hd : decode cc pc = .ok (.ifCond .le off, 3)) (ht : (pc : Int) + off = (tgt : Int)) (kt : x ≤ 0 → V cc own nL R D K tgt lv st G n) (kf : ¬ x ≤ 0 → V cc own nL R D K (pc + 3) lv st G n) : V cc own nL R D K pc lv (.int x :: st) G n := by
  obtain ⟨p, l, e, s, m, args, below, meth, c, A, Q⟩ := K
  intro O H locs ls h1 h2 h3 h4
  exact lv_if_le O.1 O.2.1 hd ht (fun h => kt h O H locs ls h1 h2 h3 h4) (fun h => kf h O H locs ls h1 h2 h3 h4)
theorem v_icmp_eq {cc : ByteArray} {own : String} {nL : Nat} {R : Room} {D : DT} {K : KT} {pc : Nat} {lv : LV} {st : List Value} {G : GT} {n : Nat × Nat} {x y : Int32} {off : Int} {tgt : Nat} (hd : decode cc pc = .ok (.if_icmp .eq off, 3)) (ht : (pc : Int) + off = (tgt : Int)) (kt : x = y → V cc own nL R D K tgt lv st G n) (kf : ¬ x = y → V cc own nL R D K (pc + 3) lv st G n) : V cc own nL R D K pc lv (.int y :: .int x :: st) G n := by
  obtain ⟨p, l, e, s, m, args, below, meth, c, A, Q⟩ := K
  intro O H locs ls h1 h2 h3 h4
  exact lv_icmp_eq O.1 O.2.1 hd ht (fun h => kt h O H locs ls h1 h2 h3 h4) (fun h => kf h O H locs ls h1 h2 h3 h4)
theorem v_icmp_ne {cc : ByteArray} {own : String} {nL : Nat} {R : Room} {D : DT} {K : KT} {pc : Nat} {lv : LV} {st : List Value} {G : GT} {n : Nat × Nat} {x y : Int32} {off : Int} {tgt : Nat} (hd : decode cc pc = .ok (.if_icmp .ne off, 3)) (ht : (pc : Int) + off = (tgt : Int)) (kt : ¬ x = y → V cc own nL R D K tgt lv st G n) (kf : x = y → V cc own nL R D K (pc + 3) lv st G n) : V cc own nL R D K pc lv (.int y :: .int x :: st) G n := by
  obtain ⟨p, l, e, s, m, args, below, meth, c, A, Q⟩ := K
  intro O H locs ls h1 h2 h3 h4
  exact lv_icmp_ne O.1 O.2.1 hd ht (fun h => kt h O H locs ls h1 h2 h3 h4) (fun h => kf h O H locs ls h1 h2 h3 h4)
theorem v_icmp_lt {cc : ByteArray} {own : String} {nL : Nat} {R : Room} {D : DT} {K : KT} {pc : Nat} {lv : LV} {st : List Value} {G : GT} {n : Nat × Nat} {x y : Int32} {off : Int} {tgt : Nat} (hd : decode cc pc = .ok (.if_icmp .lt off, 3)) (ht : (pc : Int) + off = (tgt : Int)) (kt : x < y → V cc own nL R D K tgt lv st G n) (kf : ¬ x < y → V cc own nL R D K (pc + 3) lv st G n) : V cc own nL R D K pc lv (.int y :: .int x :: st) G n := by
  obtain ⟨p, l, e, s, m, args, below, meth, c, A, Q⟩ := K
  intro O H locs ls h1 h2 h3 h4
  exact lv_icmp_lt O.1 O.2.1 hd ht (fun h => kt h O H locs ls h1 h2 h3 h4) (fun h => kf h O H locs ls h1 h2 h3 h4)
theorem v_icmp_ge {cc : ByteArray} {own : String} {nL : Nat} {R : Room} {D : DT} {K : KT} {pc : Nat} {lv : LV} {st : List Value} {G : GT} {n : Nat × Nat} {x y : Int32} {off : Int} {tgt : Nat} (hd : decode cc pc = .ok (.if_icmp .ge off, 3)) (ht : (pc : Int) + off = (tgt : Int)) (kt : y ≤ x → V cc own nL R D K tgt lv st G n) (kf : ¬ y ≤ x → V cc own nL R D K (pc + 3) lv st G n) : V cc own nL R D K pc lv (.int y :: .int x :: st) G n := by
  obtain ⟨p, l, e, s, m, args, below, meth, c, A, Q⟩ := K
  intro O H locs ls h1 h2 h3 h4
  exact lv_icmp_ge O.1 O.2.1 hd ht (fun h => kt h O H locs ls h1 h2 h3 h4) (fun h => kf h O H locs ls h1 h2 h3 h4)
theorem v_icmp_gt {cc : ByteArray} {own : String} {nL : Nat} {R : Room} {D : DT} {K : KT} {pc : Nat} {lv : LV} {st : List Value} {G : GT} {n : Nat × Nat} {x y : Int32} {off : Int} {tgt : Nat} (hd : decode cc pc = .ok (.if_icmp .gt off, 3)) (ht : (pc : Int) + off = (tgt : Int)) (kt : y < x → V cc own nL R D K tgt lv st G n) (kf : ¬ y < x → V cc own nL R D K (pc + 3) lv st G n) : V cc own nL R D K pc lv (.int y :: .int x :: st) G n := by
  obtain ⟨p, l, e, s, m, args, below, meth, c, A, Q⟩ := K
  intro O H locs ls h1 h2 h3 h4
  exact lv_icmp_gt O.1 O.2.1 hd ht (fun h => kt h O H locs ls h1 h2 h3 h4) (fun h => kf h O H locs ls h1 h2 h3 h4)
theorem v_icmp_le {cc : ByteArray} {own : String} {nL : Nat} {R : Room} {D : DT} {K : KT} {pc : Nat} {lv : LV} {st : List Value} {G : GT} {n : Nat × Nat} {x y : Int32} {off : Int} {tgt : Nat} (hd : decode cc pc = .ok (.if_icmp .le off, 3)) (ht : (pc : Int) + off = (tgt : Int)) (kt : x ≤ y → V cc own nL R D K tgt lv st G n) (kf : ¬ x ≤ y → V cc own nL R D K (pc + 3) lv st G n) : V cc own nL R D K pc lv (.int y :: .int x :: st) G n := by
  obtain ⟨p, l, e, s, m, args, below, meth, c, A, Q⟩ := K
  intro O H locs ls h1 h2 h3 h4
  exact lv_icmp_le O.1 O.2.1 hd ht (fun h => kt h O H locs ls h1 h2 h3 h4) (fun h => kf h O H locs ls h1 h2 h3 h4)
theorem v_goto {cc : ByteArray} {own : String} {nL : Nat} {R : Room} {D : DT} {K : KT} {pc : Nat} {lv : LV} {st : List Value} {G : GT} {n : Nat × Nat} {off : Int} {tgt : Nat} (hd : decode cc pc = .ok (.goto off, 3)) (ht : (pc : Int) + off = (tgt : Int)) (k : V cc own nL R D K tgt lv st G n) : V cc own nL R D K pc lv st G n := by
  obtain ⟨p, l, e, s, m, args, below, meth, c, A, Q⟩ := K
  intro O H locs ls h1 h2 h3 h4
  exact lv_goto O.1 O.2.1 hd ht (k O H locs ls h1 h2 h3 h4)
theorem v_lcmp {cc : ByteArray} {own : String} {nL : Nat} {R : Room} {D : DT} {K : KT} {pc : Nat} {lv : LV} {st : List Value} {G : GT} {n : Nat × Nat} {x y : Int64} (hd : decode cc pc = .ok (.lcmp, 1)) (k : V cc own nL R D K (pc + 1) lv (.int (lg_cmp x y) :: st) G n) : V cc own nL R D K pc lv (.long y :: .long x :: st) G n := by
  obtain ⟨p, l, e, s, m, args, below, meth, c, A, Q⟩ := K
  intro O H locs ls h1 h2 h3 h4
  exact W.lcmp O.1 O.2.1 hd (k O H locs ls h1 h2 h3 h4)
theorem v_ifnull {cc : ByteArray} {own : String} {nL : Nat} {R : Room} {D : DT} {K : KT} {pc : Nat} {lv : LV} {st : List Value} {G : GT} {n : Nat × Nat} {x : Nat} {off : Int} (hd : decode cc pc = .ok (.ifnull off, 3)) (k : V cc own nL R D K (pc + 3) lv st G n) : V cc own nL R D K pc lv (.ref x :: st) G n := by
  obtain ⟨p, l, e, s, m, args, below, meth, c, A, Q⟩ := K
  intro O H locs ls h1 h2 h3 h4
  exact lv_ifnull O.1 O.2.1 hd (k O H locs ls h1 h2 h3 h4)
theorem v_ifnullN {cc : ByteArray} {own : String} {nL : Nat} {R : Room} {D : DT} {K : KT} {pc : Nat} {lv : LV} {st : List Value} {G : GT} {n : Nat × Nat} {off : Int} {tgt : Nat} (hd : decode cc pc = .ok (.ifnull off, 3)) (ht : (pc : Int) + off = (tgt : Int)) (k : V cc own nL R D K tgt lv st G n) : V cc own nL R D K pc lv (.null :: st) G n := by
  obtain ⟨p, l, e, s, m, args, below, meth, c, A, Q⟩ := K
  intro O H locs ls h1 h2 h3 h4
  exact lv_ifnullN O.1 O.2.1 hd ht (k O H locs ls h1 h2 h3 h4)
theorem v_ifnonnull {cc : ByteArray} {own : String} {nL : Nat} {R : Room} {D : DT} {K : KT} {pc : Nat} {lv : LV} {st : List Value} {G : GT} {n : Nat × Nat} {x : Nat} {off : Int} {tgt : Nat} (hd : decode cc pc = .ok (.ifnonnull off, 3)) (ht : (pc : Int) + off = (tgt : Int)) (k : V cc own nL R D K tgt lv st G n) : V cc own nL R D K pc lv (.ref x :: st) G n := by
  obtain ⟨p, l, e, s, m, args, below, meth, c, A, Q⟩ := K
  intro O H locs ls h1 h2 h3 h4
  exact lv_ifnonnull O.1 O.2.1 hd ht (k O H locs ls h1 h2 h3 h4)
theorem v_ifnonnullN {cc : ByteArray} {own : String} {nL : Nat} {R : Room} {D : DT} {K : KT} {pc : Nat} {lv : LV} {st : List Value} {G : GT} {n : Nat × Nat} {off : Int} (hd : decode cc pc = .ok (.ifnonnull off, 3)) (k : V cc own nL R D K (pc + 3) lv st G n) : V cc own nL R D K pc lv (.null :: st) G n := by
  obtain ⟨p, l, e, s, m, args, below, meth, c, A, Q⟩ := K
  intro O H locs ls h1 h2 h3 h4
  exact lv_ifnonnullN O.1 O.2.1 hd (k O H locs ls h1 h2 h3 h4)
theorem v_tin {cc : ByteArray} {own : String} {nL : Nat} {R : Room} {D : DT} {K : KT} {pc : Nat} {lv : LV} {st : List Value} {G : GT} {n : Nat × Nat} {dflt lo hi : Int} {offs : Array Int} {len : Nat} {x : Int32} {off : Int} {tgt : Nat} (hd : decode cc pc = .ok (.tableswitch dflt lo hi offs, len)) (a1 : ¬ x.toInt < lo) (a2 : ¬ hi < x.toInt) (ho : offs[(x.toInt - lo).toNat]? = some off) (ht : (pc : Int) + off = (tgt : Int)) (k : V cc own nL R D K tgt lv st G n) : V cc own nL R D K pc lv (.int x :: st) G n := by
  obtain ⟨p, l, e, s, m, args, below, meth, c, A, Q⟩ := K
  intro O H locs ls h1 h2 h3 h4
  exact lv_tableIn O.1 O.2.1 hd a1 a2 ho ht (k O H locs ls h1 h2 h3 h4)
theorem v_tout {cc : ByteArray} {own : String} {nL : Nat} {R : Room} {D : DT} {K : KT} {pc : Nat} {lv : LV} {st : List Value} {G : GT} {n : Nat × Nat} {dflt lo hi : Int} {offs : Array Int} {len : Nat} {x : Int32} {tgt : Nat} (hd : decode cc pc = .ok (.tableswitch dflt lo hi offs, len)) (a1 : x.toInt < lo ∨ hi < x.toInt) (ht : (pc : Int) + dflt = (tgt : Int)) (k : V cc own nL R D K tgt lv st G n) : V cc own nL R D K pc lv (.int x :: st) G n := by
  obtain ⟨p, l, e, s, m, args, below, meth, c, A, Q⟩ := K
  intro O H locs ls h1 h2 h3 h4
  exact lv_tableOut O.1 O.2.1 hd a1 ht (k O H locs ls h1 h2 h3 h4)
theorem v_ldc {cc : ByteArray} {own : String} {nL : Nat} {R : Room} {D : DT} {K : KT} {pc : Nat} {lv : LV} {st : List Value} {G : GT} {n : Nat × Nat} {i : Nat} {v : Int32} (hd : decode cc pc = .ok (.ldc i, 2)) (hw : Cond.constant own i v ∈ lw_all) (k : V cc own nL R D K (pc + 2) lv (.int v :: st) G n) : V cc own nL R D K pc lv st G n := by
  obtain ⟨p, l, e, s, m, args, below, meth, c, A, Q⟩ := K
  intro O H locs ls h1 h2 h3 h4
  exact lv_ldc O.1 O.2.1 O.2.2.2.1 (O.2.2.2.2.1 _ hw) hd (k O H locs ls h1 h2 h3 h4)
theorem v_ldcw {cc : ByteArray} {own : String} {nL : Nat} {R : Room} {D : DT} {K : KT} {pc : Nat} {lv : LV} {st : List Value} {G : GT} {n : Nat × Nat} {i : Nat} {v : Int32} (hd : decode cc pc = .ok (.ldc_w i, 3)) (hw : Cond.constant own i v ∈ lw_all) (k : V cc own nL R D K (pc + 3) lv (.int v :: st) G n) : V cc own nL R D K pc lv st G n := by
  obtain ⟨p, l, e, s, m, args, below, meth, c, A, Q⟩ := K
  intro O H locs ls h1 h2 h3 h4
  exact lv_ldcw O.1 O.2.1 O.2.2.2.1 (O.2.2.2.2.1 _ hw) hd (k O H locs ls h1 h2 h3 h4)
theorem v_ldcf {cc : ByteArray} {own : String} {nL : Nat} {R : Room} {D : DT} {K : KT} {pc : Nat} {lv : LV} {st : List Value} {G : GT} {n : Nat × Nat} {i : Nat} {v : UInt32} (hd : decode cc pc = .ok (.ldc i, 2)) (hw : Cond.constantFloat own i v ∈ lw_all) (k : V cc own nL R D K (pc + 2) lv (.float v :: st) G n) : V cc own nL R D K pc lv st G n := by
  obtain ⟨p, l, e, s, m, args, below, meth, c, A, Q⟩ := K
  intro O H locs ls h1 h2 h3 h4
  exact lv_ldcf O.1 O.2.1 O.2.2.2.1 (O.2.2.2.2.1 _ hw) hd (k O H locs ls h1 h2 h3 h4)
theorem v_ldcL {cc : ByteArray} {own : String} {nL : Nat} {R : Room} {D : DT} {K : KT} {pc : Nat} {lv : LV} {st : List Value} {G : GT} {n : Nat × Nat} {i : Nat} {v : Int64} (hd : decode cc pc = .ok (.ldc2_w i, 3)) (hw : Cond.constantLong own i v ∈ lw_all) (k : V cc own nL R D K (pc + 3) lv (.long v :: st) G n) : V cc own nL R D K pc lv st G n := by
  obtain ⟨p, l, e, s, m, args, below, meth, c, A, Q⟩ := K
  intro O H locs ls h1 h2 h3 h4
  exact lv_ldc2 O.1 O.2.1 O.2.2.2.1 (O.2.2.2.2.1 _ hw) hd (k O H locs ls h1 h2 h3 h4)
theorem ent_congr {dA : Nat → ClassId} {T N T' N' : Nat → Nat} {I I' : Nat → Nat → Int32} {J J' : Nat → Nat → Int64} {E E' : Nat → Nat → UInt64} {Rf Rf' : Nat → Nat → Option Nat} {b : Nat} (h1 : T b = T' b) (h2 : N b = N' b) (h3 : I b = I' b) (h4 : J b = J' b) (h5 : E b = E' b) (h6 : Rf b = Rf' b) : ent dA (T, N, I, J, E, Rf) b = ent dA (T', N', I', J', E', Rf') b := by
  simp only [ent, h1, h2, h3, h4, h5, h6]
theorem ent_obj {dA : Nat → ClassId} {T N : Nat → Nat} {I : Nat → Nat → Int32} {J : Nat → Nat → Int64} {E : Nat → Nat → UInt64} {Rf : Nat → Nat → Option Nat} {a ci : Nat} (h : T a = ci + 1) (hc : ci < 10) : ent dA (T, N, I, J, E, Rf) a = .inr (ci, flds (I a) (J a) (Rf a) (lay ci)) := by
  have h2 : ci + 1 ≤ 10 := by omega
  simp only [ent, h, h2, if_true, Nat.add_sub_cancel]
theorem ent_int {dA : Nat → ClassId} {T N : Nat → Nat} {I : Nat → Nat → Int32} {J : Nat → Nat → Int64} {E : Nat → Nat → UInt64} {Rf : Nat → Nat → Option Nat} {a k : Nat} (h : T a = k) (hk : k = 11 ∨ k = 13 ∨ k = 14) : ent dA (T, N, I, J, E, Rf) a = .inl (dA k, N a, .inl (I a)) := by
  rcases hk with rfl | rfl | rfl <;> simp [ent, h]
theorem ent_long {dA : Nat → ClassId} {T N : Nat → Nat} {I : Nat → Nat → Int32} {J : Nat → Nat → Int64} {E : Nat → Nat → UInt64} {Rf : Nat → Nat → Option Nat} {a : Nat} (h : T a = 12) : ent dA (T, N, I, J, E, Rf) a = .inl (dA 12, N a, .inr (.inl (J a))) := by
  simp [ent, h]
theorem ent_dbl {dA : Nat → ClassId} {T N : Nat → Nat} {I : Nat → Nat → Int32} {J : Nat → Nat → Int64} {E : Nat → Nat → UInt64} {Rf : Nat → Nat → Option Nat} {a : Nat} (h : T a = 15) : ent dA (T, N, I, J, E, Rf) a = .inl (dA 15, N a, .inr (.inr (.inr (.inl (E a))))) := by
  simp [ent, h]
theorem ent_ref {dA : Nat → ClassId} {T N : Nat → Nat} {I : Nat → Nat → Int32} {J : Nat → Nat → Int64} {E : Nat → Nat → UInt64} {Rf : Nat → Nat → Option Nat} {a k : Nat} (h : T a = k) (hk : 16 ≤ k) : ent dA (T, N, I, J, E, Rf) a = .inl (dA k, N a, .inr (.inr (.inr (.inr (Rf a))))) := by
  have e1 : ¬ k ≤ 10 := by omega
  have e2 : ¬ k = 12 := by omega
  have e3 : ¬ k = 15 := by omega
  have e4 : ¬ k < 16 := by omega
  simp only [ent, h, e1, e2, e3, e4, if_false]
theorem flds_at {i : Nat → Int32} {j : Nat → Int64} {r : Nat → Option Nat} {l : List Nat} {k t : Nat} (h : l[k]? = some t) : (flds i j r l)[k]? = some (fv i j r k t) := by
  simp [flds, List.getElem?_mapIdx, h]
theorem flds_len {i : Nat → Int32} {j : Nat → Int64} {r : Nat → Option Nat} {l : List Nat} : (flds i j r l).length = l.length := by simp [flds]
theorem flds_set {i i' : Nat → Int32} {j j' : Nat → Int64} {r r' : Nat → Option Nat} {l : List Nat} {k t : Nat} {v : Value} (h : l[k]? = some t) (hv : fv i' j' r' k t = v) (ho : ∀ k', k' ≠ k → i' k' = i k' ∧ j' k' = j k' ∧ r' k' = r k') : (flds i j r l).set k v = flds i' j' r' l := by
  have hk : k < l.length := (List.getElem?_eq_some_iff.mp h).1
  apply List.ext_getElem?
  intro x
  by_cases hx : x = k
  · subst hx
    rw [List.getElem?_set_self (by rw [flds_len]; exact hk), flds_at h, hv]
  · rw [List.getElem?_set_ne (fun q => hx q.symm)]
    obtain ⟨a1, a2, a3⟩ := ho x hx
    simp only [flds, List.getElem?_mapIdx]
    cases l[x]? with
    | none => rfl
    | some y => simp [fv, a1, a2, a3]
theorem wd_at {D : DT} {G : GT} {H : Heap} (h : wd D G H) {a : Nat} (ha : G.1 a ≠ 0) : ∃ (L : List Nat) (k : Nat), (∀ b, b ∈ L ↔ G.1 b ≠ 0) ∧ a ∈ L ∧ va_P D.1 cls (va_pl L (ent D.2 G)) H ∧ va_D (fun _ => True) (va_pl L (ent D.2 G)) ∧ (va_pl L (ent D.2 G))[k]? = some (a, ent D.2 G a) := by
  obtain ⟨L, hL, hP, hD⟩ := h
  obtain ⟨k, hk⟩ := va_pl_get (X := []) (f := ent D.2 G) ((hL a).mpr ha)
  exact ⟨L, k, hL, (hL a).mpr ha, hP, hD, hk⟩
theorem wd_set {D : DT} {G G' : GT} {L : List Nat} {a k : Nat} {e : va_E} {H1 : Heap} (hL : ∀ b, b ∈ L ↔ G.1 b ≠ 0) (ha : a ∈ L) (hD : va_D (fun _ => True) (va_pl L (ent D.2 G))) (hk : (va_pl L (ent D.2 G))[k]? = some (a, ent D.2 G a)) (hT : ∀ b, G'.1 b = G.1 b) (he : ent D.2 G' a = e) (ho : ∀ b, b ≠ a → ent D.2 G' b = ent D.2 G b) (hP : va_P D.1 cls ((va_pl L (ent D.2 G)).set k (a, e)) H1) (hD1 : va_D (fun _ => True) ((va_pl L (ent D.2 G)).set k (a, e))) : wd D G' H1 := by
  have h1 := va_pl_set (A := fun _ => True) (X := []) (L := L) (f := ent D.2 G) (e := e) hD ha hk
  have h2 : (va_pl L (ent D.2 G)).set k (a, e) = va_pl L (ent D.2 G') := by
    refine h1.trans (va_pl_congr (fun b => ?_))
    by_cases hb : b = a
    · subst hb; rw [he]; simp [va_up]
    · rw [ho b hb]; simp [va_up, hb]
  rw [h2] at hP hD1
  exact ⟨L, fun b => by rw [hT b]; exact hL b, hP, hD1⟩
theorem wd_push {D : DT} {G G' : GT} {L : List Nat} {a : Nat} {e : va_E} {H1 : Heap} (hL : ∀ b, b ∈ L ↔ G.1 b ≠ 0) (hP : va_P D.1 cls (va_pl L (ent D.2 G) ++ [(a, e)]) H1) (hD1 : va_D (fun _ => True) (va_pl L (ent D.2 G) ++ [(a, e)])) (hT : ∀ b, b ≠ a → G'.1 b = G.1 b) (hTa : G'.1 a ≠ 0) (he : ent D.2 G' a = e) (ho : ∀ b, b ≠ a → ent D.2 G' b = ent D.2 G b) : G.1 a = 0 ∧ wd D G' H1 := by
  have hn : a ∉ L := va_pl_fresh2 (X := []) hD1
  have h2 : va_pl L (ent D.2 G) ++ [(a, e)] = va_pl (L ++ [a]) (ent D.2 G') := by
    rw [va_pl_push hn]
    refine va_pl_congr (fun b => ?_)
    by_cases hb : b = a
    · subst hb; rw [he]; simp [va_up]
    · rw [ho b hb]; simp [va_up, hb]
  rw [h2] at hP hD1
  refine ⟨Classical.byContradiction (fun q => hn ((hL a).mpr q)), L ++ [a], fun b => ?_, hP, hD1⟩
  by_cases hb : b = a
  · subst hb; simp [hTa]
  · rw [hT b hb]; simp [hb, hL b]
theorem cls_lt {ci : Nat} {x : vw_C} (h : cls[ci]? = some x) : ci < 10 := (List.getElem?_eq_some_iff.mp h).1
theorem v_getv {cc : ByteArray} {own : String} {nL : Nat} {R : Room} {D : DT} {K : KT} {pc : Nat} {lv : LV} {st : List Value} {T N : Nat → Nat} {I : Nat → Nat → Int32} {J : Nat → Nat → Int64} {E : Nat → Nat → UInt64} {Rf : Nat → Nat → Option Nat} {n : Nat × Nat} {a idx ci k t : Nat} {v : Value} (hd : decode cc pc = .ok (.getfield idx, 3)) (hF : FL own idx ci k) (ht : (lay ci)[k]? = some t) (hT : T a = ci + 1) (hv : fv (I a) (J a) (Rf a) k t = v) (kk : V cc own nL R D K (pc + 3) lv (v :: st) (T, N, I, J, E, Rf) n) : V cc own nL R D K pc lv (.ref a :: st) (T, N, I, J, E, Rf) n := by
  obtain ⟨p, l, e, s, m, args, below, meth, c, A, Q⟩ := K
  intro O H locs ls h1 h2 h3 h4
  obtain ⟨C0, T0, N0, f1, f2, f3, f4⟩ := hF
  obtain ⟨L, q, hL, hm, hP, hD, hq⟩ := wd_at h1 (a := a) (by show T a ≠ 0; omega)
  rw [ent_obj hT (cls_lt f1)] at hq
  exact va_get O.1 O.2.1 O.2.2.2.2.1 f4 O.2.2.2.1 O.2.2.2.2.2.1 hP q hq f1 k f2 (O.2.2.2.2.1 _ f3) (fun _ h => h) (flds_at ht) hd (hv ▸ kk O H locs ls h1 h2 h3 h4)
theorem v_getI {cc : ByteArray} {own : String} {nL : Nat} {R : Room} {D : DT} {K : KT} {pc : Nat} {lv : LV} {st : List Value} {T N : Nat → Nat} {I : Nat → Nat → Int32} {J : Nat → Nat → Int64} {E : Nat → Nat → UInt64} {Rf : Nat → Nat → Option Nat} {n : Nat × Nat} {a idx ci k : Nat} (hd : decode cc pc = .ok (.getfield idx, 3)) (hF : FL own idx ci k) (ht : (lay ci)[k]? = some 0 ∨ (lay ci)[k]? = some 3) (hT : T a = ci + 1) (kk : V cc own nL R D K (pc + 3) lv (.int (I a k) :: st) (T, N, I, J, E, Rf) n) : V cc own nL R D K pc lv (.ref a :: st) (T, N, I, J, E, Rf) n := by
  rcases ht with ht | ht
  · exact v_getv hd hF ht hT rfl kk
  · exact v_getv hd hF ht hT rfl kk
theorem v_getJ {cc : ByteArray} {own : String} {nL : Nat} {R : Room} {D : DT} {K : KT} {pc : Nat} {lv : LV} {st : List Value} {T N : Nat → Nat} {I : Nat → Nat → Int32} {J : Nat → Nat → Int64} {E : Nat → Nat → UInt64} {Rf : Nat → Nat → Option Nat} {n : Nat × Nat} {a idx ci k : Nat} (hd : decode cc pc = .ok (.getfield idx, 3)) (hF : FL own idx ci k) (ht : (lay ci)[k]? = some 1) (hT : T a = ci + 1) (kk : V cc own nL R D K (pc + 3) lv (.long (J a k) :: st) (T, N, I, J, E, Rf) n) : V cc own nL R D K pc lv (.ref a :: st) (T, N, I, J, E, Rf) n := v_getv hd hF ht hT rfl kk
theorem v_getR {cc : ByteArray} {own : String} {nL : Nat} {R : Room} {D : DT} {K : KT} {pc : Nat} {lv : LV} {st : List Value} {T N : Nat → Nat} {I : Nat → Nat → Int32} {J : Nat → Nat → Int64} {E : Nat → Nat → UInt64} {Rf : Nat → Nat → Option Nat} {n : Nat × Nat} {a idx ci k b : Nat} (hd : decode cc pc = .ok (.getfield idx, 3)) (hF : FL own idx ci k) (ht : (lay ci)[k]? = some 2) (hT : T a = ci + 1) (hR : Rf a k = some b) (kk : V cc own nL R D K (pc + 3) lv (.ref b :: st) (T, N, I, J, E, Rf) n) : V cc own nL R D K pc lv (.ref a :: st) (T, N, I, J, E, Rf) n := v_getv hd hF ht hT (by simp [fv, hR, va_rf]) kk
theorem v_putI {cc : ByteArray} {own : String} {nL : Nat} {R : Room} {D : DT} {K : KT} {pc : Nat} {lv : LV} {st : List Value} {T N : Nat → Nat} {I : Nat → Nat → Int32} {J : Nat → Nat → Int64} {E : Nat → Nat → UInt64} {Rf : Nat → Nat → Option Nat} {n : Nat × Nat} {a idx ci k t : Nat} {ty : FieldType} {x : Int32} (hd : decode cc pc = .ok (.putfield idx, 3)) (hF : FW own idx ci k ty false) (ht : (lay ci)[k]? = some t) (ht2 : t = 0 ∨ t = 3) (hT : T a = ci + 1) (hn : narrow ty (.int x) = (.int x)) (hfit : fits ty (.int x) = true) (kk : V cc own nL R D K (pc + 3) lv st (T, N, (u2 I a k x), J, E, Rf) n) : V cc own nL R D K pc lv ((.int x) :: .ref a :: st) (T, N, I, J, E, Rf) n := by
  obtain ⟨p, l, e, s, m, args, below, meth, c, A, Q⟩ := K
  intro O H locs ls h1 h2 h3 h4
  obtain ⟨C0, T0, N0, ty0, f1, f2, f3, f4, f5, f6, f7, f8, f9⟩ := hF
  have hc := cls_lt f1
  obtain ⟨L, q, hL, hm, hP, hD, hq⟩ := wd_at h1 (a := a) (by show T a ≠ 0; omega)
  have hq2 := hq
  rw [ent_obj hT hc] at hq2
  have hA : va_D A (va_pl L (ent D.2 (T, N, I, J, E, Rf))) := hD.weaken (fun k0 q0 hk0 _ => h2 q0.1 (by
    obtain ⟨b, hb, e⟩ := List.mem_map.mp (List.mem_of_getElem? hk0)
    rw [← e]; exact (hL b).mp hb))
  refine va_put O.1 O.2.1 O.2.2.2.2.1 f4 ty0 f5 f6 O.2.2.2.1 O.2.2.2.2.2.1 hP hA h3 q hq2 f1 k f2 (O.2.2.2.2.1 _ f3) (fun _ h => h) f7 (by rw [f5 k f2, f8]) hn hfit (by rw [flds_len]; exact (List.getElem?_eq_some_iff.mp ht).1) hd (fun H1 locs1 p1 p2 p3 => ?_)
  refine kk O H1 locs1 ls ?_ h2 p3 h4
  refine wd_set hL hm hD hq (fun _ => rfl) (e := .inr (ci, (flds (I a) (J a) (Rf a) (lay ci)).set k (.int x))) ?_ (fun b hb => ent_congr rfl rfl (funext fun z => by simp [u2, hb]) rfl rfl rfl) p1 (p2.weaken (fun _ _ _ _ => trivial))
  rw [ent_obj hT hc, ← flds_set ht (v := (.int x)) (i' := (u2 I a k x) a) (j' := J a) (r' := Rf a) (by rcases ht2 with rfl | rfl <;> simp [fv, u2_s]) (fun k' hk' => ?_)]
  simp [u2, hk']
theorem v_putJ {cc : ByteArray} {own : String} {nL : Nat} {R : Room} {D : DT} {K : KT} {pc : Nat} {lv : LV} {st : List Value} {T N : Nat → Nat} {I : Nat → Nat → Int32} {J : Nat → Nat → Int64} {E : Nat → Nat → UInt64} {Rf : Nat → Nat → Option Nat} {n : Nat × Nat} {a idx ci k t : Nat} {ty : FieldType} {x : Int64} (hd : decode cc pc = .ok (.putfield idx, 3)) (hF : FW own idx ci k ty false) (ht : (lay ci)[k]? = some t) (ht2 : t = 1) (hT : T a = ci + 1) (hn : narrow ty (.long x) = (.long x)) (hfit : fits ty (.long x) = true) (kk : V cc own nL R D K (pc + 3) lv st (T, N, I, (u2 J a k x), E, Rf) n) : V cc own nL R D K pc lv ((.long x) :: .ref a :: st) (T, N, I, J, E, Rf) n := by
  obtain ⟨p, l, e, s, m, args, below, meth, c, A, Q⟩ := K
  intro O H locs ls h1 h2 h3 h4
  obtain ⟨C0, T0, N0, ty0, f1, f2, f3, f4, f5, f6, f7, f8, f9⟩ := hF
  have hc := cls_lt f1
  obtain ⟨L, q, hL, hm, hP, hD, hq⟩ := wd_at h1 (a := a) (by show T a ≠ 0; omega)
  have hq2 := hq
  rw [ent_obj hT hc] at hq2
  have hA : va_D A (va_pl L (ent D.2 (T, N, I, J, E, Rf))) := hD.weaken (fun k0 q0 hk0 _ => h2 q0.1 (by
    obtain ⟨b, hb, e⟩ := List.mem_map.mp (List.mem_of_getElem? hk0)
    rw [← e]; exact (hL b).mp hb))
  refine va_put O.1 O.2.1 O.2.2.2.2.1 f4 ty0 f5 f6 O.2.2.2.1 O.2.2.2.2.2.1 hP hA h3 q hq2 f1 k f2 (O.2.2.2.2.1 _ f3) (fun _ h => h) f7 (by rw [f5 k f2, f8]) hn hfit (by rw [flds_len]; exact (List.getElem?_eq_some_iff.mp ht).1) hd (fun H1 locs1 p1 p2 p3 => ?_)
  refine kk O H1 locs1 ls ?_ h2 p3 h4
  refine wd_set hL hm hD hq (fun _ => rfl) (e := .inr (ci, (flds (I a) (J a) (Rf a) (lay ci)).set k (.long x))) ?_ (fun b hb => ent_congr rfl rfl rfl (funext fun z => by simp [u2, hb]) rfl rfl) p1 (p2.weaken (fun _ _ _ _ => trivial))
  rw [ent_obj hT hc, ← flds_set ht (v := (.long x)) (i' := I a) (j' := (u2 J a k x) a) (r' := Rf a) (by subst ht2; simp [fv, u2_s]) (fun k' hk' => ?_)]
  simp [u2, hk']
theorem v_putR {cc : ByteArray} {own : String} {nL : Nat} {R : Room} {D : DT} {K : KT} {pc : Nat} {lv : LV} {st : List Value} {T N : Nat → Nat} {I : Nat → Nat → Int32} {J : Nat → Nat → Int64} {E : Nat → Nat → UInt64} {Rf : Nat → Nat → Option Nat} {n : Nat × Nat} {a idx ci k t : Nat} {ty : FieldType} {x : Nat} (hd : decode cc pc = .ok (.putfield idx, 3)) (hF : FW own idx ci k ty false) (ht : (lay ci)[k]? = some t) (ht2 : t = 2) (hT : T a = ci + 1) (hn : narrow ty (.ref x) = (.ref x)) (hfit : fits ty (.ref x) = true) (kk : V cc own nL R D K (pc + 3) lv st (T, N, I, J, E, (u2 Rf a k (some x))) n) : V cc own nL R D K pc lv ((.ref x) :: .ref a :: st) (T, N, I, J, E, Rf) n := by
  obtain ⟨p, l, e, s, m, args, below, meth, c, A, Q⟩ := K
  intro O H locs ls h1 h2 h3 h4
  obtain ⟨C0, T0, N0, ty0, f1, f2, f3, f4, f5, f6, f7, f8, f9⟩ := hF
  have hc := cls_lt f1
  obtain ⟨L, q, hL, hm, hP, hD, hq⟩ := wd_at h1 (a := a) (by show T a ≠ 0; omega)
  have hq2 := hq
  rw [ent_obj hT hc] at hq2
  have hA : va_D A (va_pl L (ent D.2 (T, N, I, J, E, Rf))) := hD.weaken (fun k0 q0 hk0 _ => h2 q0.1 (by
    obtain ⟨b, hb, e⟩ := List.mem_map.mp (List.mem_of_getElem? hk0)
    rw [← e]; exact (hL b).mp hb))
  refine va_put O.1 O.2.1 O.2.2.2.2.1 f4 ty0 f5 f6 O.2.2.2.1 O.2.2.2.2.2.1 hP hA h3 q hq2 f1 k f2 (O.2.2.2.2.1 _ f3) (fun _ h => h) f7 (by rw [f5 k f2, f8]) hn hfit (by rw [flds_len]; exact (List.getElem?_eq_some_iff.mp ht).1) hd (fun H1 locs1 p1 p2 p3 => ?_)
  refine kk O H1 locs1 ls ?_ h2 p3 h4
  refine wd_set hL hm hD hq (fun _ => rfl) (e := .inr (ci, (flds (I a) (J a) (Rf a) (lay ci)).set k (.ref x))) ?_ (fun b hb => ent_congr rfl rfl rfl rfl rfl (funext fun z => by simp [u2, hb])) p1 (p2.weaken (fun _ _ _ _ => trivial))
  rw [ent_obj hT hc, ← flds_set ht (v := (.ref x)) (i' := I a) (j' := J a) (r' := (u2 Rf a k (some x)) a) (by subst ht2; simp [fv, u2_s, va_rf]) (fun k' hk' => ?_)]
  simp [u2, hk']
theorem v_putIF {cc : ByteArray} {own : String} {nL : Nat} {R : Room} {D : DT} {K : KT} {pc : Nat} {lv : LV} {st : List Value} {T N : Nat → Nat} {I : Nat → Nat → Int32} {J : Nat → Nat → Int64} {E : Nat → Nat → UInt64} {Rf : Nat → Nat → Option Nat} {n : Nat × Nat} {a idx ci k t : Nat} {ty : FieldType} {x : Int32} (hd : decode cc pc = .ok (.putfield idx, 3)) (hF : FW own idx ci k ty true) (hin : K.2.2.2.2.2.2.2.1.name = "<init>") (ht : (lay ci)[k]? = some t) (ht2 : t = 0 ∨ t = 3) (hT : T a = ci + 1) (hn : narrow ty (.int x) = (.int x)) (hfit : fits ty (.int x) = true) (kk : V cc own nL R D K (pc + 3) lv st (T, N, (u2 I a k x), J, E, Rf) n) : V cc own nL R D K pc lv ((.int x) :: .ref a :: st) (T, N, I, J, E, Rf) n := by
  obtain ⟨p, l, e, s, m, args, below, meth, c, A, Q⟩ := K
  intro O H locs ls h1 h2 h3 h4
  obtain ⟨C0, T0, N0, ty0, f1, f2, f3, f4, f5, f6, f7, f8, f9⟩ := hF
  have hc := cls_lt f1
  obtain ⟨L, q, hL, hm, hP, hD, hq⟩ := wd_at h1 (a := a) (by show T a ≠ 0; omega)
  have hq2 := hq
  rw [ent_obj hT hc] at hq2
  have hA : va_D A (va_pl L (ent D.2 (T, N, I, J, E, Rf))) := hD.weaken (fun k0 q0 hk0 _ => h2 q0.1 (by
    obtain ⟨b, hb, e⟩ := List.mem_map.mp (List.mem_of_getElem? hk0)
    rw [← e]; exact (hL b).mp hb))
  have f9r := f9 rfl
  refine va_putF O.1 O.2.1 O.2.2.2.2.1 f4 ty0 f5 f6 O.2.2.2.1 O.2.2.2.2.2.1 hP hA h3 q hq2 f1 k f2 (O.2.2.2.2.1 _ f3) (fun _ h => h) f7 hin f9r (by rw [f5 k f2, f8]) hn hfit (by rw [flds_len]; exact (List.getElem?_eq_some_iff.mp ht).1) hd (fun H1 locs1 p1 p2 p3 => ?_)
  refine kk O H1 locs1 ls ?_ h2 p3 h4
  refine wd_set hL hm hD hq (fun _ => rfl) (e := .inr (ci, (flds (I a) (J a) (Rf a) (lay ci)).set k (.int x))) ?_ (fun b hb => ent_congr rfl rfl (funext fun z => by simp [u2, hb]) rfl rfl rfl) p1 (p2.weaken (fun _ _ _ _ => trivial))
  rw [ent_obj hT hc, ← flds_set ht (v := (.int x)) (i' := (u2 I a k x) a) (j' := J a) (r' := Rf a) (by rcases ht2 with rfl | rfl <;> simp [fv, u2_s]) (fun k' hk' => ?_)]
  simp [u2, hk']
theorem v_putJF {cc : ByteArray} {own : String} {nL : Nat} {R : Room} {D : DT} {K : KT} {pc : Nat} {lv : LV} {st : List Value} {T N : Nat → Nat} {I : Nat → Nat → Int32} {J : Nat → Nat → Int64} {E : Nat → Nat → UInt64} {Rf : Nat → Nat → Option Nat} {n : Nat × Nat} {a idx ci k t : Nat} {ty : FieldType} {x : Int64} (hd : decode cc pc = .ok (.putfield idx, 3)) (hF : FW own idx ci k ty true) (hin : K.2.2.2.2.2.2.2.1.name = "<init>") (ht : (lay ci)[k]? = some t) (ht2 : t = 1) (hT : T a = ci + 1) (hn : narrow ty (.long x) = (.long x)) (hfit : fits ty (.long x) = true) (kk : V cc own nL R D K (pc + 3) lv st (T, N, I, (u2 J a k x), E, Rf) n) : V cc own nL R D K pc lv ((.long x) :: .ref a :: st) (T, N, I, J, E, Rf) n := by
  obtain ⟨p, l, e, s, m, args, below, meth, c, A, Q⟩ := K
  intro O H locs ls h1 h2 h3 h4
  obtain ⟨C0, T0, N0, ty0, f1, f2, f3, f4, f5, f6, f7, f8, f9⟩ := hF
  have hc := cls_lt f1
  obtain ⟨L, q, hL, hm, hP, hD, hq⟩ := wd_at h1 (a := a) (by show T a ≠ 0; omega)
  have hq2 := hq
  rw [ent_obj hT hc] at hq2
  have hA : va_D A (va_pl L (ent D.2 (T, N, I, J, E, Rf))) := hD.weaken (fun k0 q0 hk0 _ => h2 q0.1 (by
    obtain ⟨b, hb, e⟩ := List.mem_map.mp (List.mem_of_getElem? hk0)
    rw [← e]; exact (hL b).mp hb))
  have f9r := f9 rfl
  refine va_putF O.1 O.2.1 O.2.2.2.2.1 f4 ty0 f5 f6 O.2.2.2.1 O.2.2.2.2.2.1 hP hA h3 q hq2 f1 k f2 (O.2.2.2.2.1 _ f3) (fun _ h => h) f7 hin f9r (by rw [f5 k f2, f8]) hn hfit (by rw [flds_len]; exact (List.getElem?_eq_some_iff.mp ht).1) hd (fun H1 locs1 p1 p2 p3 => ?_)
  refine kk O H1 locs1 ls ?_ h2 p3 h4
  refine wd_set hL hm hD hq (fun _ => rfl) (e := .inr (ci, (flds (I a) (J a) (Rf a) (lay ci)).set k (.long x))) ?_ (fun b hb => ent_congr rfl rfl rfl (funext fun z => by simp [u2, hb]) rfl rfl) p1 (p2.weaken (fun _ _ _ _ => trivial))
  rw [ent_obj hT hc, ← flds_set ht (v := (.long x)) (i' := I a) (j' := (u2 J a k x) a) (r' := Rf a) (by subst ht2; simp [fv, u2_s]) (fun k' hk' => ?_)]
  simp [u2, hk']
theorem v_putRF {cc : ByteArray} {own : String} {nL : Nat} {R : Room} {D : DT} {K : KT} {pc : Nat} {lv : LV} {st : List Value} {T N : Nat → Nat} {I : Nat → Nat → Int32} {J : Nat → Nat → Int64} {E : Nat → Nat → UInt64} {Rf : Nat → Nat → Option Nat} {n : Nat × Nat} {a idx ci k t : Nat} {ty : FieldType} {x : Nat} (hd : decode cc pc = .ok (.putfield idx, 3)) (hF : FW own idx ci k ty true) (hin : K.2.2.2.2.2.2.2.1.name = "<init>") (ht : (lay ci)[k]? = some t) (ht2 : t = 2) (hT : T a = ci + 1) (hn : narrow ty (.ref x) = (.ref x)) (hfit : fits ty (.ref x) = true) (kk : V cc own nL R D K (pc + 3) lv st (T, N, I, J, E, (u2 Rf a k (some x))) n) : V cc own nL R D K pc lv ((.ref x) :: .ref a :: st) (T, N, I, J, E, Rf) n := by
  obtain ⟨p, l, e, s, m, args, below, meth, c, A, Q⟩ := K
  intro O H locs ls h1 h2 h3 h4
  obtain ⟨C0, T0, N0, ty0, f1, f2, f3, f4, f5, f6, f7, f8, f9⟩ := hF
  have hc := cls_lt f1
  obtain ⟨L, q, hL, hm, hP, hD, hq⟩ := wd_at h1 (a := a) (by show T a ≠ 0; omega)
  have hq2 := hq
  rw [ent_obj hT hc] at hq2
  have hA : va_D A (va_pl L (ent D.2 (T, N, I, J, E, Rf))) := hD.weaken (fun k0 q0 hk0 _ => h2 q0.1 (by
    obtain ⟨b, hb, e⟩ := List.mem_map.mp (List.mem_of_getElem? hk0)
    rw [← e]; exact (hL b).mp hb))
  have f9r := f9 rfl
  refine va_putF O.1 O.2.1 O.2.2.2.2.1 f4 ty0 f5 f6 O.2.2.2.1 O.2.2.2.2.2.1 hP hA h3 q hq2 f1 k f2 (O.2.2.2.2.1 _ f3) (fun _ h => h) f7 hin f9r (by rw [f5 k f2, f8]) hn hfit (by rw [flds_len]; exact (List.getElem?_eq_some_iff.mp ht).1) hd (fun H1 locs1 p1 p2 p3 => ?_)
  refine kk O H1 locs1 ls ?_ h2 p3 h4
  refine wd_set hL hm hD hq (fun _ => rfl) (e := .inr (ci, (flds (I a) (J a) (Rf a) (lay ci)).set k (.ref x))) ?_ (fun b hb => ent_congr rfl rfl rfl rfl rfl (funext fun z => by simp [u2, hb])) p1 (p2.weaken (fun _ _ _ _ => trivial))
  rw [ent_obj hT hc, ← flds_set ht (v := (.ref x)) (i' := I a) (j' := J a) (r' := (u2 Rf a k (some x)) a) (by subst ht2; simp [fv, u2_s, va_rf]) (fun k' hk' => ?_)]
  simp [u2, hk']
def Gnew (G : GT) (q k sz : Nat) : GT := (u1 G.1 q k, u1 G.2.1 q sz, c2 G.2.2.1 q 0, c2 G.2.2.2.1 q 0, c2 G.2.2.2.2.1 q 0, c2 G.2.2.2.2.2 q none)
theorem Gnew_o {dA : Nat → ClassId} {G : GT} {q k sz b : Nat} (hb : b ≠ q) : ent dA (Gnew G q k sz) b = ent dA G b := by
  obtain ⟨T, N, I, J, E, Rf⟩ := G
  exact ent_congr (by simp [u1, hb]) (by simp [u1, hb]) (funext fun z => by simp [c2, hb]) (funext fun z => by simp [c2, hb]) (funext fun z => by simp [c2, hb]) (funext fun z => by simp [c2, hb])
theorem dom_new {A : Nat → Prop} {G : GT} {q k sz : Nat} (h : ∀ b : Nat, G.1 b ≠ 0 → A b) (hq : A q) : ∀ b : Nat, (Gnew G q k sz).1 b ≠ 0 → A b := by
  intro b hb
  by_cases e : b = q
  · subst e; exact hq
  · exact h b (by simpa [Gnew, u1, e] using hb)
theorem v_new {cc : ByteArray} {own : String} {nL : Nat} {R : Room} {D : DT} {K : KT} {pc : Nat} {lv : LV} {st : List Value} {G : GT} {n : Nat × Nat} {idx ci : Nat} (hd : decode cc pc = .ok (.new idx, 3)) (hF : NW own idx ci) (hc : n.1 + 1 ≤ R.cells ∧ n.2 + (lay ci).length ≤ R.slots) (kk : ∀ q : Nat, G.1 q = 0 → V cc own nL R D K (pc + 3) lv (.ref q :: st) (Gnew G q (ci + 1) 0) (n.1 + 1, n.2 + (lay ci).length)) : V cc own nL R D K pc lv st G n := by
  obtain ⟨p, l, e, s, m, args, below, meth, c, A, Q⟩ := K
  intro O H locs ls h1 h2 h3 h4
  obtain ⟨C0, T0, N0, ty0, f1, f2, f3, f4, f5, f6, f7, f8⟩ := hF
  have hA : ∀ {L : List Nat}, (∀ b, b ∈ L ↔ G.1 b ≠ 0) → va_D (fun _ => True) (va_pl L (ent D.2 G)) → va_D A (va_pl L (ent D.2 G)) := fun hL hD => hD.weaken (fun k0 q0 hk0 _ => h2 q0.1 (by
    obtain ⟨b, hb, e⟩ := List.mem_map.mp (List.mem_of_getElem? hk0)
    rw [← e]; exact (hL b).mp hb))
  obtain ⟨L, hL, hP, hD⟩ := h1
  subst f2
  refine va_new (ci := ci) (fs := flds (fun _ => 0) (fun _ => 0) (fun _ => none) (lay ci)) O.1 O.2.1 O.2.2.2.2.1 f3 ty0 f4 O.2.2.2.1 (O.2.2.2.2.1 _ f6) (O.2.2.2.2.1 _ f7) (O.2.2.2.2.1 _ f8) O.2.2.2.2.2.1 hP (hA hL hD) h3 O.2.2.2.2.2.2.1 f1 f5 hc.1 hc.2 hd (fun q H1 p1 p2 p3 => ?_)
  have hq : A q := p2.2 (va_pl L (ent D.2 G)).length (q, .inr (ci, flds (fun _ => 0) (fun _ => 0) (fun _ => none) (lay ci))) (by rw [List.getElem?_append_right (Nat.le_refl _), Nat.sub_self]; rfl)
  obtain ⟨g1, g2⟩ := wd_push (G' := Gnew G q (ci + 1) 0) hL p1 (p2.weaken (fun _ _ _ _ => trivial)) (fun b hb => by simp [Gnew, u1, hb]) (by simp [Gnew, u1]) (by
    obtain ⟨T, N, I, J, E, Rf⟩ := G
    rw [show Gnew (T, N, I, J, E, Rf) q (ci + 1) 0 = (u1 T q (ci + 1), u1 N q 0, c2 I q 0, c2 J q 0, c2 E q 0, c2 Rf q none) from rfl, ent_obj (u1_s T q (ci + 1)) (cls_lt f1)]
    simp [c2_at]) (fun b hb => Gnew_o hb)
  exact kk q g1 O H1 locs ls g2 (dom_new h2 hq) p3 h4
theorem K_arr {D : DT} {s : State} {k : Nat} {ty : FieldType} {cA : ClassId} (hK : va_K D.1 cls (tysL D.2) s) (ht : (tysL D.2)[k]? = some (D.2 (k + 11), ty)) (h : va_K D.1 cls (tysL D.2 ++ [(cA, ty)]) s) : cA = D.2 (k + 11) := by
  have h1 := (hK.2 k _ ht).2
  have h2 := (h.2 (tysL D.2).length (cA, ty) (by rw [List.getElem?_append_right (Nat.le_refl _), Nat.sub_self]; rfl)).2
  cases ty with
  | object C =>
    obtain ⟨_, _, _, _, _, e1⟩ := h1
    obtain ⟨_, _, _, _, _, e2⟩ := h2
    exact Option.some.inj (e2.symm.trans e1)
  | _ => exact Option.some.inj (Eq.trans (Eq.symm (show s.vm.findClass _ = some cA from h2)) h1)
theorem v_newI {cc : ByteArray} {own : String} {nL : Nat} {R : Room} {D : DT} {K : KT} {pc : Nat} {lv : LV} {st : List Value} {G : GT} {n : Nat × Nat} {atype : ArrayType} {ty : FieldType} {k z : Nat} {x : Int32} (hd : decode cc pc = .ok (.newarray atype, 2)) (hk : k = 0 ∨ k = 2 ∨ k = 3) (hty : newarray.typeOf atype = ty) (ht : (tysL D.2)[k]? = some (D.2 (k + 11), ty)) (hw : Cond.arrayClass ty ∈ lw_all) (ha : ∀ cA : ClassId, vp_cell cA (z, .inl (fun _ => 0)) = arrV cA z (fun _ => defaultValue ty)) (hx : ¬ x < 0) (hz : x.toNatClampNeg = z) (hb : z * componentBytes ty ≤ 536870912) (hc : n.1 + 1 ≤ R.cells ∧ n.2 + z ≤ R.slots) (kk : ∀ q : Nat, G.1 q = 0 → V cc own nL R D K (pc + 2) lv (.ref q :: st) (Gnew G q (k + 11) z) (n.1 + 1, n.2 + z)) : V cc own nL R D K pc lv (.int x :: st) G n := by
  obtain ⟨p, l, e, s, m, args, below, meth, c, A, Q⟩ := K
  intro O H locs ls h1 h2 h3 h4
  have hA : ∀ {L : List Nat}, (∀ b, b ∈ L ↔ G.1 b ≠ 0) → va_D (fun _ => True) (va_pl L (ent D.2 G)) → va_D A (va_pl L (ent D.2 G)) := fun hL hD => hD.weaken (fun k0 q0 hk0 _ => h2 q0.1 (by
    obtain ⟨b, hb, e⟩ := List.mem_map.mp (List.mem_of_getElem? hk0)
    rw [← e]; exact (hL b).mp hb))
  obtain ⟨L, hL, hP, hD⟩ := h1
  refine va_newa O.1 O.2.1 (by rw [hty]; exact O.2.2.2.2.1 _ hw) hty O.2.2.2.2.2.1 hP (hA hL hD) h3 O.2.2.2.2.2.2.1 ha hx hz hb hc.1 hc.2 hd (fun q cA H1 p0 p1 p2 p3 => ?_)
  have e := K_arr O.2.2.2.2.2.1 ht p0
  subst e
  have hq : A q := p2.2 (va_pl L (ent D.2 G)).length _ (by rw [List.getElem?_append_right (Nat.le_refl _), Nat.sub_self]; rfl)
  obtain ⟨g1, g2⟩ := wd_push (G' := Gnew G q (k + 11) z) hL p1 (p2.weaken (fun _ _ _ _ => trivial)) (fun b hb => by simp [Gnew, u1, hb]) (by simp [Gnew, u1]) (by
    obtain ⟨T, N, I, J, E, Rf⟩ := G
    rw [show Gnew (T, N, I, J, E, Rf) q (k + 11) z = (u1 T q (k + 11), u1 N q z, c2 I q 0, c2 J q 0, c2 E q 0, c2 Rf q none) from rfl, ent_int (u1_s T q (k + 11)) (by omega)]
    simp [c2_at, u1]) (fun b hb => Gnew_o hb)
  exact kk q g1 O H1 locs ls g2 (dom_new h2 hq) p3 h4
theorem v_newJ {cc : ByteArray} {own : String} {nL : Nat} {R : Room} {D : DT} {K : KT} {pc : Nat} {lv : LV} {st : List Value} {G : GT} {n : Nat × Nat} {atype : ArrayType} {ty : FieldType} {k z : Nat} {x : Int32} (hd : decode cc pc = .ok (.newarray atype, 2)) (hk : k = 1) (hty : newarray.typeOf atype = ty) (ht : (tysL D.2)[k]? = some (D.2 (k + 11), ty)) (hw : Cond.arrayClass ty ∈ lw_all) (ha : ∀ cA : ClassId, vp_cell cA (z, .inr (.inl (fun _ => 0))) = arrV cA z (fun _ => defaultValue ty)) (hx : ¬ x < 0) (hz : x.toNatClampNeg = z) (hb : z * componentBytes ty ≤ 536870912) (hc : n.1 + 1 ≤ R.cells ∧ n.2 + z ≤ R.slots) (kk : ∀ q : Nat, G.1 q = 0 → V cc own nL R D K (pc + 2) lv (.ref q :: st) (Gnew G q (k + 11) z) (n.1 + 1, n.2 + z)) : V cc own nL R D K pc lv (.int x :: st) G n := by
  obtain ⟨p, l, e, s, m, args, below, meth, c, A, Q⟩ := K
  intro O H locs ls h1 h2 h3 h4
  have hA : ∀ {L : List Nat}, (∀ b, b ∈ L ↔ G.1 b ≠ 0) → va_D (fun _ => True) (va_pl L (ent D.2 G)) → va_D A (va_pl L (ent D.2 G)) := fun hL hD => hD.weaken (fun k0 q0 hk0 _ => h2 q0.1 (by
    obtain ⟨b, hb, e⟩ := List.mem_map.mp (List.mem_of_getElem? hk0)
    rw [← e]; exact (hL b).mp hb))
  obtain ⟨L, hL, hP, hD⟩ := h1
  refine va_newa O.1 O.2.1 (by rw [hty]; exact O.2.2.2.2.1 _ hw) hty O.2.2.2.2.2.1 hP (hA hL hD) h3 O.2.2.2.2.2.2.1 ha hx hz hb hc.1 hc.2 hd (fun q cA H1 p0 p1 p2 p3 => ?_)
  have e := K_arr O.2.2.2.2.2.1 ht p0
  subst e
  have hq : A q := p2.2 (va_pl L (ent D.2 G)).length _ (by rw [List.getElem?_append_right (Nat.le_refl _), Nat.sub_self]; rfl)
  obtain ⟨g1, g2⟩ := wd_push (G' := Gnew G q (k + 11) z) hL p1 (p2.weaken (fun _ _ _ _ => trivial)) (fun b hb => by simp [Gnew, u1, hb]) (by simp [Gnew, u1]) (by
    obtain ⟨T, N, I, J, E, Rf⟩ := G
    rw [show Gnew (T, N, I, J, E, Rf) q (k + 11) z = (u1 T q (k + 11), u1 N q z, c2 I q 0, c2 J q 0, c2 E q 0, c2 Rf q none) from rfl, ent_long (by subst hk; exact u1_s T q 12)]
    simp [c2_at, u1]; subst hk; rfl) (fun b hb => Gnew_o hb)
  exact kk q g1 O H1 locs ls g2 (dom_new h2 hq) p3 h4
theorem v_newD {cc : ByteArray} {own : String} {nL : Nat} {R : Room} {D : DT} {K : KT} {pc : Nat} {lv : LV} {st : List Value} {G : GT} {n : Nat × Nat} {atype : ArrayType} {ty : FieldType} {k z : Nat} {x : Int32} (hd : decode cc pc = .ok (.newarray atype, 2)) (hk : k = 4) (hty : newarray.typeOf atype = ty) (ht : (tysL D.2)[k]? = some (D.2 (k + 11), ty)) (hw : Cond.arrayClass ty ∈ lw_all) (ha : ∀ cA : ClassId, vp_cell cA (z, .inr (.inr (.inr (.inl (fun _ => 0))))) = arrV cA z (fun _ => defaultValue ty)) (hx : ¬ x < 0) (hz : x.toNatClampNeg = z) (hb : z * componentBytes ty ≤ 536870912) (hc : n.1 + 1 ≤ R.cells ∧ n.2 + z ≤ R.slots) (kk : ∀ q : Nat, G.1 q = 0 → V cc own nL R D K (pc + 2) lv (.ref q :: st) (Gnew G q (k + 11) z) (n.1 + 1, n.2 + z)) : V cc own nL R D K pc lv (.int x :: st) G n := by
  obtain ⟨p, l, e, s, m, args, below, meth, c, A, Q⟩ := K
  intro O H locs ls h1 h2 h3 h4
  have hA : ∀ {L : List Nat}, (∀ b, b ∈ L ↔ G.1 b ≠ 0) → va_D (fun _ => True) (va_pl L (ent D.2 G)) → va_D A (va_pl L (ent D.2 G)) := fun hL hD => hD.weaken (fun k0 q0 hk0 _ => h2 q0.1 (by
    obtain ⟨b, hb, e⟩ := List.mem_map.mp (List.mem_of_getElem? hk0)
    rw [← e]; exact (hL b).mp hb))
  obtain ⟨L, hL, hP, hD⟩ := h1
  refine va_newa O.1 O.2.1 (by rw [hty]; exact O.2.2.2.2.1 _ hw) hty O.2.2.2.2.2.1 hP (hA hL hD) h3 O.2.2.2.2.2.2.1 ha hx hz hb hc.1 hc.2 hd (fun q cA H1 p0 p1 p2 p3 => ?_)
  have e := K_arr O.2.2.2.2.2.1 ht p0
  subst e
  have hq : A q := p2.2 (va_pl L (ent D.2 G)).length _ (by rw [List.getElem?_append_right (Nat.le_refl _), Nat.sub_self]; rfl)
  obtain ⟨g1, g2⟩ := wd_push (G' := Gnew G q (k + 11) z) hL p1 (p2.weaken (fun _ _ _ _ => trivial)) (fun b hb => by simp [Gnew, u1, hb]) (by simp [Gnew, u1]) (by
    obtain ⟨T, N, I, J, E, Rf⟩ := G
    rw [show Gnew (T, N, I, J, E, Rf) q (k + 11) z = (u1 T q (k + 11), u1 N q z, c2 I q 0, c2 J q 0, c2 E q 0, c2 Rf q none) from rfl, ent_dbl (by subst hk; exact u1_s T q 15)]
    simp [c2_at, u1]; subst hk; rfl) (fun b hb => Gnew_o hb)
  exact kk q g1 O H1 locs ls g2 (dom_new h2 hq) p3 h4
theorem v_newQ {cc : ByteArray} {own : String} {nL : Nat} {R : Room} {D : DT} {K : KT} {pc : Nat} {lv : LV} {st : List Value} {G : GT} {n : Nat × Nat} {idx : Nat} {C : String} {k z : Nat} {x : Int32} (hd : decode cc pc = .ok (.anewarray idx, 3)) (hk : 5 ≤ k) (ht : (tysL D.2)[k]? = some (D.2 (k + 11), .object C)) (hw : Cond.classLink own idx C ∈ lw_all) (hov : Cond.arrayOver (.object C) ∈ ngW) (hx : ¬ x < 0) (hz : x.toNatClampNeg = z) (hb : z * 4 ≤ 536870912) (hc : n.1 + 1 ≤ R.cells ∧ n.2 + z ≤ R.slots) (kk : ∀ q : Nat, G.1 q = 0 → V cc own nL R D K (pc + 3) lv (.ref q :: st) (Gnew G q (k + 11) z) (n.1 + 1, n.2 + z)) : V cc own nL R D K pc lv (.int x :: st) G n := by
  obtain ⟨p, l, e, s, m, args, below, meth, c, A, Q⟩ := K
  intro O H locs ls h1 h2 h3 h4
  have hA : ∀ {L : List Nat}, (∀ b, b ∈ L ↔ G.1 b ≠ 0) → va_D (fun _ => True) (va_pl L (ent D.2 G)) → va_D A (va_pl L (ent D.2 G)) := fun hL hD => hD.weaken (fun k0 q0 hk0 _ => h2 q0.1 (by
    obtain ⟨b, hb, e⟩ := List.mem_map.mp (List.mem_of_getElem? hk0)
    rw [← e]; exact (hL b).mp hb))
  obtain ⟨L, hL, hP, hD⟩ := h1
  refine va_newq O.1 O.2.1 O.2.2.2.1 (O.2.2.2.2.1 _ hw) (O.2.2.2.2.2.2.2.2.1.2.2.1 _ hov) O.2.2.2.2.2.1 hP (hA hL hD) h3 O.2.2.2.2.2.2.1 hx hz hb hc.1 hc.2 hd (fun q cA H1 p0 p1 p2 p3 => ?_)
  have e := K_arr O.2.2.2.2.2.1 ht p0
  subst e
  have hq : A q := p2.2 (va_pl L (ent D.2 G)).length _ (by rw [List.getElem?_append_right (Nat.le_refl _), Nat.sub_self]; rfl)
  obtain ⟨g1, g2⟩ := wd_push (G' := Gnew G q (k + 11) z) hL p1 (p2.weaken (fun _ _ _ _ => trivial)) (fun b hb => by simp [Gnew, u1, hb]) (by simp [Gnew, u1]) (by
    obtain ⟨T, N, I, J, E, Rf⟩ := G
    rw [show Gnew (T, N, I, J, E, Rf) q (k + 11) z = (u1 T q (k + 11), u1 N q z, c2 I q 0, c2 J q 0, c2 E q 0, c2 Rf q none) from rfl, ent_ref (u1_s T q (k + 11)) (by omega)]
    simp [c2_at, u1]) (fun b hb => Gnew_o hb)
  exact kk q g1 O H1 locs ls g2 (dom_new h2 hq) p3 h4
theorem v_iald {cc : ByteArray} {own : String} {nL : Nat} {R : Room} {D : DT} {K : KT} {pc : Nat} {lv : LV} {st : List Value} {T N : Nat → Nat} {I : Nat → Nat → Int32} {J : Nat → Nat → Int64} {E : Nat → Nat → UInt64} {Rf : Nat → Nat → Option Nat} {n : Nat × Nat} {a j z : Nat} {i : Int32} (hd : decode cc pc = .ok (.iaload, 1)) (hT : T a = 11) (hN : N a = z) (hi : i = nI j) (hj : j < z) (hz : z < 2147483648) (kk : V cc own nL R D K (pc + 1) lv (.int (I a j) :: st) (T, N, I, J, E, Rf) n) : V cc own nL R D K pc lv (.int i :: .ref a :: st) (T, N, I, J, E, Rf) n := by
  obtain ⟨p, l, e, s, m, args, below, meth, c, A, Q⟩ := K
  intro O H locs ls h1 h2 h3 h4
  subst hN
  subst hi
  have hin : vp_in (nI j) (N a) := vp_in_nI hj hz
  have hcl : (nI j).toNatClampNeg = j := nI_clamp (Nat.lt_trans hj hz)
  obtain ⟨L, q, hL, hm, hP, hD, hq⟩ := wd_at h1 (a := a) (by show T a ≠ 0; omega)
  have hq2 := hq
  rw [ent_int hT (Or.inl rfl)] at hq2
  refine va_iald O.1 O.2.1 O.2.2.2.2.2.1 hP q 0 hq2 rfl hin hd ?_
  rw [hcl]
  exact kk O H locs ls h1 h2 h3 h4
theorem v_zald {cc : ByteArray} {own : String} {nL : Nat} {R : Room} {D : DT} {K : KT} {pc : Nat} {lv : LV} {st : List Value} {T N : Nat → Nat} {I : Nat → Nat → Int32} {J : Nat → Nat → Int64} {E : Nat → Nat → UInt64} {Rf : Nat → Nat → Option Nat} {n : Nat × Nat} {a j z : Nat} {i : Int32} (hd : decode cc pc = .ok (.baload, 1)) (hT : T a = 13) (hN : N a = z) (hi : i = nI j) (hj : j < z) (hz : z < 2147483648) (kk : V cc own nL R D K (pc + 1) lv (.int (I a j) :: st) (T, N, I, J, E, Rf) n) : V cc own nL R D K pc lv (.int i :: .ref a :: st) (T, N, I, J, E, Rf) n := by
  obtain ⟨p, l, e, s, m, args, below, meth, c, A, Q⟩ := K
  intro O H locs ls h1 h2 h3 h4
  subst hN
  subst hi
  have hin : vp_in (nI j) (N a) := vp_in_nI hj hz
  have hcl : (nI j).toNatClampNeg = j := nI_clamp (Nat.lt_trans hj hz)
  obtain ⟨L, q, hL, hm, hP, hD, hq⟩ := wd_at h1 (a := a) (by show T a ≠ 0; omega)
  have hq2 := hq
  rw [ent_int hT (Or.inr (Or.inl rfl))] at hq2
  refine va_zald O.1 O.2.1 O.2.2.2.2.2.1 hP q 2 hq2 rfl hin hd ?_
  rw [hcl]
  exact kk O H locs ls h1 h2 h3 h4
theorem v_bald {cc : ByteArray} {own : String} {nL : Nat} {R : Room} {D : DT} {K : KT} {pc : Nat} {lv : LV} {st : List Value} {T N : Nat → Nat} {I : Nat → Nat → Int32} {J : Nat → Nat → Int64} {E : Nat → Nat → UInt64} {Rf : Nat → Nat → Option Nat} {n : Nat × Nat} {a j z : Nat} {i : Int32} (hd : decode cc pc = .ok (.baload, 1)) (hT : T a = 14) (hN : N a = z) (hi : i = nI j) (hj : j < z) (hz : z < 2147483648) (kk : V cc own nL R D K (pc + 1) lv (.int (I a j) :: st) (T, N, I, J, E, Rf) n) : V cc own nL R D K pc lv (.int i :: .ref a :: st) (T, N, I, J, E, Rf) n := by
  obtain ⟨p, l, e, s, m, args, below, meth, c, A, Q⟩ := K
  intro O H locs ls h1 h2 h3 h4
  subst hN
  subst hi
  have hin : vp_in (nI j) (N a) := vp_in_nI hj hz
  have hcl : (nI j).toNatClampNeg = j := nI_clamp (Nat.lt_trans hj hz)
  obtain ⟨L, q, hL, hm, hP, hD, hq⟩ := wd_at h1 (a := a) (by show T a ≠ 0; omega)
  have hq2 := hq
  rw [ent_int hT (Or.inr (Or.inr rfl))] at hq2
  refine va_bald O.1 O.2.1 O.2.2.2.2.2.1 hP q 3 hq2 rfl hin hd ?_
  rw [hcl]
  exact kk O H locs ls h1 h2 h3 h4
theorem v_lald {cc : ByteArray} {own : String} {nL : Nat} {R : Room} {D : DT} {K : KT} {pc : Nat} {lv : LV} {st : List Value} {T N : Nat → Nat} {I : Nat → Nat → Int32} {J : Nat → Nat → Int64} {E : Nat → Nat → UInt64} {Rf : Nat → Nat → Option Nat} {n : Nat × Nat} {a j z : Nat} {i : Int32} (hd : decode cc pc = .ok (.laload, 1)) (hT : T a = 12) (hN : N a = z) (hi : i = nI j) (hj : j < z) (hz : z < 2147483648) (kk : V cc own nL R D K (pc + 1) lv (.long (J a j) :: st) (T, N, I, J, E, Rf) n) : V cc own nL R D K pc lv (.int i :: .ref a :: st) (T, N, I, J, E, Rf) n := by
  obtain ⟨p, l, e, s, m, args, below, meth, c, A, Q⟩ := K
  intro O H locs ls h1 h2 h3 h4
  subst hN
  subst hi
  have hin : vp_in (nI j) (N a) := vp_in_nI hj hz
  have hcl : (nI j).toNatClampNeg = j := nI_clamp (Nat.lt_trans hj hz)
  obtain ⟨L, q, hL, hm, hP, hD, hq⟩ := wd_at h1 (a := a) (by show T a ≠ 0; omega)
  have hq2 := hq
  rw [ent_long hT] at hq2
  refine va_lald O.1 O.2.1 O.2.2.2.2.2.1 hP q 1 hq2 rfl hin hd ?_
  rw [hcl]
  exact kk O H locs ls h1 h2 h3 h4
theorem v_dald {cc : ByteArray} {own : String} {nL : Nat} {R : Room} {D : DT} {K : KT} {pc : Nat} {lv : LV} {st : List Value} {T N : Nat → Nat} {I : Nat → Nat → Int32} {J : Nat → Nat → Int64} {E : Nat → Nat → UInt64} {Rf : Nat → Nat → Option Nat} {n : Nat × Nat} {a j z : Nat} {i : Int32} (hd : decode cc pc = .ok (.daload, 1)) (hT : T a = 15) (hN : N a = z) (hi : i = nI j) (hj : j < z) (hz : z < 2147483648) (kk : V cc own nL R D K (pc + 1) lv (.double (E a j) :: st) (T, N, I, J, E, Rf) n) : V cc own nL R D K pc lv (.int i :: .ref a :: st) (T, N, I, J, E, Rf) n := by
  obtain ⟨p, l, e, s, m, args, below, meth, c, A, Q⟩ := K
  intro O H locs ls h1 h2 h3 h4
  subst hN
  subst hi
  have hin : vp_in (nI j) (N a) := vp_in_nI hj hz
  have hcl : (nI j).toNatClampNeg = j := nI_clamp (Nat.lt_trans hj hz)
  obtain ⟨L, q, hL, hm, hP, hD, hq⟩ := wd_at h1 (a := a) (by show T a ≠ 0; omega)
  have hq2 := hq
  rw [ent_dbl hT] at hq2
  refine va_dald O.1 O.2.1 O.2.2.2.2.2.1 hP q 4 hq2 rfl hin hd ?_
  rw [hcl]
  exact kk O H locs ls h1 h2 h3 h4
theorem v_aald {cc : ByteArray} {own : String} {nL : Nat} {R : Room} {D : DT} {K : KT} {pc : Nat} {lv : LV} {st : List Value} {T N : Nat → Nat} {I : Nat → Nat → Int32} {J : Nat → Nat → Int64} {E : Nat → Nat → UInt64} {Rf : Nat → Nat → Option Nat} {n : Nat × Nat} {a j z k : Nat} {C : String} {i : Int32} (hd : decode cc pc = .ok (.aaload, 1)) (hT : T a = k + 11) (hk : 5 ≤ k) (ht : (tysL D.2)[k]? = some (D.2 (k + 11), .object C)) (hN : N a = z) (hi : i = nI j) (hj : j < z) (hz : z < 2147483648) (kn : Rf a j = none → V cc own nL R D K (pc + 1) lv (.null :: st) (T, N, I, J, E, Rf) n) (ks : ∀ b : Nat, Rf a j = some b → V cc own nL R D K (pc + 1) lv (.ref b :: st) (T, N, I, J, E, Rf) n) : V cc own nL R D K pc lv (.int i :: .ref a :: st) (T, N, I, J, E, Rf) n := by
  obtain ⟨p, l, e, s, m, args, below, meth, c, A, Q⟩ := K
  intro O H locs ls h1 h2 h3 h4
  subst hN
  subst hi
  have hin : vp_in (nI j) (N a) := vp_in_nI hj hz
  have hcl : (nI j).toNatClampNeg = j := nI_clamp (Nat.lt_trans hj hz)
  obtain ⟨L, q, hL, hm, hP, hD, hq⟩ := wd_at h1 (a := a) (by show T a ≠ 0; omega)
  have hq2 := hq
  rw [ent_ref hT (by omega)] at hq2
  refine va_aldq O.1 O.2.1 O.2.2.2.2.2.1 hP q k hq2 ht hin hd ?_
  rw [hcl]
  show W _ _ _ _ _ _ _ _ _ _ _ _ _ _ _ (F0 _ _ _ (va_rf (Rf a j) :: st))
  cases hr : Rf a j with
  | none => exact kn hr O H locs ls h1 h2 h3 h4
  | some b => exact ks b hr O H locs ls h1 h2 h3 h4
theorem v_alen {cc : ByteArray} {own : String} {nL : Nat} {R : Room} {D : DT} {K : KT} {pc : Nat} {lv : LV} {st : List Value} {T N : Nat → Nat} {I : Nat → Nat → Int32} {J : Nat → Nat → Int64} {E : Nat → Nat → UInt64} {Rf : Nat → Nat → Option Nat} {n : Nat × Nat} {a z k : Nat} {ty : FieldType} {v : Int32} (hd : decode cc pc = .ok (.arraylength, 1)) (hT : T a = k + 11) (ht : (tysL D.2)[k]? = some (D.2 (k + 11), ty)) (hN : N a = z) (hv : Int32.ofNat z = v) (kk : V cc own nL R D K (pc + 1) lv (.int v :: st) (T, N, I, J, E, Rf) n) : V cc own nL R D K pc lv (.ref a :: st) (T, N, I, J, E, Rf) n := by
  obtain ⟨p, l, e, s, m, args, below, meth, c, A, Q⟩ := K
  intro O H locs ls h1 h2 h3 h4
  subst hN
  obtain ⟨L, q, hL, hm, hP, hD, hq⟩ := wd_at h1 (a := a) (by show T a ≠ 0; omega)
  have hkl : k < 10 := (List.getElem?_eq_some_iff.mp ht).1
  obtain ⟨y, hy⟩ : ∃ y, ent D.2 (T, N, I, J, E, Rf) a = .inl (D.2 (k + 11), N a, y) := by
    rcases (show k = 0 ∨ k = 2 ∨ k = 3 ∨ k = 1 ∨ k = 4 ∨ 5 ≤ k by omega) with h | h | h | h | h | h
    · subst h; exact ⟨_, ent_int hT (Or.inl rfl)⟩
    · subst h; exact ⟨_, ent_int hT (Or.inr (Or.inl rfl))⟩
    · subst h; exact ⟨_, ent_int hT (Or.inr (Or.inr rfl))⟩
    · subst h; exact ⟨_, ent_long hT⟩
    · subst h; exact ⟨_, ent_dbl hT⟩
    · exact ⟨_, ent_ref hT (by omega)⟩
  rw [hy] at hq
  exact va_alen O.1 O.2.1 O.2.2.2.2.2.1 hP q k hq ht hv hd (kk O H locs ls h1 h2 h3 h4)
theorem v_iast {cc : ByteArray} {own : String} {nL : Nat} {R : Room} {D : DT} {K : KT} {pc : Nat} {lv : LV} {st : List Value} {T N : Nat → Nat} {I : Nat → Nat → Int32} {J : Nat → Nat → Int64} {E : Nat → Nat → UInt64} {Rf : Nat → Nat → Option Nat} {n : Nat × Nat} {a j z : Nat} {i : Int32} {x : Int32} (hd : decode cc pc = .ok (.iastore, 1)) (hT : T a = 11) (hN : N a = z) (hi : i = nI j) (hj : j < z) (hz : z < 2147483648) (kk : V cc own nL R D K (pc + 1) lv st (T, N, u2 I a j x, J, E, Rf) n) : V cc own nL R D K pc lv (.int x :: .int i :: .ref a :: st) (T, N, I, J, E, Rf) n := by
  obtain ⟨p, l, e, s, m, args, below, meth, c, A, Q⟩ := K
  intro O H locs ls h1 h2 h3 h4
  subst hN
  subst hi
  have hin : vp_in (nI j) (N a) := vp_in_nI hj hz
  have hcl : (nI j).toNatClampNeg = j := nI_clamp (Nat.lt_trans hj hz)
  obtain ⟨L, q, hL, hm, hP, hD, hq⟩ := wd_at h1 (a := a) (by show T a ≠ 0; omega)
  have hq2 := hq
  rw [ent_int hT (Or.inl rfl)] at hq2
  have hA : va_D A (va_pl L (ent D.2 (T, N, I, J, E, Rf))) := hD.weaken (fun k0 q0 hk0 _ => h2 q0.1 (by
    obtain ⟨b, hb, e⟩ := List.mem_map.mp (List.mem_of_getElem? hk0)
    rw [← e]; exact (hL b).mp hb))
  refine va_iast O.1 O.2.1 O.2.2.2.2.2.1 hP hA h3 q 0 hq2 rfl hin hd (fun H1 locs1 p1 p2 p3 => ?_)
  rw [hcl] at p1 p2
  refine kk O H1 locs1 ls ?_ h2 p3 h4
  refine wd_set hL hm hD hq (fun _ => rfl) ?_ (fun b hb => ent_congr rfl rfl (funext fun z0 => by simp [u2, hb]) rfl rfl rfl) p1 (p2.weaken (fun _ _ _ _ => trivial))
  rw [ent_int hT (Or.inl rfl)]
  exact congrArg (fun w => Sum.inl (D.2 11, N a, Sum.inl w)) (funext fun y => by simp [u2, upd])
theorem v_zast {cc : ByteArray} {own : String} {nL : Nat} {R : Room} {D : DT} {K : KT} {pc : Nat} {lv : LV} {st : List Value} {T N : Nat → Nat} {I : Nat → Nat → Int32} {J : Nat → Nat → Int64} {E : Nat → Nat → UInt64} {Rf : Nat → Nat → Option Nat} {n : Nat × Nat} {a j z : Nat} {i : Int32} {x : Int32} (hd : decode cc pc = .ok (.bastore, 1)) (hT : T a = 13) (hN : N a = z) (hi : i = nI j) (hj : j < z) (hz : z < 2147483648) (hx : vp_nar .boolean x = x) (kk : V cc own nL R D K (pc + 1) lv st (T, N, u2 I a j x, J, E, Rf) n) : V cc own nL R D K pc lv (.int x :: .int i :: .ref a :: st) (T, N, I, J, E, Rf) n := by
  obtain ⟨p, l, e, s, m, args, below, meth, c, A, Q⟩ := K
  intro O H locs ls h1 h2 h3 h4
  subst hN
  subst hi
  have hin : vp_in (nI j) (N a) := vp_in_nI hj hz
  have hcl : (nI j).toNatClampNeg = j := nI_clamp (Nat.lt_trans hj hz)
  obtain ⟨L, q, hL, hm, hP, hD, hq⟩ := wd_at h1 (a := a) (by show T a ≠ 0; omega)
  have hq2 := hq
  rw [ent_int hT (Or.inr (Or.inl rfl))] at hq2
  have hA : va_D A (va_pl L (ent D.2 (T, N, I, J, E, Rf))) := hD.weaken (fun k0 q0 hk0 _ => h2 q0.1 (by
    obtain ⟨b, hb, e⟩ := List.mem_map.mp (List.mem_of_getElem? hk0)
    rw [← e]; exact (hL b).mp hb))
  refine va_zast O.1 O.2.1 O.2.2.2.2.2.1 hP hA h3 q 2 hq2 rfl hin hd (fun H1 locs1 p1 p2 p3 => ?_)
  rw [hcl] at p1 p2
  refine kk O H1 locs1 ls ?_ h2 p3 h4
  refine wd_set hL hm hD hq (fun _ => rfl) ?_ (fun b hb => ent_congr rfl rfl (funext fun z0 => by simp [u2, hb]) rfl rfl rfl) p1 (p2.weaken (fun _ _ _ _ => trivial))
  rw [ent_int hT (Or.inr (Or.inl rfl))]
  exact congrArg (fun w => Sum.inl (D.2 13, N a, Sum.inl w)) (funext fun y => by simp [u2, upd, hx])
theorem v_bast {cc : ByteArray} {own : String} {nL : Nat} {R : Room} {D : DT} {K : KT} {pc : Nat} {lv : LV} {st : List Value} {T N : Nat → Nat} {I : Nat → Nat → Int32} {J : Nat → Nat → Int64} {E : Nat → Nat → UInt64} {Rf : Nat → Nat → Option Nat} {n : Nat × Nat} {a j z : Nat} {i : Int32} {x : Int32} (hd : decode cc pc = .ok (.bastore, 1)) (hT : T a = 14) (hN : N a = z) (hi : i = nI j) (hj : j < z) (hz : z < 2147483648) (hx : vp_nar .byte x = x) (kk : V cc own nL R D K (pc + 1) lv st (T, N, u2 I a j x, J, E, Rf) n) : V cc own nL R D K pc lv (.int x :: .int i :: .ref a :: st) (T, N, I, J, E, Rf) n := by
  obtain ⟨p, l, e, s, m, args, below, meth, c, A, Q⟩ := K
  intro O H locs ls h1 h2 h3 h4
  subst hN
  subst hi
  have hin : vp_in (nI j) (N a) := vp_in_nI hj hz
  have hcl : (nI j).toNatClampNeg = j := nI_clamp (Nat.lt_trans hj hz)
  obtain ⟨L, q, hL, hm, hP, hD, hq⟩ := wd_at h1 (a := a) (by show T a ≠ 0; omega)
  have hq2 := hq
  rw [ent_int hT (Or.inr (Or.inr rfl))] at hq2
  have hA : va_D A (va_pl L (ent D.2 (T, N, I, J, E, Rf))) := hD.weaken (fun k0 q0 hk0 _ => h2 q0.1 (by
    obtain ⟨b, hb, e⟩ := List.mem_map.mp (List.mem_of_getElem? hk0)
    rw [← e]; exact (hL b).mp hb))
  refine va_bast O.1 O.2.1 O.2.2.2.2.2.1 hP hA h3 q 3 hq2 rfl hin hd (fun H1 locs1 p1 p2 p3 => ?_)
  rw [hcl] at p1 p2
  refine kk O H1 locs1 ls ?_ h2 p3 h4
  refine wd_set hL hm hD hq (fun _ => rfl) ?_ (fun b hb => ent_congr rfl rfl (funext fun z0 => by simp [u2, hb]) rfl rfl rfl) p1 (p2.weaken (fun _ _ _ _ => trivial))
  rw [ent_int hT (Or.inr (Or.inr rfl))]
  exact congrArg (fun w => Sum.inl (D.2 14, N a, Sum.inl w)) (funext fun y => by simp [u2, upd, hx])
theorem v_last {cc : ByteArray} {own : String} {nL : Nat} {R : Room} {D : DT} {K : KT} {pc : Nat} {lv : LV} {st : List Value} {T N : Nat → Nat} {I : Nat → Nat → Int32} {J : Nat → Nat → Int64} {E : Nat → Nat → UInt64} {Rf : Nat → Nat → Option Nat} {n : Nat × Nat} {a j z : Nat} {i : Int32} {x : Int64} (hd : decode cc pc = .ok (.lastore, 1)) (hT : T a = 12) (hN : N a = z) (hi : i = nI j) (hj : j < z) (hz : z < 2147483648) (kk : V cc own nL R D K (pc + 1) lv st (T, N, I, u2 J a j x, E, Rf) n) : V cc own nL R D K pc lv (.long x :: .int i :: .ref a :: st) (T, N, I, J, E, Rf) n := by
  obtain ⟨p, l, e, s, m, args, below, meth, c, A, Q⟩ := K
  intro O H locs ls h1 h2 h3 h4
  subst hN
  subst hi
  have hin : vp_in (nI j) (N a) := vp_in_nI hj hz
  have hcl : (nI j).toNatClampNeg = j := nI_clamp (Nat.lt_trans hj hz)
  obtain ⟨L, q, hL, hm, hP, hD, hq⟩ := wd_at h1 (a := a) (by show T a ≠ 0; omega)
  have hq2 := hq
  rw [ent_long hT] at hq2
  have hA : va_D A (va_pl L (ent D.2 (T, N, I, J, E, Rf))) := hD.weaken (fun k0 q0 hk0 _ => h2 q0.1 (by
    obtain ⟨b, hb, e⟩ := List.mem_map.mp (List.mem_of_getElem? hk0)
    rw [← e]; exact (hL b).mp hb))
  refine va_last O.1 O.2.1 O.2.2.2.2.2.1 hP hA h3 q 1 hq2 rfl hin hd (fun H1 locs1 p1 p2 p3 => ?_)
  rw [hcl] at p1 p2
  refine kk O H1 locs1 ls ?_ h2 p3 h4
  refine wd_set hL hm hD hq (fun _ => rfl) ?_ (fun b hb => ent_congr rfl rfl rfl (funext fun z0 => by simp [u2, hb]) rfl rfl) p1 (p2.weaken (fun _ _ _ _ => trivial))
  rw [ent_long hT]
  exact congrArg (fun w => Sum.inl (D.2 12, N a, Sum.inr (Sum.inl w))) (funext fun y => by simp [u2, vp_updL])
theorem v_dast {cc : ByteArray} {own : String} {nL : Nat} {R : Room} {D : DT} {K : KT} {pc : Nat} {lv : LV} {st : List Value} {T N : Nat → Nat} {I : Nat → Nat → Int32} {J : Nat → Nat → Int64} {E : Nat → Nat → UInt64} {Rf : Nat → Nat → Option Nat} {n : Nat × Nat} {a j z : Nat} {i : Int32} {x : UInt64} (hd : decode cc pc = .ok (.dastore, 1)) (hT : T a = 15) (hN : N a = z) (hi : i = nI j) (hj : j < z) (hz : z < 2147483648) (kk : V cc own nL R D K (pc + 1) lv st (T, N, I, J, u2 E a j x, Rf) n) : V cc own nL R D K pc lv (.double x :: .int i :: .ref a :: st) (T, N, I, J, E, Rf) n := by
  obtain ⟨p, l, e, s, m, args, below, meth, c, A, Q⟩ := K
  intro O H locs ls h1 h2 h3 h4
  subst hN
  subst hi
  have hin : vp_in (nI j) (N a) := vp_in_nI hj hz
  have hcl : (nI j).toNatClampNeg = j := nI_clamp (Nat.lt_trans hj hz)
  obtain ⟨L, q, hL, hm, hP, hD, hq⟩ := wd_at h1 (a := a) (by show T a ≠ 0; omega)
  have hq2 := hq
  rw [ent_dbl hT] at hq2
  have hA : va_D A (va_pl L (ent D.2 (T, N, I, J, E, Rf))) := hD.weaken (fun k0 q0 hk0 _ => h2 q0.1 (by
    obtain ⟨b, hb, e⟩ := List.mem_map.mp (List.mem_of_getElem? hk0)
    rw [← e]; exact (hL b).mp hb))
  refine va_dast O.1 O.2.1 O.2.2.2.2.2.1 hP hA h3 q 4 hq2 rfl hin hd (fun H1 locs1 p1 p2 p3 => ?_)
  rw [hcl] at p1 p2
  refine kk O H1 locs1 ls ?_ h2 p3 h4
  refine wd_set hL hm hD hq (fun _ => rfl) ?_ (fun b hb => ent_congr rfl rfl rfl rfl (funext fun z0 => by simp [u2, hb]) rfl) p1 (p2.weaken (fun _ _ _ _ => trivial))
  rw [ent_dbl hT]
  exact congrArg (fun w => Sum.inl (D.2 15, N a, Sum.inr (Sum.inr (Sum.inr (Sum.inl w))))) (funext fun y => by simp [u2, vf_upd])
theorem v_aast {cc : ByteArray} {own : String} {nL : Nat} {R : Room} {D : DT} {K : KT} {pc : Nat} {lv : LV} {st : List Value} {T N : Nat → Nat} {I : Nat → Nat → Int32} {J : Nat → Nat → Int64} {E : Nat → Nat → UInt64} {Rf : Nat → Nat → Option Nat} {n : Nat × Nat} {a j z k : Nat} {i : Int32} {v ci : Nat} {r : vw_C} (hd : decode cc pc = .ok (.aastore, 1)) (hT : T a = k + 11) (hk : 5 ≤ k) (ht : (tysL D.2)[k]? = some (D.2 (k + 11), .object r.1)) (hci : cls[ci]? = some r) (hTv : T v = ci + 1) (hN : N a = z) (hi : i = nI j) (hj : j < z) (hz : z < 2147483648) (kk : V cc own nL R D K (pc + 1) lv st (T, N, I, J, E, u2 Rf a j (some v)) n) : V cc own nL R D K pc lv (.ref v :: .int i :: .ref a :: st) (T, N, I, J, E, Rf) n := by
  obtain ⟨p, l, e, s, m, args, below, meth, c, A, Q⟩ := K
  intro O H locs ls h1 h2 h3 h4
  subst hN
  subst hi
  have hin : vp_in (nI j) (N a) := vp_in_nI hj hz
  have hcl : (nI j).toNatClampNeg = j := nI_clamp (Nat.lt_trans hj hz)
  obtain ⟨L, q, hL, hm, hP, hD, hq⟩ := wd_at h1 (a := a) (by show T a ≠ 0; omega)
  have hq2 := hq
  rw [ent_ref hT (by omega)] at hq2
  have hA : va_D A (va_pl L (ent D.2 (T, N, I, J, E, Rf))) := hD.weaken (fun k0 q0 hk0 _ => h2 q0.1 (by
    obtain ⟨b, hb, e⟩ := List.mem_map.mp (List.mem_of_getElem? hk0)
    rw [← e]; exact (hL b).mp hb))
  obtain ⟨qv, hqv⟩ := va_pl_get (X := []) (f := ent D.2 (T, N, I, J, E, Rf)) ((hL v).mpr (by show T v ≠ 0; omega))
  have hqv : (va_pl L (ent D.2 (T, N, I, J, E, Rf)))[qv]? = some (v, ent D.2 (T, N, I, J, E, Rf) v) := hqv
  rw [ent_obj hTv (cls_lt hci)] at hqv
  refine va_astq O.1 O.2.1 O.2.2.2.2.2.1 hP hA h3 q k qv ci hq2 ht hqv hci hin hd (fun H1 locs1 p1 p2 p3 => ?_)
  rw [hcl] at p1 p2
  refine kk O H1 locs1 ls ?_ h2 p3 h4
  refine wd_set hL hm hD hq (fun _ => rfl) ?_ (fun b hb => ent_congr rfl rfl rfl rfl rfl (funext fun z0 => by simp [u2, hb])) p1 (p2.weaken (fun _ _ _ _ => trivial))
  rw [ent_ref hT (by omega)]
  exact congrArg (fun w => Sum.inl (D.2 (k + 11), N a, Sum.inr (Sum.inr (Sum.inr (Sum.inr w))))) (funext fun y => by simp [u2, va_up])
theorem v_aastN {cc : ByteArray} {own : String} {nL : Nat} {R : Room} {D : DT} {K : KT} {pc : Nat} {lv : LV} {st : List Value} {T N : Nat → Nat} {I : Nat → Nat → Int32} {J : Nat → Nat → Int64} {E : Nat → Nat → UInt64} {Rf : Nat → Nat → Option Nat} {n : Nat × Nat} {a j z k : Nat} {i : Int32} {C : String} (hd : decode cc pc = .ok (.aastore, 1)) (hT : T a = k + 11) (hk : 5 ≤ k) (ht : (tysL D.2)[k]? = some (D.2 (k + 11), .object C)) (hN : N a = z) (hi : i = nI j) (hj : j < z) (hz : z < 2147483648) (kk : V cc own nL R D K (pc + 1) lv st (T, N, I, J, E, u2 Rf a j (none)) n) : V cc own nL R D K pc lv (.null :: .int i :: .ref a :: st) (T, N, I, J, E, Rf) n := by
  obtain ⟨p, l, e, s, m, args, below, meth, c, A, Q⟩ := K
  intro O H locs ls h1 h2 h3 h4
  subst hN
  subst hi
  have hin : vp_in (nI j) (N a) := vp_in_nI hj hz
  have hcl : (nI j).toNatClampNeg = j := nI_clamp (Nat.lt_trans hj hz)
  obtain ⟨L, q, hL, hm, hP, hD, hq⟩ := wd_at h1 (a := a) (by show T a ≠ 0; omega)
  have hq2 := hq
  rw [ent_ref hT (by omega)] at hq2
  have hA : va_D A (va_pl L (ent D.2 (T, N, I, J, E, Rf))) := hD.weaken (fun k0 q0 hk0 _ => h2 q0.1 (by
    obtain ⟨b, hb, e⟩ := List.mem_map.mp (List.mem_of_getElem? hk0)
    rw [← e]; exact (hL b).mp hb))
  refine va_astqN O.1 O.2.1 O.2.2.2.2.2.1 hP hA h3 q k hq2 ht hin hd (fun H1 locs1 p1 p2 p3 => ?_)
  rw [hcl] at p1 p2
  refine kk O H1 locs1 ls ?_ h2 p3 h4
  refine wd_set hL hm hD hq (fun _ => rfl) ?_ (fun b hb => ent_congr rfl rfl rfl rfl rfl (funext fun z0 => by simp [u2, hb])) p1 (p2.weaken (fun _ _ _ _ => trivial))
  rw [ent_ref hT (by omega)]
  exact congrArg (fun w => Sum.inl (D.2 (k + 11), N a, Sum.inr (Sum.inr (Sum.inr (Sum.inr w))))) (funext fun y => by simp [u2, va_up])
/-! CONTRACTS: over a whole typed heap; what they say of the answer and the heap behind -/
def frM (G : GT) (sz : Nat) : Nat → Prop := fun q => G.1 q ≠ 0 ∨ sz ≤ q
def PcM (D : DT) (As : List Value) (sz : Nat) (G : GT) : Array Value → State → Prop := fun a U => a = As.toArray ∧ U.heap.size = sz ∧ wd D G U.heap ∧ va_K D.1 cls (tysL D.2) U ∧ ES (frM G sz) U U.heap
def QcM (D : DT) (sz : Nat) (G : GT) (post : Option Value → GT → Prop) : Array Value → State → Outcome → State → Prop := fun _ st oc t => (∃ (v : Option Value) (G' : GT), oc = .returned v ∧ post v G' ∧ wd D G' t.heap ∧ ∀ q, G'.1 q ≠ 0 → frM G sz q) ∧ va_F (frM G sz) st t
def XcM (D : DT) (sz : Nat) (G : GT) (postX : String → GT → Prop) : String → State → State → Prop := fun E st t => (∃ G' : GT, postX E G' ∧ wd D G' t.heap ∧ ∀ q, G'.1 q ≠ 0 → frM G sz q) ∧ va_F (frM G sz) st t
def wsA (y : MethodName) (bytes : ByteArray) (maxL : Nat) (ret : Option FieldType) : List Cond := .code y bytes maxL ret :: lw_all
def MC (y : MethodName) (bytes : ByteArray) (maxL : Nat) (ret : Option FieldType) (rm : Room) (D : DT) (As : List Value) (G : GT) (post : Option Value → GT → Prop) : Prop := ∀ l : Launch, l.stackTraces = false → ∀ sz : Nat, Met l y (wsA y bytes maxL ret) rm (PcM D As sz G) (QcM D sz G post) rm.cells rm.slots (frM G sz)
def MX (y : MethodName) (bytes : ByteArray) (maxL : Nat) (ret : Option FieldType) (rm : Room) (D : DT) (As : List Value) (G : GT) (post : Option Value → GT → Prop) (postX : String → GT → Prop) : Prop := ∀ l : Launch, l.stackTraces = false → ∀ sz : Nat, vx_Met l y (wsA y bytes maxL ret) rm (PcM D As sz G) (QcM D sz G post) (XcM D sz G postX) rm.cells rm.slots (frM G sz)
def Rt (R : Room) (D : DT) (K : KT) (ret : Option FieldType) (nm : String) (sz : Nat) (G0 : GT) (post : Option Value → GT → Prop) : Prop := match K with
  | (_, _, _, s, _, args, below, meth, _, A, Q) => meth.sig.returnType = ret ∧ A = frM G0 sz ∧ s.heap.size = sz ∧ meth.name = nm ∧ ∀ t, MQ below (QcM D sz G0 post) args s R.cells R.slots (frM G0 sz) t → Q t
def Rx (R : Room) (D : DT) (K : KT) (sz : Nat) (G0 : GT) (post : Option Value → GT → Prop) (postX : String → GT → Prop) : Prop := match K with
  | (_, _, _, s, _, args, below, _, c, A, Q) => A = frM G0 sz ∧ s.heap.size = sz ∧ (∀ x ∈ c.exceptionTable.toList, False) ∧ ∀ t, vx_MQ below (QcM D sz G0 post) (XcM D sz G0 postX) args s R.cells R.slots (frM G0 sz) t → Q t
theorem PcM_blind (D : DT) (As : List Value) (sz : Nat) (G : GT) : FrameBlind (PcM D As sz G) := fun a U g mk h => ⟨h.1, h.2.1, h.2.2.1, va_K.moved (u := U) (U := U.calling g mk a) (Vm.Alike.refl U.vm) h.2.2.2.1, ES.warm (s := U) (U := U.calling g mk a) (State.WarmedH.refl U) h.2.2.2.2⟩
theorem MC_of {y : MethodName} {bytes : ByteArray} {maxL : Nat} {ret : Option FieldType} {rm : Room} {D : DT} {As : List Value} {G : GT} {post : Option Value → GT → Prop} (hy : plainName y.cls = true) (hl : (lg_sl As).length ≤ maxL) (h : ∀ (K : KT) (sz : Nat), Rt rm D K ret y.name sz G post → V bytes y.cls maxL rm D K 0 (lpad (lent As) maxL) [] G (0, 0)) : MC y bytes maxL ret rm D As G post := by
  intro l hfl sz
  refine Met.ofW (cc := bytes) (maxL := maxL) (ret := ret) hy rfl ?_
  intro p e s m args below meth c s₁ B hml hv
  obtain ⟨rfl, hsz, hwd, hK, hES⟩ := hv
  have hts := atoms_spec (ws := wsA y bytes maxL ret) B.pre
  subst hsz
  have hlv := lv_entry As (n := maxL) hl
  rw [lg_entry_eq]
  exact h (p, l, e, s, m, As.toArray, below, meth, c, frM G s.heap.size, MQ below (QcM D s.heap.size G post) As.toArray s rm.cells rm.slots (frM G s.heap.size)) s.heap.size ⟨B.returns, rfl, rfl, (name_of_methodNamed B.named B.method).1, fun _ h => h⟩ ⟨B.exec, B.bytes, hml, findClass_of_methodNamed B.named, fun w hw => hts w (List.mem_cons_of_mem _ hw), hK, fun q hq => Or.inr hq, B.notSynchronized, hES, hfl⟩ s.heap [] _ hwd (fun q hq => Or.inl hq) va_S.rf ⟨hlv.1, hlv.2.1, fun i v hg => hlv.2.2 (i, v) (by have := lent_args As 0 i v (lget_pad hg); simpa using this)⟩
theorem MX_of {y : MethodName} {bytes : ByteArray} {maxL : Nat} {ret : Option FieldType} {rm : Room} {D : DT} {As : List Value} {G : GT} {post : Option Value → GT → Prop} {postX : String → GT → Prop} (hy : plainName y.cls = true) (hl : (lg_sl As).length ≤ maxL) (h : ∀ (K : KT) (sz : Nat), Rt rm D K ret y.name sz G post → Rx rm D K sz G post postX → V bytes y.cls maxL rm D K 0 (lpad (lent As) maxL) [] G (0, 0)) : MX y bytes maxL ret rm D As G post postX := by
  intro l hfl sz
  refine vx_ofW (cc := bytes) (maxL := maxL) (ret := ret) hy rfl ?_
  intro p e s m args below meth c s₁ B hml hex hv
  obtain ⟨rfl, hsz, hwd, hK, hES⟩ := hv
  have hts := atoms_spec (ws := wsA y bytes maxL ret) B.pre
  subst hsz
  have hlv := lv_entry As (n := maxL) hl
  rw [lg_entry_eq]
  exact h (p, l, e, s, m, As.toArray, below, meth, c, frM G s.heap.size, vx_MQ below (QcM D s.heap.size G post) (XcM D s.heap.size G postX) As.toArray s rm.cells rm.slots (frM G s.heap.size)) s.heap.size ⟨B.returns, rfl, rfl, (name_of_methodNamed B.named B.method).1, fun t h => by
    obtain ⟨o, b1, b2, b3, b4⟩ := h
    exact ⟨o, b1, b2, Or.inl ⟨b3, b4⟩⟩⟩ ⟨rfl, rfl, hex, fun _ h => h⟩ ⟨B.exec, B.bytes, hml, findClass_of_methodNamed B.named, fun w hw => hts w (List.mem_cons_of_mem _ hw), hK, fun q hq => Or.inr hq, B.notSynchronized, hES, hfl⟩ s.heap [] _ hwd (fun q hq => Or.inl hq) va_S.rf ⟨hlv.1, hlv.2.1, fun i v hg => hlv.2.2 (i, v) (by have := lent_args As 0 i v (lget_pad hg); simpa using this)⟩
theorem v_iret {cc : ByteArray} {own : String} {nL : Nat} {R : Room} {D : DT} {K : KT} {pc : Nat} {lv : LV} {G : GT} {n : Nat × Nat} {nm : String} {sz : Nat} {G0 : GT} {post : Option Value → GT → Prop} {x : Int32} (hR : Rt R D K (some .int) nm sz G0 post) (hd : decode cc pc = .ok (.ireturn, 1)) (hn : n.1 ≤ R.cells ∧ n.2 ≤ R.slots) (hp : post (some (.int x)) G) : V cc own nL R D K pc lv [.int x] G n := by
  obtain ⟨p, l, e, s, m, args, below, meth, c, A, Q⟩ := K
  intro O H locs ls h1 h2 h3 h4
  obtain ⟨r1, r2, r3, r4, r5⟩ := hR
  subst r2
  have hw : W p l e R s m args below meth c H locs n.1 n.2 (MQ below (QcM D sz G0 post) args s R.cells R.slots (frM G0 sz)) (F0 m pc ls [.int x]) := W.widen hn.1 hn.2 (W.iret O.1 O.2.1 r1 (fun t ht hW => ⟨⟨_, G, rfl, hp, by rw [ht]; exact h1, h2⟩, h3.F ht⟩) h3.2.2 hd O.2.2.2.2.2.2.2.1)
  intro T hT X
  obtain ⟨t, a, b⟩ := hw T hT X
  exact ⟨t, a, r5 t b⟩
theorem v_zret {cc : ByteArray} {own : String} {nL : Nat} {R : Room} {D : DT} {K : KT} {pc : Nat} {lv : LV} {G : GT} {n : Nat × Nat} {nm : String} {sz : Nat} {G0 : GT} {post : Option Value → GT → Prop} {x : Int32} (hR : Rt R D K (some .boolean) nm sz G0 post) (hd : decode cc pc = .ok (.ireturn, 1)) (hz : narrow .boolean (.int x) = .int x) (hn : n.1 ≤ R.cells ∧ n.2 ≤ R.slots) (hp : post (some (.int x)) G) : V cc own nL R D K pc lv [.int x] G n := by
  obtain ⟨p, l, e, s, m, args, below, meth, c, A, Q⟩ := K
  intro O H locs ls h1 h2 h3 h4
  obtain ⟨r1, r2, r3, r4, r5⟩ := hR
  subst r2
  have hw : W p l e R s m args below meth c H locs n.1 n.2 (MQ below (QcM D sz G0 post) args s R.cells R.slots (frM G0 sz)) (F0 m pc ls [.int x]) := W.widen hn.1 hn.2 (W.zret O.1 O.2.1 r1 hz (fun t ht hW => ⟨⟨_, G, rfl, hp, by rw [ht]; exact h1, h2⟩, h3.F ht⟩) h3.2.2 hd O.2.2.2.2.2.2.2.1)
  intro T hT X
  obtain ⟨t, a, b⟩ := hw T hT X
  exact ⟨t, a, r5 t b⟩
theorem v_lret {cc : ByteArray} {own : String} {nL : Nat} {R : Room} {D : DT} {K : KT} {pc : Nat} {lv : LV} {G : GT} {n : Nat × Nat} {nm : String} {sz : Nat} {G0 : GT} {post : Option Value → GT → Prop} {x : Int64} (hR : Rt R D K (some .long) nm sz G0 post) (hd : decode cc pc = .ok (.lreturn, 1)) (hn : n.1 ≤ R.cells ∧ n.2 ≤ R.slots) (hp : post (some (.long x)) G) : V cc own nL R D K pc lv [.long x] G n := by
  obtain ⟨p, l, e, s, m, args, below, meth, c, A, Q⟩ := K
  intro O H locs ls h1 h2 h3 h4
  obtain ⟨r1, r2, r3, r4, r5⟩ := hR
  subst r2
  have hw : W p l e R s m args below meth c H locs n.1 n.2 (MQ below (QcM D sz G0 post) args s R.cells R.slots (frM G0 sz)) (F0 m pc ls [.long x]) := W.widen hn.1 hn.2 (W.lret O.1 O.2.1 r1 (fun t ht hW => ⟨⟨_, G, rfl, hp, by rw [ht]; exact h1, h2⟩, h3.F ht⟩) h3.2.2 hd O.2.2.2.2.2.2.2.1)
  intro T hT X
  obtain ⟨t, a, b⟩ := hw T hT X
  exact ⟨t, a, r5 t b⟩
theorem v_fret {cc : ByteArray} {own : String} {nL : Nat} {R : Room} {D : DT} {K : KT} {pc : Nat} {lv : LV} {G : GT} {n : Nat × Nat} {nm : String} {sz : Nat} {G0 : GT} {post : Option Value → GT → Prop} {x : UInt32} (hR : Rt R D K (some .float) nm sz G0 post) (hd : decode cc pc = .ok (.freturn, 1)) (hn : n.1 ≤ R.cells ∧ n.2 ≤ R.slots) (hp : post (some (.float x)) G) : V cc own nL R D K pc lv [.float x] G n := by
  obtain ⟨p, l, e, s, m, args, below, meth, c, A, Q⟩ := K
  intro O H locs ls h1 h2 h3 h4
  obtain ⟨r1, r2, r3, r4, r5⟩ := hR
  subst r2
  have hw : W p l e R s m args below meth c H locs n.1 n.2 (MQ below (QcM D sz G0 post) args s R.cells R.slots (frM G0 sz)) (F0 m pc ls [.float x]) := W.widen hn.1 hn.2 (W.fret O.1 O.2.1 r1 (fun t ht hW => ⟨⟨_, G, rfl, hp, by rw [ht]; exact h1, h2⟩, h3.F ht⟩) h3.2.2 hd O.2.2.2.2.2.2.2.1)
  intro T hT X
  obtain ⟨t, a, b⟩ := hw T hT X
  exact ⟨t, a, r5 t b⟩
theorem v_vret {cc : ByteArray} {own : String} {nL : Nat} {R : Room} {D : DT} {K : KT} {pc : Nat} {lv : LV} {G : GT} {n : Nat × Nat} {nm : String} {sz : Nat} {G0 : GT} {post : Option Value → GT → Prop}  (hR : Rt R D K (none) nm sz G0 post) (hd : decode cc pc = .ok (.return_, 1)) (hn : n.1 ≤ R.cells ∧ n.2 ≤ R.slots) (hp : post (none) G) : V cc own nL R D K pc lv [] G n := by
  obtain ⟨p, l, e, s, m, args, below, meth, c, A, Q⟩ := K
  intro O H locs ls h1 h2 h3 h4
  obtain ⟨r1, r2, r3, r4, r5⟩ := hR
  subst r2
  have hw : W p l e R s m args below meth c H locs n.1 n.2 (MQ below (QcM D sz G0 post) args s R.cells R.slots (frM G0 sz)) (F0 m pc ls []) := W.widen hn.1 hn.2 (W.vret O.1 O.2.1 r1 (fun t ht hW => ⟨⟨_, G, rfl, hp, by rw [ht]; exact h1, h2⟩, h3.F ht⟩) h3.2.2 hd O.2.2.2.2.2.2.2.1)
  intro T hT X
  obtain ⟨t, a, b⟩ := hw T hT X
  exact ⟨t, a, r5 t b⟩
theorem v_aret {cc : ByteArray} {own : String} {nL : Nat} {R : Room} {D : DT} {K : KT} {pc : Nat} {lv : LV} {G : GT} {n : Nat × Nat} {nm : String} {sz : Nat} {G0 : GT} {post : Option Value → GT → Prop} {x : Value} {C : String} (hR : Rt R D K (some (.object C)) nm sz G0 post) (hd : decode cc pc = .ok (.areturn, 1)) (hx : x = .null ∨ ∃ a, x = .ref a) (hn : n.1 ≤ R.cells ∧ n.2 ≤ R.slots) (hp : post (some x) G) : V cc own nL R D K pc lv [x] G n := by
  obtain ⟨p, l, e, s, m, args, below, meth, c, A, Q⟩ := K
  intro O H locs ls h1 h2 h3 h4
  obtain ⟨r1, r2, r3, r4, r5⟩ := hR
  subst r2
  have hw : W p l e R s m args below meth c H locs n.1 n.2 (MQ below (QcM D sz G0 post) args s R.cells R.slots (frM G0 sz)) (F0 m pc ls [x]) := W.widen hn.1 hn.2 (W.aret O.1 O.2.1 r1 (Or.inl ⟨_, rfl⟩) hx (fun t ht hW => ⟨⟨_, G, rfl, hp, by rw [ht]; exact h1, h2⟩, h3.F ht⟩) h3.2.2 hd O.2.2.2.2.2.2.2.1)
  intro T hT X
  obtain ⟨t, a, b⟩ := hw T hT X
  exact ⟨t, a, r5 t b⟩
theorem v_objInit {cc : ByteArray} {own : String} {nL : Nat} {R : Room} {D : DT} {K : KT} {pc : Nat} {lv : LV} {st : List Value} {G : GT} {n : Nat × Nat} {idx a : Nat} (hd : decode cc pc = .ok (.invokespecial idx, 3)) (hw : Cond.methodLink own idx objectInit ∈ lw_all) (hi : Cond.instanceMethod objectInit ∈ lw_all) (hc : Cond.code objectInit ⟨#[0xb1]⟩ 1 none ∈ lw_all) (hr : (st.map fun v => v.category).sum ≤ 8) (hf : 1 ≤ R.frames ∧ 20 ≤ R.locals) (k : V cc own nL R D K (pc + 3) lv st G n) : V cc own nL R D K pc lv (.ref a :: st) G n := by
  obtain ⟨p, l, e, s, m, args, below, meth, c, A, Q⟩ := K
  intro O H locs ls h1 h2 h3 h4
  have hrm : 2 * (F0 m pc ls (.ref a :: st)).monitorRoom + (st.map fun v => v.category).sum ≤ 8 := lv_room hr
  refine W.objInit O.1 O.2.1 O.2.2.2.1 (O.2.2.2.2.1 _ hw) (O.2.2.2.2.1 _ hi) (O.2.2.2.2.1 _ hc) rfl (by rw [O.2.2.1]; exact h4.1) rfl hd hf.1 (by have := hf.2; omega) ?_
  exact k O H locs ls h1 h2 h3 h4
abbrev vst (v : Option Value) (st : List Value) : List Value := match v with
  | none => st
  | some x => x :: st
theorem vst_eq (v : Option Value) (st : List Value) : v.toList ++ st = vst v st := by cases v <;> rfl
theorem ES_at {s U : State} {A : Nat → Prop} {G : GT} {H : Heap} {locs : List Loc} (h : ES A s s.heap) (h2 : ∀ q : Nat, G.1 q ≠ 0 → A q) (hA : ∀ q : Nat, s.heap.size ≤ q → A q) (h3 : va_S A s.heap H locs) (hW : s.WarmedH U.vm) : ES (frM G H.size) U H :=
  (ES.warm hW (ES.kept h h3.2.1)).narrow (fun q hq => hq.elim (h2 q) (fun z => hA q (Nat.le_trans h3.1 z)))
section CC
variable {p : Program} {l : Launch} {e : Env} {R : Room} {s : State} {m : MethodId} {args : Array Value} {below : List Frame} {meth : Method} {c : Code} {H : Heap} {locs : List Loc} {cells slots mc ms pc : Nat} {Q : State → Prop} {ls : Array Slot} {st0 rest : List Value} {A : Nat → Prop} {D : DT} {G : GT} {post : Option Value → GT → Prop} {a : Array Value}
theorem call_core (hr : va_Run p l e R s m args below meth c H locs cells slots mc ms (F0 m pc ls st0) rest (QcM D H.size G post a) (frM G H.size)) (h2 : ∀ q : Nat, G.1 q ≠ 0 → A q) (hA : ∀ q : Nat, s.heap.size ≤ q → A q) (h3 : va_S A s.heap H locs)
    (kk : ∀ (v : Option Value) (G' : GT) (H1 : Heap) (locs1 : List Loc), post v G' → wd D G' H1 → (∀ q, G'.1 q ≠ 0 → A q) → va_S A s.heap H1 locs1 → W p l e R s m args below meth c H1 locs1 (cells + mc) (slots + ms) Q (F0 m (pc + 3) ls (vst v rest))) : W p l e R s m args below meth c H locs cells slots Q (F0 m pc ls st0) := by
  have hf : ∀ q, frM G H.size q → A q := fun q hq => hq.elim (h2 q) (fun z => hA q (Nat.le_trans h3.1 z))
  intro T hT X
  obtain ⟨v, st₀, t, T', L, e0, X', hL, e1, e2, ⟨⟨v', G', hv, hp, hw, hd⟩, hF⟩, st⟩ := hr T hT X
  cases hv
  obtain ⟨-, -, k3⟩ := vx_keep e0 e1 h3 (fun q _ h => hf q h) hf hL hF
  obtain ⟨t2, a1, b1⟩ := kk v G' T'.heap (locs ++ L) hp (by rw [e1]; exact hw) (fun q hq => hf q (hd q hq)) k3 T' rfl X'
  rw [← vst_eq] at a1
  exact ⟨t2, st t2 a1, b1⟩
end CC
theorem gi_all {w : Cond} (h : w ∈ lw_all) : w ∈ lw_all ∧ ((w.onTables && w.keeps) = true ∨ ∃ ty, w = .arrayClass ty) := ⟨h, good_of_word (lw_good w h)⟩
theorem gi_ws {y : MethodName} {bytes : ByteArray} {maxL : Nat} {ret : Option FieldType} (h : Cond.code y bytes maxL ret ∈ lw_all) : GoodIn lw_all (wsA y bytes maxL ret) := fun w hw => (List.mem_cons.mp hw).elim (fun e => e ▸ gi_all h) gi_all
theorem v_callV {cc : ByteArray} {own : String} {nL : Nat} {R : Room} {D : DT} {K : KT} {pc : Nat} {lv : LV} {st : List Value} {G : GT} {n : Nat × Nat} {idx k maxL : Nat} {y : MethodName} {bytes : ByteArray} {ret : Option FieldType} {rm : Room} {As rest : List Value} {b : Nat} {ci : Nat} {T0 : u_T} {N0 : Nat} {post : Option Value → GT → Prop} (hd : decode cc pc = .ok (.invokevirtual idx, 3)) (hC : CWm own idx y bytes maxL ret k) (hi : Cond.instanceMethod y ∈ lw_all) (hsel : Cond.selects y.cls y y ∈ lw_all) (hM : MC y bytes maxL ret rm D (.ref b :: As) G post) (hT : G.1 b = ci + 1) (hci : cls[ci]? = some (y.cls, T0, N0)) (hst : st = As.reverse ++ .ref b :: rest) (hk : As.length = k) (hrest : (rest.map fun v => v.category).sum ≤ 8) (hR : rm.frames + 1 ≤ R.frames ∧ 8 + (maxL + 11) + rm.locals ≤ R.locals) (hn : n.1 + rm.cells ≤ R.cells ∧ n.2 + rm.slots ≤ R.slots) (kk : ∀ (v : Option Value) (G' : GT), post v G' → V cc own nL R D K (pc + 3) lv (vst v rest) G' (n.1 + rm.cells, n.2 + rm.slots)) : V cc own nL R D K pc lv st G n := by
  obtain ⟨p, l, e, s, m, args, below, meth, c, A, Q⟩ := K
  intro O H locs ls h1 h2 h3 h4
  obtain ⟨w1, w2, w3, w4, w5, w6⟩ := hC
  have hrc : ∃ cell : Cell, H[b]? = some cell ∧ cell.vm.isStatics = false ∧ s.vm.findClass y.cls = some cell.cls := by
    obtain ⟨L, q, hL, hm, hP, hD, hq⟩ := wd_at h1 (a := b) (by rw [hT]; omega)
    obtain ⟨T, N, I, J, E, Rf⟩ := G
    rw [ent_obj hT (cls_lt hci)] at hq
    exact va_recv O.2.2.2.2.2.1 hP hci hq
  refine call_core (va_runV (As := As) (rest := rest) ⟨O.1, O.2.1, O.2.2.1, O.2.2.2.1, O.2.2.2.2.1⟩ (hM l O.2.2.2.2.2.2.2.2.2 H.size) ⟨callB_of (ws' := lw_all) k O.2.2.2.2.1 (gi_ws w3) rfl rfl rfl (O.2.2.2.2.1 _ w2) (O.2.2.2.2.1 _ w1) ⟨w4, w5, w6⟩ hR, O.2.2.2.2.1 _ hi, O.2.2.2.2.1 _ hsel⟩ ⟨PcM_blind _ _ _ _, hrc, fun U hU hW => ⟨rfl, by rw [hU], by rw [hU]; exact h1, va_K.moved hW.alike O.2.2.2.2.2.1, by rw [hU]; exact ES_at O.2.2.2.2.2.2.2.2.1 h2 O.2.2.2.2.2.2.1 h3 hW⟩⟩ rfl hk h4.1 hst (lv_room hrest) hd hn) h2 O.2.2.2.2.2.2.1 h3 (fun v G' H1 locs1 hp hw hdm hS => kk v G' hp O H1 locs1 ls hw hdm hS h4)
theorem v_callS {cc : ByteArray} {own : String} {nL : Nat} {R : Room} {D : DT} {K : KT} {pc : Nat} {lv : LV} {st : List Value} {G : GT} {n : Nat × Nat} {idx k maxL : Nat} {y : MethodName} {bytes : ByteArray} {ret : Option FieldType} {rm : Room} {As rest : List Value} {post : Option Value → GT → Prop} (hd : decode cc pc = .ok (.invokestatic idx, 3)) (hC : CWm own idx y bytes maxL ret k) (hi : Cond.static y ∈ lw_all) (hM : MC y bytes maxL ret rm D As G post) (hst : st = As.reverse ++ rest) (hk : As.length = k) (hrest : (rest.map fun v => v.category).sum ≤ 8) (hR : rm.frames + 1 ≤ R.frames ∧ 8 + (maxL + 11) + rm.locals ≤ R.locals) (hn : n.1 + rm.cells ≤ R.cells ∧ n.2 + rm.slots ≤ R.slots) (kk : ∀ (v : Option Value) (G' : GT), post v G' → V cc own nL R D K (pc + 3) lv (vst v rest) G' (n.1 + rm.cells, n.2 + rm.slots)) : V cc own nL R D K pc lv st G n := by
  obtain ⟨p, l, e, s, m, args, below, meth, c, A, Q⟩ := K
  intro O H locs ls h1 h2 h3 h4
  obtain ⟨w1, w2, w3, w4, w5, w6⟩ := hC
  refine call_core (va_runS (As := As) (rest := rest) ⟨O.1, O.2.1, O.2.2.1, O.2.2.2.1, O.2.2.2.2.1⟩ (hM l O.2.2.2.2.2.2.2.2.2 H.size) ⟨callB_of (ws' := lw_all) k O.2.2.2.2.1 (gi_ws w3) rfl rfl rfl (O.2.2.2.2.1 _ w2) (O.2.2.2.2.1 _ w1) ⟨w4, w5, w6⟩ hR, O.2.2.2.2.1 _ hi⟩ ⟨PcM_blind _ _ _ _, fun U hU hW => ⟨rfl, by rw [hU], by rw [hU]; exact h1, va_K.moved hW.alike O.2.2.2.2.2.1, by rw [hU]; exact ES_at O.2.2.2.2.2.2.2.2.1 h2 O.2.2.2.2.2.2.1 h3 hW⟩⟩ rfl hk h4.1 hst (lv_room hrest) hd hn) h2 O.2.2.2.2.2.2.1 h3 (fun v G' H1 locs1 hp hw hdm hS => kk v G' hp O H1 locs1 ls hw hdm hS h4)
theorem v_callI {cc : ByteArray} {own : String} {nL : Nat} {R : Room} {D : DT} {K : KT} {pc : Nat} {lv : LV} {st : List Value} {G : GT} {n : Nat × Nat} {idx k maxL : Nat} {y : MethodName} {bytes : ByteArray} {rm : Room} {As rest : List Value} {b : Nat} {post : Option Value → GT → Prop} (hd : decode cc pc = .ok (.invokespecial idx, 3)) (hC : CWm own idx y bytes maxL none k) (hi : Cond.instanceMethod y ∈ lw_all) (hin : y.name = "<init>") (hM : MC y bytes maxL none rm D (.ref b :: As) G post) (hst : st = As.reverse ++ .ref b :: rest) (hk : As.length = k) (hrest : (rest.map fun v => v.category).sum ≤ 8) (hR : rm.frames + 1 ≤ R.frames ∧ 8 + (maxL + 11) + rm.locals ≤ R.locals) (hn : n.1 + rm.cells ≤ R.cells ∧ n.2 + rm.slots ≤ R.slots) (kk : ∀ (v : Option Value) (G' : GT), post v G' → V cc own nL R D K (pc + 3) lv (vst v rest) G' (n.1 + rm.cells, n.2 + rm.slots)) : V cc own nL R D K pc lv st G n := by
  obtain ⟨p, l, e, s, m, args, below, meth, c, A, Q⟩ := K
  intro O H locs ls h1 h2 h3 h4
  obtain ⟨w1, w2, w3, w4, w5, w6⟩ := hC
  refine call_core (va_runI (As := As) (rest := rest) ⟨O.1, O.2.1, O.2.2.1, O.2.2.2.1, O.2.2.2.2.1⟩ (hM l O.2.2.2.2.2.2.2.2.2 H.size) ⟨callB_of (ws' := lw_all) k O.2.2.2.2.1 (gi_ws w3) rfl rfl rfl (O.2.2.2.2.1 _ w2) (O.2.2.2.2.1 _ w1) ⟨w4, w5, w6⟩ hR, hin, O.2.2.2.2.1 _ hi⟩ ⟨PcM_blind _ _ _ _, fun U hU hW => ⟨rfl, by rw [hU], by rw [hU]; exact h1, va_K.moved hW.alike O.2.2.2.2.2.1, by rw [hU]; exact ES_at O.2.2.2.2.2.2.2.2.1 h2 O.2.2.2.2.2.2.1 h3 hW⟩⟩ rfl hk h4.1 hst (lv_room hrest) hd hn) h2 O.2.2.2.2.2.2.1 h3 (fun v G' H1 locs1 hp hw hdm hS => kk v G' hp O H1 locs1 ls hw hdm hS h4)
theorem v_callSN {cc : ByteArray} {own : String} {nL : Nat} {R : Room} {D : DT} {K : KT} {pc : Nat} {lv : LV} {st : List Value} {G : GT} {n : Nat × Nat} {idx k maxL : Nat} {y : MethodName} {host : String} {bytes : ByteArray} {ret : Option FieldType} {rm : Room} {As rest : List Value} {post : Option Value → GT → Prop} (hd : decode cc pc = .ok (.invokestatic idx, 3)) (hng : Cond.methodLinkNest own idx y host ∈ ngW) (w2 : Cond.initialized y.cls ∈ lw_all) (w3 : Cond.code y bytes maxL ret ∈ lw_all) (w4 : y.cls ≠ "java/lang/invoke/MethodHandle" ∧ y.cls ≠ "java/lang/invoke/VarHandle" ∧ (parseMethodDescriptor y.desc).map (fun d => d.parameters.length) = some k) (hi : Cond.static y ∈ lw_all) (hM : MC y bytes maxL ret rm D As G post) (hst : st = As.reverse ++ rest) (hk : As.length = k) (hrest : (rest.map fun v => v.category).sum ≤ 8) (hR : rm.frames + 1 ≤ R.frames ∧ 8 + (maxL + 11) + rm.locals ≤ R.locals) (hn : n.1 + rm.cells ≤ R.cells ∧ n.2 + rm.slots ≤ R.slots) (kk : ∀ (v : Option Value) (G' : GT), post v G' → V cc own nL R D K (pc + 3) lv (vst v rest) G' (n.1 + rm.cells, n.2 + rm.slots)) : V cc own nL R D K pc lv st G n := by
  obtain ⟨p, l, e, s, m, args, below, meth, c, A, Q⟩ := K
  intro O H locs ls h1 h2 h3 h4
  refine call_core (va_runSN (As := As) (rest := rest) ⟨O.1, O.2.1, O.2.2.1, O.2.2.2.1, O.2.2.2.2.1⟩ (hM l O.2.2.2.2.2.2.2.2.2 H.size) ⟨va_cnB (ws' := lw_all) k O.2.2.2.2.1 (gi_ws w3) rfl rfl rfl (O.2.2.2.2.2.2.2.2.1.2.2.1 _ hng) (O.2.2.2.2.1 _ w2) w4 hR, O.2.2.2.2.1 _ hi, trivial⟩ ⟨PcM_blind _ _ _ _, fun U hU hW => ⟨rfl, by rw [hU], by rw [hU]; exact h1, va_K.moved hW.alike O.2.2.2.2.2.1, by rw [hU]; exact ES_at O.2.2.2.2.2.2.2.2.1 h2 O.2.2.2.2.2.2.1 h3 hW⟩⟩ rfl hk h4.1 hst (lv_room hrest) hd hn) h2 O.2.2.2.2.2.2.1 h3 (fun v G' H1 locs1 hp hw hdm hS => kk v G' hp O H1 locs1 ls hw hdm hS h4)
theorem v_callIN {cc : ByteArray} {own : String} {nL : Nat} {R : Room} {D : DT} {K : KT} {pc : Nat} {lv : LV} {st : List Value} {G : GT} {n : Nat × Nat} {idx k maxL : Nat} {y : MethodName} {host : String} {bytes : ByteArray} {rm : Room} {As rest : List Value} {b : Nat} {post : Option Value → GT → Prop} (hd : decode cc pc = .ok (.invokespecial idx, 3)) (hng : Cond.methodLinkNest own idx y host ∈ ngW) (w2 : Cond.initialized y.cls ∈ lw_all) (w3 : Cond.code y bytes maxL none ∈ lw_all) (w4 : y.cls ≠ "java/lang/invoke/MethodHandle" ∧ y.cls ≠ "java/lang/invoke/VarHandle" ∧ (parseMethodDescriptor y.desc).map (fun d => d.parameters.length) = some k) (hi : Cond.instanceMethod y ∈ lw_all) (hin : y.name = "<init>") (hM : MC y bytes maxL none rm D (.ref b :: As) G post) (hst : st = As.reverse ++ .ref b :: rest) (hk : As.length = k) (hrest : (rest.map fun v => v.category).sum ≤ 8) (hR : rm.frames + 1 ≤ R.frames ∧ 8 + (maxL + 11) + rm.locals ≤ R.locals) (hn : n.1 + rm.cells ≤ R.cells ∧ n.2 + rm.slots ≤ R.slots) (kk : ∀ (v : Option Value) (G' : GT), post v G' → V cc own nL R D K (pc + 3) lv (vst v rest) G' (n.1 + rm.cells, n.2 + rm.slots)) : V cc own nL R D K pc lv st G n := by
  obtain ⟨p, l, e, s, m, args, below, meth, c, A, Q⟩ := K
  intro O H locs ls h1 h2 h3 h4
  refine call_core (va_runIN (As := As) (rest := rest) ⟨O.1, O.2.1, O.2.2.1, O.2.2.2.1, O.2.2.2.2.1⟩ (hM l O.2.2.2.2.2.2.2.2.2 H.size) ⟨va_cnB (ws' := lw_all) k O.2.2.2.2.1 (gi_ws w3) rfl rfl rfl (O.2.2.2.2.2.2.2.2.1.2.2.1 _ hng) (O.2.2.2.2.1 _ w2) w4 hR, hin, O.2.2.2.2.1 _ hi⟩ ⟨PcM_blind _ _ _ _, fun U hU hW => ⟨rfl, by rw [hU], by rw [hU]; exact h1, va_K.moved hW.alike O.2.2.2.2.2.1, by rw [hU]; exact ES_at O.2.2.2.2.2.2.2.2.1 h2 O.2.2.2.2.2.2.1 h3 hW⟩⟩ rfl hk h4.1 hst (lv_room hrest) hd hn) h2 O.2.2.2.2.2.2.1 h3 (fun v G' H1 locs1 hp hw hdm hS => kk v G' hp O H1 locs1 ls hw hdm hS h4)
theorem v_imax {cc : ByteArray} {own : String} {nL : Nat} {R : Room} {D : DT} {K : KT} {pc : Nat} {lv : LV} {st : List Value} {G : GT} {n : Nat × Nat} {idx : Nat} {x y : Int32} (hd : decode cc pc = .ok (.invokestatic idx, 3)) (w1 : Cond.methodLink own idx Lib.Math.max.name ∈ lw_all) (w2 : Cond.static Lib.Math.max.name ∈ lw_all) (w3 : Cond.initialized "java/lang/Math" ∈ lw_all) (w4 : Cond.code Lib.Math.max.name Lib.Math.max.code 2 (some .int) ∈ lw_all) (hf : 1 ≤ R.frames) (hr : (st.map fun v => v.category).sum ≤ 8) (hl : 23 ≤ R.locals) (hn : n.1 ≤ R.cells ∧ n.2 ≤ R.slots) (k : V cc own nL R D K (pc + 3) lv (.int (if x < y then y else x) :: st) G n) : V cc own nL R D K pc lv (.int y :: .int x :: st) G n := by
  obtain ⟨p, l, e, s, m, args, below, meth, c, A, Q⟩ := K
  intro O H locs ls h1 h2 h3 h4
  exact va_mmax O.1 O.2.1 (by rw [O.2.2.1]; exact h4.1.symm) O.2.2.2.1 (O.2.2.2.2.1 _ w1) (O.2.2.2.2.1 _ w2) (O.2.2.2.2.1 _ w3) (O.2.2.2.2.1 _ w4) hf (by omega) hn.1 hn.2 hd (k O H locs ls h1 h2 h3 h4)
theorem v_imin {cc : ByteArray} {own : String} {nL : Nat} {R : Room} {D : DT} {K : KT} {pc : Nat} {lv : LV} {st : List Value} {G : GT} {n : Nat × Nat} {idx : Nat} {x y : Int32} (hd : decode cc pc = .ok (.invokestatic idx, 3)) (w1 : Cond.methodLink own idx Lib.Math.min.name ∈ lw_all) (w2 : Cond.static Lib.Math.min.name ∈ lw_all) (w3 : Cond.initialized "java/lang/Math" ∈ lw_all) (w4 : Cond.code Lib.Math.min.name Lib.Math.min.code 2 (some .int) ∈ lw_all) (hf : 1 ≤ R.frames) (hr : (st.map fun v => v.category).sum ≤ 8) (hl : 23 ≤ R.locals) (hn : n.1 ≤ R.cells ∧ n.2 ≤ R.slots) (k : V cc own nL R D K (pc + 3) lv (.int (if y < x then y else x) :: st) G n) : V cc own nL R D K pc lv (.int y :: .int x :: st) G n := by
  obtain ⟨p, l, e, s, m, args, below, meth, c, A, Q⟩ := K
  intro O H locs ls h1 h2 h3 h4
  exact va_mmin O.1 O.2.1 (by rw [O.2.2.1]; exact h4.1.symm) O.2.2.2.1 (O.2.2.2.2.1 _ w1) (O.2.2.2.2.1 _ w2) (O.2.2.2.2.1 _ w3) (O.2.2.2.2.1 _ w4) hf (by omega) hn.1 hn.2 hd (k O H locs ls h1 h2 h3 h4)
theorem v_lmax {cc : ByteArray} {own : String} {nL : Nat} {R : Room} {D : DT} {K : KT} {pc : Nat} {lv : LV} {st : List Value} {G : GT} {n : Nat × Nat} {idx : Nat} {x y : Int64} (hd : decode cc pc = .ok (.invokestatic idx, 3)) (w1 : Cond.methodLink own idx Lib.MathLoose.max_long.x ∈ lw_all) (w2 : Cond.static Lib.MathLoose.max_long.x ∈ lw_all) (w3 : Cond.initialized "java/lang/Math" ∈ lw_all) (w4 : Cond.code Lib.MathLoose.max_long.x Lib.MathLoose.max_long.code 4 (some .long) ∈ lw_all) (hf : 1 ≤ R.frames) (hr : (st.map fun v => v.category).sum ≤ 8) (hl : 23 ≤ R.locals) (hn : n.1 ≤ R.cells ∧ n.2 ≤ R.slots) (k : V cc own nL R D K (pc + 3) lv (.long (if y < x then x else y) :: st) G n) : V cc own nL R D K pc lv (.long y :: .long x :: st) G n := by
  obtain ⟨p, l, e, s, m, args, below, meth, c, A, Q⟩ := K
  intro O H locs ls h1 h2 h3 h4
  exact va_mmax_long O.1 O.2.1 (by rw [O.2.2.1]; exact h4.1.symm) O.2.2.2.1 (O.2.2.2.2.1 _ w1) (O.2.2.2.2.1 _ w2) (O.2.2.2.2.1 _ w3) (O.2.2.2.2.1 _ w4) hf (by omega) hn.1 hn.2 hd (k O H locs ls h1 h2 h3 h4)
theorem v_lmin {cc : ByteArray} {own : String} {nL : Nat} {R : Room} {D : DT} {K : KT} {pc : Nat} {lv : LV} {st : List Value} {G : GT} {n : Nat × Nat} {idx : Nat} {x y : Int64} (hd : decode cc pc = .ok (.invokestatic idx, 3)) (w1 : Cond.methodLink own idx Lib.MathLoose.min_long.x ∈ lw_all) (w2 : Cond.static Lib.MathLoose.min_long.x ∈ lw_all) (w3 : Cond.initialized "java/lang/Math" ∈ lw_all) (w4 : Cond.code Lib.MathLoose.min_long.x Lib.MathLoose.min_long.code 4 (some .long) ∈ lw_all) (hf : 1 ≤ R.frames) (hr : (st.map fun v => v.category).sum ≤ 8) (hl : 23 ≤ R.locals) (hn : n.1 ≤ R.cells ∧ n.2 ≤ R.slots) (k : V cc own nL R D K (pc + 3) lv (.long (if y < x then y else x) :: st) G n) : V cc own nL R D K pc lv (.long y :: .long x :: st) G n := by
  obtain ⟨p, l, e, s, m, args, below, meth, c, A, Q⟩ := K
  intro O H locs ls h1 h2 h3 h4
  exact va_mmin_long O.1 O.2.1 (by rw [O.2.2.1]; exact h4.1.symm) O.2.2.2.1 (O.2.2.2.2.1 _ w1) (O.2.2.2.2.1 _ w2) (O.2.2.2.2.1 _ w3) (O.2.2.2.2.1 _ w4) hf (by omega) hn.1 hn.2 hd (k O H locs ls h1 h2 h3 h4)
theorem v_copyi {cc : ByteArray} {own : String} {nL : Nat} {R : Room} {D : DT} {K : KT} {pc : Nat} {lv : LV} {st : List Value} {T N : Nat → Nat} {I : Nat → Nat → Int32} {J : Nat → Nat → Int64} {E : Nat → Nat → UInt64} {Rf : Nat → Nat → Option Nat} {n : Nat × Nat} {idx a a0 z : Nat} (hd : decode cc pc = .ok (.invokestatic idx, 3)) (w1 : Cond.methodLink own idx arraycopyName ∈ lw_all) (w2 : Cond.native arraycopyName ∈ lw_all) (w3 : Cond.static arraycopyName ∈ lw_all) (w4 : Cond.initialized "java/lang/System" ∈ lw_all) (hT : T a = 11) (hT0 : T a0 = 11) (hN : N a = z) (hN0 : N a0 = z) {x : Int32} (hx : ¬ x < 0) (hz : x.toNatClampNeg = z) (hf : 1 ≤ R.frames) (hl : (st.map fun v => v.category).sum + (nativeFrameWords "java/lang/System" "arraycopy" 5 + 11) ≤ R.locals) (kk : V cc own nL R D K (pc + 3) lv st (T, N, (fun b j => if b = a ∧ j < z then I a0 j else I b j), J, E, Rf) n) : V cc own nL R D K pc lv (.int x :: .int 0 :: .ref a :: .int 0 :: .ref a0 :: st) (T, N, I, J, E, Rf) n := by
  obtain ⟨p, l, e, s, m, args, below, meth, c, A, Q⟩ := K
  intro O H locs ls h1 h2 h3 h4
  obtain ⟨L, q, hL, hm, hP, hD, hq⟩ := wd_at h1 (a := a) (by show T a ≠ 0; omega)
  have hq2 := hq
  rw [ent_int hT (Or.inl rfl)] at hq2
  obtain ⟨q0, hq0⟩ := va_pl_get (X := []) (f := ent D.2 (T, N, I, J, E, Rf)) ((hL a0).mpr (by show T a0 ≠ 0; omega))
  have hq0 : (va_pl L (ent D.2 (T, N, I, J, E, Rf)))[q0]? = some (a0, ent D.2 (T, N, I, J, E, Rf) a0) := hq0
  rw [ent_int hT0 (Or.inl rfl)] at hq0
  have hA : va_D A (va_pl L (ent D.2 (T, N, I, J, E, Rf))) := hD.weaken (fun k0 q0 hk0 _ => h2 q0.1 (by
    obtain ⟨b, hb, e⟩ := List.mem_map.mp (List.mem_of_getElem? hk0)
    rw [← e]; exact (hL b).mp hb))
  have hz0 : (0 : Int32).toNatClampNeg = 0 := by decide
  refine va_copyi O.1 O.2.1 (by rw [O.2.2.1]; exact h4.1.symm) O.2.2.2.1 (O.2.2.2.2.1 _ w1) (O.2.2.2.2.1 _ w2) (O.2.2.2.2.1 _ w3) (O.2.2.2.2.1 _ w4) O.2.2.2.2.2.1 hP hA h3 q0 q 0 0 hq0 hq2 rfl rfl rfl (by decide) (by decide) hx (by rw [hz, hz0, hN0]; omega) (by rw [hz, hz0, hN]; omega) (fun _ _ => rfl) hf hl hd (fun H1 locs1 p1 p2 p3 => ?_)
  rw [hz, hz0] at p1 p2
  refine kk O H1 locs1 ls ?_ h2 p3 h4
  refine wd_set hL hm hD hq (fun _ => rfl) ?_ (fun b hb => ent_congr rfl rfl (funext fun z0 => by simp [hb]) rfl rfl rfl) p1 (p2.weaken (fun _ _ _ _ => trivial))
  rw [ent_int hT (Or.inl rfl)]
  exact congrArg (fun w => Sum.inl (D.2 11, N a, Sum.inl w)) (funext fun y => by simp [va_cpy])
theorem wd_kept {D : DT} {G : GT} {H H1 : Heap} (h : wd D G H) (hk : ∀ q : Nat, q < H.size → H1[q]? = H[q]?) : wd D G H1 := by
  obtain ⟨L, hL, hP, hD⟩ := h
  exact ⟨L, hL, hP.kept (fun k q hq => hk q.1 ((hP k q hq).lt)), hD⟩
theorem fit2 : ∀ n ∈ ["java/lang/RuntimeException", "java/lang/Exception"], Bundle.fit n = true := by decide +kernel
theorem v_throw {cc : ByteArray} {own : String} {nL : Nat} {R : Room} {D : DT} {K : KT} {pc : Nat} {lv : LV} {st : List Value} {G : GT} {n : Nat × Nat} {ik is ic : Nat} {X text : String} {sz : Nat} {G0 : GT} {post : Option Value → GT → Prop} {postX : String → GT → Prop} (hR : Rx R D K sz G0 post postX) (hT : TWm own ik is ic X text) (d0 : decode cc pc = .ok (.new ik, 3)) (d3 : decode cc (pc + 3) = .ok (.dup, 1)) (d4 : decode cc (pc + 4) = .ok (.ldc is, 2)) (d6 : decode cc (pc + 6) = .ok (.invokespecial ic, 3)) (d9 : decode cc (pc + 9) = .ok (.athrow, 1)) (hr : (st.map fun v => v.category).sum ≤ 8) (hf : 6 ≤ R.frames ∧ 100 ≤ R.locals) (hn : n.1 + 1 ≤ R.cells ∧ n.2 + 6 ≤ R.slots) (hp : postX X G) : V cc own nL R D K pc lv st G n := by
  obtain ⟨p, l, e, s, m, args, below, meth, c, A, Q⟩ := K
  intro O H locs ls h1 h2 h3 h4
  obtain ⟨r2, r3, r4, r5⟩ := hR
  obtain ⟨t1, t2, t3, t4, t5, t6, t7⟩ := hT
  subst r2
  subst r3
  have hES := O.2.2.2.2.2.2.2.2.1
  obtain ⟨sa, hsa⟩ := hES.2.2.2 _ t4
  have hw : W p l e R s m args below meth c H locs n.1 n.2 (vx_MQ below (QcM D s.heap.size G0 post) (XcM D s.heap.size G0 postX) args s R.cells R.slots (frM G0 s.heap.size)) (F0 m pc ls st) :=
    vx_throwS (names := ["java/lang/RuntimeException", "java/lang/Exception"]) O.1 O.2.1 O.2.2.2.2.2.2.2.2.2 O.2.2.2.1 t1 fit2 (O.2.2.2.2.1 _ t2) (O.2.2.2.2.1 _ t3) hsa (vx_hat (B := ngW) (fun w hw => O.2.2.2.2.1 _ (t5 w hw)) t6 (fun w hw => ng_use hw (hES.2.2.1 w hw))) t7 hES.1 hES.2.1 h3 (by rw [O.2.2.1]; exact h4.1) d0 d3 d4 d6 d9 (fun x hx => (r4 x hx).elim) (by have := hf.1; simp; omega) (by have := hf.2; simp at *; omega) hn.1 hn.2 O.2.2.2.2.2.2.2.1
      (fun t hal hz hk => ⟨⟨G, hp, wd_kept h1 hk, h2⟩, Nat.le_trans h3.1 hz, fun q a1 a2 => (hk q (Nat.lt_of_lt_of_le a1 h3.1)).trans (h3.2.1 q a1 a2)⟩) h3.2.2 hn.1 hn.2
  intro T hT X
  obtain ⟨t, a, b⟩ := hw T hT X
  exact ⟨t, a, r5 t b⟩
theorem v_throwW {cc : ByteArray} {own : String} {nL : Nat} {R : Room} {D : DT} {K : KT} {pc : Nat} {lv : LV} {st : List Value} {G : GT} {n : Nat × Nat} {ik is ic : Nat} {X text : String} {sz : Nat} {G0 : GT} {post : Option Value → GT → Prop} {postX : String → GT → Prop} (hR : Rx R D K sz G0 post postX) (hT : TWm own ik is ic X text) (d0 : decode cc pc = .ok (.new ik, 3)) (d3 : decode cc (pc + 3) = .ok (.dup, 1)) (d4 : decode cc (pc + 4) = .ok (.ldc_w is, 3)) (d6 : decode cc (pc + 7) = .ok (.invokespecial ic, 3)) (d9 : decode cc (pc + 10) = .ok (.athrow, 1)) (hr : (st.map fun v => v.category).sum ≤ 8) (hf : 6 ≤ R.frames ∧ 100 ≤ R.locals) (hn : n.1 + 1 ≤ R.cells ∧ n.2 + 6 ≤ R.slots) (hp : postX X G) : V cc own nL R D K pc lv st G n := by
  obtain ⟨p, l, e, s, m, args, below, meth, c, A, Q⟩ := K
  intro O H locs ls h1 h2 h3 h4
  obtain ⟨r2, r3, r4, r5⟩ := hR
  obtain ⟨t1, t2, t3, t4, t5, t6, t7⟩ := hT
  subst r2
  subst r3
  have hES := O.2.2.2.2.2.2.2.2.1
  obtain ⟨sa, hsa⟩ := hES.2.2.2 _ t4
  have hw : W p l e R s m args below meth c H locs n.1 n.2 (vx_MQ below (QcM D s.heap.size G0 post) (XcM D s.heap.size G0 postX) args s R.cells R.slots (frM G0 s.heap.size)) (F0 m pc ls st) :=
    vx_throwSW (names := ["java/lang/RuntimeException", "java/lang/Exception"]) O.1 O.2.1 O.2.2.2.2.2.2.2.2.2 O.2.2.2.1 t1 fit2 (O.2.2.2.2.1 _ t2) (O.2.2.2.2.1 _ t3) hsa (vx_hat (B := ngW) (fun w hw => O.2.2.2.2.1 _ (t5 w hw)) t6 (fun w hw => ng_use hw (hES.2.2.1 w hw))) t7 hES.1 hES.2.1 h3 (by rw [O.2.2.1]; exact h4.1) d0 d3 d4 d6 d9 (fun x hx => (r4 x hx).elim) (by have := hf.1; simp; omega) (by have := hf.2; simp at *; omega) hn.1 hn.2 O.2.2.2.2.2.2.2.1
      (fun t hal hz hk => ⟨⟨G, hp, wd_kept h1 hk, h2⟩, Nat.le_trans h3.1 hz, fun q a1 a2 => (hk q (Nat.lt_of_lt_of_le a1 h3.1)).trans (h3.2.1 q a1 a2)⟩) h3.2.2 hn.1 hn.2
  intro T hT X
  obtain ⟨t, a, b⟩ := hw T hT X
  exact ⟨t, a, r5 t b⟩
end
section
/-! numbers: comparisons, as the walks meet them -/
theorem n_nle {a b : Int32} : ¬ a ≤ b ↔ b < a := Int32.not_le
theorem n_nlt {a b : Int32} : ¬ a < b ↔ b ≤ a := Int32.not_lt
theorem l_nle {a b : Int64} : ¬ a ≤ b ↔ b < a := Int64.not_le
theorem l_nlt {a b : Int64} : ¬ a < b ↔ b ≤ a := Int64.not_lt
theorem cmp_lt0 {x y : Int64} : lg_cmp x y < 0 ↔ x < y := lg_cmp_lt x y
theorem cmp_ge0 {x y : Int64} : 0 ≤ lg_cmp x y ↔ y ≤ x := lg_cmp_ge x y
theorem cmp_gt0 {x y : Int64} : 0 < lg_cmp x y ↔ y < x := lg_cmp_gt x y
theorem cmp_le0 {x y : Int64} : lg_cmp x y ≤ 0 ↔ x ≤ y := lg_cmp_le x y
theorem cmp_eq0 {x y : Int64} : lg_cmp x y = 0 ↔ x = y := lg_cmp_eq x y
theorem n_mul (k a : Nat) : nI k * nI a = nI (k * a) := pk_mul k a
theorem n_lit (n : Nat) : (OfNat.ofNat n : Int32) = nI n := by
  first | rfl | (apply Int32.toInt_inj.mp; simp [nI])
theorem n_m1 {a : Nat} (h : 0 < a) : nI a - 1 = nI (a - 1) := by
  obtain ⟨b, rfl⟩ : ∃ b, a = b + 1 := ⟨a - 1, by omega⟩
  rw [nI_pred, Nat.add_sub_cancel]
/-- a number told as an index: between 0 and a count less 1 -/
theorem btw_ix {p : Int32} {a : Nat} (ha : a < 1073741824) : (0 ≤ p ∧ p ≤ nI a - 1) ↔ ∃ j, j < a ∧ p = nI j := by
  constructor
  · intro h
    obtain ⟨j, hj, rfl⟩ := nI_of (x := p) (by rw [n_nlt]; exact h.1)
    refine ⟨j, ?_, rfl⟩
    have h2 := h.2
    rw [Int32.le_iff_toInt_le, nI_toInt hj] at h2
    rcases Nat.eq_zero_or_pos a with h0 | h0
    · subst h0
      have : (nI 0 - 1).toInt = -1 := by decide
      omega
    · rw [n_m1 h0, nI_toInt (by omega)] at h2
      omega
  · rintro ⟨j, hj, rfl⟩
    refine ⟨nI_pos' (by omega), ?_⟩
    rw [n_m1 (by omega)]
    exact nI_le (by omega) (by omega)
/-- a number between 0 and a literal -/
theorem btw_lit {p M : Int32} {N : Nat} (hM : M.toInt = N) : (0 ≤ p ∧ p ≤ M) ↔ ∃ j, j ≤ N ∧ p = nI j := by
  constructor
  · intro h
    obtain ⟨j, hj, rfl⟩ := nI_of2 hM (by rw [n_nlt]; exact h.1) h.2
    exact ⟨j, hj, rfl⟩
  · rintro ⟨j, hj, rfl⟩
    have hb := M.toInt_lt
    have h31 : j < 2 ^ 31 := by
      have := hb
      omega
    refine ⟨nI_pos' h31, ?_⟩
    rw [Int32.le_iff_toInt_le, nI_toInt h31, hM]
    omega
theorem v_forget {cc : ByteArray} {own : String} {nL : Nat} {R : Room} {D : DT} {K : KT} {pc : Nat} {lv : LV} {st : List Value} {G : GT} {n : Nat × Nat} (j : Nat) (k : V cc own nL R D K pc (lv.set j none) st G n) : V cc own nL R D K pc lv st G n := by
  obtain ⟨p, l, e, s, m, args, below, meth, c, A, Q⟩ := K
  intro O H locs ls h1 h2 h3 h4
  refine k O H locs ls h1 h2 h3 ⟨h4.1, h4.2.1, fun i v hg => ?_⟩
  rcases lget_set hg with ⟨_, z⟩ | ⟨_, z⟩
  · cases z
  · exact h4.2.2 i v z
theorem nI_inj {a b : Nat} (ha : a < 2147483648) (hb : b < 2147483648) (h : nI a = nI b) : a = b := (nI_eq ha hb).mp h
end
section
theorem bt_ts : ∀ k, k < 256 → ∀ i, i < 8 → ((nI k >>> (nI i &&& 31)) &&& 1 = 1 ↔ k.testBit i = true) := by decide +kernel
theorem bt_sh : ∀ i, i < 8 → (1 : Int32) <<< (nI i &&& 31) = nI (2 ^ i) := by decide +kernel
theorem bt_or : ∀ a, a < 256 → ∀ b, b < 256 → nI a ||| nI b = nI (a ||| b) := by decide +kernel
theorem bt_an : ∀ k, k < 256 → ∀ o, o < 256 → nI k &&& (nI o ^^^ (-1)) = nI (k &&& (255 - o)) := by decide +kernel
theorem bt_lt : ∀ k, k < 256 → ∀ o, o < 256 → o ≠ 0 → o &&& k = o → k &&& (255 - o) < k := by decide +kernel
theorem bt_p2 : ∀ k, k < 256 → ∀ i, i < 8 → k.testBit i = true → 2 ^ i &&& k = 2 ^ i := by decide +kernel
theorem bt_in : ∀ p, p ≤ 8 → (1 : Int32) <<< (nI p &&& 31) - 1 = nI (2 ^ p - 1) ∧ 2 ^ p - 1 < 256 := by decide +kernel
theorem bt_255 : ∀ k, k < 256 → k &&& (255 - 0) = k := by decide +kernel
end
section
/-! floats: no NaN comes out of the sail's reckonings -/
abbrev fdat (x : UInt32) : FP.Core.Datum := FP.Core.decode FP.Core.b32 x.toNat
theorem vf_of {n : Nat} (h : n < 4294967296) (h2 : n % 2147483648 ≤ 2139095040) : vf_n32 (UInt32.ofNat n) := by
  unfold vf_n32
  rw [UInt32.le_iff_toNat_le, UInt32.toNat_and, UInt32.toNat_ofNat_of_lt' h]
  show n &&& 2147483647 ≤ 2139095040
  rw [show (2147483647 : Nat) = 2 ^ 31 - 1 from rfl, Nat.and_two_pow_sub_one_eq_mod]
  exact h2
theorem vf_to {x : UInt32} (h : vf_n32 x) : x.toNat % 2147483648 ≤ 2139095040 := by
  unfold vf_n32 at h
  rw [UInt32.le_iff_toNat_le, UInt32.toNat_and] at h
  have h1 : x.toNat &&& 2147483647 ≤ 2139095040 := h
  rw [show (2147483647 : Nat) = 2 ^ 31 - 1 from rfl, Nat.and_two_pow_sub_one_eq_mod] at h1
  exact h1
/-- a datum that is written: no NaN's bits -/
def okD (d : FP.Core.Datum) : Prop := match d with
  | .nan => False
  | .inf _ => True
  | .fin _ c q => c < 16777216 ∧ q ≤ 104
theorem b32_tails : FP.Core.Fmt.tails FP.Core.b32 = 8388608 := by decide
theorem b32_exps : FP.Core.Fmt.exps FP.Core.b32 = 256 := by decide
theorem b32_qmin : FP.Core.Fmt.qmin FP.Core.b32 = -149 := by decide
theorem b32_qmax : FP.Core.Fmt.qmax FP.Core.b32 = 104 := by decide
theorem asm_ok (s : Bool) {e t : Nat} (he : e ≤ 255) (ht : t < 8388608) (h : e = 255 → t = 0) : FP.Core.assemble FP.Core.b32 s e t < 4294967296 ∧ FP.Core.assemble FP.Core.b32 s e t % 2147483648 ≤ 2139095040 := by
  unfold FP.Core.assemble
  rw [b32_tails, b32_exps]
  have hs : s.toNat ≤ 1 := by cases s <;> decide
  constructor
  · omega
  · rcases (show s.toNat = 0 ∨ s.toNat = 1 by omega) with z | z <;> rw [z] <;> omega
theorem enc_ok {d : FP.Core.Datum} (h : okD d) : FP.Core.encode FP.Core.b32 d < 4294967296 ∧ FP.Core.encode FP.Core.b32 d % 2147483648 ≤ 2139095040 := by
  cases d with
  | nan => exact h.elim
  | inf s =>
    show FP.Core.assemble FP.Core.b32 s (FP.Core.Fmt.exps FP.Core.b32 - 1) 0 < _ ∧ _
    rw [b32_exps]
    exact asm_ok s (by decide) (by decide) (fun _ => rfl)
  | fin s c q =>
    obtain ⟨h1, h2⟩ := h
    simp only [FP.Core.encode]
    rw [b32_tails, b32_qmin]
    split
    · next hc => exact asm_ok s (by decide) hc (fun z => absurd z (by decide))
    · next hc => exact asm_ok s (by omega) (by omega) (fun z => absurd z (by omega))
theorem rnd_ok {d : FP.Core.Datum} (h : d ≠ .nan) : okD (FP.Core.round FP.Core.b32 d) := by
  cases d with
  | nan => exact absurd rfl h
  | inf s => trivial
  | fin s c q =>
    simp only [FP.Core.round, FP.Core.roundRatio]
    split
    · exact ⟨by decide, by rw [b32_qmin]; decide⟩
    · simp only [FP.Core.roundAt, FP.Core.settle, FP.Core.bound]
      rw [b32_qmax, b32_tails]
      split
      · next hc =>
        split
        · next hq => exact ⟨hc, hq⟩
        · trivial
      · split
        · next hq => exact ⟨by decide, hq⟩
        · trivial
theorem enc_lt (d : FP.Core.Datum) : FP.Core.encode FP.Core.b32 (FP.Core.round FP.Core.b32 d) < 4294967296 := by
  cases d with
  | nan => decide +kernel
  | inf s => exact (enc_ok (rnd_ok (d := .inf s) (fun z => nomatch z))).1
  | fin s c q => exact (enc_ok (rnd_ok (d := .fin s c q) (fun z => nomatch z))).1
theorem mul_nn {x y : UInt32} (h : FP.Core.exactProduct (fdat x) (fdat y) ≠ .nan) : vf_n32 (FP.fmul x y) := by
  have := enc_ok (rnd_ok h)
  exact vf_of this.1 this.2
theorem dat_nn {x : UInt32} (h : vf_n32 x) : fdat x ≠ .nan := by
  have h1 := vf_to h
  simp only [fdat, FP.Core.decode, FP.Core.fieldE, FP.Core.fieldT, b32_tails, b32_exps]
  split
  · next he =>
    rw [if_pos (by omega)]
    intro z; cases z
  · split <;> (intro z; cases z)
theorem mul_w {x y : UInt32} (hx : vf_n32 x) {t : Bool} {d : Nat} {r : Int} (hy : fdat y = .fin t d r) (hd : d ≠ 0) : vf_n32 (FP.fmul x y) := by
  refine mul_nn ?_
  rw [hy]
  have := dat_nn hx
  cases e : fdat x with
  | nan => exact absurd e this
  | inf s => simp [FP.Core.exactProduct, hd]
  | fin s c q => simp [FP.Core.exactProduct]
def finB (n : Nat) : Bool := n / 8388608 % 256 != 255
theorem dat_fin {x : UInt32} (h : finB x.toNat = true) : ∃ s c q, fdat x = .fin s c q := by
  simp only [fdat, FP.Core.decode, FP.Core.fieldE, FP.Core.fieldT, b32_tails, b32_exps]
  have h1 : ¬ x.toNat / 8388608 % 256 = 256 - 1 := by simpa [finB] using h
  rw [if_neg h1]
  split
  · exact ⟨_, _, _, rfl⟩
  · exact ⟨_, _, _, rfl⟩
theorem mul_0 {x : UInt32} {s : Bool} {c : Nat} {q : Int} (h : fdat x = .fin s c q) : FP.fmul x 0 = 0 ∨ FP.fmul x 0 = 2147483648 := by
  show UInt32.ofNat (FP.Core.encode FP.Core.b32 (FP.Core.round FP.Core.b32 (FP.Core.exactProduct (fdat x) (fdat 0)))) = 0 ∨ UInt32.ofNat (FP.Core.encode FP.Core.b32 (FP.Core.round FP.Core.b32 (FP.Core.exactProduct (fdat x) (fdat 0)))) = 2147483648
  have h0 : fdat 0 = .fin false 0 (-149) := by decide +kernel
  rw [h, h0]
  simp only [FP.Core.exactProduct, Nat.mul_zero, FP.Core.round, FP.Core.roundRatio, if_true]
  cases s
  · left; decide +kernel
  · right; decide +kernel
/-- the sail -/
def drI (h t : Nat) : UInt32 := FP.fadd (FP.fsub 1041865114 (FP.fmul 981668463 (FP.i2f (nI h)))) (FP.fmul 973279855 (FP.i2f (nI t)))
def arI (r : Nat) : UInt32 := FP.fdiv 1109393408 (FP.fadd FP.fconst1 (FP.i2f (nI r)))
def pwI (h t r k : Nat) : UInt32 := FP.fmul (FP.fmul (FP.fmul (drI h t) (arI r)) (FP.i2f (nI k))) (FP.i2f (nI k))
def vfB (x : UInt32) : Bool := decide (x &&& 0x7fffffff ≤ 0x7f800000)
theorem vf_B {x : UInt32} (h : vfB x = true) : vf_n32 x := by
  unfold vfB at h
  unfold vf_n32
  exact of_decide_eq_true h
theorem f1 : ∀ h, h < 101 → vfB (FP.fmul 981668463 (FP.i2f (nI h))) = true ∧ vfB (FP.fsub 1041865114 (FP.fmul 981668463 (FP.i2f (nI h)))) = true ∧ vfB (FP.fmul 973279855 (FP.i2f (nI h))) = true := by decide +kernel
/-- a number made first, then looked at -/
def fForce (n : Nat) (P : Nat → Bool) : Bool := match n with
  | 0 => P 0
  | k + 1 => P (k + 1)
theorem fForce_eq (n : Nat) (P : Nat → Bool) : fForce n P = P n := by cases n <;> rfl
def fGood (n : Nat) : Bool := decide (n % 2147483648 ≤ 2139095040)
def fMulN (x y : Nat) : Nat := FP.Core.mul FP.Core.b32 x y
def fAr : List Nat := [1109393408, 1101004800, 1096111445, 1092616192]
def fChk (a b : Nat) : Bool := fForce (FP.Core.add FP.Core.b32 a b) (fun d => fGood d && fAr.all (fun y => fForce (fMulN d y) (fun z => fGood z && finB z)))
def fA : List Nat := (List.range 101).map (fun h => (FP.fsub 1041865114 (FP.fmul 981668463 (FP.i2f (nI h)))).toNat)
def fB : List Nat := (List.range 101).map (fun t => (FP.fmul 973279855 (FP.i2f (nI t))).toNat)
def fAl : List Nat := [1041865114, 1041798005, 1041730896, 1041663787, 1041596679, 1041529570, 1041462461, 1041395352, 1041328243, 1041261134, 1041194025, 1041126916, 1041059808, 1040992699, 1040925590, 1040858481, 1040791372, 1040724263, 1040657154, 1040590046, 1040522937, 1040455828, 1040388719, 1040321610, 1040254501, 1040187392, 1040053175, 1039918957, 1039784740, 1039650522, 1039516304, 1039382086, 1039247868, 1039113651, 1038979433, 1038845216, 1038710998, 1038576780, 1038442562, 1038308344, 1038174126, 1038039909, 1037905691, 1037771474, 1037637256, 1037503038, 1037368820, 1037234602, 1037100385, 1036966167, 1036831950, 1036697732, 1036563514, 1036429296, 1036295078, 1036160860, 1036026643, 1035892425, 1035758208, 1035623990, 1035489772, 1035355554, 1035221336, 1035087119, 1034952901, 1034818683, 1034684466, 1034550248, 1034416030, 1034281812, 1034147595, 1034013377, 1033879159, 1033744941, 1033610724, 1033476506, 1033342288, 1033208070, 1033073853, 1032939635, 1032805417, 1032671200, 1032536982, 1032402764, 1032268546, 1032134329, 1032000111, 1031865893, 1031664566, 1031396132, 1031127696, 1030859260, 1030590824, 1030322390, 1030053954, 1029785518, 1029517084, 1029248648, 1028980212, 1028711776, 1028443342]
def fBl : List Nat := [0, 973279855, 981668463, 985963430, 990057071, 992204555, 994352038, 996499522, 998445679, 999519421, 1000593163, 1001666905, 1002740646, 1003814388, 1004888130, 1005961872, 1006834287, 1007371158, 1007908029, 1008444900, 1008981771, 1009518642, 1010055513, 1010592384, 1011129254, 1011666125, 1012202996, 1012739867, 1013276738, 1013813609, 1014350480, 1014887351, 1015222895, 1015491330, 1015759766, 1016028201, 1016296637, 1016565072, 1016833508, 1017101943, 1017370379, 1017638814, 1017907250, 1018175685, 1018444121, 1018712556, 1018980992, 1019249427, 1019517862, 1019786298, 1020054733, 1020323169, 1020591604, 1020860040, 1021128475, 1021396911, 1021665346, 1021933782, 1022202217, 1022470653, 1022739088, 1023007524, 1023275959, 1023477285, 1023611503, 1023745721, 1023879938, 1024014156, 1024148374, 1024282592, 1024416809, 1024551027, 1024685245, 1024819463, 1024953680, 1025087898, 1025222116, 1025356334, 1025490551, 1025624769, 1025758987, 1025893204, 1026027422, 1026161640, 1026295858, 1026430075, 1026564293, 1026698511, 1026832729, 1026966946, 1027101164, 1027235382, 1027369600, 1027503817, 1027638035, 1027772253, 1027906470, 1028040688, 1028174906, 1028309124, 1028443341]
theorem fA_eq : ∀ h, h < 101 → (FP.fsub 1041865114 (FP.fmul 981668463 (FP.i2f (nI h)))).toNat = fAl.getD h 0 := by decide +kernel
theorem fB_eq : ∀ t, t < 101 → (FP.fmul 973279855 (FP.i2f (nI t))).toNat = fBl.getD t 0 := by decide +kernel
theorem fAr_eq : ∀ r, r < 4 → (arI r).toNat = fAr.getD r 0 := by decide +kernel
theorem f4_0 : fBl.all (fun b => fChk 1041865114 b) = true := by decide +kernel
theorem f4_1 : fBl.all (fun b => fChk 1041798005 b) = true := by decide +kernel
theorem f4_2 : fBl.all (fun b => fChk 1041730896 b) = true := by decide +kernel
theorem f4_3 : fBl.all (fun b => fChk 1041663787 b) = true := by decide +kernel
theorem f4_4 : fBl.all (fun b => fChk 1041596679 b) = true := by decide +kernel
theorem f4_5 : fBl.all (fun b => fChk 1041529570 b) = true := by decide +kernel
theorem f4_6 : fBl.all (fun b => fChk 1041462461 b) = true := by decide +kernel
theorem f4_7 : fBl.all (fun b => fChk 1041395352 b) = true := by decide +kernel
theorem f4_8 : fBl.all (fun b => fChk 1041328243 b) = true := by decide +kernel
theorem f4_9 : fBl.all (fun b => fChk 1041261134 b) = true := by decide +kernel
theorem f4_10 : fBl.all (fun b => fChk 1041194025 b) = true := by decide +kernel
theorem f4_11 : fBl.all (fun b => fChk 1041126916 b) = true := by decide +kernel
theorem f4_12 : fBl.all (fun b => fChk 1041059808 b) = true := by decide +kernel
theorem f4_13 : fBl.all (fun b => fChk 1040992699 b) = true := by decide +kernel
theorem f4_14 : fBl.all (fun b => fChk 1040925590 b) = true := by decide +kernel
theorem f4_15 : fBl.all (fun b => fChk 1040858481 b) = true := by decide +kernel
theorem f4_16 : fBl.all (fun b => fChk 1040791372 b) = true := by decide +kernel
theorem f4_17 : fBl.all (fun b => fChk 1040724263 b) = true := by decide +kernel
theorem f4_18 : fBl.all (fun b => fChk 1040657154 b) = true := by decide +kernel
theorem f4_19 : fBl.all (fun b => fChk 1040590046 b) = true := by decide +kernel
theorem f4_20 : fBl.all (fun b => fChk 1040522937 b) = true := by decide +kernel
theorem f4_21 : fBl.all (fun b => fChk 1040455828 b) = true := by decide +kernel
theorem f4_22 : fBl.all (fun b => fChk 1040388719 b) = true := by decide +kernel
theorem f4_23 : fBl.all (fun b => fChk 1040321610 b) = true := by decide +kernel
theorem f4_24 : fBl.all (fun b => fChk 1040254501 b) = true := by decide +kernel
theorem f4_25 : fBl.all (fun b => fChk 1040187392 b) = true := by decide +kernel
theorem f4_26 : fBl.all (fun b => fChk 1040053175 b) = true := by decide +kernel
theorem f4_27 : fBl.all (fun b => fChk 1039918957 b) = true := by decide +kernel
theorem f4_28 : fBl.all (fun b => fChk 1039784740 b) = true := by decide +kernel
theorem f4_29 : fBl.all (fun b => fChk 1039650522 b) = true := by decide +kernel
theorem f4_30 : fBl.all (fun b => fChk 1039516304 b) = true := by decide +kernel
theorem f4_31 : fBl.all (fun b => fChk 1039382086 b) = true := by decide +kernel
theorem f4_32 : fBl.all (fun b => fChk 1039247868 b) = true := by decide +kernel
theorem f4_33 : fBl.all (fun b => fChk 1039113651 b) = true := by decide +kernel
theorem f4_34 : fBl.all (fun b => fChk 1038979433 b) = true := by decide +kernel
theorem f4_35 : fBl.all (fun b => fChk 1038845216 b) = true := by decide +kernel
theorem f4_36 : fBl.all (fun b => fChk 1038710998 b) = true := by decide +kernel
theorem f4_37 : fBl.all (fun b => fChk 1038576780 b) = true := by decide +kernel
theorem f4_38 : fBl.all (fun b => fChk 1038442562 b) = true := by decide +kernel
theorem f4_39 : fBl.all (fun b => fChk 1038308344 b) = true := by decide +kernel
theorem f4_40 : fBl.all (fun b => fChk 1038174126 b) = true := by decide +kernel
theorem f4_41 : fBl.all (fun b => fChk 1038039909 b) = true := by decide +kernel
theorem f4_42 : fBl.all (fun b => fChk 1037905691 b) = true := by decide +kernel
theorem f4_43 : fBl.all (fun b => fChk 1037771474 b) = true := by decide +kernel
theorem f4_44 : fBl.all (fun b => fChk 1037637256 b) = true := by decide +kernel
theorem f4_45 : fBl.all (fun b => fChk 1037503038 b) = true := by decide +kernel
theorem f4_46 : fBl.all (fun b => fChk 1037368820 b) = true := by decide +kernel
theorem f4_47 : fBl.all (fun b => fChk 1037234602 b) = true := by decide +kernel
theorem f4_48 : fBl.all (fun b => fChk 1037100385 b) = true := by decide +kernel
theorem f4_49 : fBl.all (fun b => fChk 1036966167 b) = true := by decide +kernel
theorem f4_50 : fBl.all (fun b => fChk 1036831950 b) = true := by decide +kernel
theorem f4_51 : fBl.all (fun b => fChk 1036697732 b) = true := by decide +kernel
theorem f4_52 : fBl.all (fun b => fChk 1036563514 b) = true := by decide +kernel
theorem f4_53 : fBl.all (fun b => fChk 1036429296 b) = true := by decide +kernel
theorem f4_54 : fBl.all (fun b => fChk 1036295078 b) = true := by decide +kernel
theorem f4_55 : fBl.all (fun b => fChk 1036160860 b) = true := by decide +kernel
theorem f4_56 : fBl.all (fun b => fChk 1036026643 b) = true := by decide +kernel
theorem f4_57 : fBl.all (fun b => fChk 1035892425 b) = true := by decide +kernel
theorem f4_58 : fBl.all (fun b => fChk 1035758208 b) = true := by decide +kernel
theorem f4_59 : fBl.all (fun b => fChk 1035623990 b) = true := by decide +kernel
theorem f4_60 : fBl.all (fun b => fChk 1035489772 b) = true := by decide +kernel
theorem f4_61 : fBl.all (fun b => fChk 1035355554 b) = true := by decide +kernel
theorem f4_62 : fBl.all (fun b => fChk 1035221336 b) = true := by decide +kernel
theorem f4_63 : fBl.all (fun b => fChk 1035087119 b) = true := by decide +kernel
theorem f4_64 : fBl.all (fun b => fChk 1034952901 b) = true := by decide +kernel
theorem f4_65 : fBl.all (fun b => fChk 1034818683 b) = true := by decide +kernel
theorem f4_66 : fBl.all (fun b => fChk 1034684466 b) = true := by decide +kernel
theorem f4_67 : fBl.all (fun b => fChk 1034550248 b) = true := by decide +kernel
theorem f4_68 : fBl.all (fun b => fChk 1034416030 b) = true := by decide +kernel
theorem f4_69 : fBl.all (fun b => fChk 1034281812 b) = true := by decide +kernel
theorem f4_70 : fBl.all (fun b => fChk 1034147595 b) = true := by decide +kernel
theorem f4_71 : fBl.all (fun b => fChk 1034013377 b) = true := by decide +kernel
theorem f4_72 : fBl.all (fun b => fChk 1033879159 b) = true := by decide +kernel
theorem f4_73 : fBl.all (fun b => fChk 1033744941 b) = true := by decide +kernel
theorem f4_74 : fBl.all (fun b => fChk 1033610724 b) = true := by decide +kernel
theorem f4_75 : fBl.all (fun b => fChk 1033476506 b) = true := by decide +kernel
theorem f4_76 : fBl.all (fun b => fChk 1033342288 b) = true := by decide +kernel
theorem f4_77 : fBl.all (fun b => fChk 1033208070 b) = true := by decide +kernel
theorem f4_78 : fBl.all (fun b => fChk 1033073853 b) = true := by decide +kernel
theorem f4_79 : fBl.all (fun b => fChk 1032939635 b) = true := by decide +kernel
theorem f4_80 : fBl.all (fun b => fChk 1032805417 b) = true := by decide +kernel
theorem f4_81 : fBl.all (fun b => fChk 1032671200 b) = true := by decide +kernel
theorem f4_82 : fBl.all (fun b => fChk 1032536982 b) = true := by decide +kernel
theorem f4_83 : fBl.all (fun b => fChk 1032402764 b) = true := by decide +kernel
theorem f4_84 : fBl.all (fun b => fChk 1032268546 b) = true := by decide +kernel
theorem f4_85 : fBl.all (fun b => fChk 1032134329 b) = true := by decide +kernel
theorem f4_86 : fBl.all (fun b => fChk 1032000111 b) = true := by decide +kernel
theorem f4_87 : fBl.all (fun b => fChk 1031865893 b) = true := by decide +kernel
theorem f4_88 : fBl.all (fun b => fChk 1031664566 b) = true := by decide +kernel
theorem f4_89 : fBl.all (fun b => fChk 1031396132 b) = true := by decide +kernel
theorem f4_90 : fBl.all (fun b => fChk 1031127696 b) = true := by decide +kernel
theorem f4_91 : fBl.all (fun b => fChk 1030859260 b) = true := by decide +kernel
theorem f4_92 : fBl.all (fun b => fChk 1030590824 b) = true := by decide +kernel
theorem f4_93 : fBl.all (fun b => fChk 1030322390 b) = true := by decide +kernel
theorem f4_94 : fBl.all (fun b => fChk 1030053954 b) = true := by decide +kernel
theorem f4_95 : fBl.all (fun b => fChk 1029785518 b) = true := by decide +kernel
theorem f4_96 : fBl.all (fun b => fChk 1029517084 b) = true := by decide +kernel
theorem f4_97 : fBl.all (fun b => fChk 1029248648 b) = true := by decide +kernel
theorem f4_98 : fBl.all (fun b => fChk 1028980212 b) = true := by decide +kernel
theorem f4_99 : fBl.all (fun b => fChk 1028711776 b) = true := by decide +kernel
theorem f4_100 : fBl.all (fun b => fChk 1028443342 b) = true := by decide +kernel
theorem f4a : ∀ h, h < 101 → fBl.all (fun b => fChk (fAl.getD h 0) b) = true
  | 0, _ => f4_0
  | 1, _ => f4_1
  | 2, _ => f4_2
  | 3, _ => f4_3
  | 4, _ => f4_4
  | 5, _ => f4_5
  | 6, _ => f4_6
  | 7, _ => f4_7
  | 8, _ => f4_8
  | 9, _ => f4_9
  | 10, _ => f4_10
  | 11, _ => f4_11
  | 12, _ => f4_12
  | 13, _ => f4_13
  | 14, _ => f4_14
  | 15, _ => f4_15
  | 16, _ => f4_16
  | 17, _ => f4_17
  | 18, _ => f4_18
  | 19, _ => f4_19
  | 20, _ => f4_20
  | 21, _ => f4_21
  | 22, _ => f4_22
  | 23, _ => f4_23
  | 24, _ => f4_24
  | 25, _ => f4_25
  | 26, _ => f4_26
  | 27, _ => f4_27
  | 28, _ => f4_28
  | 29, _ => f4_29
  | 30, _ => f4_30
  | 31, _ => f4_31
  | 32, _ => f4_32
  | 33, _ => f4_33
  | 34, _ => f4_34
  | 35, _ => f4_35
  | 36, _ => f4_36
  | 37, _ => f4_37
  | 38, _ => f4_38
  | 39, _ => f4_39
  | 40, _ => f4_40
  | 41, _ => f4_41
  | 42, _ => f4_42
  | 43, _ => f4_43
  | 44, _ => f4_44
  | 45, _ => f4_45
  | 46, _ => f4_46
  | 47, _ => f4_47
  | 48, _ => f4_48
  | 49, _ => f4_49
  | 50, _ => f4_50
  | 51, _ => f4_51
  | 52, _ => f4_52
  | 53, _ => f4_53
  | 54, _ => f4_54
  | 55, _ => f4_55
  | 56, _ => f4_56
  | 57, _ => f4_57
  | 58, _ => f4_58
  | 59, _ => f4_59
  | 60, _ => f4_60
  | 61, _ => f4_61
  | 62, _ => f4_62
  | 63, _ => f4_63
  | 64, _ => f4_64
  | 65, _ => f4_65
  | 66, _ => f4_66
  | 67, _ => f4_67
  | 68, _ => f4_68
  | 69, _ => f4_69
  | 70, _ => f4_70
  | 71, _ => f4_71
  | 72, _ => f4_72
  | 73, _ => f4_73
  | 74, _ => f4_74
  | 75, _ => f4_75
  | 76, _ => f4_76
  | 77, _ => f4_77
  | 78, _ => f4_78
  | 79, _ => f4_79
  | 80, _ => f4_80
  | 81, _ => f4_81
  | 82, _ => f4_82
  | 83, _ => f4_83
  | 84, _ => f4_84
  | 85, _ => f4_85
  | 86, _ => f4_86
  | 87, _ => f4_87
  | 88, _ => f4_88
  | 89, _ => f4_89
  | 90, _ => f4_90
  | 91, _ => f4_91
  | 92, _ => f4_92
  | 93, _ => f4_93
  | 94, _ => f4_94
  | 95, _ => f4_95
  | 96, _ => f4_96
  | 97, _ => f4_97
  | 98, _ => f4_98
  | 99, _ => f4_99
  | 100, _ => f4_100
  | n + 101, h => absurd h (by omega)
theorem f3 : ∀ r, r < 4 → vfB (FP.fadd FP.fconst1 (FP.i2f (nI r))) = true ∧ vfB (arI r) = true := by decide +kernel
theorem vf_n {x : UInt32} (h : fGood x.toNat = true) : vf_n32 x := by
  have h1 : x.toNat % 2147483648 ≤ 2139095040 := of_decide_eq_true h
  have := vf_of (n := x.toNat) x.toNat_lt h1
  rwa [UInt32.ofNat_toNat] at this
theorem f4 {h t r : Nat} (hh : h < 101) (ht : t < 101) (hr : r < 4) : vf_n32 (drI h t) ∧ vf_n32 (FP.fmul (drI h t) (arI r)) ∧ finB (FP.fmul (drI h t) (arI r)).toNat = true := by
  have h1 := List.all_eq_true.mp (f4a h hh) (fBl.getD t 0) (by
    have hl : t < fBl.length := ht
    rw [List.getD_eq_getElem?_getD, List.getElem?_eq_getElem hl]
    exact List.getElem_mem hl)
  rw [fChk, fForce_eq, Bool.and_eq_true] at h1
  have hd : (drI h t).toNat = FP.Core.add FP.Core.b32 (fAl.getD h 0) (fBl.getD t 0) := by
    have e1 : drI h t = UInt32.ofNat (FP.Core.add FP.Core.b32 (FP.fsub 1041865114 (FP.fmul 981668463 (FP.i2f (nI h)))).toNat (FP.fmul 973279855 (FP.i2f (nI t))).toNat) := rfl
    rw [e1, fA_eq h hh, fB_eq t ht]
    exact UInt32.toNat_ofNat_of_lt' (enc_lt _)
  have hy := List.all_eq_true.mp h1.2 (fAr.getD r 0) (by
    have hl : r < fAr.length := hr
    rw [List.getD_eq_getElem?_getD, List.getElem?_eq_getElem hl]
    exact List.getElem_mem hl)
  rw [fForce_eq, Bool.and_eq_true] at hy
  have hm : (FP.fmul (drI h t) (arI r)).toNat = fMulN (FP.Core.add FP.Core.b32 (fAl.getD h 0) (fBl.getD t 0)) (fAr.getD r 0) := by
    have e1 : FP.fmul (drI h t) (arI r) = UInt32.ofNat (FP.Core.mul FP.Core.b32 (drI h t).toNat (arI r).toNat) := rfl
    rw [e1, hd, fAr_eq r hr]
    exact UInt32.toNat_ofNat_of_lt' (enc_lt _)
  exact ⟨vf_n (by rw [hd]; exact h1.1), vf_n (by rw [hm]; exact hy.1), by rw [hm]; exact hy.2⟩
theorem f5 : ∀ k, k < 101 → 0 < k → (match fdat (FP.i2f (nI k)) with | .fin _ d _ => d != 0 | _ => false) = true := by decide +kernel
theorem f6 {h t r : Nat} (hh : h < 101) (ht : t < 101) (hr : r < 4) {k : Nat} (hk : k < 101) : vf_n32 (FP.fmul (FP.fmul (drI h t) (arI r)) (FP.i2f (nI k))) ∧ vf_n32 (pwI h t r k) := by
  have h4 := (f4 hh ht hr).2
  have hv := h4.1
  rcases Nat.eq_zero_or_pos k with rfl | hp
  · obtain ⟨s, c, q, e⟩ := dat_fin h4.2
    have e0 : FP.i2f (nI 0) = 0 := by decide +kernel
    rw [pwI, e0]
    rcases mul_0 e with z | z <;> rw [z]
    · exact ⟨vf_B (by decide +kernel), vf_B (by decide +kernel)⟩
    · exact ⟨vf_B (by decide +kernel), vf_B (by decide +kernel)⟩
  · have h5 := f5 k hk hp
    cases e : fdat (FP.i2f (nI k)) with
    | nan => rw [e] at h5; cases h5
    | inf s => rw [e] at h5; cases h5
    | fin s d q =>
      rw [e] at h5
      have hd : d ≠ 0 := by simpa using h5
      have g1 := mul_w hv e hd
      exact ⟨g1, mul_w g1 e hd⟩
end
