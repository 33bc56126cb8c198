section
-- ===== PART A: goes FIRST, ahead of the names: the tables' words, and 'selects' of the private methods out of them =====
/-- a private method of a class that the tables say can be made, by its rows of tables_1 -/
def lw_okq (q : MethodName × Nat) : Prop := (q.1.cls ≠ "java/lang/invoke/MethodHandle" ∧ q.1.cls ≠ "java/lang/invoke/VarHandle") ∧ Cond.instantiable q.1.cls q.2 ∈ tables_1 ∧ Cond.privateMethod q.1 ∈ tables_1 ∧ Cond.instanceMethod q.1 ∈ tables_1
theorem lw_p0 : lw_okq (⟨"RustTiles$Game", "makeTiles", "()V"⟩, 13) := ⟨⟨by decide +kernel, by decide +kernel⟩, List.mem_of_getElem? (i := 26) (by decide +kernel), List.mem_of_getElem? (i := 157) (by decide +kernel), List.mem_of_getElem? (i := 158) (by decide +kernel)⟩
theorem lw_p1 : lw_okq (⟨"RustTiles$Game", "makeRows", "()V"⟩, 13) := ⟨⟨by decide +kernel, by decide +kernel⟩, List.mem_of_getElem? (i := 26) (by decide +kernel), List.mem_of_getElem? (i := 165) (by decide +kernel), List.mem_of_getElem? (i := 166) (by decide +kernel)⟩
theorem lw_p2 : lw_okq (⟨"RustTiles$Game", "orderStock", "(I)V"⟩, 13) := ⟨⟨by decide +kernel, by decide +kernel⟩, List.mem_of_getElem? (i := 26) (by decide +kernel), List.mem_of_getElem? (i := 169) (by decide +kernel), List.mem_of_getElem? (i := 170) (by decide +kernel)⟩
theorem lw_p3 : lw_okq (⟨"RustTiles$Game", "insertInOrder", "(II)V"⟩, 13) := ⟨⟨by decide +kernel, by decide +kernel⟩, List.mem_of_getElem? (i := 26) (by decide +kernel), List.mem_of_getElem? (i := 173) (by decide +kernel), List.mem_of_getElem? (i := 174) (by decide +kernel)⟩
theorem lw_p4 : lw_okq (⟨"RustTiles$Game", "deal", "()V"⟩, 13) := ⟨⟨by decide +kernel, by decide +kernel⟩, List.mem_of_getElem? (i := 26) (by decide +kernel), List.mem_of_getElem? (i := 181) (by decide +kernel), List.mem_of_getElem? (i := 182) (by decide +kernel)⟩
theorem lw_p5 : lw_okq (⟨"RustTiles$Game", "takeFromStock", "(I)I"⟩, 13) := ⟨⟨by decide +kernel, by decide +kernel⟩, List.mem_of_getElem? (i := 26) (by decide +kernel), List.mem_of_getElem? (i := 185) (by decide +kernel), List.mem_of_getElem? (i := 186) (by decide +kernel)⟩
theorem lw_p6 : lw_okq (⟨"java/lang/Throwable", "fillInStackTrace", "(I)Ljava/lang/Throwable;"⟩, 6) := ⟨⟨by decide +kernel, by decide +kernel⟩, List.mem_of_getElem? (i := 255) (by decide +kernel), List.mem_of_getElem? (i := 253) (by decide +kernel), List.mem_of_getElem? (i := 254) (by decide +kernel)⟩
theorem lw_p7 : lw_okq (⟨"RustTiles$Game", "tallied", "(I)I"⟩, 13) := ⟨⟨by decide +kernel, by decide +kernel⟩, List.mem_of_getElem? (i := 26) (by decide +kernel), List.mem_of_getElem? (i := 334) (by decide +kernel), List.mem_of_getElem? (i := 335) (by decide +kernel)⟩
theorem lw_p8 : lw_okq (⟨"RustTiles$Game", "winner", "()I"⟩, 13) := ⟨⟨by decide +kernel, by decide +kernel⟩, List.mem_of_getElem? (i := 26) (by decide +kernel), List.mem_of_getElem? (i := 338) (by decide +kernel), List.mem_of_getElem? (i := 339) (by decide +kernel)⟩
theorem lw_p9 : lw_okq (⟨"RustTiles$Game", "sumOf", "(I)I"⟩, 13) := ⟨⟨by decide +kernel, by decide +kernel⟩, List.mem_of_getElem? (i := 26) (by decide +kernel), List.mem_of_getElem? (i := 346) (by decide +kernel), List.mem_of_getElem? (i := 347) (by decide +kernel)⟩
theorem lw_p10 : lw_okq (⟨"RustTiles$Game", "gradesHeld", "(I)I"⟩, 13) := ⟨⟨by decide +kernel, by decide +kernel⟩, List.mem_of_getElem? (i := 26) (by decide +kernel), List.mem_of_getElem? (i := 350) (by decide +kernel), List.mem_of_getElem? (i := 351) (by decide +kernel)⟩
theorem lw_p11 : lw_okq (⟨"RustTiles$Game", "gradesOf", "(I)I"⟩, 13) := ⟨⟨by decide +kernel, by decide +kernel⟩, List.mem_of_getElem? (i := 26) (by decide +kernel), List.mem_of_getElem? (i := 354) (by decide +kernel), List.mem_of_getElem? (i := 355) (by decide +kernel)⟩
theorem lw_p12 : lw_okq (⟨"RustTiles$Game", "fits", "(III)Z"⟩, 13) := ⟨⟨by decide +kernel, by decide +kernel⟩, List.mem_of_getElem? (i := 26) (by decide +kernel), List.mem_of_getElem? (i := 424) (by decide +kernel), List.mem_of_getElem? (i := 425) (by decide +kernel)⟩
theorem lw_p13 : lw_okq (⟨"RustTiles$Game", "takeFromHand", "(II)I"⟩, 13) := ⟨⟨by decide +kernel, by decide +kernel⟩, List.mem_of_getElem? (i := 26) (by decide +kernel), List.mem_of_getElem? (i := 428) (by decide +kernel), List.mem_of_getElem? (i := 429) (by decide +kernel)⟩
theorem lw_p14 : lw_okq (⟨"RustTiles$Game", "putAtEnd", "(III)V"⟩, 13) := ⟨⟨by decide +kernel, by decide +kernel⟩, List.mem_of_getElem? (i := 26) (by decide +kernel), List.mem_of_getElem? (i := 432) (by decide +kernel), List.mem_of_getElem? (i := 433) (by decide +kernel)⟩
theorem lw_p15 : lw_okq (⟨"RustTiles$Game", "endTurn", "()I"⟩, 13) := ⟨⟨by decide +kernel, by decide +kernel⟩, List.mem_of_getElem? (i := 26) (by decide +kernel), List.mem_of_getElem? (i := 436) (by decide +kernel), List.mem_of_getElem? (i := 437) (by decide +kernel)⟩
def lw_privs_1 : List (MethodName × Nat) := [(⟨"RustTiles$Game", "makeTiles", "()V"⟩, 13), (⟨"RustTiles$Game", "makeRows", "()V"⟩, 13), (⟨"RustTiles$Game", "orderStock", "(I)V"⟩, 13), (⟨"RustTiles$Game", "insertInOrder", "(II)V"⟩, 13), (⟨"RustTiles$Game", "deal", "()V"⟩, 13), (⟨"RustTiles$Game", "takeFromStock", "(I)I"⟩, 13), (⟨"java/lang/Throwable", "fillInStackTrace", "(I)Ljava/lang/Throwable;"⟩, 6), (⟨"RustTiles$Game", "tallied", "(I)I"⟩, 13), (⟨"RustTiles$Game", "winner", "()I"⟩, 13), (⟨"RustTiles$Game", "sumOf", "(I)I"⟩, 13), (⟨"RustTiles$Game", "gradesHeld", "(I)I"⟩, 13), (⟨"RustTiles$Game", "gradesOf", "(I)I"⟩, 13), (⟨"RustTiles$Game", "fits", "(III)Z"⟩, 13), (⟨"RustTiles$Game", "takeFromHand", "(II)I"⟩, 13), (⟨"RustTiles$Game", "putAtEnd", "(III)V"⟩, 13), (⟨"RustTiles$Game", "endTurn", "()I"⟩, 13)]
theorem lw_r1 : ∀ q ∈ lw_privs_1, lw_okq q := List.forall_mem_cons.mpr ⟨lw_p0, List.forall_mem_cons.mpr ⟨lw_p1, List.forall_mem_cons.mpr ⟨lw_p2, List.forall_mem_cons.mpr ⟨lw_p3, List.forall_mem_cons.mpr ⟨lw_p4, List.forall_mem_cons.mpr ⟨lw_p5, List.forall_mem_cons.mpr ⟨lw_p6, List.forall_mem_cons.mpr ⟨lw_p7, List.forall_mem_cons.mpr ⟨lw_p8, List.forall_mem_cons.mpr ⟨lw_p9, List.forall_mem_cons.mpr ⟨lw_p10, List.forall_mem_cons.mpr ⟨lw_p11, List.forall_mem_cons.mpr ⟨lw_p12, List.forall_mem_cons.mpr ⟨lw_p13, List.forall_mem_cons.mpr ⟨lw_p14, List.forall_mem_cons.mpr ⟨lw_p15, fun _ h => absurd h List.not_mem_nil⟩⟩⟩⟩⟩⟩⟩⟩⟩⟩⟩⟩⟩⟩⟩⟩
theorem lw_p16 : lw_okq (⟨"RustTiles$Game", "ageHand", "(I)V"⟩, 13) := ⟨⟨by decide +kernel, by decide +kernel⟩, List.mem_of_getElem? (i := 26) (by decide +kernel), List.mem_of_getElem? (i := 440) (by decide +kernel), List.mem_of_getElem? (i := 441) (by decide +kernel)⟩
theorem lw_p17 : lw_okq (⟨"RustTiles$Game", "rust", "(II)V"⟩, 13) := ⟨⟨by decide +kernel, by decide +kernel⟩, List.mem_of_getElem? (i := 26) (by decide +kernel), List.mem_of_getElem? (i := 444) (by decide +kernel), List.mem_of_getElem? (i := 445) (by decide +kernel)⟩
theorem lw_p18 : lw_okq (⟨"RustTiles$Game", "fitsSomewhere", "(I)Z"⟩, 13) := ⟨⟨by decide +kernel, by decide +kernel⟩, List.mem_of_getElem? (i := 26) (by decide +kernel), List.mem_of_getElem? (i := 488) (by decide +kernel), List.mem_of_getElem? (i := 489) (by decide +kernel)⟩
theorem lw_p19 : lw_okq (⟨"RustTiles$Game", "isBetter", "(II)Z"⟩, 13) := ⟨⟨by decide +kernel, by decide +kernel⟩, List.mem_of_getElem? (i := 26) (by decide +kernel), List.mem_of_getElem? (i := 492) (by decide +kernel), List.mem_of_getElem? (i := 493) (by decide +kernel)⟩
theorem lw_p20 : lw_okq (⟨"RustTiles", "requirePlayer", "(I)V"⟩, 5) := ⟨⟨by decide +kernel, by decide +kernel⟩, List.mem_of_getElem? (i := 18) (by decide +kernel), List.mem_of_getElem? (i := 513) (by decide +kernel), List.mem_of_getElem? (i := 514) (by decide +kernel)⟩
theorem lw_p21 : lw_okq (⟨"RustTiles$Game", "endsOpenTo", "(I)I"⟩, 13) := ⟨⟨by decide +kernel, by decide +kernel⟩, List.mem_of_getElem? (i := 26) (by decide +kernel), List.mem_of_getElem? (i := 541) (by decide +kernel), List.mem_of_getElem? (i := 542) (by decide +kernel)⟩
theorem lw_p22 : lw_okq (⟨"RustTiles$Game", "canLayAt", "(III)Z"⟩, 13) := ⟨⟨by decide +kernel, by decide +kernel⟩, List.mem_of_getElem? (i := 26) (by decide +kernel), List.mem_of_getElem? (i := 545) (by decide +kernel), List.mem_of_getElem? (i := 546) (by decide +kernel)⟩
theorem lw_p23 : lw_okq (⟨"RustTiles$Trains", "isTooLarge", "()Z"⟩, 3) := ⟨⟨by decide +kernel, by decide +kernel⟩, List.mem_of_getElem? (i := 96) (by decide +kernel), List.mem_of_getElem? (i := 598) (by decide +kernel), List.mem_of_getElem? (i := 599) (by decide +kernel)⟩
theorem lw_p24 : lw_okq (⟨"RustTiles$Trains", "goOnFrom", "(I)V"⟩, 3) := ⟨⟨by decide +kernel, by decide +kernel⟩, List.mem_of_getElem? (i := 96) (by decide +kernel), List.mem_of_getElem? (i := 602) (by decide +kernel), List.mem_of_getElem? (i := 603) (by decide +kernel)⟩
theorem lw_p25 : lw_okq (⟨"RustTiles$Trains", "openBehind", "(II)I"⟩, 3) := ⟨⟨by decide +kernel, by decide +kernel⟩, List.mem_of_getElem? (i := 96) (by decide +kernel), List.mem_of_getElem? (i := 606) (by decide +kernel), List.mem_of_getElem? (i := 607) (by decide +kernel)⟩
theorem lw_p26 : lw_okq (⟨"RustTiles$Trains", "hangsTogetherWith", "(I)Z"⟩, 3) := ⟨⟨by decide +kernel, by decide +kernel⟩, List.mem_of_getElem? (i := 96) (by decide +kernel), List.mem_of_getElem? (i := 629) (by decide +kernel), List.mem_of_getElem? (i := 630) (by decide +kernel)⟩
theorem lw_p27 : lw_okq (⟨"RustTiles$Trains", "oddGradesAllow", "(I)Z"⟩, 3) := ⟨⟨by decide +kernel, by decide +kernel⟩, List.mem_of_getElem? (i := 96) (by decide +kernel), List.mem_of_getElem? (i := 633) (by decide +kernel), List.mem_of_getElem? (i := 634) (by decide +kernel)⟩
def lw_privs_2 : List (MethodName × Nat) := [(⟨"RustTiles$Game", "ageHand", "(I)V"⟩, 13), (⟨"RustTiles$Game", "rust", "(II)V"⟩, 13), (⟨"RustTiles$Game", "fitsSomewhere", "(I)Z"⟩, 13), (⟨"RustTiles$Game", "isBetter", "(II)Z"⟩, 13), (⟨"RustTiles", "requirePlayer", "(I)V"⟩, 5), (⟨"RustTiles$Game", "endsOpenTo", "(I)I"⟩, 13), (⟨"RustTiles$Game", "canLayAt", "(III)Z"⟩, 13), (⟨"RustTiles$Trains", "isTooLarge", "()Z"⟩, 3), (⟨"RustTiles$Trains", "goOnFrom", "(I)V"⟩, 3), (⟨"RustTiles$Trains", "openBehind", "(II)I"⟩, 3), (⟨"RustTiles$Trains", "hangsTogetherWith", "(I)Z"⟩, 3), (⟨"RustTiles$Trains", "oddGradesAllow", "(I)Z"⟩, 3)]
theorem lw_r2 : ∀ q ∈ lw_privs_2, lw_okq q := List.forall_mem_cons.mpr ⟨lw_p16, List.forall_mem_cons.mpr ⟨lw_p17, List.forall_mem_cons.mpr ⟨lw_p18, List.forall_mem_cons.mpr ⟨lw_p19, List.forall_mem_cons.mpr ⟨lw_p20, List.forall_mem_cons.mpr ⟨lw_p21, List.forall_mem_cons.mpr ⟨lw_p22, List.forall_mem_cons.mpr ⟨lw_p23, List.forall_mem_cons.mpr ⟨lw_p24, List.forall_mem_cons.mpr ⟨lw_p25, List.forall_mem_cons.mpr ⟨lw_p26, List.forall_mem_cons.mpr ⟨lw_p27, fun _ h => absurd h List.not_mem_nil⟩⟩⟩⟩⟩⟩⟩⟩⟩⟩⟩⟩
def lw_privs : List (MethodName × Nat) := lw_privs_1 ++ (lw_privs_2)
def lw_tbl : List Cond := k2_sels lw_privs ++ tables_1
theorem lw_privs_ok : ∀ q ∈ lw_privs, lw_okq q := by
  show ∀ q ∈ lw_privs_1 ++ (lw_privs_2), lw_okq q
  exact List.forall_mem_append.mpr ⟨lw_r1, lw_r2⟩
/-- the streams that the claim lets the run draw from -/
abbrev lw_cs : List Choice := [Jvm.Choice.named "NaN.bits"]
theorem lw_bits : nanBits ∈ lw_cs := by first | decide | exact List.mem_cons_self | simp [lw_cs, nanBits]
-- ===== end of PART A; then your names; then what follows =====
/-! ===== BEGIN words of one list among another's, by their places ===== -/
theorem goodIn_r {big : List Cond} (ws : List Cond) (ps : List Nat) (hp : ws = ps.filterMap (fun i => big[i]?)) (h : ws.all goodWord = true) : GoodIn big ws := by
  intro w hw
  have h1 := List.all_eq_true.mp h w hw
  rw [hp] at hw
  obtain ⟨i, -, hi⟩ := List.mem_filterMap.mp hw
  have hm : w ∈ big := by first | exact List.mem_of_getElem? hi | exact List.getElem?_mem hi
  exact ⟨hm, good_of_word h1⟩
theorem goodIn_app {big a b : List Cond} (ha : GoodIn big a) (hb : GoodIn big b) : GoodIn big (a ++ b) := fun w h => (List.mem_append.mp h).elim (ha w) (hb w)
theorem goodIn_ca {big a b : List Cond} {c : Cond} (ha : GoodIn big (c :: a)) (hb : GoodIn big b) : GoodIn big (c :: (a ++ b)) := fun w h => (List.mem_cons.mp h).elim (fun e => ha w (List.mem_cons.mpr (Or.inl e))) (fun h => (List.mem_append.mp h).elim (fun h => ha w (List.mem_cons.mpr (Or.inr h))) (hb w))
theorem goodIn_sub {big ws : List Cond} (hm : ∀ w ∈ ws, w ∈ big) (h : ws.all goodWord = true) : GoodIn big ws := fun w hw => ⟨hm w hw, good_of_word (List.all_eq_true.mp h w hw)⟩
/-! ===== END ===== -/

/-! ===== BEGIN exceptions that leave a method, and their catching by the caller (launches without stack traces) ===== -/
section VXA
/-! The laws vx_back, vx_callV, vx_callS, vx_callSW, vx_throw0, vx_throwS follow proofs of the library, with one case more: JvmDerived/Free/Laws.lean (Back.of_free), Shelf42/LK1.lean (callV, callS), Shelf/KitTraced.lean (throwNew0V, throwNewS). -/
/-- where a method has thrown q: the class by its name, the cell, what was written, the world -/
def vx_T (XC : String → State → State → Prop) (st : State) (q : Addr) (t : State) (mc ms : Nat) (free : Addr → Prop) : Prop :=
  ∃ (E : String) (ce : Cell) (L : List Loc), XC E st t ∧ t.heap[q]? = some ce ∧ ce.vm = .none ∧ st.vm.findClass E = some ce.cls ∧ st.WarmedH t.vm ∧ st.sameButNew ({ t with vm := st.vm } : State) L mc ms ∧ ∀ z ∈ L, free z.base
def vx_Q (Qc : Array Value → State → Outcome → State → Prop) (XC : String → State → State → Prop) (mc ms : Nat) (free : Addr → Prop) : Array Value → State → Outcome → State → Prop := fun a st o t =>
  (Qc a st o t ∧ ∃ L, FrameEnd st o t L mc ms ∧ ∀ q ∈ L, free q.base) ∨ ∃ q, o = .threw q ∧ vx_T XC st q t mc ms free
/-- a callee that returns or throws -/
def vx_Met (l : Launch) (y : MethodName) (ws : List Cond) (rm : Room) (Pc : Array Value → State → Prop) (Qc : Array Value → State → Outcome → State → Prop) (XC : String → State → State → Prop) (mc ms : Nat) (free : Addr → Prop) : Prop :=
  MetFree l y (headSpec ws rm) Pc (fun _ _ _ _ _ => True) (vx_Q Qc XC mc ms free)
def vx_Post (XC : String → State → State → Prop) (mc ms : Nat) (free : Addr → Prop) : Pt → Array Value → Addr → Pt → Prop := fun A a q B =>
  ∃ (g : JFrame) (mk : MethodId) (t : State) (L : List Loc) (E : String) (ce : Cell), B.U.heap = t.heap ∧ B.U.vm = t.vm ∧ XC E (A.U.calling g mk a) t ∧ t.heap[q]? = some ce ∧ ce.vm = .none ∧ A.U.vm.findClass E = some ce.cls ∧ B.locs = A.locs ++ L ∧ (∀ z ∈ L, free z.base) ∧ B.cells = A.cells + mc ∧ B.slots = A.slots + ms
def vx_Back (l : Launch) (R : Room) (p : Program) (e : Env) (below : List Frame) (s : State) (sargs : Array Value) (y : MethodName) (len W9 : Nat)
    (Pre : Pt → Array Value → Prop) (Post : Pt → Array Value → Option Value → Pt → Prop) (PostX : Pt → Array Value → Addr → Pt → Prop) : Prop :=
  ∀ (m : MethodId) (meth : Method) (c : Code) (A : Pt) (g : JFrame) (ig : Instr) (mk : MethodId) (a : Array Value),
    Stand p l e R s m sargs below meth c A.U A.locs A.cells A.slots → g.method = m → g.locals.size = c.maxLocals → decode c.code g.pc = .ok (ig, len) →
    2 * g.monitorRoom + (g.stack.map fun v => v.category).sum ≤ W9 → A.U.methodNamed? y = some mk → Pre A a →
    (∃ (v : Option Value) (B : Pt), Stand p l e R s m sargs below meth c B.U B.locs B.cells B.slots ∧ Post A a v B ∧
      Steps p.tables e below (doInvoke e (A.U.setTop g) [] mk a).1 (B.U.setTop { g with pc := g.pc + len, stack := v.toList ++ g.stack })) ∨
    (∃ (q : Addr) (B : Pt), Stand p l e R s m sargs below meth c B.U B.locs B.cells B.slots ∧ PostX A a q B ∧
      Steps p.tables e below (doInvoke e (A.U.setTop g) [] mk a).1 ((B.U.setTop g).pushFrame (.throwing q)))
section Payer
variable {l : Launch} {R : Room} {p : Program} {e : Env} {below : List Frame} {s : State} {sargs : Array Value} {y : MethodName} {len W9 : Nat}
theorem vx_back {ws : List Cond} {rm : Room} {Pc : Array Value → State → Prop} {Qc : Array Value → State → Outcome → State → Prop} {XC : String → State → State → Prop} {mc ms : Nat} {free : Addr → Prop} {bytes : ByteArray} {maxL : Nat} {ret : Option FieldType}
    (hM : vx_Met l y ws rm Pc Qc XC mc ms free) (hblind : FrameBlind Pc) (hrc : rm.cells = mc) (hrs : rm.slots = ms)
    (hframes : rm.frames + 1 ≤ R.frames) (hlocals : W9 + (maxL + 11) + rm.locals ≤ R.locals)
    (hws : ∀ w ∈ ws, ∀ a' U, s.WarmedH U.vm → w.before a' U = true) (hcode : Cond.code y bytes maxL ret ∈ ws) (hinit : ∀ a' U, s.WarmedH U.vm → (Cond.initialized y.cls).before a' U = true) :
    vx_Back l R p e below s sargs y len W9 (PreOf R mc ms Pc) (PostOf Qc mc ms free) (vx_Post XC mc ms free) := by
  intro m meth c A g ig mk a X hg hsize hdg hW hn hp
  have h1 : (headSpec ws rm).pre.before a A.U = true := atoms_intro fun w hw => hws w hw _ _ X.warmed
  have h2 : (Cond.code y bytes maxL ret).before a A.U = true := hws _ hcode _ _ X.warmed
  have h3 : (Cond.initialized y.cls).before a A.U = true := hinit _ _ X.warmed
  have h4 : A.cells + (headSpec ws rm).room.cells ≤ R.cells := by rw [show (headSpec ws rm).room.cells = mc from hrc]; exact hp.1
  have h5 : A.slots + (headSpec ws rm).room.slots ≤ R.slots := by rw [show (headSpec ws rm).room.slots = ms from hrs]; exact hp.2.1
  have hPc : Pc a (A.U.calling g mk a) := hblind _ _ _ _ hp.2.2
  obtain ⟨U, Ls, c0, s0⟩ := A
  dsimp only [Pt.U, Pt.locs, Pt.cells, Pt.slots] at h1 h2 h3 h4 h5 X hn hPc ⊢
  obtain ⟨methY, cY, hmY, hcY, -, hlY, -, -, -, -⟩ := Cond.code_spec hn h2
  obtain ⟨kY, hkY, -⟩ := className_of_methodNamed hn
  have hinitY : kY.init = .initialized := Cond.initialized_spec (findClass_of_methodNamed hn) hkY h3
  have h : At U g.method c below := by rw [hg]; exact X.here
  have hlocals9 : W9 + (maxL + 11) + (headSpec ws rm).room.locals ≤ R.locals := hlocals
  have happ : (headSpec ws rm).appliesLoose y e.platform (U.calling g mk a) = true :=
    Spec.appliesLoose_calling (g := g) h hdg hn hkY hinitY
      (X.room_calling (g := g) (R' := (headSpec ws rm).room) hsize hmY hcY hframes (by rw [hlY]; omega) h4 h5) h1
  obtain ⟨mid, hmid⟩ := h.above
  have hfr : (U.setTop g).frames = (.java g :: mid) ++ below := by rw [State.frames_setTop' g h.top, hmid]; rfl
  obtain ⟨o, s₂, hsteps, -, hend, hq⟩ := Steps.callFree hM p X.admits X.cas X.clock (acts := []) hfr happ hPc trivial
  have hq' : vx_Q Qc XC mc ms free a (U.calling g mk a) o s₂ := hq
  rw [State.frames_setTop' g h.top] at hend
  obtain ⟨g₀, hg0⟩ := Option.isSome_iff_exists.mp h.top
  obtain ⟨r, hr⟩ := State.topJava?_eq_some.mp hg0
  have hr' : (({ U with heap := s₂.heap, slotsUsed := s₂.slotsUsed } : State).setVm s₂.vm).frames = .java g₀ :: r := hr
  rcases hq' with ⟨hqc, L, hfe, hL⟩ | ⟨q, rfl, E, ce, L, hx, hce, hcv, hcl, hW₂, hsm, hL⟩
  · obtain ⟨⟨v, rfl⟩, hW₂, e2, q2, q3, q4, q5, q6⟩ := id hfe
    have e3 : s₂ = ({ (U.calling g mk a).setFrames s₂.frames with heap := s₂.heap, slotsUsed := s₂.slotsUsed } : State).setVm s₂.vm := by
      have : s₂ = ({ s₂ with vm := (U.calling g mk a).vm } : State).setVm s₂.vm := rfl
      rw [e2] at this
      exact this
    obtain ⟨c₂, i₂, len₂, hc₂, hd₂, hf₂⟩ := hend
    have hW' : U.WarmedH s₂.vm := hW₂
    have hcc : c₂ = c := by
      have h1 : s₂.code? g.method = U.code? g.method := by
        rw [State.code?_eq, State.code?_eq, hW'.alike.method?]
      exact Option.some.inj (hc₂.symm.trans (h1.trans h.code))
    subst hcc
    have hlen : len₂ = len := by rw [hdg] at hd₂; cases hd₂; rfl
    subst hlen
    have hs₂ : s₂ = (({ U with heap := s₂.heap, slotsUsed := s₂.slotsUsed } : State).setVm s₂.vm).setTop { g with pc := g.pc + len₂, stack := v.toList ++ g.stack } := by
      refine e3.trans ?_
      rw [hf₂, State.calling_eq h.top, State.setFrames_setFrames, State.setTop_of_frames _ hr', hr]
      rfl
    have hsame : U.sameButNew ({ U with heap := s₂.heap, slotsUsed := s₂.slotsUsed } : State) L mc ms := by
      refine ⟨?_, q2, q3, q4, q5, q6⟩
      obtain ⟨t, ht, -⟩ := State.frames_cons hr
      show ({ U with heap := s₂.heap, slotsUsed := s₂.slotsUsed } : State) = { U.setFrames U.frames with heap := s₂.heap, slotsUsed := s₂.slotsUsed }
      rw [State.setFrames_self ht]
    subst hg
    refine Or.inl ⟨v, ⟨(({ U with heap := s₂.heap, slotsUsed := s₂.slotsUsed } : State).setVm s₂.vm), Ls ++ L, c0 + mc, s0 + ms⟩,
      ⟨X.admits, X.cas, X.clock, X.frames, X.room, X.hears, X.method, X.code, (X.here.setHeapUsed s₂.heap s₂.slotsUsed).setVm hW'.alike, X.tail, State.WarmedH.trans X.warmed hW', X.limits, X.bytes, X.same.trans (hsame.setVm s.vm)⟩,
      ⟨g, mk, s₂, L, rfl, rfl, hqc, rfl, hL, rfl, rfl⟩, ?_⟩
    show Steps p.tables e below _ ((({ U with heap := s₂.heap, slotsUsed := s₂.slotsUsed } : State).setVm s₂.vm).setTop { g with pc := g.pc + len₂, stack := v.toList ++ g.stack })
    rw [← hs₂]
    exact hsteps
  · obtain ⟨e2, q2, q3, q4, q5, q6⟩ := id hsm
    have e3 : s₂ = ({ (U.calling g mk a).setFrames s₂.frames with heap := s₂.heap, slotsUsed := s₂.slotsUsed } : State).setVm s₂.vm := by
      have : s₂ = ({ s₂ with vm := (U.calling g mk a).vm } : State).setVm s₂.vm := rfl
      rw [e2] at this
      exact this
    have hf₂ : s₂.frames = .throwing q :: .java g :: U.frames.tail := hend
    have hW' : U.WarmedH s₂.vm := hW₂
    have hs₂ : s₂ = ((({ U with heap := s₂.heap, slotsUsed := s₂.slotsUsed } : State).setVm s₂.vm).setTop g).pushFrame (.throwing q) := by
      refine e3.trans ?_
      rw [hf₂, State.calling_eq h.top, State.setFrames_setFrames, State.pushFrame, State.frames_setTop _ hr', State.setTop_of_frames _ hr', State.setFrames_setFrames, hr]
      rfl
    have hsame : U.sameButNew ({ U with heap := s₂.heap, slotsUsed := s₂.slotsUsed } : State) L mc ms := by
      refine ⟨?_, q2, q3, q4, q5, q6⟩
      obtain ⟨t, ht, -⟩ := State.frames_cons hr
      show ({ U with heap := s₂.heap, slotsUsed := s₂.slotsUsed } : State) = { U.setFrames U.frames with heap := s₂.heap, slotsUsed := s₂.slotsUsed }
      rw [State.setFrames_self ht]
    subst hg
    refine Or.inr ⟨q, ⟨(({ U with heap := s₂.heap, slotsUsed := s₂.slotsUsed } : State).setVm s₂.vm), Ls ++ L, c0 + mc, s0 + ms⟩,
      ⟨X.admits, X.cas, X.clock, X.frames, X.room, X.hears, X.method, X.code, (X.here.setHeapUsed s₂.heap s₂.slotsUsed).setVm hW'.alike, X.tail, State.WarmedH.trans X.warmed hW', X.limits, X.bytes, X.same.trans (hsame.setVm s.vm)⟩,
      ⟨g, mk, s₂, L, E, ce, rfl, rfl, hx, hce, hcv, hcl, rfl, hL, rfl, rfl⟩, ?_⟩
    show Steps p.tables e below _ (((({ U with heap := s₂.heap, slotsUsed := s₂.slotsUsed } : State).setVm s₂.vm).setTop g).pushFrame (.throwing q))
    rw [← hs₂]
    exact hsteps
end Payer
section Calls
variable {p : Program} {l : Launch} {e : Env} {R : Room} {s : State} {m : MethodId} {args : Array Value} {below : List Frame} {meth : Method} {c : Code} {T : State} {locs : List Loc} {cells slots : Nat}
theorem vx_callV (X : Stand p l e R s m args below meth c T locs cells slots) (hexec : p.tables.exec = Jvm.exec) {own C : String} {index : Nat} {y : MethodName} {bytes : ByteArray} {maxL : Nat} {ret : Option FieldType}
    (hown : s.vm.findClass own = some m.cls) (hlink : (Cond.methodLink own index y).before args s = true) (hinst : (Cond.instanceMethod y).before args s = true) (hsel : (Cond.selects C y y).before args s = true)
    (hcode : (Cond.code y bytes maxL ret).before args s = true) (hy : y.cls ≠ "java/lang/invoke/MethodHandle" ∧ y.cls ≠ "java/lang/invoke/VarHandle")
    {W9 : Nat} {Pre : Pt → Array Value → Prop} {Post : Pt → Array Value → Option Value → Pt → Prop} {PostX : Pt → Array Value → Addr → Pt → Prop} (hK : vx_Back l R p e below s args y 3 W9 Pre Post PostX)
    {b : Addr} {cellB : Cell} (hcell : T.heap[b]? = some cellB) (hobj : cellB.vm.isStatics = false) (hcls : s.vm.findClass C = some cellB.cls)
    {g : JFrame} (hg : g.method = m) (hsize : g.locals.size = c.maxLocals) {argsL rest : List Value} (hlen : ∀ sig, parseMethodDescriptor y.desc = some sig → argsL.length = sig.parameters.length)
    (hstack : g.stack = argsL.reverse ++ .ref b :: rest) (hW : 2 * g.monitorRoom + (rest.map fun v => v.category).sum ≤ W9) (hdg : decode c.code g.pc = .ok (.invokevirtual index, 3))
    (hpre : ∀ vm₁, s.WarmedH vm₁ → Pre ⟨T.setVm vm₁, locs, cells, slots⟩ (Value.ref b :: argsL).toArray) :
    (∃ (v : Option Value) (vm₁ : Vm) (B : Pt), s.WarmedH vm₁ ∧ Stand p l e R s m args below meth c B.U B.locs B.cells B.slots ∧ Post ⟨T.setVm vm₁, locs, cells, slots⟩ (Value.ref b :: argsL).toArray v B ∧
      ∀ target, Steps p.tables e below (B.U.setTop { g with pc := g.pc + 3, stack := v.toList ++ rest }) target → Steps p.tables e below (T.setTop g) target) ∨
    (∃ (q : Addr) (vm₁ : Vm) (B : Pt), s.WarmedH vm₁ ∧ Stand p l e R s m args below meth c B.U B.locs B.cells B.slots ∧ PostX ⟨T.setVm vm₁, locs, cells, slots⟩ (Value.ref b :: argsL).toArray q B ∧
      Steps p.tables e below (T.setTop g) ((B.U.setTop { g with stack := rest }).pushFrame (.throwing q))) := by
  obtain ⟨mk, methM, hnamed, hmethM, hstM, habM⟩ := Cond.instanceMethod_spec hinst
  obtain ⟨methM', cM, hmethM', -, -, -, -, -, -, hsigM⟩ := Cond.code_spec hnamed hcode
  cases hmethM.symm.trans hmethM'
  obtain ⟨c2, r2, m2, q1, q2, q3, q4, kP, hkP, hkPi⟩ := Cond.selects_spec hsel
  cases hcls.symm.trans q1
  cases (State.methodFound?_of_named hnamed hy).symm.trans q2
  cases hnamed.symm.trans q3
  have hselP : selectMethod e.platform s.vm cellB.cls mk = .method mk := by rw [Launch.admits_selectMethod X.admits]; exact q4
  obtain ⟨vm₁, X₁, hstep₁⟩ := X.invokevirtual hexec hown hlink hnamed hmethM hstM hkP hkPi hy (a := b) (cell := cellB) hcell
    (fun z h => by rw [h] at hobj; cases hobj) hselP hmethM habM hkP hkPi (g := g) hg (argsL := argsL) (rest := rest) (hlen _ hsigM) hstack hdg
  rcases hK m meth c ⟨T.setVm vm₁, locs, cells, slots⟩ { g with stack := rest } (.invokevirtual index) mk (Value.ref b :: argsL).toArray X₁ hg hsize hdg hW (X₁.named hnamed) (hpre vm₁ X₁.warmed) with ⟨v, B, X', hpost, hsteps⟩ | ⟨q, B, X', hpost, hsteps⟩
  · exact Or.inl ⟨v, vm₁, B, X₁.warmed, X', hpost, fun target h => hstep₁ _ fun acts => by rw [doInvoke_state]; exact hsteps.trans h⟩
  · exact Or.inr ⟨q, vm₁, B, X₁.warmed, X', hpost, hstep₁ _ fun acts => by rw [doInvoke_state]; exact hsteps⟩
theorem vx_callS (X : Stand p l e R s m args below meth c T locs cells slots) (hexec : p.tables.exec = Jvm.exec) {own : String} {index : Nat} {y : MethodName} {bytes : ByteArray} {maxL : Nat} {ret : Option FieldType}
    (hown : s.vm.findClass own = some m.cls) (hlink : (Cond.methodLink own index y).before args s = true) (hstat : (Cond.static y).before args s = true) (hinit : (Cond.initialized y.cls).before args s = true)
    (hcode : (Cond.code y bytes maxL ret).before args s = true) (hy : y.cls ≠ "java/lang/invoke/MethodHandle" ∧ y.cls ≠ "java/lang/invoke/VarHandle")
    {W9 : Nat} {Pre : Pt → Array Value → Prop} {Post : Pt → Array Value → Option Value → Pt → Prop} {PostX : Pt → Array Value → Addr → Pt → Prop} (hK : vx_Back l R p e below s args y 3 W9 Pre Post PostX)
    {g : JFrame} (hg : g.method = m) (hsize : g.locals.size = c.maxLocals) {argsL rest : List Value} (hlen : ∀ sig, parseMethodDescriptor y.desc = some sig → argsL.length = sig.parameters.length)
    (hstack : g.stack = argsL.reverse ++ rest) (hW : 2 * g.monitorRoom + (rest.map fun v => v.category).sum ≤ W9) (hdg : decode c.code g.pc = .ok (.invokestatic index, 3))
    (hpre : ∀ vm₁, s.WarmedH vm₁ → Pre ⟨T.setVm vm₁, locs, cells, slots⟩ argsL.toArray) :
    (∃ (v : Option Value) (vm₁ : Vm) (B : Pt), s.WarmedH vm₁ ∧ Stand p l e R s m args below meth c B.U B.locs B.cells B.slots ∧ Post ⟨T.setVm vm₁, locs, cells, slots⟩ argsL.toArray v B ∧
      ∀ target, Steps p.tables e below (B.U.setTop { g with pc := g.pc + 3, stack := v.toList ++ rest }) target → Steps p.tables e below (T.setTop g) target) ∨
    (∃ (q : Addr) (vm₁ : Vm) (B : Pt), s.WarmedH vm₁ ∧ Stand p l e R s m args below meth c B.U B.locs B.cells B.slots ∧ PostX ⟨T.setVm vm₁, locs, cells, slots⟩ argsL.toArray q B ∧
      Steps p.tables e below (T.setTop g) ((B.U.setTop { g with stack := rest }).pushFrame (.throwing q))) := by
  obtain ⟨mk, hnamed⟩ := Cond.code_named hcode
  obtain ⟨methM, cM, hmethM, -, -, -, -, -, -, hsigM⟩ := Cond.code_spec hnamed hcode
  have hstatic : methM.isStatic = true := Cond.static_spec hnamed hmethM hstat
  obtain ⟨kP, hkP, -⟩ := className_of_methodNamed hnamed
  have hinitP : kP.init = .initialized := Cond.initialized_spec (findClass_of_methodNamed hnamed) hkP hinit
  obtain ⟨vm₁, X₁, hstep₁⟩ := X.invokestatic hexec hown hlink hnamed hmethM hstatic hkP hinitP hy (g := g) hg (argsL := argsL) (rest := rest) (hlen _ hsigM) hstack hdg
  rcases hK m meth c ⟨T.setVm vm₁, locs, cells, slots⟩ { g with stack := rest } (.invokestatic index) mk argsL.toArray X₁ hg hsize hdg hW (X₁.named hnamed) (hpre vm₁ X₁.warmed) with ⟨v, B, X', hpost, hsteps⟩ | ⟨q, B, X', hpost, hsteps⟩
  · exact Or.inl ⟨v, vm₁, B, X₁.warmed, X', hpost, fun target h => hstep₁ _ fun acts => by rw [doInvoke_state]; exact hsteps.trans h⟩
  · exact Or.inr ⟨q, vm₁, B, X₁.warmed, X', hpost, hstep₁ _ fun acts => by rw [doInvoke_state]; exact hsteps⟩
end Calls
theorem vx_cls {s : State} {T : State} {vm₁ : Vm} {E : String} {k : ClassId} (hW : s.WarmedH vm₁) (h : (T.setVm vm₁).vm.findClass E = some k) : s.vm.findClass E = some k := by
  have h1 : vm₁.findClass E = some k := h
  rw [hW.alike.findClass] at h1
  exact h1
/-- the method's frame g, with q thrown over it -/
def vx_W (p : Program) (l : Launch) (e : Env) (R : Room) (s : State) (m : MethodId) (args : Array Value) (below : List Frame) (meth : Method) (c : Code) (H : Heap) (locs : List Loc) (cells slots : Nat) (Q : State → Prop) (g : JFrame) (q : Addr) : Prop :=
  ∀ T : State, T.heap = H → Stand p l e R s m args below meth c T locs cells slots → ∃ t, Steps p.tables e below ((T.setTop g).pushFrame (.throwing q)) t ∧ Q t
def vx_Run (p : Program) (l : Launch) (e : Env) (R : Room) (s : State) (m : MethodId) (args : Array Value) (below : List Frame) (meth : Method) (c : Code) (H : Heap) (locs : List Loc) (cells slots mc ms : Nat) (g : JFrame) (rest : List Value) (Qa : State → Outcome → State → Prop) (XC : String → State → State → Prop) (free : Addr → Prop) : Prop :=
  ∀ T : State, T.heap = H → Stand p l e R s m args below meth c T locs cells slots →
    (∃ (v : Option Value) (st₀ t T' : State) (L : List Loc), st₀.heap = H ∧ Stand p l e R s m args below meth c T' (locs ++ L) (cells + mc) (slots + ms) ∧ (∀ q ∈ L, free q.base) ∧ T'.heap = t.heap ∧ T'.vm = t.vm ∧ Qa st₀ (.returned v) t ∧
      Goes p e below T g T' { g with pc := g.pc + 3, stack := v.toList ++ rest }) ∨
    (∃ (q : Addr) (st₀ t T' : State) (L : List Loc) (E : String) (ce : Cell), st₀.heap = H ∧ Stand p l e R s m args below meth c T' (locs ++ L) (cells + mc) (slots + ms) ∧ (∀ z ∈ L, free z.base) ∧ T'.heap = t.heap ∧ T'.vm = t.vm ∧ XC E st₀ t ∧ t.heap[q]? = some ce ∧ ce.vm = .none ∧ s.vm.findClass E = some ce.cls ∧
      Steps p.tables e below (T.setTop g) ((T'.setTop { g with stack := rest }).pushFrame (.throwing q)))
def vx_X {S : Type} (px : S → Prop) (B : String → S → State → Prop) (A : Nat → Prop) : String → State → State → Prop := fun E st t => ∃ u : S, px u ∧ B E u t ∧ va_F A st t
section Runs
variable {p : Program} {l : Launch} {e : Env} {R : Room} {s : State} {m : MethodId} {args : Array Value} {below : List Frame} {meth : Method} {c : Code} {H : Heap} {locs : List Loc} {cells slots : Nat}
variable {y : MethodName} {bytes cc : ByteArray} {maxL nL mc ms n index : Nat} {ret : Option FieldType} {ws : List Cond} {rm : Room} {Pc : Array Value → State → Prop} {Qc : Array Value → State → Outcome → State → Prop} {XC : String → State → State → Prop} {free : Addr → Prop} {Ts : List Cond} {own C : String} {b : Addr} {As rest : List Value} {g : JFrame}
theorem vx_callBack (cb : CallB R s args own index y bytes maxL ret ws rm mc ms n) (hM : vx_Met l y ws rm Pc Qc XC mc ms free) (hbl : FrameBlind Pc) : vx_Back l R p e below s args y 3 8 (PreOf R mc ms Pc) (PostOf Qc mc ms free) (vx_Post XC mc ms free) := by
  obtain ⟨hrc, hrs, hfr, hlo, hws, hcw, -, hini, -⟩ := cb
  exact vx_back (bytes := bytes) (maxL := maxL) (ret := ret) hM hbl hrc hrs hfr hlo hws hcw (fun a' U hW => word_at hW (Or.inl (by first | rfl | simp [Cond.onTables, Cond.keeps, Cond.steady])) hini)
theorem vx_runV (S : CallFix p m c cc nL s args Ts own) (hM : vx_Met l y ws rm Pc Qc XC mc ms free) (cw : CallW R s args own C index y bytes maxL ret ws rm mc ms n) (hp : PreV s H C b Pc As)
    (hg : g.method = m) (hn : As.length = n) (hsize : g.locals.size = nL) (hstack : g.stack = As.reverse ++ .ref b :: rest) (hW : 2 * g.monitorRoom + (rest.map fun v => v.category).sum ≤ 8) (hdg : decode cc g.pc = .ok (.invokevirtual index, 3)) (hf : cells + mc ≤ R.cells ∧ slots + ms ≤ R.slots) :
    vx_Run p l e R s m args below meth c H locs cells slots mc ms g rest (Qc (Value.ref b :: As).toArray) XC free := by
  have hK : vx_Back l R p e below s args y 3 8 (PreOf R mc ms Pc) (PostOf Qc mc ms free) (vx_Post XC mc ms free) := vx_callBack cw.1 hM hp.1
  obtain ⟨⟨-, -, -, -, -, -, hcode, -, hy, hlen, hl⟩, hin, hse⟩ := cw
  obtain ⟨hx, hb, hml, ho, -⟩ := S
  obtain ⟨-, ⟨cellB, hcB, hoB, hclB⟩, hPc⟩ := hp
  intro T hT X
  rcases vx_callV X hx (C := C) (bytes := bytes) (maxL := maxL) (ret := ret) ho hl hin hse hcode hy hK (by rw [hT]; exact hcB) hoB hclB hg (hsize.trans hml.symm) (argsL := As) (rest := rest) (fun sig h => hn.trans (hlen sig h)) hstack hW (by rw [hb]; exact hdg)
    (fun vm₁ hW₁ => ⟨hf.1, hf.2, hPc (T.setVm vm₁) hT hW₁⟩) with ⟨v, vm₁, ⟨U', l2, c2, s2⟩, hW₁, X', ⟨g', mk, t, L, e1, e2, hq, h1, hL, h2, h3⟩, st⟩ | ⟨q, vm₁, ⟨U', l2, c2, s2⟩, hW₁, X', ⟨g', mk, t, L, E, ce, e1, e2, hq, hce, hcv, hcl, h1, hL, h2, h3⟩, st⟩
  · dsimp only [Pt.U, Pt.locs, Pt.cells, Pt.slots] at X' e1 e2 h1 h2 h3 st
    subst h1; subst h2; subst h3
    exact Or.inl ⟨v, (T.setVm vm₁).calling g' mk (Value.ref b :: As).toArray, t, U', L, hT, X', hL, e1, e2, hq, st⟩
  · dsimp only [Pt.U, Pt.locs, Pt.cells, Pt.slots] at X' e1 e2 h1 h2 h3 st hcl
    subst h1; subst h2; subst h3
    exact Or.inr ⟨q, (T.setVm vm₁).calling g' mk (Value.ref b :: As).toArray, t, U', L, E, ce, hT, X', hL, e1, e2, hq, hce, hcv, vx_cls hW₁ hcl, st⟩
theorem vx_runS (S : CallFix p m c cc nL s args Ts own) (hM : vx_Met l y ws rm Pc Qc XC mc ms free) (cw : CallB R s args own index y bytes maxL ret ws rm mc ms n ∧ (Cond.static y).before args s = true) (hp : PreS s H Pc As)
    (hg : g.method = m) (hn : As.length = n) (hsize : g.locals.size = nL) (hstack : g.stack = As.reverse ++ rest) (hW : 2 * g.monitorRoom + (rest.map fun v => v.category).sum ≤ 8) (hdg : decode cc g.pc = .ok (.invokestatic index, 3)) (hf : cells + mc ≤ R.cells ∧ slots + ms ≤ R.slots) :
    vx_Run p l e R s m args below meth c H locs cells slots mc ms g rest (Qc As.toArray) XC free := by
  have hK : vx_Back l R p e below s args y 3 8 (PreOf R mc ms Pc) (PostOf Qc mc ms free) (vx_Post XC mc ms free) := vx_callBack cw.1 hM hp.1
  obtain ⟨⟨-, -, -, -, -, -, hcode, hini, hy, hlen, hl⟩, hstt⟩ := cw
  obtain ⟨hx, hb, hml, ho, -⟩ := S
  intro T hT X
  rcases vx_callS X hx (bytes := bytes) (maxL := maxL) (ret := ret) ho hl hstt hini hcode hy hK hg (hsize.trans hml.symm) (argsL := As) (rest := rest) (fun sig h => hn.trans (hlen sig h)) hstack hW (by rw [hb]; exact hdg)
    (fun vm₁ hW₁ => ⟨hf.1, hf.2, hp.2 (T.setVm vm₁) hT hW₁⟩) with ⟨v, vm₁, ⟨U', l2, c2, s2⟩, hW₁, X', ⟨g', mk, t, L, e1, e2, hq, h1, hL, h2, h3⟩, st⟩ | ⟨q, vm₁, ⟨U', l2, c2, s2⟩, hW₁, X', ⟨g', mk, t, L, E, ce, e1, e2, hq, hce, hcv, hcl, h1, hL, h2, h3⟩, st⟩
  · dsimp only [Pt.U, Pt.locs, Pt.cells, Pt.slots] at X' e1 e2 h1 h2 h3 st
    subst h1; subst h2; subst h3
    exact Or.inl ⟨v, (T.setVm vm₁).calling g' mk As.toArray, t, U', L, hT, X', hL, e1, e2, hq, st⟩
  · dsimp only [Pt.U, Pt.locs, Pt.cells, Pt.slots] at X' e1 e2 h1 h2 h3 st hcl
    subst h1; subst h2; subst h3
    exact Or.inr ⟨q, (T.setVm vm₁).calling g' mk As.toArray, t, U', L, E, ce, hT, X', hL, e1, e2, hq, hce, hcv, vx_cls hW₁ hcl, st⟩
end Runs
section Rows
variable {p : Program} {l : Launch} {e : Env} {R : Room} {s : State} {m : MethodId} {args : Array Value} {below : List Frame} {meth : Method} {c : Code} {H : Heap} {locs : List Loc} {cells slots : Nat} {Q : State → Prop}
variable {mc ms : Nat} {free : Addr → Prop} {A0 A1 : Nat → Prop} {H0 : Heap} {a : Array Value} {pc : Nat} {ls : Array Slot} {st0 rest : List Value}
theorem vx_keep {st₀ t T' : State} {L : List Loc} (h0 : st₀.heap = H) (e1 : T'.heap = t.heap) (hS : va_S A0 H0 H locs) (hA : ∀ q, q < H.size → A1 q → A0 q) (hf : ∀ q, free q → A0 q) (hL : ∀ q ∈ L, free q.base) (hF : va_F A1 st₀ t) :
    H.size ≤ T'.heap.size ∧ (∀ q : Nat, q < H.size → ¬ A1 q → T'.heap[q]? = H[q]?) ∧ va_S A0 H0 T'.heap (locs ++ L) := by
  obtain ⟨hz, hk⟩ := hF
  rw [h0] at hz hk
  exact ⟨by rw [e1]; exact hz, fun q h1 h2 => by rw [e1]; exact hk q h1 h2,
    ⟨Nat.le_trans hS.1 (by rw [e1]; exact hz), fun q h1 h2 => by rw [e1, hk q (Nat.lt_of_lt_of_le h1 hS.1) (fun z => h2 (hA q (Nat.lt_of_lt_of_le h1 hS.1) z))]; exact hS.2.1 q h1 h2, fun q hq => by
      rcases List.mem_append.mp hq with h | h
      · exact hS.2.2 q h
      · exact hf _ (hL q h)⟩⟩
theorem vx_calli {S SX : Type} {post : Int32 → S → Prop} {px : SX → Prop} {B : S → State → Prop} {BX : String → SX → State → Prop} {AX : Nat → Prop} (hr : vx_Run p l e R s m args below meth c H locs cells slots mc ms (F0 m pc ls st0) rest (va_Qi post B A1 a) (vx_X px BX AX) free) (hS : va_S A0 H0 H locs) (hA : ∀ q, q < H.size → A1 q → A0 q) (hf : ∀ q, free q → A0 q) (hAX : ∀ q, q < H.size → AX q → A0 q)
    (kx : ∀ (E : String) (ce : Cell) (q9 : Addr) (u : SX) (t : State) (H1 : Heap) (locs1 : List Loc), t.heap = H1 → s.vm.Alike t.vm → px u → BX E u t → H.size ≤ H1.size → (∀ q : Nat, q < H.size → ¬ AX q → H1[q]? = H[q]?) → va_S A0 H0 H1 locs1 → H1[q9]? = some ce → ce.vm = .none → s.vm.findClass E = some ce.cls → vx_W p l e R s m args below meth c H1 locs1 (cells + mc) (slots + ms) Q (F0 m pc ls rest) q9)
    (kk : ∀ (r : Int32) (u : S) (t : State) (H1 : Heap) (locs1 : List Loc), t.heap = H1 → s.vm.Alike t.vm → post r u → B u t → H.size ≤ H1.size → (∀ q : Nat, q < H.size → ¬ A1 q → H1[q]? = H[q]?) → va_S A0 H0 H1 locs1 → W p l e R s m args below meth c H1 locs1 (cells + mc) (slots + ms) Q (F0 m (pc + 3) ls (.int r :: rest))) : W p l e R s m args below meth c H locs cells slots Q (F0 m pc ls st0) := by
  intro T hT X
  rcases hr T hT X with ⟨v, st₀, t, T', L, h0, X', hL, e1, e2, ⟨⟨r, u, hv, hp, hb⟩, hF⟩, st⟩ | ⟨q, st₀, t, T', L, E, ce, h0, X', hL, e1, e2, ⟨u, hp, hb, hF⟩, hce, hcv, hcl, st⟩
  · cases hv
    obtain ⟨k1, k2, k3⟩ := vx_keep h0 e1 hS hA hf hL hF
    obtain ⟨t2, a1, b1⟩ := kk r u t T'.heap (locs ++ L) e1.symm (by rw [← e2]; exact X'.warmed.alike) hp hb k1 k2 k3 T' rfl X'
    exact ⟨t2, st t2 a1, b1⟩
  · obtain ⟨k1, k2, k3⟩ := vx_keep h0 e1 hS hAX hf hL hF
    obtain ⟨t2, a1, b1⟩ := kx E ce q u t T'.heap (locs ++ L) e1.symm (by rw [← e2]; exact X'.warmed.alike) hp hb k1 k2 k3 (by rw [e1]; exact hce) hcv hcl T' rfl X'
    exact ⟨t2, st.trans a1, b1⟩
theorem vx_calll {S SX : Type} {post : Int64 → S → Prop} {px : SX → Prop} {B : S → State → Prop} {BX : String → SX → State → Prop} {AX : Nat → Prop} (hr : vx_Run p l e R s m args below meth c H locs cells slots mc ms (F0 m pc ls st0) rest (va_Ql post B A1 a) (vx_X px BX AX) free) (hS : va_S A0 H0 H locs) (hA : ∀ q, q < H.size → A1 q → A0 q) (hf : ∀ q, free q → A0 q) (hAX : ∀ q, q < H.size → AX q → A0 q)
    (kx : ∀ (E : String) (ce : Cell) (q9 : Addr) (u : SX) (t : State) (H1 : Heap) (locs1 : List Loc), t.heap = H1 → s.vm.Alike t.vm → px u → BX E u t → H.size ≤ H1.size → (∀ q : Nat, q < H.size → ¬ AX q → H1[q]? = H[q]?) → va_S A0 H0 H1 locs1 → H1[q9]? = some ce → ce.vm = .none → s.vm.findClass E = some ce.cls → vx_W p l e R s m args below meth c H1 locs1 (cells + mc) (slots + ms) Q (F0 m pc ls rest) q9)
    (kk : ∀ (r : Int64) (u : S) (t : State) (H1 : Heap) (locs1 : List Loc), t.heap = H1 → s.vm.Alike t.vm → post r u → B u t → H.size ≤ H1.size → (∀ q : Nat, q < H.size → ¬ A1 q → H1[q]? = H[q]?) → va_S A0 H0 H1 locs1 → W p l e R s m args below meth c H1 locs1 (cells + mc) (slots + ms) Q (F0 m (pc + 3) ls (.long r :: rest))) : W p l e R s m args below meth c H locs cells slots Q (F0 m pc ls st0) := by
  intro T hT X
  rcases hr T hT X with ⟨v, st₀, t, T', L, h0, X', hL, e1, e2, ⟨⟨r, u, hv, hp, hb⟩, hF⟩, st⟩ | ⟨q, st₀, t, T', L, E, ce, h0, X', hL, e1, e2, ⟨u, hp, hb, hF⟩, hce, hcv, hcl, st⟩
  · cases hv
    obtain ⟨k1, k2, k3⟩ := vx_keep h0 e1 hS hA hf hL hF
    obtain ⟨t2, a1, b1⟩ := kk r u t T'.heap (locs ++ L) e1.symm (by rw [← e2]; exact X'.warmed.alike) hp hb k1 k2 k3 T' rfl X'
    exact ⟨t2, st t2 a1, b1⟩
  · obtain ⟨k1, k2, k3⟩ := vx_keep h0 e1 hS hAX hf hL hF
    obtain ⟨t2, a1, b1⟩ := kx E ce q u t T'.heap (locs ++ L) e1.symm (by rw [← e2]; exact X'.warmed.alike) hp hb k1 k2 k3 (by rw [e1]; exact hce) hcv hcl T' rfl X'
    exact ⟨t2, st.trans a1, b1⟩
theorem vx_callf {S SX : Type} {post : UInt32 → S → Prop} {px : SX → Prop} {B : S → State → Prop} {BX : String → SX → State → Prop} {AX : Nat → Prop} (hr : vx_Run p l e R s m args below meth c H locs cells slots mc ms (F0 m pc ls st0) rest (va_Qf post B A1 a) (vx_X px BX AX) free) (hS : va_S A0 H0 H locs) (hA : ∀ q, q < H.size → A1 q → A0 q) (hf : ∀ q, free q → A0 q) (hAX : ∀ q, q < H.size → AX q → A0 q)
    (kx : ∀ (E : String) (ce : Cell) (q9 : Addr) (u : SX) (t : State) (H1 : Heap) (locs1 : List Loc), t.heap = H1 → s.vm.Alike t.vm → px u → BX E u t → H.size ≤ H1.size → (∀ q : Nat, q < H.size → ¬ AX q → H1[q]? = H[q]?) → va_S A0 H0 H1 locs1 → H1[q9]? = some ce → ce.vm = .none → s.vm.findClass E = some ce.cls → vx_W p l e R s m args below meth c H1 locs1 (cells + mc) (slots + ms) Q (F0 m pc ls rest) q9)
    (kk : ∀ (r : UInt32) (u : S) (t : State) (H1 : Heap) (locs1 : List Loc), t.heap = H1 → s.vm.Alike t.vm → post r u → B u t → H.size ≤ H1.size → (∀ q : Nat, q < H.size → ¬ A1 q → H1[q]? = H[q]?) → va_S A0 H0 H1 locs1 → W p l e R s m args below meth c H1 locs1 (cells + mc) (slots + ms) Q (F0 m (pc + 3) ls (.float r :: rest))) : W p l e R s m args below meth c H locs cells slots Q (F0 m pc ls st0) := by
  intro T hT X
  rcases hr T hT X with ⟨v, st₀, t, T', L, h0, X', hL, e1, e2, ⟨⟨r, u, hv, hp, hb⟩, hF⟩, st⟩ | ⟨q, st₀, t, T', L, E, ce, h0, X', hL, e1, e2, ⟨u, hp, hb, hF⟩, hce, hcv, hcl, st⟩
  · cases hv
    obtain ⟨k1, k2, k3⟩ := vx_keep h0 e1 hS hA hf hL hF
    obtain ⟨t2, a1, b1⟩ := kk r u t T'.heap (locs ++ L) e1.symm (by rw [← e2]; exact X'.warmed.alike) hp hb k1 k2 k3 T' rfl X'
    exact ⟨t2, st t2 a1, b1⟩
  · obtain ⟨k1, k2, k3⟩ := vx_keep h0 e1 hS hAX hf hL hF
    obtain ⟨t2, a1, b1⟩ := kx E ce q u t T'.heap (locs ++ L) e1.symm (by rw [← e2]; exact X'.warmed.alike) hp hb k1 k2 k3 (by rw [e1]; exact hce) hcv hcl T' rfl X'
    exact ⟨t2, st.trans a1, b1⟩
theorem vx_calld {S SX : Type} {post : UInt64 → S → Prop} {px : SX → Prop} {B : S → State → Prop} {BX : String → SX → State → Prop} {AX : Nat → Prop} (hr : vx_Run p l e R s m args below meth c H locs cells slots mc ms (F0 m pc ls st0) rest (va_Qd post B A1 a) (vx_X px BX AX) free) (hS : va_S A0 H0 H locs) (hA : ∀ q, q < H.size → A1 q → A0 q) (hf : ∀ q, free q → A0 q) (hAX : ∀ q, q < H.size → AX q → A0 q)
    (kx : ∀ (E : String) (ce : Cell) (q9 : Addr) (u : SX) (t : State) (H1 : Heap) (locs1 : List Loc), t.heap = H1 → s.vm.Alike t.vm → px u → BX E u t → H.size ≤ H1.size → (∀ q : Nat, q < H.size → ¬ AX q → H1[q]? = H[q]?) → va_S A0 H0 H1 locs1 → H1[q9]? = some ce → ce.vm = .none → s.vm.findClass E = some ce.cls → vx_W p l e R s m args below meth c H1 locs1 (cells + mc) (slots + ms) Q (F0 m pc ls rest) q9)
    (kk : ∀ (r : UInt64) (u : S) (t : State) (H1 : Heap) (locs1 : List Loc), t.heap = H1 → s.vm.Alike t.vm → post r u → B u t → H.size ≤ H1.size → (∀ q : Nat, q < H.size → ¬ A1 q → H1[q]? = H[q]?) → va_S A0 H0 H1 locs1 → W p l e R s m args below meth c H1 locs1 (cells + mc) (slots + ms) Q (F0 m (pc + 3) ls (.double r :: rest))) : W p l e R s m args below meth c H locs cells slots Q (F0 m pc ls st0) := by
  intro T hT X
  rcases hr T hT X with ⟨v, st₀, t, T', L, h0, X', hL, e1, e2, ⟨⟨r, u, hv, hp, hb⟩, hF⟩, st⟩ | ⟨q, st₀, t, T', L, E, ce, h0, X', hL, e1, e2, ⟨u, hp, hb, hF⟩, hce, hcv, hcl, st⟩
  · cases hv
    obtain ⟨k1, k2, k3⟩ := vx_keep h0 e1 hS hA hf hL hF
    obtain ⟨t2, a1, b1⟩ := kk r u t T'.heap (locs ++ L) e1.symm (by rw [← e2]; exact X'.warmed.alike) hp hb k1 k2 k3 T' rfl X'
    exact ⟨t2, st t2 a1, b1⟩
  · obtain ⟨k1, k2, k3⟩ := vx_keep h0 e1 hS hAX hf hL hF
    obtain ⟨t2, a1, b1⟩ := kx E ce q u t T'.heap (locs ++ L) e1.symm (by rw [← e2]; exact X'.warmed.alike) hp hb k1 k2 k3 (by rw [e1]; exact hce) hcv hcl T' rfl X'
    exact ⟨t2, st.trans a1, b1⟩
theorem vx_callv {S SX : Type} {post : S → Prop} {px : SX → Prop} {B : S → State → Prop} {BX : String → SX → State → Prop} {AX : Nat → Prop} (hr : vx_Run p l e R s m args below meth c H locs cells slots mc ms (F0 m pc ls st0) rest (va_Qv post B A1 a) (vx_X px BX AX) free) (hS : va_S A0 H0 H locs) (hA : ∀ q, q < H.size → A1 q → A0 q) (hf : ∀ q, free q → A0 q) (hAX : ∀ q, q < H.size → AX q → A0 q)
    (kx : ∀ (E : String) (ce : Cell) (q9 : Addr) (u : SX) (t : State) (H1 : Heap) (locs1 : List Loc), t.heap = H1 → s.vm.Alike t.vm → px u → BX E u t → H.size ≤ H1.size → (∀ q : Nat, q < H.size → ¬ AX q → H1[q]? = H[q]?) → va_S A0 H0 H1 locs1 → H1[q9]? = some ce → ce.vm = .none → s.vm.findClass E = some ce.cls → vx_W p l e R s m args below meth c H1 locs1 (cells + mc) (slots + ms) Q (F0 m pc ls rest) q9)
    (kk : ∀ (u : S) (t : State) (H1 : Heap) (locs1 : List Loc), t.heap = H1 → s.vm.Alike t.vm → post u → B u t → H.size ≤ H1.size → (∀ q : Nat, q < H.size → ¬ A1 q → H1[q]? = H[q]?) → va_S A0 H0 H1 locs1 → W p l e R s m args below meth c H1 locs1 (cells + mc) (slots + ms) Q (F0 m (pc + 3) ls (rest))) : W p l e R s m args below meth c H locs cells slots Q (F0 m pc ls st0) := by
  intro T hT X
  rcases hr T hT X with ⟨v, st₀, t, T', L, h0, X', hL, e1, e2, ⟨⟨u, hv, hp, hb⟩, hF⟩, st⟩ | ⟨q, st₀, t, T', L, E, ce, h0, X', hL, e1, e2, ⟨u, hp, hb, hF⟩, hce, hcv, hcl, st⟩
  · cases hv
    obtain ⟨k1, k2, k3⟩ := vx_keep h0 e1 hS hA hf hL hF
    obtain ⟨t2, a1, b1⟩ := kk u t T'.heap (locs ++ L) e1.symm (by rw [← e2]; exact X'.warmed.alike) hp hb k1 k2 k3 T' rfl X'
    exact ⟨t2, st t2 a1, b1⟩
  · obtain ⟨k1, k2, k3⟩ := vx_keep h0 e1 hS hAX hf hL hF
    obtain ⟨t2, a1, b1⟩ := kx E ce q u t T'.heap (locs ++ L) e1.symm (by rw [← e2]; exact X'.warmed.alike) hp hb k1 k2 k3 (by rw [e1]; exact hce) hcv hcl T' rfl X'
    exact ⟨t2, st.trans a1, b1⟩
/-- caught by the row x of this method's table; the rows ahead don't take it -/
theorem vx_catch {own name : String} {E : String} {ce : Cell} {q : Addr} (hown : s.vm.findClass own = some m.cls) (pre : List ExceptionTableEntry) (x : ExceptionTableEntry) (suf : List ExceptionTableEntry) (hsplit : c.exceptionTable.toList = pre ++ x :: suf)
    (hpass : ∀ z ∈ pre, covers z pc = false ∨ (z.catchType ≠ 0 ∧ ∃ nm : String, (Cond.classLink own z.catchType nm).before args s = true ∧ va_Nc E nm s)) (hx : covers x pc = true) (h0 : x.catchType ≠ 0)
    (hlink : (Cond.classLink own x.catchType name).before args s = true) (hcast : (Cond.castable E name).before args s = true) (hcell : H[q]? = some ce) (hv : ce.vm = .none) (hcl : s.vm.findClass E = some ce.cls)
    (kk : W p l e R s m args below meth c H locs cells slots Q (F0 m x.handlerPc ls [.ref q])) : vx_W p l e R s m args below meth c H locs cells slots Q (F0 m pc ls rest) q := by
  intro T hT X
  have hpl : e.platform.magicAccessors = ({} : Platform).magicAccessors := by rw [X.admits.platform]
  obtain ⟨c3, c4, hc3, hc4, hasg⟩ := Cond.castable_spec hcast
  cases Option.some.inj (hc3.symm.trans hcl)
  obtain ⟨c5, hc5, hcl5⟩ := Cond.classLink_spec hown hlink e.platform hpl
  cases Option.some.inj (hc4.symm.trans hc5)
  obtain ⟨vm', X', st⟩ := X.thenCaughtThrough q (g := F0 m pc ls rest) rfl (Steps.refl _) (by rw [hT]; exact hcell) (by rw [hv]; rfl) (by obtain ⟨k9, h9, -⟩ := Vm.findClass_spec hcl; exact ⟨k9, h9⟩) pre x suf hsplit
    (fun z hz => by
      rcases hpass z hz with h | ⟨hz0, nm, hl1, hn1⟩
      · exact Or.inl h
      · obtain ⟨c6, hc6, hcl6⟩ := Cond.classLink_spec hown hl1 e.platform hpl
        obtain ⟨a8, b8, h1, h2, h3⟩ := hn1
        cases Option.some.inj (h1.symm.trans hcl)
        cases Option.some.inj (h2.symm.trans hc6)
        exact Or.inr ⟨hz0, _, hcl6, h3⟩) hx (Or.inr ⟨h0, c4, hcl5, hasg⟩)
  obtain ⟨t, a1, b1⟩ := kk (T.setVm vm') hT X'
  exact ⟨t, st.trans a1, b1⟩
end Rows
section Ends
variable {p : Program} {l : Launch} {e : Env} {R : Room} {s : State} {m : MethodId} {args : Array Value} {below : List Frame} {meth : Method} {c : Code} {H : Heap} {locs : List Loc} {cells slots : Nat} {Q : State → Prop}
variable {mc ms : Nat} {free : Addr → Prop} {A0 A1 : Nat → Prop} {H0 : Heap} {a : Array Value} {ls : Array Slot} {st0 rest : List Value}
variable {Qc : Array Value → State → Outcome → State → Prop} {XC : String → State → State → Prop}
/-- what a body that may throw owes at its end -/
def vx_MQ (below : List Frame) (Qc : Array Value → State → Outcome → State → Prop) (XC : String → State → State → Prop) (a : Array Value) (s : State) (mc ms : Nat) (free : Addr → Prop) : State → Prop := fun t =>
  ∃ o, t.status = .running ∧ Ended t below o ∧ vx_Q Qc XC mc ms free a s o t
theorem vx_ret {g : JFrame} {mc ms : Nat} (k : W p l e R s m args below meth c H locs cells slots (MQ below Qc args s mc ms free) g) : W p l e R s m args below meth c H locs cells slots (vx_MQ below Qc XC args s mc ms free) g := by
  intro T hT X
  obtain ⟨t, a1, o, b1, b2, b3, b4⟩ := k T hT X
  exact ⟨t, a1, o, b1, b2, Or.inl ⟨b3, b4⟩⟩
/-- not caught here: it goes on to the caller -/
theorem vx_widen {g : JFrame} {q : Addr} {k n : Nat} (h1 : cells ≤ k) (h2 : slots ≤ n) (kk : vx_W p l e R s m args below meth c H locs k n Q g q) : vx_W p l e R s m args below meth c H locs cells slots Q g q := fun T hT X => kk T hT (stand_widen X h1 h2)
theorem vx_out {pc : Nat} {E : String} {ce : Cell} {q : Addr} {mc ms : Nat} (hout : ∀ x ∈ c.exceptionTable.toList, covers x pc = false) (hlocks : meth.locks = false) (hcell : H[q]? = some ce) (hv : ce.vm = .none) (hcl : s.vm.findClass E = some ce.cls)
    (hx : ∀ t : State, t.heap = H → s.vm.Alike t.vm → XC E s t) (hf : ∀ z ∈ locs, free z.base) (hc : cells ≤ mc) (hs : slots ≤ ms) :
    vx_W p l e R s m args below meth c H locs cells slots (vx_MQ below Qc XC args s mc ms free) (F0 m pc ls rest) q := by
  intro T hT X
  obtain ⟨st1, hrun, hend, hW, hsm⟩ := X.leaveThrown q (g := F0 m pc ls rest) rfl rfl rfl hout hlocks
  have hcell9 : (T.setFrames (.throwing q :: below)).heap[q]? = some ce := by
    show T.heap[q]? = some ce
    rw [hT]; exact hcell
  exact ⟨_, st1, .threw q, hrun, hend, Or.inr ⟨q, rfl, E, ce, locs, hx _ hT hW.alike, hcell9, hv, hcl, hW, hsm.mono hc hs, hf⟩⟩
theorem vx_frame {U : State} {k n : Nat} (h : s.sameButNew ({ U with vm := s.vm } : State) locs k n) : s.heap.size ≤ U.heap.size ∧ ∀ q : Nat, q < s.heap.size → (∀ z ∈ locs, z.base ≠ q) → U.heap[q]? = s.heap[q]? := by
  obtain ⟨-, h2, -, -, -, h6⟩ := h
  refine ⟨h2, fun q hq hz => ?_⟩
  obtain ⟨c9, e1, e2, e3, e4⟩ := h6 q _ (Array.getElem?_eq_getElem hq)
  have hs : c9.slots = (s.heap[q]).slots := Array.ext_getElem? fun i => e4 i fun hm => hz _ hm rfl
  have h9 : c9 = s.heap[q] := by
    rw [hs] at e2
    exact e2
  have e5 : U.heap[q]? = some c9 := e1
  rw [e5, h9, Array.getElem?_eq_getElem hq]
/-- the words of a throw but the four that speak of the heap -/
def vx_no (w : Cond) : Bool := decide (w ≠ .isRef (.static Bundle.tN "UNASSIGNED_STACK" Bundle.steD)) && decide (w ≠ .isRef (.static Bundle.tN "SUPPRESSED_SENTINEL" Bundle.listD)) && decide (w ≠ .laysStatic Bundle.tN "UNASSIGNED_STACK" Bundle.steD) && decide (w ≠ .laysStatic Bundle.tN "SUPPRESSED_SENTINEL" Bundle.listD)
def vx_at0 (own : String) (ic : Nat) (X : String) (names : List String) : List Cond := (Bundle.ownAtoms0 own ic X names).filter vx_no
def vx_atS (own : String) (ic : Nat) (X : String) (names : List String) : List Cond := (Bundle.ownAtoms own ic X names).filter vx_no
/-- a word that the tables alone decide, or a good one -/
def vx_ot (w : Cond) : Bool := w.onTables || goodWord w
theorem vx_ot_at {args a' : Array Value} {s U : State} {w : Cond} (hW : s.WarmedH U.vm) (hvm : s.vm = U.vm) (hg : vx_ot w = true) (h : w.before args s = true) : w.before a' U = true := by
  simp only [vx_ot, Bool.or_eq_true] at hg
  rcases hg with hg | hg
  · exact va_tabs hg hvm h
  · exact word_at hW (good_of_word hg) h
/-- a list's words: the good ones out of the method's own list, the others by premises of their own -/
theorem vx_hat {args : Array Value} {s : State} {L B : List Cond} (h1 : ∀ w ∈ L.filter goodWord, w.before args s = true) (h2 : ∀ w ∈ L.filter (fun w => !goodWord w), w ∈ B) (h3 : ∀ w ∈ B, w.before args s = true) : ∀ w ∈ L, w.before args s = true := by
  intro w hw
  by_cases g : goodWord w = true
  · exact h1 w (List.mem_filter.mpr ⟨hw, g⟩)
  · refine h3 w (h2 w (List.mem_filter.mpr ⟨hw, ?_⟩))
    show (!goodWord w) = true
    cases hgw : goodWord w
    · rfl
    · exact absurd hgw g
theorem vx_c {args : Array Value} {s : State} {w : Cond} {B : List Cond} (h : w.before args s = true) (t : ∀ w ∈ B, w.before args s = true) : ∀ w' ∈ w :: B, w'.before args s = true := fun w' h' => (List.mem_cons.mp h').elim (fun e => by rw [e]; exact h) (t w')
theorem vx_n {args : Array Value} {s : State} : ∀ w ∈ ([] : List Cond), w.before args s = true := fun _ h => nomatch h
theorem vx_own {args : Array Value} {s : State} {L : List Cond} (h1 : ∀ w ∈ L.filter vx_no, w.before args s = true)
    (hU : (Cond.isRef (.static Bundle.tN "UNASSIGNED_STACK" Bundle.steD)).before args s = true) (hN : (Cond.isRef (.static Bundle.tN "SUPPRESSED_SENTINEL" Bundle.listD)).before args s = true)
    (lU : (Cond.laysStatic Bundle.tN "UNASSIGNED_STACK" Bundle.steD).before args s = true) (lN : (Cond.laysStatic Bundle.tN "SUPPRESSED_SENTINEL" Bundle.listD).before args s = true) : ∀ w ∈ L, w.before args s = true := by
  intro w hw
  by_cases e1 : w = .isRef (.static Bundle.tN "UNASSIGNED_STACK" Bundle.steD)
  · rw [e1]; exact hU
  · by_cases e2 : w = .isRef (.static Bundle.tN "SUPPRESSED_SENTINEL" Bundle.listD)
    · rw [e2]; exact hN
    · by_cases e3 : w = .laysStatic Bundle.tN "UNASSIGNED_STACK" Bundle.steD
      · rw [e3]; exact lU
      · by_cases e4 : w = .laysStatic Bundle.tN "SUPPRESSED_SENTINEL" Bundle.listD
        · rw [e4]; exact lN
        · exact h1 w (List.mem_filter.mpr ⟨hw, by unfold vx_no; rw [decide_eq_true e1, decide_eq_true e2, decide_eq_true e3, decide_eq_true e4]; rfl⟩)
/-- where a static field lies, its class's statics cell in H -/
def vx_L (C n d : String) (A : Nat → Prop) (U : State) (H : Heap) : Prop := ∃ (c : ClassId) (k : Class) (i : Nat) (f : Field) (a : Nat) (cell : Cell), U.vm.findClass C = some c ∧ U.fieldFound? C n d = some (c, k, i, f) ∧ f.isStatic = true ∧ k.statics = some a ∧ H[a]? = some cell ∧ cell.vm.isStatics = true ∧ cell.cls = c ∧ f.slot < cell.slots.size ∧ k.staticTypes[f.slot]? = some f.type ∧ ¬ A a
theorem vx_L.moved {C n d : String} {A : Nat → Prop} {u U : State} {H : Heap} (hvm : u.vm.Alike U.vm) (h : vx_L C n d A u H) : vx_L C n d A U H := by
  obtain ⟨c, k, i, f, a, cell, h1, h2, h3, h4, h5, h6, h7, h8, h9, h10⟩ := h
  obtain ⟨k', hi', he⟩ := State.fieldFound?_setVm hvm h2
  exact ⟨c, k', i, f, a, cell, by rw [hvm.findClass]; exact h1, hi', h3, by rw [he]; exact h4, h5, h6, h7, h8, by rw [he]; exact h9, h10⟩
theorem vx_L.kept {C n d : String} {A : Nat → Prop} {U : State} {H H1 : Heap} (h : vx_L C n d A U H) (hq : ∀ a : Nat, a < H.size → ¬ A a → H1[a]? = H[a]?) : vx_L C n d A U H1 := by
  obtain ⟨c, k, i, f, a, cell, h1, h2, h3, h4, h5, h6, h7, h8, h9, h10⟩ := h
  exact ⟨c, k, i, f, a, cell, h1, h2, h3, h4, by rw [hq a (Array.getElem?_eq_some_iff.mp h5).1 h10]; exact h5, h6, h7, h8, h9, h10⟩
theorem vx_L.narrow {C n d : String} {A B : Nat → Prop} {U : State} {H : Heap} (h : vx_L C n d A U H) (hAB : ∀ q, B q → A q) : vx_L C n d B U H := by
  obtain ⟨c, k, i, f, a, cell, h1, h2, h3, h4, h5, h6, h7, h8, h9, h10⟩ := h
  exact ⟨c, k, i, f, a, cell, h1, h2, h3, h4, h5, h6, h7, h8, h9, fun z => h10 (hAB _ z)⟩
theorem vx_L.word {C n d : String} {A : Nat → Prop} {s : State} {args : Array Value} (h : vx_L C n d A s s.heap) : (Cond.laysStatic C n d).before args s = true := by
  obtain ⟨c, k, i, f, a, cell, h1, h2, h3, h4, h5, h6, h7, h8, h9, -⟩ := h
  show (Cond.laysStatic C n d).holds args s none s [] = true
  exact Cond.laysStatic_of h1 h2 h3 h4 h5 h6 h7 h8 h9
/-- .. and what it holds: null or some reference -/
def vx_Zq (C n d : String) (A : Nat → Prop) (U : State) (H : Heap) : Prop := va_Zq C n d A U H ∧ vx_L C n d A U H
theorem vx_Zq.moved {C n d : String} {A : Nat → Prop} {u U : State} {H : Heap} (hvm : u.vm.Alike U.vm) (h : vx_Zq C n d A u H) : vx_Zq C n d A U H := ⟨va_Zq.moved hvm h.1, vx_L.moved hvm h.2⟩
theorem vx_Zq.kept {C n d : String} {A : Nat → Prop} {U : State} {H H1 : Heap} (h : vx_Zq C n d A U H) (hq : ∀ a : Nat, a < H.size → ¬ A a → H1[a]? = H[a]?) : vx_Zq C n d A U H1 := ⟨va_Zq.kept h.1 hq, vx_L.kept h.2 hq⟩
theorem vx_Zq.narrow {C n d : String} {A B : Nat → Prop} {U : State} {H : Heap} (h : vx_Zq C n d A U H) (hAB : ∀ q, B q → A q) : vx_Zq C n d B U H := ⟨va_Zq.narrow h.1 hAB, vx_L.narrow h.2 hAB⟩
theorem vx_Zqof {args : Array Value} {s : State} {C n d : String} {A : Nat → Prop} (hl : (Cond.laysStatic C n d).before args s = true) (hini : (Cond.initialized C).before args s = true) (h : (Cond.isRef (.static C n d)).before args s = true) (hA : ∀ a : Nat, a < s.heap.size → ¬ A a) : vx_Zq C n d A s s.heap := by
  refine ⟨va_Zqof hl hini h hA, ?_⟩
  obtain ⟨c, k, i, f, a, cell, h1, h2, h3, h4, h5, h6, h7, h8, h9⟩ := Cond.laysStatic_spec hl
  exact ⟨c, k, i, f, a, cell, h1, h2, h3, h4, h5, h6, h7, h8, h9, hA a (Array.getElem?_eq_some_iff.mp h5).1⟩
theorem vx_isRef {C n d : String} {v : Value} {A : Nat → Prop} {s : State} {args : Array Value} (h : va_Z C n d v A s s.heap) (hv : v.isRef = true) : (Cond.isRef (.static C n d)).before args s = true := by
  obtain ⟨cf, kf, fi, f, a, cell, h1, h2, h3, h4, h5, h6, h7, -⟩ := h
  have he : (Term.static C n d).eval args s none [] s = some v := by
    simp [Term.eval, State.fieldNamed?, h1, h2, h4, h5, h6, h7]
  simp only [Cond.before, Cond.holds, Cond.value, he]
  cases v <;> simp_all [Value.isRef]
theorem vx_isRefq {C n d : String} {A : Nat → Prop} {s : State} {args : Array Value} (h : va_Zq C n d A s s.heap) : (Cond.isRef (.static C n d)).before args s = true := by
  rcases h with h | ⟨t, h⟩
  · exact vx_isRef h rfl
  · exact vx_isRef h rfl
/-- the same frame, seen from here: as if the method were called anew in this heap -/
theorem vx_rebase {T : State} (X : Stand p l e R s m args below meth c T locs cells slots) {R' : Room} (hf : R'.frames ≤ R.frames) (hl : R'.locals ≤ R.locals) (hc : cells + R'.cells ≤ R.cells) (hs : slots + R'.slots ≤ R.slots) :
    Stand p l e R' ((T.setVm s.vm).setFrames (.invoking m args :: below)) m args below meth c T [] 0 0 := by
  have htop : (T.setVm s.vm).topJava?.isSome := X.here.top
  have hF : ((T.setVm s.vm).setFrames (.invoking m args :: below)).frames = .invoking m args :: below := State.frames_setFrames _ (State.cur_lt_of_top htop)
  obtain ⟨g₀, hg0⟩ := Option.isSome_iff_exists.mp htop
  obtain ⟨r, hr⟩ := State.topJava?_eq_some.mp hg0
  have hl9 : e.platform.stackLimits (T.setVm s.vm).me = e.platform.stackLimits s.me := X.limits
  have hb9 : (T.setVm s.vm).me.stackBytes = s.me.stackBytes := X.bytes
  refine ⟨X.admits, X.cas, X.clock, hF, ?_, X.hears, X.method, X.code, X.here, X.tail, X.warmed, ?_, ?_, ?_⟩
  · have h := X.room
    have hU : ((T.setVm s.vm).setFrames (.invoking m args :: below)).localsInUse = s.localsInUse := by
      rw [State.localsInUse_invoking hF (meth := meth) (c := c) X.method X.code, State.localsInUse_invoking X.frames X.method X.code]
    simp only [State.hasRoom, Bool.and_eq_true, decide_eq_true_eq] at h ⊢
    obtain ⟨⟨⟨⟨h1, h2, h3, h4, h5, h6⟩, h7⟩, h8⟩, h9⟩ := h
    rw [X.frames, List.length_cons] at h2 h3
    have q1 := X.heapSize
    have q2 := X.used
    simp only [hF, hU, List.length_cons, State.stackLimits_setFrames, State.stackBytes_setFrames, hl9, hb9]
    refine ⟨⟨⟨⟨by omega, by omega, by omega, by omega, by omega, h6⟩, ?_⟩, ?_⟩, X.book⟩
    · show T.heap.size + R'.cells ≤ e.platform.maxCells
      omega
    · show T.slotsUsed + R'.slots ≤ e.platform.maxSlots
      omega
  · rw [State.stackLimits_setFrames]; rfl
  · rw [State.stackBytes_setFrames]; rfl
  · refine ⟨?_, Nat.le_refl _, Nat.le_refl _, ?_, ?_, fun a c9 h9 => ⟨c9, h9, rfl, rfl, fun _ _ => rfl⟩⟩
    · obtain ⟨t, ht, -⟩ := State.frames_cons hr
      show T.setVm s.vm = { ((T.setVm s.vm).setFrames (.invoking m args :: below)).setFrames (T.setVm s.vm).frames with heap := T.heap, slotsUsed := T.slotsUsed }
      rw [State.setFrames_setFrames, State.setFrames_self ht]
      rfl
    · show T.slotsUsed = T.slotsUsed + ((T.heap.toList.drop T.heap.size).map (·.slots.size)).sum
      rw [List.drop_eq_nil_of_le (Nat.le_of_eq Array.length_toList)]
      rfl
    · show ((T.heap.toList.drop T.heap.size).map (·.slots.size)).sum ≤ 0
      rw [List.drop_eq_nil_of_le (Nat.le_of_eq Array.length_toList)]
      exact Nat.le_refl _
/-- 'throw new E()': new; dup; invokespecial; athrow -/
theorem vx_throw0 {cc : ByteArray} {pc : Nat} (hexec : p.tables.exec = Jvm.exec) (hb : c.code = cc) (hl : l.stackTraces = false) {own cls : String} {names : List String} {ik ic mc ms : Nat} {A : Nat → Prop}
    (hown : s.vm.findClass own = some m.cls) (hcls : Bundle.fit cls = true) (hnames : ∀ n ∈ names, Bundle.fit n = true)
    (hk : (Cond.classLink own ik cls).before args s = true) (hini : (Cond.initialized cls).before args s = true) (hat : ∀ w ∈ vx_at0 own ic cls names, w.before args s = true)
    (hgood : ∀ w ∈ Cond.classLink own ik cls :: Cond.initialized cls :: vx_at0 own ic cls names, vx_ot w = true)
    (hU : vx_Zq Bundle.tN "UNASSIGNED_STACK" Bundle.steD A s s.heap) (hN : vx_Zq Bundle.tN "SUPPRESSED_SENTINEL" Bundle.listD A s s.heap) (hS : va_S A s.heap H locs) (hsize : ls.size = c.maxLocals)
    (d0 : decode cc pc = .ok (.new ik, 3)) (d3 : decode cc (pc + 3) = .ok (.dup, 1)) (d4 : decode cc (pc + 4) = .ok (.invokespecial ic, 3)) (d7 : decode cc (pc + 7) = .ok (.athrow, 1))
    (hout : ∀ x ∈ c.exceptionTable.toList, covers x (pc + 7) = false)
    (hRframes : names.length + 3 < R.frames) (hRlocals : (rest.map fun v => v.category).sum + (13 * (names.length + 1) + 42) ≤ R.locals) (hRcells : cells + 1 ≤ R.cells) (hRslots : slots + 6 ≤ R.slots) (hlocks : meth.locks = false)
    (hx : ∀ t : State, s.vm.Alike t.vm → H.size ≤ t.heap.size → (∀ q : Nat, q < H.size → t.heap[q]? = H[q]?) → XC cls s t)
    (hf : ∀ z ∈ locs, free z.base) (hc : cells + 1 ≤ mc) (hs : slots + 6 ≤ ms) :
    W p l e R s m args below meth c H locs cells slots (vx_MQ below Qc XC args s mc ms free) (F0 m pc ls rest) := by
  intro T hT X
  have htr : e.platform.stackTraces = false := (show e.platform.stackTraces = l.stackTraces by rw [X.admits.platform]).trans hl
  have Y := vx_rebase X (R' := { frames := R.frames, locals := R.locals, cells := 1, slots := 6 }) (Nat.le_refl _) (Nat.le_refl _) hRcells hRslots
  obtain ⟨s', hA⟩ : ∃ z, z = (T.setVm s.vm).setFrames (.invoking m args :: below) := ⟨_, rfl⟩
  rw [← hA] at Y
  have hvm : s'.vm = s.vm := by rw [hA]; rfl
  have hhp : s'.heap = H := by rw [hA]; exact hT
  have hW0 : s.WarmedH s'.vm := by rw [hvm]; exact State.WarmedH.refl s
  have hat' : ∀ w ∈ vx_at0 own ic cls names, w.before args s' = true := fun w hw => vx_ot_at hW0 hvm.symm (hgood w (List.mem_cons_of_mem _ (List.mem_cons_of_mem _ hw))) (hat w hw)
  have hk' : (Cond.classLink own ik cls).before args s' = true := vx_ot_at hW0 hvm.symm (hgood _ List.mem_cons_self) hk
  have hini' : (Cond.initialized cls).before args s' = true := vx_ot_at hW0 hvm.symm (hgood _ (List.mem_cons_of_mem _ List.mem_cons_self)) hini
  have hU' : vx_Zq Bundle.tN "UNASSIGNED_STACK" Bundle.steD A s' s'.heap := by rw [hhp]; exact vx_Zq.moved hW0.alike (hU.kept hS.2.1)
  have hN' : vx_Zq Bundle.tN "SUPPRESSED_SENTINEL" Bundle.listD A s' s'.heap := by rw [hhp]; exact vx_Zq.moved hW0.alike (hN.kept hS.2.1)
  have h : ∀ w ∈ Bundle.ownAtoms0 own ic cls names, w.before args s' = true := vx_own hat' (vx_isRefq hU'.1) (vx_isRefq hN'.1) hU'.2.word hN'.2.word
  have hown' : s'.vm.findClass own = some m.cls := by rw [hvm]; exact hown
  have hins : (Cond.instantiable cls 6).before args s' = true := h _ (by simp [Bundle.ownAtoms0])
  obtain ⟨vm₁, cX, kX, hfX, hkX, -, -, X₁, st1⟩ := Y.newCold hexec (own := own) (C := cls) (index := ik) (n := 6) hown' hk' hins hini'
    (g := F0 m pc ls rest) rfl (by rw [hb]; exact d0) (Nat.le_refl _) (Nat.le_refl _)
  generalize hT1 : (T.setVm vm₁).pushCell { cls := cX, slots := kX.instanceTypes.map defaultValue, vm := .none } = T1 at X₁ st1
  have hcat : (Value.ref T.heap.size).category = 1 := rfl
  have hcellA : T1.heap[T.heap.size]? = some (freshCell cX kX) := by rw [← hT1]; exact State.heap_pushCell_size _ _
  have d3' : decode c.code (pc + 3) = .ok (.dup, 1) := by rw [hb]; exact d3
  obtain ⟨U, hsteps, hrun, hend, hW, hsame, ce, hce, hO⟩ := X₁.ctorThrow0 hexec htr (own := own) (cls := cls) (names := names) (ic := ic) hown' hcls hnames h (fun x hx => nomatch hx) hfX hkX hcellA (by rw [hhp, hT]; exact Nat.le_refl _)
    (g := { method := m, pc := pc + 4, locals := ls, stack := .ref T.heap.size :: .ref T.heap.size :: rest, locked := none }) rfl hsize rfl rfl (rest := rest) rfl
    (by rw [hb]; exact d4) (by rw [hb]; exact d7) hout hRframes (by simp only [List.map_cons, List.sum_cons, hcat]; omega) hlocks
  obtain ⟨f1, f2⟩ := vx_frame hsame
  rw [hhp] at f1 f2
  have hWs : s.WarmedH U.vm := State.WarmedH.trans hW0 hW
  have hcl : s.vm.findClass cls = some ce.cls := by
    have h9 := hO.cls
    rw [hvm] at h9
    exact h9
  have hall : s.sameButNew ({ U with vm := s.vm } : State) locs mc ms := by
    subst hA
    obtain ⟨e1, e2⟩ := hsame
    rw [State.setFrames_setFrames] at e1
    have h2 : (T.setVm s.vm).sameButNew ({ U with vm := s.vm } : State) [] (0 + 1) (0 + 6) := ⟨e1, e2⟩
    have h3 := X.same.trans h2
    rw [List.append_nil] at h3
    exact h3.mono hc hs
  refine ⟨U, ?_, .threw T.heap.size, hrun, hend, Or.inr ⟨T.heap.size, rfl, cls, ce, locs, hx U hWs.alike f1 (fun q hq => f2 q hq (fun z hz => nomatch hz)), hce, hO.vm, hcl, hWs, hall, hf⟩⟩
  refine st1 _ ?_
  show Steps p.tables e below (T1.setTop { method := m, pc := pc + 3, locals := ls, stack := .ref T.heap.size :: rest, locked := none }) _
  jvm_step X₁.here [X₁.here.top, hexec, d3', Value.category]
  exact hsteps
/-- 'throw new E("text")': new; dup; ldc; invokespecial; athrow -/
theorem vx_throwS {cc : ByteArray} {pc : Nat} (hexec : p.tables.exec = Jvm.exec) (hb : c.code = cc) (hl : l.stackTraces = false) {own cls text : String} {names : List String} {ik is ic mc ms sa : Nat} {A : Nat → Prop}
    (hown : s.vm.findClass own = some m.cls) (hcls : Bundle.fit cls = true) (hnames : ∀ n ∈ names, Bundle.fit n = true)
    (hk : (Cond.classLink own ik cls).before args s = true) (hini : (Cond.initialized cls).before args s = true) (hstr : vk_R own is text sa s) (hat : ∀ w ∈ vx_atS own ic cls names, w.before args s = true)
    (hgood : ∀ w ∈ Cond.classLink own ik cls :: Cond.initialized cls :: vx_atS own ic cls names, vx_ot w = true)
    (hU : vx_Zq Bundle.tN "UNASSIGNED_STACK" Bundle.steD A s s.heap) (hN : vx_Zq Bundle.tN "SUPPRESSED_SENTINEL" Bundle.listD A s s.heap) (hS : va_S A s.heap H locs) (hsize : ls.size = c.maxLocals)
    (d0 : decode cc pc = .ok (.new ik, 3)) (d3 : decode cc (pc + 3) = .ok (.dup, 1)) (d4 : decode cc (pc + 4) = .ok (.ldc is, 2)) (d6 : decode cc (pc + 6) = .ok (.invokespecial ic, 3)) (d9 : decode cc (pc + 9) = .ok (.athrow, 1))
    (hout : ∀ x ∈ c.exceptionTable.toList, covers x (pc + 9) = false)
    (hRframes : names.length + 3 < R.frames) (hRlocals : (rest.map fun v => v.category).sum + (13 * (names.length + 1) + 43) ≤ R.locals) (hRcells : cells + 1 ≤ R.cells) (hRslots : slots + 6 ≤ R.slots) (hlocks : meth.locks = false)
    (hx : ∀ t : State, s.vm.Alike t.vm → H.size ≤ t.heap.size → (∀ q : Nat, q < H.size → t.heap[q]? = H[q]?) → XC cls s t)
    (hf : ∀ z ∈ locs, free z.base) (hc : cells + 1 ≤ mc) (hs : slots + 6 ≤ ms) :
    W p l e R s m args below meth c H locs cells slots (vx_MQ below Qc XC args s mc ms free) (F0 m pc ls rest) := by
  intro T hT X
  have htr : e.platform.stackTraces = false := (show e.platform.stackTraces = l.stackTraces by rw [X.admits.platform]).trans hl
  have Y := vx_rebase X (R' := { frames := R.frames, locals := R.locals, cells := 1, slots := 6 }) (Nat.le_refl _) (Nat.le_refl _) hRcells hRslots
  obtain ⟨s', hA⟩ : ∃ z, z = (T.setVm s.vm).setFrames (.invoking m args :: below) := ⟨_, rfl⟩
  rw [← hA] at Y
  have hvm : s'.vm = s.vm := by rw [hA]; rfl
  have hhp : s'.heap = H := by rw [hA]; exact hT
  have hW0 : s.WarmedH s'.vm := by rw [hvm]; exact State.WarmedH.refl s
  have hat' : ∀ w ∈ vx_atS own ic cls names, w.before args s' = true := fun w hw => vx_ot_at hW0 hvm.symm (hgood w (List.mem_cons_of_mem _ (List.mem_cons_of_mem _ hw))) (hat w hw)
  have hk' : (Cond.classLink own ik cls).before args s' = true := vx_ot_at hW0 hvm.symm (hgood _ List.mem_cons_self) hk
  have hini' : (Cond.initialized cls).before args s' = true := vx_ot_at hW0 hvm.symm (hgood _ (List.mem_cons_of_mem _ List.mem_cons_self)) hini
  have hU' : vx_Zq Bundle.tN "UNASSIGNED_STACK" Bundle.steD A s' s'.heap := by rw [hhp]; exact vx_Zq.moved hW0.alike (hU.kept hS.2.1)
  have hN' : vx_Zq Bundle.tN "SUPPRESSED_SENTINEL" Bundle.listD A s' s'.heap := by rw [hhp]; exact vx_Zq.moved hW0.alike (hN.kept hS.2.1)
  have h : ∀ w ∈ Bundle.ownAtoms own ic cls names, w.before args s' = true := vx_own hat' (vx_isRefq hU'.1) (vx_isRefq hN'.1) hU'.2.word hN'.2.word
  have hown' : s'.vm.findClass own = some m.cls := by rw [hvm]; exact hown
  have hins : (Cond.instantiable cls 6).before args s' = true := h _ (by simp [Bundle.ownAtoms])
  obtain ⟨vm₁, cX, kX, hfX, hkX, -, -, X₁, st1⟩ := Y.newCold hexec (own := own) (C := cls) (index := ik) (n := 6) hown' hk' hins hini'
    (g := F0 m pc ls rest) rfl (by rw [hb]; exact d0) (Nat.le_refl _) (Nat.le_refl _)
  generalize hT1 : (T.setVm vm₁).pushCell { cls := cX, slots := kX.instanceTypes.map defaultValue, vm := .none } = T1 at X₁ st1
  have hcat : (Value.ref T.heap.size).category = 1 := rfl
  have hcellA : T1.heap[T.heap.size]? = some (freshCell cX kX) := by rw [← hT1]; exact State.heap_pushCell_size _ _
  have d3' : decode c.code (pc + 3) = .ok (.dup, 1) := by rw [hb]; exact d3
  have d4' : decode c.code (pc + 4) = .ok (.ldc is, 2) := by rw [hb]; exact d4
  have hstr' : vk_R own is text sa s' := vk_R.warm hW0 hstr
  obtain ⟨U, hsteps, hrun, hend, hW, hsame, ce, hce, hO⟩ := X₁.ctorThrowS hexec htr (own := own) (cls := cls) (names := names) (ic := ic) hown' hcls hnames h (fun x hx => nomatch hx) hfX hkX hcellA (by rw [hhp, hT]; exact Nat.le_refl _) (msg := .ref sa) rfl
    (g := { method := m, pc := pc + 6, locals := ls, stack := .ref sa :: .ref T.heap.size :: .ref T.heap.size :: rest, locked := none }) rfl hsize rfl rfl (rest := rest) rfl
    (by rw [hb]; exact d6) (by rw [hb]; exact d9) hout hRframes (by simp only [List.map_cons, List.sum_cons, hcat]; omega) hlocks
  obtain ⟨f1, f2⟩ := vx_frame hsame
  rw [hhp] at f1 f2
  have hWs : s.WarmedH U.vm := State.WarmedH.trans hW0 hW
  have hcl : s.vm.findClass cls = some ce.cls := by
    have h9 := hO.cls
    rw [hvm] at h9
    exact h9
  have hall : s.sameButNew ({ U with vm := s.vm } : State) locs mc ms := by
    subst hA
    obtain ⟨e1, e2⟩ := hsame
    rw [State.setFrames_setFrames] at e1
    have h2 : (T.setVm s.vm).sameButNew ({ U with vm := s.vm } : State) [] (0 + 1) (0 + 6) := ⟨e1, e2⟩
    have h3 := X.same.trans h2
    rw [List.append_nil] at h3
    exact h3.mono hc hs
  refine ⟨U, ?_, .threw T.heap.size, hrun, hend, Or.inr ⟨T.heap.size, rfl, cls, ce, locs, hx U hWs.alike f1 (fun q hq => f2 q hq (fun z hz => nomatch hz)), hce, hO.vm, hcl, hWs, hall, hf⟩⟩
  refine st1 _ ?_
  show Steps p.tables e below (T1.setTop { method := m, pc := pc + 3, locals := ls, stack := .ref T.heap.size :: rest, locked := none }) _
  jvm_step X₁.here [X₁.here.top, hexec, d3', Value.category]
  exact X₁.ldcString hexec (own := own) (text := text) (index := is) (a := sa) hown' hstr'.1 hstr'.2
    (g := { method := m, pc := pc + 4, locals := ls, stack := .ref T.heap.size :: .ref T.heap.size :: rest, locked := none }) rfl d4' _ hsteps
/-- 'throw new E("text")', the text by a wide index -/
theorem vx_throwSW {cc : ByteArray} {pc : Nat} (hexec : p.tables.exec = Jvm.exec) (hb : c.code = cc) (hl : l.stackTraces = false) {own cls text : String} {names : List String} {ik is ic mc ms sa : Nat} {A : Nat → Prop}
    (hown : s.vm.findClass own = some m.cls) (hcls : Bundle.fit cls = true) (hnames : ∀ n ∈ names, Bundle.fit n = true)
    (hk : (Cond.classLink own ik cls).before args s = true) (hini : (Cond.initialized cls).before args s = true) (hstr : vk_R own is text sa s) (hat : ∀ w ∈ vx_atS own ic cls names, w.before args s = true)
    (hgood : ∀ w ∈ Cond.classLink own ik cls :: Cond.initialized cls :: vx_atS own ic cls names, vx_ot w = true)
    (hU : vx_Zq Bundle.tN "UNASSIGNED_STACK" Bundle.steD A s s.heap) (hN : vx_Zq Bundle.tN "SUPPRESSED_SENTINEL" Bundle.listD A s s.heap) (hS : va_S A s.heap H locs) (hsize : ls.size = c.maxLocals)
    (d0 : decode cc pc = .ok (.new ik, 3)) (d3 : decode cc (pc + 3) = .ok (.dup, 1)) (d4 : decode cc (pc + 4) = .ok (.ldc_w is, 3)) (d7 : decode cc (pc + 7) = .ok (.invokespecial ic, 3)) (d10 : decode cc (pc + 10) = .ok (.athrow, 1))
    (hout : ∀ x ∈ c.exceptionTable.toList, covers x (pc + 10) = false)
    (hRframes : names.length + 3 < R.frames) (hRlocals : (rest.map fun v => v.category).sum + (13 * (names.length + 1) + 43) ≤ R.locals) (hRcells : cells + 1 ≤ R.cells) (hRslots : slots + 6 ≤ R.slots) (hlocks : meth.locks = false)
    (hx : ∀ t : State, s.vm.Alike t.vm → H.size ≤ t.heap.size → (∀ q : Nat, q < H.size → t.heap[q]? = H[q]?) → XC cls s t)
    (hf : ∀ z ∈ locs, free z.base) (hc : cells + 1 ≤ mc) (hs : slots + 6 ≤ ms) :
    W p l e R s m args below meth c H locs cells slots (vx_MQ below Qc XC args s mc ms free) (F0 m pc ls rest) := by
  intro T hT X
  have htr : e.platform.stackTraces = false := (show e.platform.stackTraces = l.stackTraces by rw [X.admits.platform]).trans hl
  have Y := vx_rebase X (R' := { frames := R.frames, locals := R.locals, cells := 1, slots := 6 }) (Nat.le_refl _) (Nat.le_refl _) hRcells hRslots
  obtain ⟨s', hA⟩ : ∃ z, z = (T.setVm s.vm).setFrames (.invoking m args :: below) := ⟨_, rfl⟩
  rw [← hA] at Y
  have hvm : s'.vm = s.vm := by rw [hA]; rfl
  have hhp : s'.heap = H := by rw [hA]; exact hT
  have hW0 : s.WarmedH s'.vm := by rw [hvm]; exact State.WarmedH.refl s
  have hat' : ∀ w ∈ vx_atS own ic cls names, w.before args s' = true := fun w hw => vx_ot_at hW0 hvm.symm (hgood w (List.mem_cons_of_mem _ (List.mem_cons_of_mem _ hw))) (hat w hw)
  have hk' : (Cond.classLink own ik cls).before args s' = true := vx_ot_at hW0 hvm.symm (hgood _ List.mem_cons_self) hk
  have hini' : (Cond.initialized cls).before args s' = true := vx_ot_at hW0 hvm.symm (hgood _ (List.mem_cons_of_mem _ List.mem_cons_self)) hini
  have hU' : vx_Zq Bundle.tN "UNASSIGNED_STACK" Bundle.steD A s' s'.heap := by rw [hhp]; exact vx_Zq.moved hW0.alike (hU.kept hS.2.1)
  have hN' : vx_Zq Bundle.tN "SUPPRESSED_SENTINEL" Bundle.listD A s' s'.heap := by rw [hhp]; exact vx_Zq.moved hW0.alike (hN.kept hS.2.1)
  have h : ∀ w ∈ Bundle.ownAtoms own ic cls names, w.before args s' = true := vx_own hat' (vx_isRefq hU'.1) (vx_isRefq hN'.1) hU'.2.word hN'.2.word
  have hown' : s'.vm.findClass own = some m.cls := by rw [hvm]; exact hown
  have hins : (Cond.instantiable cls 6).before args s' = true := h _ (by simp [Bundle.ownAtoms])
  obtain ⟨vm₁, cX, kX, hfX, hkX, -, -, X₁, st1⟩ := Y.newCold hexec (own := own) (C := cls) (index := ik) (n := 6) hown' hk' hins hini'
    (g := F0 m pc ls rest) rfl (by rw [hb]; exact d0) (Nat.le_refl _) (Nat.le_refl _)
  generalize hT1 : (T.setVm vm₁).pushCell { cls := cX, slots := kX.instanceTypes.map defaultValue, vm := .none } = T1 at X₁ st1
  have hcat : (Value.ref T.heap.size).category = 1 := rfl
  have hcellA : T1.heap[T.heap.size]? = some (freshCell cX kX) := by rw [← hT1]; exact State.heap_pushCell_size _ _
  have d3' : decode c.code (pc + 3) = .ok (.dup, 1) := by rw [hb]; exact d3
  have d4' : decode c.code (pc + 4) = .ok (.ldc_w is, 3) := by rw [hb]; exact d4
  have hstr' : vk_R own is text sa s' := vk_R.warm hW0 hstr
  obtain ⟨U, hsteps, hrun, hend, hW, hsame, ce, hce, hO⟩ := X₁.ctorThrowS hexec htr (own := own) (cls := cls) (names := names) (ic := ic) hown' hcls hnames h (fun x hx => nomatch hx) hfX hkX hcellA (by rw [hhp, hT]; exact Nat.le_refl _) (msg := .ref sa) rfl
    (g := { method := m, pc := pc + 7, locals := ls, stack := .ref sa :: .ref T.heap.size :: .ref T.heap.size :: rest, locked := none }) rfl hsize rfl rfl (rest := rest) rfl
    (by rw [hb]; exact d7) (by rw [hb]; exact d10) hout hRframes (by simp only [List.map_cons, List.sum_cons, hcat]; omega) hlocks
  obtain ⟨f1, f2⟩ := vx_frame hsame
  rw [hhp] at f1 f2
  have hWs : s.WarmedH U.vm := State.WarmedH.trans hW0 hW
  have hcl : s.vm.findClass cls = some ce.cls := by
    have h9 := hO.cls
    rw [hvm] at h9
    exact h9
  have hall : s.sameButNew ({ U with vm := s.vm } : State) locs mc ms := by
    subst hA
    obtain ⟨e1, e2⟩ := hsame
    rw [State.setFrames_setFrames] at e1
    have h2 : (T.setVm s.vm).sameButNew ({ U with vm := s.vm } : State) [] (0 + 1) (0 + 6) := ⟨e1, e2⟩
    have h3 := X.same.trans h2
    rw [List.append_nil] at h3
    exact h3.mono hc hs
  refine ⟨U, ?_, .threw T.heap.size, hrun, hend, Or.inr ⟨T.heap.size, rfl, cls, ce, locs, hx U hWs.alike f1 (fun q hq => f2 q hq (fun z hz => nomatch hz)), hce, hO.vm, hcl, hWs, hall, hf⟩⟩
  refine st1 _ ?_
  show Steps p.tables e below (T1.setTop { method := m, pc := pc + 3, locals := ls, stack := .ref T.heap.size :: rest, locked := none }) _
  jvm_step X₁.here [X₁.here.top, hexec, d3', Value.category]
  exact X₁.ldcStringW hexec (own := own) (text := text) (index := is) (a := sa) hown' hstr'.1 hstr'.2
    (g := { method := m, pc := pc + 4, locals := ls, stack := .ref T.heap.size :: .ref T.heap.size :: rest, locked := none }) rfl d4' _ hsteps
end Ends
section Bodies
variable {l : Launch}
theorem vx_ofW {y : MethodName} {ws ws' : List Cond} {rm : Room} {Pc : Array Value → State → Prop} {Qc : Array Value → State → Outcome → State → Prop} {XC : String → State → State → Prop} {mc ms : Nat} {free : Addr → Prop} {cc : ByteArray} {maxL : Nat} {ret : Option FieldType}
    (hy : plainName y.cls = true) (hw : ws = Cond.code y cc maxL ret :: ws')
    (body : ∀ p e s m args below meth c s₁, BodyLoose p l y (headSpec ws rm) cc maxL ret e s m args below meth c s₁ → c.maxLocals = maxL → (∀ x ∈ c.exceptionTable.toList, False) → Pc args s →
      W p l e (headSpec ws rm).room s m args below meth c s.heap [] 0 0 (vx_MQ below Qc XC args s mc ms free) (entryFrame m args maxL)) : vx_Met l y ws rm Pc Qc XC mc ms free := by
  refine MetFree.of_bodyS (code := cc) (maxLocals := maxL) (ret := ret) hy ?_ ?_
  · intro args s m h hn
    obtain ⟨meth, c, h1, h2, h3, h4, h5, h6, -, -⟩ := Cond.code_spec hn (atoms_spec (ws := ws) h _ (by rw [hw]; exact List.mem_cons_self))
    exact ⟨meth, c, h1, h2, h3, h4, h5, h6⟩
  · intro p e s m args below meth c s₁ B hml hP _
    have hh0 : s₁.heap = s.heap := by rw [B.state]; rfl
    have ht : ∀ x ∈ c.exceptionTable.toList, False := by
      obtain ⟨meth9, c9, h1, h2, -, -, -, -, h7, -⟩ := Cond.code_spec B.named (atoms_spec (ws := ws) B.pre _ (by rw [hw]; exact List.mem_cons_self))
      cases Option.some.inj (h1.symm.trans B.method)
      cases Option.some.inj (h2.symm.trans (Stand.of_body B).code)
      intro x hx
      rw [Array.isEmpty_iff.mp h7] at hx
      cases hx
    obtain ⟨t, a1, o, b1, b2, b3⟩ := body p e s m args below meth c s₁ B hml ht hP s₁ hh0 (Stand.of_body B)
    exact ⟨t, o, a1, b1, b2, b3⟩
/-- the table of a body with handlers -/
theorem vx_table {p : Program} {x y : MethodName} {S : Spec} {cc bytes : ByteArray} {maxL maxL' : Nat} {ret ret' : Option FieldType} {e : Env} {s s₁ : State} {m : MethodId} {args : Array Value} {below : List Frame} {meth : Method} {c : Code} {hh : List (Nat × Nat × Nat × Nat)}
    (B : BodyLoose p l y S cc maxL ret e s m args below meth c s₁) (h : (Cond.codeWith y bytes maxL' ret' hh).before args s = true) : c.exceptionTable.toList = tableOf hh := by
  obtain ⟨m9, meth9, c9, hn9, h1, h2, -, -, h6, -⟩ := Cond.codeWith_spec h
  cases Option.some.inj (hn9.symm.trans B.named)
  cases Option.some.inj (h1.symm.trans B.method)
  cases Option.some.inj (h2.symm.trans (Stand.of_body B).code)
  rw [← h6, table_eq]
end Bodies
end VXA
/-! ===== END ===== -/
/-! ===== BEGIN a static call of a method with an exception table ===== -/
section VXS
variable {p : Program} {l : Launch} {e : Env} {R : Room} {s : State} {m : MethodId} {args : Array Value} {below : List Frame} {meth : Method} {c : Code} {T : State} {H : Heap} {locs : List Loc} {cells slots : Nat}
abbrev vx_CSW (R : Room) (s : State) (args : Array Value) (own : String) (index : Nat) (y : MethodName) (bytes : ByteArray) (maxL : Nat) (ret : Option FieldType) (hh : List (Nat × Nat × Nat × Nat)) (ws : List Cond) (rm : Room) (mc ms n : Nat) : Prop :=
  (rm.cells = mc ∧ rm.slots = ms ∧ rm.frames + 1 ≤ R.frames ∧ 8 + (maxL + 11) + rm.locals ≤ R.locals ∧ (∀ w ∈ ws, ∀ (a' : Array Value) (U : State), s.WarmedH U.vm → w.before a' U = true) ∧ Cond.codeWith y bytes maxL ret hh ∈ ws) ∧
  (Cond.codeWith y bytes maxL ret hh).before args s = true ∧ (Cond.initialized y.cls).before args s = true ∧ (y.cls ≠ "java/lang/invoke/MethodHandle" ∧ y.cls ≠ "java/lang/invoke/VarHandle") ∧
  (∀ sig, parseMethodDescriptor y.desc = some sig → n = sig.parameters.length) ∧ (Cond.methodLink own index y).before args s = true ∧ (Cond.static y).before args s = true
theorem vx_cwSW {own : String} {index maxL mc ms : Nat} {y : MethodName} {bytes : ByteArray} {ret : Option FieldType} {hh : List (Nat × Nat × Nat × Nat)} {Ts ws ws' : List Cond} {rm : Room} (n : Nat) (ht : ∀ w ∈ Ts, w.before args s = true) (hT : GoodIn Ts (va_wsS own index y ws)) (hw : ws = Cond.codeWith y bytes maxL ret hh :: ws') (hrc : rm.cells = mc) (hrs : rm.slots = ms)
    (hd : y.cls ≠ "java/lang/invoke/MethodHandle" ∧ y.cls ≠ "java/lang/invoke/VarHandle" ∧ (parseMethodDescriptor y.desc).map (fun d => d.parameters.length) = some n) (hR : rm.frames + 1 ≤ R.frames ∧ 8 + (maxL + 11) + rm.locals ≤ R.locals) :
    vx_CSW R s args own index y bytes maxL ret hh ws rm mc ms n := by
  have ok : ∀ w ∈ va_wsS own index y ws, w.before args s = true := fun w h => ht w (hT w h).1
  have hG : GoodIn Ts ws := fun w h => hT w (by unfold va_wsS; exact List.mem_append_right _ h)
  have hc : Cond.codeWith y bytes maxL ret hh ∈ ws := by rw [hw]; exact List.mem_cons_self
  refine ⟨⟨hrc, hrs, hR.1, hR.2, pay_in ht hG, hc⟩, ht _ (hG _ hc).1, ok _ (by simp [va_wsS]), ⟨hd.1, hd.2.1⟩, fun sig h => ?_, ok _ (by simp [va_wsS]), ok _ (by simp [va_wsS])⟩
  have h2 := hd.2.2
  rw [h] at h2
  exact (Option.some.inj h2).symm
theorem vx_callSW (X : Stand p l e R s m args below meth c T locs cells slots) (hexec : p.tables.exec = Jvm.exec) {own : String} {index : Nat} {y : MethodName} {bytes : ByteArray} {maxL : Nat} {ret : Option FieldType} {hh : List (Nat × Nat × Nat × Nat)}
    (hown : s.vm.findClass own = some m.cls) (hlink : (Cond.methodLink own index y).before args s = true) (hstat : (Cond.static y).before args s = true) (hinit : (Cond.initialized y.cls).before args s = true)
    (hcode : (Cond.codeWith y bytes maxL ret hh).before args s = true) (hy : y.cls ≠ "java/lang/invoke/MethodHandle" ∧ y.cls ≠ "java/lang/invoke/VarHandle")
    {W9 : Nat} {Pre : Pt → Array Value → Prop} {Post : Pt → Array Value → Option Value → Pt → Prop} (hK : Back l R p e below s args y 3 W9 Pre Post)
    {g : JFrame} (hg : g.method = m) (hsize : g.locals.size = c.maxLocals) {argsL rest : List Value} (hlen : ∀ sig, parseMethodDescriptor y.desc = some sig → argsL.length = sig.parameters.length)
    (hstack : g.stack = argsL.reverse ++ rest) (hW : 2 * g.monitorRoom + (rest.map fun v => v.category).sum ≤ W9) (hdg : decode c.code g.pc = .ok (.invokestatic index, 3))
    (hpre : ∀ vm₁, s.WarmedH vm₁ → Pre ⟨T.setVm vm₁, locs, cells, slots⟩ argsL.toArray) :
    ∃ (v : Option Value) (vm₁ : Vm) (B : Pt), s.WarmedH vm₁ ∧ Stand p l e R s m args below meth c B.U B.locs B.cells B.slots ∧ Post ⟨T.setVm vm₁, locs, cells, slots⟩ argsL.toArray v B ∧
      ∀ target, Steps p.tables e below (B.U.setTop { g with pc := g.pc + 3, stack := v.toList ++ rest }) target → Steps p.tables e below (T.setTop g) target := by
  obtain ⟨mk, methM, cM, hnamed, hmethM, -, -, -, -, -, -, hsigM⟩ := Cond.codeWith_spec hcode
  have hstatic : methM.isStatic = true := Cond.static_spec hnamed hmethM hstat
  obtain ⟨kP, hkP, -⟩ := className_of_methodNamed hnamed
  have hinitP : kP.init = .initialized := Cond.initialized_spec (findClass_of_methodNamed hnamed) hkP hinit
  obtain ⟨vm₁, X₁, hstep₁⟩ := X.invokestatic hexec hown hlink hnamed hmethM hstatic hkP hinitP hy (g := g) hg (argsL := argsL) (rest := rest) (hlen _ hsigM) hstack hdg
  obtain ⟨v, B, X', hpost, hsteps⟩ := hK m meth c ⟨T.setVm vm₁, locs, cells, slots⟩ { g with stack := rest } (.invokestatic index) mk argsL.toArray X₁ hg hsize hdg hW (X₁.named hnamed) (hpre vm₁ X₁.warmed)
  exact ⟨v, vm₁, B, X₁.warmed, X', hpost, fun target h => hstep₁ _ fun acts => by rw [doInvoke_state]; exact hsteps.trans h⟩
theorem vx_runSW {y : MethodName} {bytes cc : ByteArray} {maxL nL mc ms n index : Nat} {ret : Option FieldType} {hh : List (Nat × Nat × Nat × Nat)} {ws : List Cond} {rm : Room} {Pc : Array Value → State → Prop} {Qc : Array Value → State → Outcome → State → Prop} {free : Addr → Prop} {Ts : List Cond} {own : String} {As rest : List Value} {g : JFrame}
    (S : CallFix p m c cc nL s args Ts own) (hM : Met l y ws rm Pc Qc mc ms free) (cw : vx_CSW R s args own index y bytes maxL ret hh ws rm mc ms n) (hp : PreS s H Pc As)
    (hg : g.method = m) (hn : As.length = n) (hsize : g.locals.size = nL) (hstack : g.stack = As.reverse ++ rest) (hW : 2 * g.monitorRoom + (rest.map fun v => v.category).sum ≤ 8) (hdg : decode cc g.pc = .ok (.invokestatic index, 3)) (hf : cells + mc ≤ R.cells ∧ slots + ms ≤ R.slots) :
    va_Run p l e R s m args below meth c H locs cells slots mc ms g rest (Qc As.toArray) (free) := by
  obtain ⟨⟨hrc, hrs, hfr, hlo, hws, hcw⟩, hcode, hini, hy, hlen, hl, hstt⟩ := cw
  have hK : Back l R p e below s args y 3 8 (PreOf R mc ms Pc) (PostOf Qc mc ms free) := va_backW (hh := hh) (bytes := bytes) (maxL := maxL) (ret := ret) hM hp.1 hrc hrs hfr hlo hws hcw (fun a' U hW => word_at hW (Or.inl (by first | rfl | simp [Cond.onTables, Cond.keeps, Cond.steady])) hini)
  obtain ⟨hx, hb, hml, ho, -⟩ := S
  intro T hT X
  obtain ⟨v, vm₁, ⟨U', l2, c2, s2⟩, hW₁, X', ⟨g', mk, t, L, e1, e2, hq, h1, hL, h2, h3⟩, st⟩ := vx_callSW X hx (hh := hh) (bytes := bytes) (maxL := maxL) (ret := ret) ho hl hstt hini hcode hy hK hg (hsize.trans hml.symm) (argsL := As) (rest := rest) (fun sig h => hn.trans (hlen sig h)) hstack hW (by rw [hb]; exact hdg)
    (fun vm₁ hW₁ => ⟨hf.1, hf.2, hp.2 (T.setVm vm₁) hT hW₁⟩)
  dsimp only [Pt.U, Pt.locs, Pt.cells, Pt.slots] at X' e1 e2 h1 h2 h3 st
  subst h1; subst h2; subst h3
  exact ⟨v, (T.setVm vm₁).calling g' mk As.toArray, t, U', L, hT, X', hL, e1, e2, hq, st⟩
/-- not caught here, past rows that name other classes: it goes on to the caller -/
theorem vx_outP {p : Program} {l : Launch} {e : Env} {R : Room} {s : State} {m : MethodId} {args : Array Value} {below : List Frame} {meth : Method} {c : Code} {H : Heap} {locs : List Loc} {cells slots : Nat} {free : Addr → Prop} {ls : Array Slot} {rest : List Value} {Qc : Array Value → State → Outcome → State → Prop} {XC : String → State → State → Prop}
    {pc : Nat} {own E : String} {ce : Cell} {q : Addr} {mc ms : Nat} (hown : s.vm.findClass own = some m.cls) (hlocks : meth.locks = false)
    (hpass : ∀ z ∈ c.exceptionTable.toList, covers z pc = false ∨ (z.catchType ≠ 0 ∧ ∃ nm : String, (Cond.classLink own z.catchType nm).before args s = true ∧ va_Nc E nm s)) (hcell : H[q]? = some ce) (hv : ce.vm = .none) (hcl : s.vm.findClass E = some ce.cls)
    (hx : ∀ t : State, t.heap = H → s.vm.Alike t.vm → XC E s t) (hf : ∀ z ∈ locs, free z.base) (hc : cells ≤ mc) (hs : slots ≤ ms) :
    vx_W p l e R s m args below meth c H locs cells slots (vx_MQ below Qc XC args s mc ms free) (F0 m pc ls rest) q := by
  intro T hT X
  have hpl : e.platform.magicAccessors = ({} : Platform).magicAccessors := by rw [X.admits.platform]
  obtain ⟨vm', hW', X', st⟩ := X.outThrough hlocks q (g := F0 m pc ls rest) rfl rfl rfl (cell := ce) (by rw [hT]; exact hcell) (by rw [hv]; rfl)
    (by obtain ⟨k9, h9, -⟩ := Vm.findClass_spec hcl; exact ⟨k9, h9⟩) (fun z hz => by
      rcases hpass z hz with h | ⟨hz0, nm, hl1, hn1⟩
      · exact Or.inl h
      · obtain ⟨c6, hc6, hcl6⟩ := Cond.classLink_spec hown hl1 e.platform hpl
        obtain ⟨a8, b8, h1, h2, h3⟩ := hn1
        cases Option.some.inj (h1.symm.trans hcl)
        cases Option.some.inj (h2.symm.trans hc6)
        exact Or.inr ⟨hz0, _, hcl6, h3⟩)
  obtain ⟨g₀, hfr⟩ := X'.frames_eq
  have hcell9 : ((T.setVm vm').setFrames (.throwing q :: below)).heap[q]? = some ce := by
    show T.heap[q]? = some ce
    rw [hT]; exact hcell
  have hend : Ended ((T.setVm vm').setFrames (.throwing q :: below)) below (.threw q) := State.frames_setFrames _ (State.cur_lt_of_frames hfr)
  refine ⟨(T.setVm vm').setFrames (.throwing q :: below), ?_, .threw q, X'.here.running, hend, Or.inr ⟨q, rfl, E, ce, locs, hx _ hT (X'.ends _).1.alike, hcell9, hv, hcl, (X'.ends _).1, (X'.ends _).2.mono hc hs, hf⟩⟩
  rw [X.pushThrowing_eq]
  exact st
/-- a thing of a world lies in the heap -/
theorem vx_lt {D : va_G} {cl : List vw_C} {ws : va_W} {H1 : Heap} (h : va_P D cl ws H1) {k : Nat} {q : Nat × va_E} (hk : ws[k]? = some q) : q.1 < H1.size := (h k q hk).lt
end VXS
/-! ===== END ===== -/
/-! ===== BEGIN methods with a table of their own: called by a name, returning or throwing ===== -/
section VXH
/-! vx_backW, vx_callVX, vx_callSX, vx_callVW, vx_runVW, vx_runVX, vx_runSX, vx_ofWH follow the same proofs as their sisters above (Free/Laws.lean, Shelf42/LK1.lean); vx_outP calls Shelf42/NT130.lean (outThrough). -/
section
variable {l : Launch} {R : Room} {p : Program} {e : Env} {below : List Frame} {s : State} {sargs : Array Value} {y : MethodName} {len W9 : Nat}
theorem vx_backW {ws : List Cond} {rm : Room} {Pc : Array Value → State → Prop} {Qc : Array Value → State → Outcome → State → Prop} {XC : String → State → State → Prop} {mc ms : Nat} {free : Addr → Prop} {bytes : ByteArray} {maxL : Nat} {ret : Option FieldType} {hh : List (Nat × Nat × Nat × Nat)}
    (hM : vx_Met l y ws rm Pc Qc XC mc ms free) (hblind : FrameBlind Pc) (hrc : rm.cells = mc) (hrs : rm.slots = ms)
    (hframes : rm.frames + 1 ≤ R.frames) (hlocals : W9 + (maxL + 11) + rm.locals ≤ R.locals)
    (hws : ∀ w ∈ ws, ∀ a' U, s.WarmedH U.vm → w.before a' U = true) (hcode : Cond.codeWith y bytes maxL ret hh ∈ ws) (hinit : ∀ a' U, s.WarmedH U.vm → (Cond.initialized y.cls).before a' U = true) :
    vx_Back l R p e below s sargs y len W9 (PreOf R mc ms Pc) (PostOf Qc mc ms free) (vx_Post XC mc ms free) := by
  intro m meth c A g ig mk a X hg hsize hdg hW hn hp
  have h1 : (headSpec ws rm).pre.before a A.U = true := atoms_intro fun w hw => hws w hw _ _ X.warmed
  have h2 : (Cond.codeWith y bytes maxL ret hh).before a A.U = true := hws _ hcode _ _ X.warmed
  have h3 : (Cond.initialized y.cls).before a A.U = true := hinit _ _ X.warmed
  have h4 : A.cells + (headSpec ws rm).room.cells ≤ R.cells := by rw [show (headSpec ws rm).room.cells = mc from hrc]; exact hp.1
  have h5 : A.slots + (headSpec ws rm).room.slots ≤ R.slots := by rw [show (headSpec ws rm).room.slots = ms from hrs]; exact hp.2.1
  have hPc : Pc a (A.U.calling g mk a) := hblind _ _ _ _ hp.2.2
  obtain ⟨U, Ls, c0, s0⟩ := A
  dsimp only [Pt.U, Pt.locs, Pt.cells, Pt.slots] at h1 h2 h3 h4 h5 X hn hPc ⊢
  obtain ⟨m9, methY, cY, hn9, hmY, hcY, -, hlY, -⟩ := Cond.codeWith_spec h2
  cases Option.some.inj (hn9.symm.trans hn)
  obtain ⟨kY, hkY, -⟩ := className_of_methodNamed hn
  have hinitY : kY.init = .initialized := Cond.initialized_spec (findClass_of_methodNamed hn) hkY h3
  have h : At U g.method c below := by rw [hg]; exact X.here
  have hlocals9 : W9 + (maxL + 11) + (headSpec ws rm).room.locals ≤ R.locals := hlocals
  have happ : (headSpec ws rm).appliesLoose y e.platform (U.calling g mk a) = true :=
    Spec.appliesLoose_calling (g := g) h hdg hn hkY hinitY
      (X.room_calling (g := g) (R' := (headSpec ws rm).room) hsize hmY hcY hframes (by rw [hlY]; omega) h4 h5) h1
  obtain ⟨mid, hmid⟩ := h.above
  have hfr : (U.setTop g).frames = (.java g :: mid) ++ below := by rw [State.frames_setTop' g h.top, hmid]; rfl
  obtain ⟨o, s₂, hsteps, -, hend, hq⟩ := Steps.callFree hM p X.admits X.cas X.clock (acts := []) hfr happ hPc trivial
  have hq' : vx_Q Qc XC mc ms free a (U.calling g mk a) o s₂ := hq
  rw [State.frames_setTop' g h.top] at hend
  obtain ⟨g₀, hg0⟩ := Option.isSome_iff_exists.mp h.top
  obtain ⟨r, hr⟩ := State.topJava?_eq_some.mp hg0
  have hr' : (({ U with heap := s₂.heap, slotsUsed := s₂.slotsUsed } : State).setVm s₂.vm).frames = .java g₀ :: r := hr
  rcases hq' with ⟨hqc, L, hfe, hL⟩ | ⟨q, rfl, E, ce, L, hx, hce, hcv, hcl, hW₂, hsm, hL⟩
  · obtain ⟨⟨v, rfl⟩, hW₂, e2, q2, q3, q4, q5, q6⟩ := id hfe
    have e3 : s₂ = ({ (U.calling g mk a).setFrames s₂.frames with heap := s₂.heap, slotsUsed := s₂.slotsUsed } : State).setVm s₂.vm := by
      have : s₂ = ({ s₂ with vm := (U.calling g mk a).vm } : State).setVm s₂.vm := rfl
      rw [e2] at this
      exact this
    obtain ⟨c₂, i₂, len₂, hc₂, hd₂, hf₂⟩ := hend
    have hW' : U.WarmedH s₂.vm := hW₂
    have hcc : c₂ = c := by
      have h1 : s₂.code? g.method = U.code? g.method := by
        rw [State.code?_eq, State.code?_eq, hW'.alike.method?]
      exact Option.some.inj (hc₂.symm.trans (h1.trans h.code))
    subst hcc
    have hlen : len₂ = len := by rw [hdg] at hd₂; cases hd₂; rfl
    subst hlen
    have hs₂ : s₂ = (({ U with heap := s₂.heap, slotsUsed := s₂.slotsUsed } : State).setVm s₂.vm).setTop { g with pc := g.pc + len₂, stack := v.toList ++ g.stack } := by
      refine e3.trans ?_
      rw [hf₂, State.calling_eq h.top, State.setFrames_setFrames, State.setTop_of_frames _ hr', hr]
      rfl
    have hsame : U.sameButNew ({ U with heap := s₂.heap, slotsUsed := s₂.slotsUsed } : State) L mc ms := by
      refine ⟨?_, q2, q3, q4, q5, q6⟩
      obtain ⟨t, ht, -⟩ := State.frames_cons hr
      show ({ U with heap := s₂.heap, slotsUsed := s₂.slotsUsed } : State) = { U.setFrames U.frames with heap := s₂.heap, slotsUsed := s₂.slotsUsed }
      rw [State.setFrames_self ht]
    subst hg
    refine Or.inl ⟨v, ⟨(({ U with heap := s₂.heap, slotsUsed := s₂.slotsUsed } : State).setVm s₂.vm), Ls ++ L, c0 + mc, s0 + ms⟩,
      ⟨X.admits, X.cas, X.clock, X.frames, X.room, X.hears, X.method, X.code, (X.here.setHeapUsed s₂.heap s₂.slotsUsed).setVm hW'.alike, X.tail, State.WarmedH.trans X.warmed hW', X.limits, X.bytes, X.same.trans (hsame.setVm s.vm)⟩,
      ⟨g, mk, s₂, L, rfl, rfl, hqc, rfl, hL, rfl, rfl⟩, ?_⟩
    show Steps p.tables e below _ ((({ U with heap := s₂.heap, slotsUsed := s₂.slotsUsed } : State).setVm s₂.vm).setTop { g with pc := g.pc + len₂, stack := v.toList ++ g.stack })
    rw [← hs₂]
    exact hsteps
  · obtain ⟨e2, q2, q3, q4, q5, q6⟩ := id hsm
    have e3 : s₂ = ({ (U.calling g mk a).setFrames s₂.frames with heap := s₂.heap, slotsUsed := s₂.slotsUsed } : State).setVm s₂.vm := by
      have : s₂ = ({ s₂ with vm := (U.calling g mk a).vm } : State).setVm s₂.vm := rfl
      rw [e2] at this
      exact this
    have hf₂ : s₂.frames = .throwing q :: .java g :: U.frames.tail := hend
    have hW' : U.WarmedH s₂.vm := hW₂
    have hs₂ : s₂ = ((({ U with heap := s₂.heap, slotsUsed := s₂.slotsUsed } : State).setVm s₂.vm).setTop g).pushFrame (.throwing q) := by
      refine e3.trans ?_
      rw [hf₂, State.calling_eq h.top, State.setFrames_setFrames, State.pushFrame, State.frames_setTop _ hr', State.setTop_of_frames _ hr', State.setFrames_setFrames, hr]
      rfl
    have hsame : U.sameButNew ({ U with heap := s₂.heap, slotsUsed := s₂.slotsUsed } : State) L mc ms := by
      refine ⟨?_, q2, q3, q4, q5, q6⟩
      obtain ⟨t, ht, -⟩ := State.frames_cons hr
      show ({ U with heap := s₂.heap, slotsUsed := s₂.slotsUsed } : State) = { U.setFrames U.frames with heap := s₂.heap, slotsUsed := s₂.slotsUsed }
      rw [State.setFrames_self ht]
    subst hg
    refine Or.inr ⟨q, ⟨(({ U with heap := s₂.heap, slotsUsed := s₂.slotsUsed } : State).setVm s₂.vm), Ls ++ L, c0 + mc, s0 + ms⟩,
      ⟨X.admits, X.cas, X.clock, X.frames, X.room, X.hears, X.method, X.code, (X.here.setHeapUsed s₂.heap s₂.slotsUsed).setVm hW'.alike, X.tail, State.WarmedH.trans X.warmed hW', X.limits, X.bytes, X.same.trans (hsame.setVm s.vm)⟩,
      ⟨g, mk, s₂, L, E, ce, rfl, rfl, hx, hce, hcv, hcl, rfl, hL, rfl, rfl⟩, ?_⟩
    show Steps p.tables e below _ (((({ U with heap := s₂.heap, slotsUsed := s₂.slotsUsed } : State).setVm s₂.vm).setTop g).pushFrame (.throwing q))
    rw [← hs₂]
    exact hsteps
end
variable {p : Program} {l : Launch} {e : Env} {R : Room} {s : State} {m : MethodId} {args : Array Value} {below : List Frame} {meth : Method} {c : Code} {T : State} {H : Heap} {locs : List Loc} {cells slots : Nat}
theorem vx_callVX (X : Stand p l e R s m args below meth c T locs cells slots) (hexec : p.tables.exec = Jvm.exec) {own C : String} {index : Nat} {y : MethodName} {bytes : ByteArray} {maxL : Nat} {ret : Option FieldType} {hh : List (Nat × Nat × Nat × Nat)}
    (hown : s.vm.findClass own = some m.cls) (hlink : (Cond.methodLink own index y).before args s = true) (hinst : (Cond.instanceMethod y).before args s = true) (hsel : (Cond.selects C y y).before args s = true)
    (hcode : (Cond.codeWith y bytes maxL ret hh).before args s = true) (hy : y.cls ≠ "java/lang/invoke/MethodHandle" ∧ y.cls ≠ "java/lang/invoke/VarHandle")
    {W9 : Nat} {Pre : Pt → Array Value → Prop} {Post : Pt → Array Value → Option Value → Pt → Prop} {PostX : Pt → Array Value → Addr → Pt → Prop} (hK : vx_Back l R p e below s args y 3 W9 Pre Post PostX)
    {b : Addr} {cellB : Cell} (hcell : T.heap[b]? = some cellB) (hobj : cellB.vm.isStatics = false) (hcls : s.vm.findClass C = some cellB.cls)
    {g : JFrame} (hg : g.method = m) (hsize : g.locals.size = c.maxLocals) {argsL rest : List Value} (hlen : ∀ sig, parseMethodDescriptor y.desc = some sig → argsL.length = sig.parameters.length)
    (hstack : g.stack = argsL.reverse ++ .ref b :: rest) (hW : 2 * g.monitorRoom + (rest.map fun v => v.category).sum ≤ W9) (hdg : decode c.code g.pc = .ok (.invokevirtual index, 3))
    (hpre : ∀ vm₁, s.WarmedH vm₁ → Pre ⟨T.setVm vm₁, locs, cells, slots⟩ (Value.ref b :: argsL).toArray) :
    (∃ (v : Option Value) (vm₁ : Vm) (B : Pt), s.WarmedH vm₁ ∧ Stand p l e R s m args below meth c B.U B.locs B.cells B.slots ∧ Post ⟨T.setVm vm₁, locs, cells, slots⟩ (Value.ref b :: argsL).toArray v B ∧
      ∀ target, Steps p.tables e below (B.U.setTop { g with pc := g.pc + 3, stack := v.toList ++ rest }) target → Steps p.tables e below (T.setTop g) target) ∨
    (∃ (q : Addr) (vm₁ : Vm) (B : Pt), s.WarmedH vm₁ ∧ Stand p l e R s m args below meth c B.U B.locs B.cells B.slots ∧ PostX ⟨T.setVm vm₁, locs, cells, slots⟩ (Value.ref b :: argsL).toArray q B ∧
      Steps p.tables e below (T.setTop g) ((B.U.setTop { g with stack := rest }).pushFrame (.throwing q))) := by
  obtain ⟨mk, methM, hnamed, hmethM, hstM, habM⟩ := Cond.instanceMethod_spec hinst
  obtain ⟨m8, methM', cM, hn8, hmethM', -, -, -, -, -, -, hsigM⟩ := Cond.codeWith_spec hcode
  cases Option.some.inj (hn8.symm.trans hnamed)
  cases hmethM.symm.trans hmethM'
  obtain ⟨c2, r2, m2, q1, q2, q3, q4, kP, hkP, hkPi⟩ := Cond.selects_spec hsel
  cases hcls.symm.trans q1
  cases (State.methodFound?_of_named hnamed hy).symm.trans q2
  cases hnamed.symm.trans q3
  have hselP : selectMethod e.platform s.vm cellB.cls mk = .method mk := by rw [Launch.admits_selectMethod X.admits]; exact q4
  obtain ⟨vm₁, X₁, hstep₁⟩ := X.invokevirtual hexec hown hlink hnamed hmethM hstM hkP hkPi hy (a := b) (cell := cellB) hcell
    (fun z h => by rw [h] at hobj; cases hobj) hselP hmethM habM hkP hkPi (g := g) hg (argsL := argsL) (rest := rest) (hlen _ hsigM) hstack hdg
  rcases hK m meth c ⟨T.setVm vm₁, locs, cells, slots⟩ { g with stack := rest } (.invokevirtual index) mk (Value.ref b :: argsL).toArray X₁ hg hsize hdg hW (X₁.named hnamed) (hpre vm₁ X₁.warmed) with ⟨v, B, X', hpost, hsteps⟩ | ⟨q, B, X', hpost, hsteps⟩
  · exact Or.inl ⟨v, vm₁, B, X₁.warmed, X', hpost, fun target h => hstep₁ _ fun acts => by rw [doInvoke_state]; exact hsteps.trans h⟩
  · exact Or.inr ⟨q, vm₁, B, X₁.warmed, X', hpost, hstep₁ _ fun acts => by rw [doInvoke_state]; exact hsteps⟩
theorem vx_callSX (X : Stand p l e R s m args below meth c T locs cells slots) (hexec : p.tables.exec = Jvm.exec) {own : String} {index : Nat} {y : MethodName} {bytes : ByteArray} {maxL : Nat} {ret : Option FieldType} {hh : List (Nat × Nat × Nat × Nat)}
    (hown : s.vm.findClass own = some m.cls) (hlink : (Cond.methodLink own index y).before args s = true) (hstat : (Cond.static y).before args s = true) (hinit : (Cond.initialized y.cls).before args s = true)
    (hcode : (Cond.codeWith y bytes maxL ret hh).before args s = true) (hy : y.cls ≠ "java/lang/invoke/MethodHandle" ∧ y.cls ≠ "java/lang/invoke/VarHandle")
    {W9 : Nat} {Pre : Pt → Array Value → Prop} {Post : Pt → Array Value → Option Value → Pt → Prop} {PostX : Pt → Array Value → Addr → Pt → Prop} (hK : vx_Back l R p e below s args y 3 W9 Pre Post PostX)
    {g : JFrame} (hg : g.method = m) (hsize : g.locals.size = c.maxLocals) {argsL rest : List Value} (hlen : ∀ sig, parseMethodDescriptor y.desc = some sig → argsL.length = sig.parameters.length)
    (hstack : g.stack = argsL.reverse ++ rest) (hW : 2 * g.monitorRoom + (rest.map fun v => v.category).sum ≤ W9) (hdg : decode c.code g.pc = .ok (.invokestatic index, 3))
    (hpre : ∀ vm₁, s.WarmedH vm₁ → Pre ⟨T.setVm vm₁, locs, cells, slots⟩ argsL.toArray) :
    (∃ (v : Option Value) (vm₁ : Vm) (B : Pt), s.WarmedH vm₁ ∧ Stand p l e R s m args below meth c B.U B.locs B.cells B.slots ∧ Post ⟨T.setVm vm₁, locs, cells, slots⟩ argsL.toArray v B ∧
      ∀ target, Steps p.tables e below (B.U.setTop { g with pc := g.pc + 3, stack := v.toList ++ rest }) target → Steps p.tables e below (T.setTop g) target) ∨
    (∃ (q : Addr) (vm₁ : Vm) (B : Pt), s.WarmedH vm₁ ∧ Stand p l e R s m args below meth c B.U B.locs B.cells B.slots ∧ PostX ⟨T.setVm vm₁, locs, cells, slots⟩ argsL.toArray q B ∧
      Steps p.tables e below (T.setTop g) ((B.U.setTop { g with stack := rest }).pushFrame (.throwing q))) := by
  obtain ⟨mk, methM, cM, hnamed, hmethM, -, -, -, -, -, -, hsigM⟩ := Cond.codeWith_spec hcode
  have hstatic : methM.isStatic = true := Cond.static_spec hnamed hmethM hstat
  obtain ⟨kP, hkP, -⟩ := className_of_methodNamed hnamed
  have hinitP : kP.init = .initialized := Cond.initialized_spec (findClass_of_methodNamed hnamed) hkP hinit
  obtain ⟨vm₁, X₁, hstep₁⟩ := X.invokestatic hexec hown hlink hnamed hmethM hstatic hkP hinitP hy (g := g) hg (argsL := argsL) (rest := rest) (hlen _ hsigM) hstack hdg
  rcases hK m meth c ⟨T.setVm vm₁, locs, cells, slots⟩ { g with stack := rest } (.invokestatic index) mk argsL.toArray X₁ hg hsize hdg hW (X₁.named hnamed) (hpre vm₁ X₁.warmed) with ⟨v, B, X', hpost, hsteps⟩ | ⟨q, B, X', hpost, hsteps⟩
  · exact Or.inl ⟨v, vm₁, B, X₁.warmed, X', hpost, fun target h => hstep₁ _ fun acts => by rw [doInvoke_state]; exact hsteps.trans h⟩
  · exact Or.inr ⟨q, vm₁, B, X₁.warmed, X', hpost, hstep₁ _ fun acts => by rw [doInvoke_state]; exact hsteps⟩
theorem vx_callVW (X : Stand p l e R s m args below meth c T locs cells slots) (hexec : p.tables.exec = Jvm.exec) {own C : String} {index : Nat} {y : MethodName} {bytes : ByteArray} {maxL : Nat} {ret : Option FieldType} {hh : List (Nat × Nat × Nat × Nat)}
    (hown : s.vm.findClass own = some m.cls) (hlink : (Cond.methodLink own index y).before args s = true) (hinst : (Cond.instanceMethod y).before args s = true) (hsel : (Cond.selects C y y).before args s = true)
    (hcode : (Cond.codeWith y bytes maxL ret hh).before args s = true) (hy : y.cls ≠ "java/lang/invoke/MethodHandle" ∧ y.cls ≠ "java/lang/invoke/VarHandle")
    {W9 : Nat} {Pre : Pt → Array Value → Prop} {Post : Pt → Array Value → Option Value → Pt → Prop} (hK : Back l R p e below s args y 3 W9 Pre Post)
    {b : Addr} {cellB : Cell} (hcell : T.heap[b]? = some cellB) (hobj : cellB.vm.isStatics = false) (hcls : s.vm.findClass C = some cellB.cls)
    {g : JFrame} (hg : g.method = m) (hsize : g.locals.size = c.maxLocals) {argsL rest : List Value} (hlen : ∀ sig, parseMethodDescriptor y.desc = some sig → argsL.length = sig.parameters.length)
    (hstack : g.stack = argsL.reverse ++ .ref b :: rest) (hW : 2 * g.monitorRoom + (rest.map fun v => v.category).sum ≤ W9) (hdg : decode c.code g.pc = .ok (.invokevirtual index, 3))
    (hpre : ∀ vm₁, s.WarmedH vm₁ → Pre ⟨T.setVm vm₁, locs, cells, slots⟩ (Value.ref b :: argsL).toArray) :
    ∃ (v : Option Value) (vm₁ : Vm) (B : Pt), s.WarmedH vm₁ ∧ Stand p l e R s m args below meth c B.U B.locs B.cells B.slots ∧ Post ⟨T.setVm vm₁, locs, cells, slots⟩ (Value.ref b :: argsL).toArray v B ∧
      ∀ target, Steps p.tables e below (B.U.setTop { g with pc := g.pc + 3, stack := v.toList ++ rest }) target → Steps p.tables e below (T.setTop g) target := by
  obtain ⟨mk, methM, hnamed, hmethM, hstM, habM⟩ := Cond.instanceMethod_spec hinst
  obtain ⟨m8, methM', cM, hn8, hmethM', -, -, -, -, -, -, hsigM⟩ := Cond.codeWith_spec hcode
  cases Option.some.inj (hn8.symm.trans hnamed)
  cases hmethM.symm.trans hmethM'
  obtain ⟨c2, r2, m2, q1, q2, q3, q4, kP, hkP, hkPi⟩ := Cond.selects_spec hsel
  cases hcls.symm.trans q1
  cases (State.methodFound?_of_named hnamed hy).symm.trans q2
  cases hnamed.symm.trans q3
  have hselP : selectMethod e.platform s.vm cellB.cls mk = .method mk := by rw [Launch.admits_selectMethod X.admits]; exact q4
  obtain ⟨vm₁, X₁, hstep₁⟩ := X.invokevirtual hexec hown hlink hnamed hmethM hstM hkP hkPi hy (a := b) (cell := cellB) hcell
    (fun z h => by rw [h] at hobj; cases hobj) hselP hmethM habM hkP hkPi (g := g) hg (argsL := argsL) (rest := rest) (hlen _ hsigM) hstack hdg
  obtain ⟨v, B, X', hpost, hsteps⟩ := hK m meth c ⟨T.setVm vm₁, locs, cells, slots⟩ { g with stack := rest } (.invokevirtual index) mk (Value.ref b :: argsL).toArray X₁ hg hsize hdg hW (X₁.named hnamed) (hpre vm₁ X₁.warmed)
  exact ⟨v, vm₁, B, X₁.warmed, X', hpost, fun target h => hstep₁ _ fun acts => by rw [doInvoke_state]; exact hsteps.trans h⟩
abbrev vx_CVW (R : Room) (s : State) (args : Array Value) (own C : String) (index : Nat) (y : MethodName) (bytes : ByteArray) (maxL : Nat) (ret : Option FieldType) (hh : List (Nat × Nat × Nat × Nat)) (ws : List Cond) (rm : Room) (mc ms n : Nat) : Prop :=
  (rm.cells = mc ∧ rm.slots = ms ∧ rm.frames + 1 ≤ R.frames ∧ 8 + (maxL + 11) + rm.locals ≤ R.locals ∧ (∀ w ∈ ws, ∀ (a' : Array Value) (U : State), s.WarmedH U.vm → w.before a' U = true) ∧ Cond.codeWith y bytes maxL ret hh ∈ ws) ∧
  (Cond.codeWith y bytes maxL ret hh).before args s = true ∧ (Cond.initialized y.cls).before args s = true ∧ (y.cls ≠ "java/lang/invoke/MethodHandle" ∧ y.cls ≠ "java/lang/invoke/VarHandle") ∧
  (∀ sig, parseMethodDescriptor y.desc = some sig → n = sig.parameters.length) ∧ (Cond.methodLink own index y).before args s = true ∧ (Cond.instanceMethod y).before args s = true ∧ (Cond.selects C y y).before args s = true
theorem vx_cwVW {own C : String} {index maxL mc ms : Nat} {y : MethodName} {bytes : ByteArray} {ret : Option FieldType} {hh : List (Nat × Nat × Nat × Nat)} {Ts ws ws' : List Cond} {rm : Room} (n : Nat) (ht : ∀ w ∈ Ts, w.before args s = true) (hT : GoodIn Ts (wsV own index C y ws)) (hw : ws = Cond.codeWith y bytes maxL ret hh :: ws') (hrc : rm.cells = mc) (hrs : rm.slots = ms)
    (hd : y.cls = C ∧ y.cls ≠ "java/lang/invoke/MethodHandle" ∧ y.cls ≠ "java/lang/invoke/VarHandle" ∧ (parseMethodDescriptor y.desc).map (fun d => d.parameters.length) = some n) (hR : rm.frames + 1 ≤ R.frames ∧ 8 + (maxL + 11) + rm.locals ≤ R.locals) :
    vx_CVW R s args own C index y bytes maxL ret hh ws rm mc ms n := by
  obtain ⟨hC, hd⟩ := hd
  subst hC
  have ok : ∀ w ∈ wsV own index y.cls y ws, w.before args s = true := fun w h => ht w (hT w h).1
  have hG : GoodIn Ts ws := fun w h => hT w (by unfold wsV; exact List.mem_append_right _ h)
  have hc : Cond.codeWith y bytes maxL ret hh ∈ ws := by rw [hw]; exact List.mem_cons_self
  refine ⟨⟨hrc, hrs, hR.1, hR.2, pay_in ht hG, hc⟩, ht _ (hG _ hc).1, ok _ (by simp [wsV]), ⟨hd.1, hd.2.1⟩, fun sig h => ?_, ok _ (by simp [wsV]), ok _ (by simp [wsV]), ok _ (by simp [wsV])⟩
  have h2 := hd.2.2
  rw [h] at h2
  exact (Option.some.inj h2).symm
theorem vx_runVW {y : MethodName} {bytes cc : ByteArray} {maxL nL mc ms n index : Nat} {ret : Option FieldType} {hh : List (Nat × Nat × Nat × Nat)} {ws : List Cond} {rm : Room} {Pc : Array Value → State → Prop} {Qc : Array Value → State → Outcome → State → Prop} {free : Addr → Prop} {Ts : List Cond} {own C : String} {b : Addr} {As rest : List Value} {g : JFrame}
    (S : CallFix p m c cc nL s args Ts own) (hM : Met l y ws rm Pc Qc mc ms free) (cw : vx_CVW R s args own C index y bytes maxL ret hh ws rm mc ms n) (hp : PreV s H C b Pc As)
    (hg : g.method = m) (hn : As.length = n) (hsize : g.locals.size = nL) (hstack : g.stack = As.reverse ++ .ref b :: rest) (hW : 2 * g.monitorRoom + (rest.map fun v => v.category).sum ≤ 8) (hdg : decode cc g.pc = .ok (.invokevirtual index, 3)) (hf : cells + mc ≤ R.cells ∧ slots + ms ≤ R.slots) :
    va_Run p l e R s m args below meth c H locs cells slots mc ms g rest (Qc (Value.ref b :: As).toArray) free := by
  obtain ⟨⟨hrc, hrs, hfr, hlo, hws, hcw⟩, hcode, hini, hy, hlen, hl, hin, hse⟩ := cw
  have hK : Back l R p e below s args y 3 8 (PreOf R mc ms Pc) (PostOf Qc mc ms free) := va_backW (hh := hh) (bytes := bytes) (maxL := maxL) (ret := ret) hM hp.1 hrc hrs hfr hlo hws hcw (fun a' U hW => word_at hW (Or.inl (by first | rfl | simp [Cond.onTables, Cond.keeps, Cond.steady])) hini)
  obtain ⟨hx, hb, hml, ho, -⟩ := S
  obtain ⟨-, ⟨cellB, hcB, hoB, hclB⟩, hPc⟩ := hp
  intro T hT X
  obtain ⟨v, vm₁, ⟨U', l2, c2, s2⟩, hW₁, X', ⟨g', mk, t, L, e1, e2, hq, h1, hL, h2, h3⟩, st⟩ := vx_callVW X hx (C := C) (hh := hh) (bytes := bytes) (maxL := maxL) (ret := ret) ho hl hin hse hcode hy hK (by rw [hT]; exact hcB) hoB hclB hg (hsize.trans hml.symm) (argsL := As) (rest := rest) (fun sig h => hn.trans (hlen sig h)) hstack hW (by rw [hb]; exact hdg)
    (fun vm₁ hW₁ => ⟨hf.1, hf.2, hPc (T.setVm vm₁) hT hW₁⟩)
  dsimp only [Pt.U, Pt.locs, Pt.cells, Pt.slots] at X' e1 e2 h1 h2 h3 st
  subst h1; subst h2; subst h3
  exact ⟨v, (T.setVm vm₁).calling g' mk (Value.ref b :: As).toArray, t, U', L, hT, X', hL, e1, e2, hq, st⟩
section
variable {y : MethodName} {bytes cc : ByteArray} {maxL nL mc ms n index : Nat} {ret : Option FieldType} {ws : List Cond} {rm : Room} {Pc : Array Value → State → Prop} {Qc : Array Value → State → Outcome → State → Prop} {XC : String → State → State → Prop} {free : Addr → Prop} {Ts : List Cond} {own C : String} {b : Addr} {As rest : List Value} {g : JFrame}
theorem vx_runVX {hh : List (Nat × Nat × Nat × Nat)} (S : CallFix p m c cc nL s args Ts own) (hM : vx_Met l y ws rm Pc Qc XC mc ms free) (cw : vx_CVW R s args own C index y bytes maxL ret hh ws rm mc ms n) (hp : PreV s H C b Pc As)
    (hg : g.method = m) (hn : As.length = n) (hsize : g.locals.size = nL) (hstack : g.stack = As.reverse ++ .ref b :: rest) (hW : 2 * g.monitorRoom + (rest.map fun v => v.category).sum ≤ 8) (hdg : decode cc g.pc = .ok (.invokevirtual index, 3)) (hf : cells + mc ≤ R.cells ∧ slots + ms ≤ R.slots) :
    vx_Run p l e R s m args below meth c H locs cells slots mc ms g rest (Qc (Value.ref b :: As).toArray) XC free := by
  obtain ⟨⟨hrc, hrs, hfr, hlo, hws, hcw⟩, hcode, hini, hy, hlen, hl, hin, hse⟩ := cw
  have hK : vx_Back l R p e below s args y 3 8 (PreOf R mc ms Pc) (PostOf Qc mc ms free) (vx_Post XC mc ms free) := vx_backW (hh := hh) (bytes := bytes) (maxL := maxL) (ret := ret) hM hp.1 hrc hrs hfr hlo hws hcw (fun a' U hW => word_at hW (Or.inl (by first | rfl | simp [Cond.onTables, Cond.keeps, Cond.steady])) hini)
  obtain ⟨hx, hb, hml, ho, -⟩ := S
  obtain ⟨-, ⟨cellB, hcB, hoB, hclB⟩, hPc⟩ := hp
  intro T hT X
  rcases vx_callVX X hx (C := C) (hh := hh) (bytes := bytes) (maxL := maxL) (ret := ret) ho hl hin hse hcode hy hK (by rw [hT]; exact hcB) hoB hclB hg (hsize.trans hml.symm) (argsL := As) (rest := rest) (fun sig h => hn.trans (hlen sig h)) hstack hW (by rw [hb]; exact hdg)
    (fun vm₁ hW₁ => ⟨hf.1, hf.2, hPc (T.setVm vm₁) hT hW₁⟩) with ⟨v, vm₁, ⟨U', l2, c2, s2⟩, hW₁, X', ⟨g', mk, t, L, e1, e2, hq, h1, hL, h2, h3⟩, st⟩ | ⟨q, vm₁, ⟨U', l2, c2, s2⟩, hW₁, X', ⟨g', mk, t, L, E, ce, e1, e2, hq, hce, hcv, hcl, h1, hL, h2, h3⟩, st⟩
  · dsimp only [Pt.U, Pt.locs, Pt.cells, Pt.slots] at X' e1 e2 h1 h2 h3 st
    subst h1; subst h2; subst h3
    exact Or.inl ⟨v, (T.setVm vm₁).calling g' mk (Value.ref b :: As).toArray, t, U', L, hT, X', hL, e1, e2, hq, st⟩
  · dsimp only [Pt.U, Pt.locs, Pt.cells, Pt.slots] at X' e1 e2 h1 h2 h3 st hcl
    subst h1; subst h2; subst h3
    exact Or.inr ⟨q, (T.setVm vm₁).calling g' mk (Value.ref b :: As).toArray, t, U', L, E, ce, hT, X', hL, e1, e2, hq, hce, hcv, vx_cls hW₁ hcl, st⟩
theorem vx_runSX {hh : List (Nat × Nat × Nat × Nat)} (S : CallFix p m c cc nL s args Ts own) (hM : vx_Met l y ws rm Pc Qc XC mc ms free) (cw : vx_CSW R s args own index y bytes maxL ret hh ws rm mc ms n) (hp : PreS s H Pc As)
    (hg : g.method = m) (hn : As.length = n) (hsize : g.locals.size = nL) (hstack : g.stack = As.reverse ++ rest) (hW : 2 * g.monitorRoom + (rest.map fun v => v.category).sum ≤ 8) (hdg : decode cc g.pc = .ok (.invokestatic index, 3)) (hf : cells + mc ≤ R.cells ∧ slots + ms ≤ R.slots) :
    vx_Run p l e R s m args below meth c H locs cells slots mc ms g rest (Qc As.toArray) XC free := by
  obtain ⟨⟨hrc, hrs, hfr, hlo, hws, hcw⟩, hcode, hini, hy, hlen, hl, hstt⟩ := cw
  have hK : vx_Back l R p e below s args y 3 8 (PreOf R mc ms Pc) (PostOf Qc mc ms free) (vx_Post XC mc ms free) := vx_backW (hh := hh) (bytes := bytes) (maxL := maxL) (ret := ret) hM hp.1 hrc hrs hfr hlo hws hcw (fun a' U hW => word_at hW (Or.inl (by first | rfl | simp [Cond.onTables, Cond.keeps, Cond.steady])) hini)
  obtain ⟨hx, hb, hml, ho, -⟩ := S
  intro T hT X
  rcases vx_callSX X hx (hh := hh) (bytes := bytes) (maxL := maxL) (ret := ret) ho hl hstt hini hcode hy hK hg (hsize.trans hml.symm) (argsL := As) (rest := rest) (fun sig h => hn.trans (hlen sig h)) hstack hW (by rw [hb]; exact hdg)
    (fun vm₁ hW₁ => ⟨hf.1, hf.2, hp.2 (T.setVm vm₁) hT hW₁⟩) with ⟨v, vm₁, ⟨U', l2, c2, s2⟩, hW₁, X', ⟨g', mk, t, L, e1, e2, hq, h1, hL, h2, h3⟩, st⟩ | ⟨q, vm₁, ⟨U', l2, c2, s2⟩, hW₁, X', ⟨g', mk, t, L, E, ce, e1, e2, hq, hce, hcv, hcl, h1, hL, h2, h3⟩, st⟩
  · dsimp only [Pt.U, Pt.locs, Pt.cells, Pt.slots] at X' e1 e2 h1 h2 h3 st
    subst h1; subst h2; subst h3
    exact Or.inl ⟨v, (T.setVm vm₁).calling g' mk As.toArray, t, U', L, hT, X', hL, e1, e2, hq, st⟩
  · dsimp only [Pt.U, Pt.locs, Pt.cells, Pt.slots] at X' e1 e2 h1 h2 h3 st hcl
    subst h1; subst h2; subst h3
    exact Or.inr ⟨q, (T.setVm vm₁).calling g' mk As.toArray, t, U', L, E, ce, hT, X', hL, e1, e2, hq, hce, hcv, vx_cls hW₁ hcl, st⟩
end
end VXH
theorem vx_ofWH {l : Launch} {y : MethodName} {ws ws' : List Cond} {rm : Room} {Pc : Array Value → State → Prop} {Qc : Array Value → State → Outcome → State → Prop} {XC : String → State → State → Prop} {mc ms : Nat} {free : Addr → Prop} {cc : ByteArray} {maxL : Nat} {ret : Option FieldType} {hh : List (Nat × Nat × Nat × Nat)}
    (hy : plainName y.cls = true) (hw : ws = Cond.codeWith y cc maxL ret hh :: ws')
    (body : ∀ p e s m args below meth c s₁, BodyLoose p l y (headSpec ws rm) cc maxL ret e s m args below meth c s₁ → c.maxLocals = maxL → Pc args s →
      W p l e (headSpec ws rm).room s m args below meth c s.heap [] 0 0 (vx_MQ below Qc XC args s mc ms free) (entryFrame m args maxL)) : vx_Met l y ws rm Pc Qc XC mc ms free := by
  refine MetFree.of_bodyS (code := cc) (maxLocals := maxL) (ret := ret) hy ?_ ?_
  · intro args s m h hn
    obtain ⟨m9, meth, c, hn9, h1, h2, h3, h4, -, h5, h6, -⟩ := Cond.codeWith_spec (atoms_spec (ws := ws) h _ (by rw [hw]; exact List.mem_cons_self))
    cases hn.symm.trans hn9
    exact ⟨meth, c, h1, h2, h3, h4, h5, h6⟩
  · intro p e s m args below meth c s₁ B hml hP _
    have hh0 : s₁.heap = s.heap := by rw [B.state]; rfl
    obtain ⟨t, a1, o, b1, b2, b3⟩ := body p e s m args below meth c s₁ B hml hP s₁ hh0 (Stand.of_body B)
    exact ⟨t, o, a1, b1, b2, b3⟩
/-! ===== END ===== -/

/-! ===== BEGIN printed: names, fields, word lists, decode rows ===== -/
def RX0 : String := "RustTiles$Game"
def TX0 : u_T := fun k => match k with
  | 0 => ("RustTiles$Game", "tiles", "LRustTiles$Table;", true)
  | 1 => ("RustTiles$Game", "hands", "LRustTiles$Table;", true)
  | 2 => ("RustTiles$Game", "tallies", "LRustTiles$Table;", true)
  | 3 => ("RustTiles$Game", "rows", "LRustTiles$Table;", true)
  | 4 => ("RustTiles$Game", "order", "LRustTiles$Table;", true)
  | 5 => ("RustTiles$Game", "playerCount", "I", false)
  | 6 => ("RustTiles$Game", "onMove", "I", false)
  | 7 => ("RustTiles$Game", "taken", "I", false)
  | 8 => ("RustTiles$Game", "turnsMade", "I", false)
  | 9 => ("RustTiles$Game", "passesInRow", "I", false)
  | 10 => ("RustTiles$Game", "refusals", "I", false)
  | 11 => ("RustTiles$Game", "lot", "I", false)
  | _ => ("RustTiles$Game", "interval", "I", false)
def tyX0 : Nat → FieldType := fun k => match k with
  | 0 => .object "RustTiles$Table"
  | 1 => .object "RustTiles$Table"
  | 2 => .object "RustTiles$Table"
  | 3 => .object "RustTiles$Table"
  | 4 => .object "RustTiles$Table"
  | 5 => .int
  | 6 => .int
  | 7 => .int
  | 8 => .int
  | 9 => .int
  | 10 => .int
  | 11 => .int
  | _ => .int
abbrev wsX00 : List Cond := u_ws RX0 TX0 13
theorem nmX0 : ∀ a, a < 13 → ∀ b, b < 13 → a ≠ b → (TX0 a).2.1 ≠ (TX0 b).2.1 := by decide +kernel
theorem tyX0_ok : ∀ k, k < 13 → parseFieldDescriptor (TX0 k).2.2.1 = some (tyX0 k) := by decide +kernel
abbrev cX0_init : ByteArray := prog_2_method_1_code
def yX0_init : MethodName := ⟨RX0, "<init>", "()V"⟩
abbrev cX0_become : ByteArray := prog_2_method_2_code
def yX0_become : MethodName := ⟨RX0, "become", "(LRustTiles$Game;)V"⟩
abbrev cX0_start : ByteArray := prog_2_method_3_code
def yX0_start : MethodName := ⟨RX0, "start", "(II)V"⟩
abbrev cX0_makeTiles : ByteArray := prog_2_method_4_code
def yX0_makeTiles : MethodName := ⟨RX0, "makeTiles", "()V"⟩
abbrev cX0_makeRows : ByteArray := prog_2_method_5_code
def yX0_makeRows : MethodName := ⟨RX0, "makeRows", "()V"⟩
abbrev cX0_orderStock : ByteArray := prog_2_method_6_code
def yX0_orderStock : MethodName := ⟨RX0, "orderStock", "(I)V"⟩
abbrev cX0_insertInOrder : ByteArray := prog_2_method_7_code
def yX0_insertInOrder : MethodName := ⟨RX0, "insertInOrder", "(II)V"⟩
abbrev cX0_deal : ByteArray := prog_2_method_8_code
def yX0_deal : MethodName := ⟨RX0, "deal", "()V"⟩
abbrev cX0_takeFromStock : ByteArray := prog_2_method_9_code
def yX0_takeFromStock : MethodName := ⟨RX0, "takeFromStock", "(I)I"⟩
abbrev cX0_turnToLay : ByteArray := prog_2_method_10_code
def yX0_turnToLay : MethodName := ⟨RX0, "turnToLay", "(III)I"⟩
abbrev cX0_turnToDraw : ByteArray := prog_2_method_11_code
def yX0_turnToDraw : MethodName := ⟨RX0, "turnToDraw", "()I"⟩
abbrev cX0_turnToPass : ByteArray := prog_2_method_12_code
def yX0_turnToPass : MethodName := ⟨RX0, "turnToPass", "()I"⟩
abbrev cX0_oilTile : ByteArray := prog_2_method_13_code
def yX0_oilTile : MethodName := ⟨RX0, "oilTile", "(I)I"⟩
abbrev cX0_reasonAgainst : ByteArray := prog_2_method_14_code
def yX0_reasonAgainst : MethodName := ⟨RX0, "reasonAgainst", "(III)I"⟩
abbrev cX0_fits : ByteArray := prog_2_method_15_code
def yX0_fits : MethodName := ⟨RX0, "fits", "(III)Z"⟩
abbrev cX0_takeFromHand : ByteArray := prog_2_method_16_code
def yX0_takeFromHand : MethodName := ⟨RX0, "takeFromHand", "(II)I"⟩
abbrev cX0_putAtEnd : ByteArray := prog_2_method_17_code
def yX0_putAtEnd : MethodName := ⟨RX0, "putAtEnd", "(III)V"⟩
abbrev cX0_endTurn : ByteArray := prog_2_method_18_code
def yX0_endTurn : MethodName := ⟨RX0, "endTurn", "()I"⟩
abbrev cX0_ageHand : ByteArray := prog_2_method_19_code
def yX0_ageHand : MethodName := ⟨RX0, "ageHand", "(I)V"⟩
abbrev cX0_rust : ByteArray := prog_2_method_20_code
def yX0_rust : MethodName := ⟨RX0, "rust", "(II)V"⟩
abbrev cX0_isOver : ByteArray := prog_2_method_21_code
def yX0_isOver : MethodName := ⟨RX0, "isOver", "()Z"⟩
abbrev cX0_hasPlayer : ByteArray := prog_2_method_22_code
def yX0_hasPlayer : MethodName := ⟨RX0, "hasPlayer", "(I)Z"⟩
abbrev cX0_heldBy : ByteArray := prog_2_method_23_code
def yX0_heldBy : MethodName := ⟨RX0, "heldBy", "(I)I"⟩
abbrev cX0_holdsPlace : ByteArray := prog_2_method_24_code
def yX0_holdsPlace : MethodName := ⟨RX0, "holdsPlace", "(II)Z"⟩
abbrev cX0_stockSize : ByteArray := prog_2_method_25_code
def yX0_stockSize : MethodName := ⟨RX0, "stockSize", "()I"⟩
abbrev cX0_stockTile : ByteArray := prog_2_method_26_code
def yX0_stockTile : MethodName := ⟨RX0, "stockTile", "(I)I"⟩
abbrev cX0_numberOf : ByteArray := prog_2_method_27_code
def yX0_numberOf : MethodName := ⟨RX0, "numberOf", "(II)I"⟩
abbrev cX0_playerProperty : ByteArray := prog_2_method_28_code
def yX0_playerProperty : MethodName := ⟨RX0, "playerProperty", "(II)I"⟩
abbrev cX0_tallied : ByteArray := prog_2_method_29_code
def yX0_tallied : MethodName := ⟨RX0, "tallied", "(I)I"⟩
abbrev cX0_gradesOf : ByteArray := prog_2_method_30_code
def yX0_gradesOf : MethodName := ⟨RX0, "gradesOf", "(I)I"⟩
abbrev cX0_gradesHeld : ByteArray := prog_2_method_31_code
def yX0_gradesHeld : MethodName := ⟨RX0, "gradesHeld", "(I)I"⟩
abbrev cX0_sumOf : ByteArray := prog_2_method_32_code
def yX0_sumOf : MethodName := ⟨RX0, "sumOf", "(I)I"⟩
abbrev cX0_winner : ByteArray := prog_2_method_33_code
def yX0_winner : MethodName := ⟨RX0, "winner", "()I"⟩
abbrev cX0_endsOpenTo : ByteArray := prog_2_method_34_code
def yX0_endsOpenTo : MethodName := ⟨RX0, "endsOpenTo", "(I)I"⟩
abbrev cX0_canLayAt : ByteArray := prog_2_method_35_code
def yX0_canLayAt : MethodName := ⟨RX0, "canLayAt", "(III)Z"⟩
abbrev cX0_fitsSomewhere : ByteArray := prog_2_method_36_code
def yX0_fitsSomewhere : MethodName := ⟨RX0, "fitsSomewhere", "(I)Z"⟩
abbrev cX0_bestPlace : ByteArray := prog_2_method_37_code
def yX0_bestPlace : MethodName := ⟨RX0, "bestPlace", "()I"⟩
abbrev cX0_isBetter : ByteArray := prog_2_method_38_code
def yX0_isBetter : MethodName := ⟨RX0, "isBetter", "(II)Z"⟩
abbrev cX0_shareOfRust : ByteArray := prog_2_method_41_code
def yX0_shareOfRust : MethodName := ⟨RX0, "shareOfRust", "()D"⟩
def RX1 : String := "RustTiles$Past"
def TX1 : u_T := fun k => match k with
  | 0 => ("RustTiles$Past", "states", "[LRustTiles$Game;", true)
  | 1 => ("RustTiles$Past", "next", "I", false)
  | _ => ("RustTiles$Past", "size", "I", false)
def tyX1 : Nat → FieldType := fun k => match k with
  | 0 => .array (.object "RustTiles$Game")
  | 1 => .int
  | _ => .int
abbrev wsX10 : List Cond := u_ws RX1 TX1 3
theorem nmX1 : ∀ a, a < 3 → ∀ b, b < 3 → a ≠ b → (TX1 a).2.1 ≠ (TX1 b).2.1 := by decide +kernel
theorem tyX1_ok : ∀ k, k < 3 → parseFieldDescriptor (TX1 k).2.2.1 = some (tyX1 k) := by decide +kernel
abbrev cX1_init : ByteArray := prog_3_method_1_code
def yX1_init : MethodName := ⟨RX1, "<init>", "()V"⟩
abbrev cX1_remember : ByteArray := prog_3_method_2_code
def yX1_remember : MethodName := ⟨RX1, "remember", "(LRustTiles$Game;)V"⟩
abbrev cX1_restore : ByteArray := prog_3_method_3_code
def yX1_restore : MethodName := ⟨RX1, "restore", "(LRustTiles$Game;)V"⟩
def RX2 : String := "RustTiles$Table"
def TX2 : u_T := fun k => match k with
  | 0 => ("RustTiles$Table", "columns", "I", true)
  | _ => ("RustTiles$Table", "cells", "[I", true)
def tyX2 : Nat → FieldType := fun k => match k with
  | 0 => .int
  | _ => .array .int
abbrev wsX20 : List Cond := u_ws RX2 TX2 2
theorem nmX2 : ∀ a, a < 2 → ∀ b, b < 2 → a ≠ b → (TX2 a).2.1 ≠ (TX2 b).2.1 := by decide +kernel
theorem tyX2_ok : ∀ k, k < 2 → parseFieldDescriptor (TX2 k).2.2.1 = some (tyX2 k) := by decide +kernel
abbrev cX2_init : ByteArray := prog_4_method_1_code
def yX2_init : MethodName := ⟨RX2, "<init>", "(II)V"⟩
abbrev cX2_at : ByteArray := prog_4_method_2_code
def yX2_at : MethodName := ⟨RX2, "at", "(II)I"⟩
abbrev cX2_put : ByteArray := prog_4_method_3_code
def yX2_put : MethodName := ⟨RX2, "put", "(III)V"⟩
abbrev cX2_increase : ByteArray := prog_4_method_4_code
def yX2_increase : MethodName := ⟨RX2, "increase", "(III)V"⟩
abbrev cX2_clear : ByteArray := prog_4_method_5_code
def yX2_clear : MethodName := ⟨RX2, "clear", "()V"⟩
abbrev cX2_become : ByteArray := prog_4_method_6_code
def yX2_become : MethodName := ⟨RX2, "become", "(LRustTiles$Table;)V"⟩
def RX3 : String := "RustTiles$Text"
def TX3 : u_T := fun k => match k with
  | 0 => ("RustTiles$Text", "codes", "[C", true)
  | _ => ("RustTiles$Text", "length", "I", false)
def tyX3 : Nat → FieldType := fun k => match k with
  | 0 => .array .char
  | _ => .int
abbrev wsX30 : List Cond := u_ws RX3 TX3 2
theorem nmX3 : ∀ a, a < 2 → ∀ b, b < 2 → a ≠ b → (TX3 a).2.1 ≠ (TX3 b).2.1 := by decide +kernel
theorem tyX3_ok : ∀ k, k < 2 → parseFieldDescriptor (TX3 k).2.2.1 = some (tyX3 k) := by decide +kernel
abbrev cX3_init : ByteArray := prog_5_method_1_code
def yX3_init : MethodName := ⟨RX3, "<init>", "()V"⟩
def RX4 : String := "RustTiles$Trains"
def TX4 : u_T := fun k => match k with
  | 0 => ("RustTiles$Trains", "halves", "LRustTiles$Table;", true)
  | 1 => ("RustTiles$Trains", "open", "[I", true)
  | _ => ("RustTiles$Trains", "size", "I", false)
def tyX4 : Nat → FieldType := fun k => match k with
  | 0 => .object "RustTiles$Table"
  | 1 => .array .int
  | _ => .int
abbrev wsX40 : List Cond := u_ws RX4 TX4 3
theorem nmX4 : ∀ a, a < 3 → ∀ b, b < 3 → a ≠ b → (TX4 a).2.1 ≠ (TX4 b).2.1 := by decide +kernel
theorem tyX4_ok : ∀ k, k < 3 → parseFieldDescriptor (TX4 k).2.2.1 = some (tyX4 k) := by decide +kernel
abbrev cX4_init : ByteArray := prog_6_method_1_code
def yX4_init : MethodName := ⟨RX4, "<init>", "()V"⟩
abbrev cX4_take : ByteArray := prog_6_method_2_code
def yX4_take : MethodName := ⟨RX4, "take", "(LRustTiles$Game;I)V"⟩
abbrev cX4_isTooLarge : ByteArray := prog_6_method_3_code
def yX4_isTooLarge : MethodName := ⟨RX4, "isTooLarge", "()Z"⟩
abbrev cX4_tryFrom : ByteArray := prog_6_method_4_code
def yX4_tryFrom : MethodName := ⟨RX4, "tryFrom", "(I)V"⟩
abbrev cX4_goOnFrom : ByteArray := prog_6_method_5_code
def yX4_goOnFrom : MethodName := ⟨RX4, "goOnFrom", "(I)V"⟩
abbrev cX4_openBehind : ByteArray := prog_6_method_6_code
def yX4_openBehind : MethodName := ⟨RX4, "openBehind", "(II)I"⟩
abbrev cX4_mostTiles : ByteArray := prog_6_method_7_code
def yX4_mostTiles : MethodName := ⟨RX4, "mostTiles", "()I"⟩
abbrev cX4_wholeByTrying : ByteArray := prog_6_method_8_code
def yX4_wholeByTrying : MethodName := ⟨RX4, "wholeByTrying", "()I"⟩
abbrev cX4_wholeByCounting : ByteArray := prog_6_method_9_code
def yX4_wholeByCounting : MethodName := ⟨RX4, "wholeByCounting", "(I)I"⟩
abbrev cX4_hangsTogetherWith : ByteArray := prog_6_method_10_code
def yX4_hangsTogetherWith : MethodName := ⟨RX4, "hangsTogetherWith", "(I)Z"⟩
abbrev cX4_oddGradesAllow : ByteArray := prog_6_method_11_code
def yX4_oddGradesAllow : MethodName := ⟨RX4, "oddGradesAllow", "(I)Z"⟩
def RX5 : String := "RustTiles"
def TX5 : u_T := fun k => match k with
  | 0 => ("RustTiles", "game", "LRustTiles$Game;", true)
  | 1 => ("RustTiles", "trains", "LRustTiles$Trains;", true)
  | 2 => ("RustTiles", "text", "LRustTiles$Text;", true)
  | 3 => ("RustTiles", "past", "LRustTiles$Past;", true)
  | _ => ("RustTiles", "slots", "[LRustTiles$Game;", true)
def tyX5 : Nat → FieldType := fun k => match k with
  | 0 => .object "RustTiles$Game"
  | 1 => .object "RustTiles$Trains"
  | 2 => .object "RustTiles$Text"
  | 3 => .object "RustTiles$Past"
  | _ => .array (.object "RustTiles$Game")
abbrev wsX50 : List Cond := u_ws RX5 TX5 5
theorem nmX5 : ∀ a, a < 5 → ∀ b, b < 5 → a ≠ b → (TX5 a).2.1 ≠ (TX5 b).2.1 := by decide +kernel
theorem tyX5_ok : ∀ k, k < 5 → parseFieldDescriptor (TX5 k).2.2.1 = some (tyX5 k) := by decide +kernel
abbrev cX5_init : ByteArray := prog_1_method_1_code
def yX5_init : MethodName := ⟨RX5, "<init>", "()V"⟩
abbrev cX5_begin : ByteArray := prog_1_method_2_code
def yX5_begin : MethodName := ⟨RX5, "begin", "(II)I"⟩
abbrev cX5_lay : ByteArray := prog_1_method_3_code
def yX5_lay : MethodName := ⟨RX5, "lay", "(III)I"⟩
abbrev cX5_draw : ByteArray := prog_1_method_4_code
def yX5_draw : MethodName := ⟨RX5, "draw", "()I"⟩
abbrev cX5_pass : ByteArray := prog_1_method_5_code
def yX5_pass : MethodName := ⟨RX5, "pass", "()I"⟩
abbrev cX5_oil : ByteArray := prog_1_method_6_code
def yX5_oil : MethodName := ⟨RX5, "oil", "(I)I"⟩
abbrev cX5_set : ByteArray := prog_1_method_7_code
def yX5_set : MethodName := ⟨RX5, "set", "(I)I"⟩
abbrev cX5_undo : ByteArray := prog_1_method_14_code
def yX5_undo : MethodName := ⟨RX5, "undo", "()I"⟩
abbrev cX5_tileOf : ByteArray := prog_1_method_15_code
def yX5_tileOf : MethodName := ⟨RX5, "tileOf", "(II)I"⟩
abbrev cX5_hand : ByteArray := prog_1_method_16_code
def yX5_hand : MethodName := ⟨RX5, "hand", "(II)I"⟩
abbrev cX5_stock : ByteArray := prog_1_method_17_code
def yX5_stock : MethodName := ⟨RX5, "stock", "(I)I"⟩
abbrev cX5_playerOf : ByteArray := prog_1_method_18_code
def yX5_playerOf : MethodName := ⟨RX5, "playerOf", "(II)I"⟩
abbrev cX5_rowOf : ByteArray := prog_1_method_19_code
def yX5_rowOf : MethodName := ⟨RX5, "rowOf", "(II)I"⟩
abbrev cX5_count : ByteArray := prog_1_method_20_code
def yX5_count : MethodName := ⟨RX5, "count", "(I)I"⟩
abbrev cX5_setting : ByteArray := prog_1_method_21_code
def yX5_setting : MethodName := ⟨RX5, "setting", "()I"⟩
abbrev cX5_whyNot : ByteArray := prog_1_method_22_code
def yX5_whyNot : MethodName := ⟨RX5, "whyNot", "(III)I"⟩
abbrev cX5_longest : ByteArray := prog_1_method_23_code
def yX5_longest : MethodName := ⟨RX5, "longest", "(II)I"⟩
abbrev cX5_whole : ByteArray := prog_1_method_24_code
def yX5_whole : MethodName := ⟨RX5, "whole", "(III)I"⟩
abbrev cX5_advice : ByteArray := prog_1_method_25_code
def yX5_advice : MethodName := ⟨RX5, "advice", "()I"⟩
abbrev cX5_rustShare : ByteArray := prog_1_method_27_code
def yX5_rustShare : MethodName := ⟨RX5, "rustShare", "()D"⟩
abbrev cX5_requireRow : ByteArray := prog_1_method_29_code
def yX5_requireRow : MethodName := ⟨RX5, "requireRow", "(I)V"⟩
abbrev cX5_requireEnd : ByteArray := prog_1_method_30_code
def yX5_requireEnd : MethodName := ⟨RX5, "requireEnd", "(I)V"⟩
abbrev cX5_requirePlayer : ByteArray := prog_1_method_31_code
def yX5_requirePlayer : MethodName := ⟨RX5, "requirePlayer", "(I)V"⟩
abbrev cX5_requirePlace : ByteArray := prog_1_method_32_code
def yX5_requirePlace : MethodName := ⟨RX5, "requirePlace", "(I)V"⟩
abbrev cX5_requireWhat : ByteArray := prog_1_method_33_code
def yX5_requireWhat : MethodName := ⟨RX5, "requireWhat", "(II)V"⟩
abbrev cX5_requireGrade : ByteArray := prog_1_method_34_code
def yX5_requireGrade : MethodName := ⟨RX5, "requireGrade", "(I)V"⟩
def RX6 : String := "RustTilesModel"
def TX6 : u_T := fun k => match k with
  | _ => ("", "", "", false)
def tyX6 : Nat → FieldType := fun k => match k with
  | _ => .int
abbrev wsX60 : List Cond := u_ws RX6 TX6 0
theorem nmX6 : ∀ a, a < 0 → ∀ b, b < 0 → a ≠ b → (TX6 a).2.1 ≠ (TX6 b).2.1 := by decide +kernel
theorem tyX6_ok : ∀ k, k < 0 → parseFieldDescriptor (TX6 k).2.2.1 = some (tyX6 k) := by decide +kernel
def RJx145de : String := "java/io/Serializable"
def TJx145de : u_T := fun k => match k with
  | _ => ("", "", "", false)
def tyJx145de : Nat → FieldType := fun k => match k with
  | _ => .int
abbrev wsJx145de0 : List Cond := u_ws RJx145de TJx145de 0
theorem nmJx145de : ∀ a, a < 0 → ∀ b, b < 0 → a ≠ b → (TJx145de a).2.1 ≠ (TJx145de b).2.1 := by decide +kernel
theorem tyJx145de_ok : ∀ k, k < 0 → parseFieldDescriptor (TJx145de k).2.2.1 = some (tyJx145de k) := by decide +kernel
def RJ6 : String := "java/lang/Integer"
def TJ6 : u_T := fun k => match k with
  | _ => ("", "", "", false)
def tyJ6 : Nat → FieldType := fun k => match k with
  | _ => .int
abbrev wsJ60 : List Cond := u_ws RJ6 TJ6 0
theorem nmJ6 : ∀ a, a < 0 → ∀ b, b < 0 → a ≠ b → (TJ6 a).2.1 ≠ (TJ6 b).2.1 := by decide +kernel
theorem tyJ6_ok : ∀ k, k < 0 → parseFieldDescriptor (TJ6 k).2.2.1 = some (tyJ6 k) := by decide +kernel
abbrev cJ6_bitCount_0f7a4 : ByteArray := prog_13_method_49_code
def yJ6_bitCount_0f7a4 : MethodName := ⟨RJ6, "bitCount", "(I)I"⟩
def RJ9 : String := "java/lang/Math"
def TJ9 : u_T := fun k => match k with
  | _ => ("", "", "", false)
def tyJ9 : Nat → FieldType := fun k => match k with
  | _ => .int
abbrev wsJ90 : List Cond := u_ws RJ9 TJ9 0
theorem nmJ9 : ∀ a, a < 0 → ∀ b, b < 0 → a ≠ b → (TJ9 a).2.1 ≠ (TJ9 b).2.1 := by decide +kernel
theorem tyJ9_ok : ∀ k, k < 0 → parseFieldDescriptor (TJ9 k).2.2.1 = some (tyJ9 k) := by decide +kernel
abbrev cJ9_max_7cf53 : ByteArray := prog_14_method_65_code
def yJ9_max_7cf53 : MethodName := ⟨RJ9, "max", "(II)I"⟩
abbrev cJ9_min_7cf53 : ByteArray := prog_14_method_69_code
def yJ9_min_7cf53 : MethodName := ⟨RJ9, "min", "(II)I"⟩
def RJ0 : String := "java/lang/String"
def TJ0 : u_T := fun k => match k with
  | _ => ("", "", "", false)
def tyJ0 : Nat → FieldType := fun k => match k with
  | _ => .int
abbrev wsJ00 : List Cond := u_ws RJ0 TJ0 0
theorem nmJ0 : ∀ a, a < 0 → ∀ b, b < 0 → a ≠ b → (TJ0 a).2.1 ≠ (TJ0 b).2.1 := by decide +kernel
theorem tyJ0_ok : ∀ k, k < 0 → parseFieldDescriptor (TJ0 k).2.2.1 = some (tyJ0 k) := by decide +kernel
def RJ10 : String := "java/lang/System"
def TJ10 : u_T := fun k => match k with
  | _ => ("", "", "", false)
def tyJ10 : Nat → FieldType := fun k => match k with
  | _ => .int
abbrev wsJ100 : List Cond := u_ws RJ10 TJ10 0
theorem nmJ10 : ∀ a, a < 0 → ∀ b, b < 0 → a ≠ b → (TJ10 a).2.1 ≠ (TJ10 b).2.1 := by decide +kernel
theorem tyJ10_ok : ∀ k, k < 0 → parseFieldDescriptor (TJ10 k).2.2.1 = some (tyJ10 k) := by decide +kernel
def RJ7 : String := "java/util/Arrays"
def TJ7 : u_T := fun k => match k with
  | _ => ("", "", "", false)
def tyJ7 : Nat → FieldType := fun k => match k with
  | _ => .int
abbrev wsJ70 : List Cond := u_ws RJ7 TJ7 0
theorem nmJ7 : ∀ a, a < 0 → ∀ b, b < 0 → a ≠ b → (TJ7 a).2.1 ≠ (TJ7 b).2.1 := by decide +kernel
theorem tyJ7_ok : ∀ k, k < 0 → parseFieldDescriptor (TJ7 k).2.2.1 = some (tyJ7 k) := by decide +kernel
abbrev cJ7_fill_53178 : ByteArray := prog_19_method_103_code
def yJ7_fill_53178 : MethodName := ⟨RJ7, "fill", "([II)V"⟩
def RL : String := "RustTilesLaw"
abbrev cL_cell : ByteArray := method_2_code
def yL_cell : MethodName := ⟨RL, "cell", "([II)I"⟩
abbrev cL_low : ByteArray := method_3_code
def yL_low : MethodName := ⟨RL, "low", "(II)I"⟩
abbrev cL_changes : ByteArray := method_4_code
def yL_changes : MethodName := ⟨RL, "changes", "(LRustTiles;IIII[I)I"⟩
abbrev cL_act : ByteArray := method_5_code
def yL_act : MethodName := ⟨RL, "act", "(LRustTiles;I[I)I"⟩
abbrev cL_areAlike : ByteArray := method_6_code
def yL_areAlike : MethodName := ⟨RL, "areAlike", "(LRustTiles;LRustTiles;)Z"⟩
abbrev cL_areSums : ByteArray := method_7_code
def yL_areSums : MethodName := ⟨RL, "areSums", "(LRustTiles;)Z"⟩
abbrev cL_isMoveSo : ByteArray := method_8_code
def yL_isMoveSo : MethodName := ⟨RL, "isMoveSo", "(LRustTiles;)Z"⟩
abbrev cL_areTrainsSo : ByteArray := method_9_code
def yL_areTrainsSo : MethodName := ⟨RL, "areTrainsSo", "(LRustTiles;I)Z"⟩
abbrev cL_law : ByteArray := code
def yL_law : MethodName := ⟨RL, "law", "([I)Z"⟩
abbrev vwCl : List vw_C := [(RX0, TX0, 13), (RX1, TX1, 3), (RX2, TX2, 2), (RX3, TX3, 2), (RX4, TX4, 3), (RX5, TX5, 5)]
/-- the words that a method may be told: those of the tables that keep -/
def TB : List Cond := lw_tbl.filter goodWord
end
section
/-! decode rows, as printed -/
theorem dX2_init_0 : decode cX2_init 0 = .ok (.aload_n 0, 1) := by decide +kernel
theorem dX2_init_1 : decode cX2_init 1 = .ok (.invokespecial 3, 3) := by decide +kernel
theorem dX2_init_4 : decode cX2_init 4 = .ok (.aload_n 0, 1) := by decide +kernel
theorem dX2_init_5 : decode cX2_init 5 = .ok (.iload_n 2, 1) := by decide +kernel
theorem dX2_init_6 : decode cX2_init 6 = .ok (.putfield 9, 3) := by decide +kernel
theorem dX2_init_9 : decode cX2_init 9 = .ok (.aload_n 0, 1) := by decide +kernel
theorem dX2_init_10 : decode cX2_init 10 = .ok (.iload_n 1, 1) := by decide +kernel
theorem dX2_init_11 : decode cX2_init 11 = .ok (.iload_n 2, 1) := by decide +kernel
theorem dX2_init_12 : decode cX2_init 12 = .ok (.imul, 1) := by decide +kernel
theorem dX2_init_13 : decode cX2_init 13 = .ok (.iconst 0, 1) := by decide +kernel
theorem dX2_init_14 : decode cX2_init 14 = .ok (.invokestatic 15, 3) := by decide +kernel
theorem dX2_init_17 : decode cX2_init 17 = .ok (.newarray .int, 2) := by decide +kernel
theorem dX2_init_19 : decode cX2_init 19 = .ok (.putfield 21, 3) := by decide +kernel
theorem dX2_init_22 : decode cX2_init 22 = .ok (.return_, 1) := by decide +kernel
theorem dX2_at_0 : decode cX2_at 0 = .ok (.iload_n 1, 1) := by decide +kernel
theorem dX2_at_1 : decode cX2_at 1 = .ok (.aload_n 0, 1) := by decide +kernel
theorem dX2_at_2 : decode cX2_at 2 = .ok (.getfield 9, 3) := by decide +kernel
theorem dX2_at_5 : decode cX2_at 5 = .ok (.imul, 1) := by decide +kernel
theorem dX2_at_6 : decode cX2_at 6 = .ok (.iload_n 2, 1) := by decide +kernel
theorem dX2_at_7 : decode cX2_at 7 = .ok (.iadd, 1) := by decide +kernel
theorem dX2_at_8 : decode cX2_at 8 = .ok (.istore_n 3, 1) := by decide +kernel
theorem dX2_at_9 : decode cX2_at 9 = .ok (.iload_n 3, 1) := by decide +kernel
theorem dX2_at_10 : decode cX2_at 10 = .ok (.ifCond .lt 21, 3) := by decide +kernel
theorem dX2_at_13 : decode cX2_at 13 = .ok (.iload_n 3, 1) := by decide +kernel
theorem dX2_at_14 : decode cX2_at 14 = .ok (.aload_n 0, 1) := by decide +kernel
theorem dX2_at_15 : decode cX2_at 15 = .ok (.getfield 21, 3) := by decide +kernel
theorem dX2_at_18 : decode cX2_at 18 = .ok (.arraylength, 1) := by decide +kernel
theorem dX2_at_19 : decode cX2_at 19 = .ok (.if_icmp .ge 12, 3) := by decide +kernel
theorem dX2_at_22 : decode cX2_at 22 = .ok (.aload_n 0, 1) := by decide +kernel
theorem dX2_at_23 : decode cX2_at 23 = .ok (.getfield 21, 3) := by decide +kernel
theorem dX2_at_26 : decode cX2_at 26 = .ok (.iload_n 3, 1) := by decide +kernel
theorem dX2_at_27 : decode cX2_at 27 = .ok (.iaload, 1) := by decide +kernel
theorem dX2_at_28 : decode cX2_at 28 = .ok (.goto 4, 3) := by decide +kernel
theorem dX2_at_31 : decode cX2_at 31 = .ok (.iconst (-1), 1) := by decide +kernel
theorem dX2_at_32 : decode cX2_at 32 = .ok (.ireturn, 1) := by decide +kernel
theorem dX2_put_0 : decode cX2_put 0 = .ok (.iload_n 1, 1) := by decide +kernel
theorem dX2_put_1 : decode cX2_put 1 = .ok (.aload_n 0, 1) := by decide +kernel
theorem dX2_put_2 : decode cX2_put 2 = .ok (.getfield 9, 3) := by decide +kernel
theorem dX2_put_5 : decode cX2_put 5 = .ok (.imul, 1) := by decide +kernel
theorem dX2_put_6 : decode cX2_put 6 = .ok (.iload_n 2, 1) := by decide +kernel
theorem dX2_put_7 : decode cX2_put 7 = .ok (.iadd, 1) := by decide +kernel
theorem dX2_put_8 : decode cX2_put 8 = .ok (.istore 4, 2) := by decide +kernel
theorem dX2_put_10 : decode cX2_put 10 = .ok (.iload 4, 2) := by decide +kernel
theorem dX2_put_12 : decode cX2_put 12 = .ok (.ifCond .lt 21, 3) := by decide +kernel
theorem dX2_put_15 : decode cX2_put 15 = .ok (.iload 4, 2) := by decide +kernel
theorem dX2_put_17 : decode cX2_put 17 = .ok (.aload_n 0, 1) := by decide +kernel
theorem dX2_put_18 : decode cX2_put 18 = .ok (.getfield 21, 3) := by decide +kernel
theorem dX2_put_21 : decode cX2_put 21 = .ok (.arraylength, 1) := by decide +kernel
theorem dX2_put_22 : decode cX2_put 22 = .ok (.if_icmp .ge 11, 3) := by decide +kernel
theorem dX2_put_25 : decode cX2_put 25 = .ok (.aload_n 0, 1) := by decide +kernel
theorem dX2_put_26 : decode cX2_put 26 = .ok (.getfield 21, 3) := by decide +kernel
theorem dX2_put_29 : decode cX2_put 29 = .ok (.iload 4, 2) := by decide +kernel
theorem dX2_put_31 : decode cX2_put 31 = .ok (.iload_n 3, 1) := by decide +kernel
theorem dX2_put_32 : decode cX2_put 32 = .ok (.iastore, 1) := by decide +kernel
theorem dX2_put_33 : decode cX2_put 33 = .ok (.return_, 1) := by decide +kernel
theorem dX2_increase_0 : decode cX2_increase 0 = .ok (.iload_n 1, 1) := by decide +kernel
theorem dX2_increase_1 : decode cX2_increase 1 = .ok (.aload_n 0, 1) := by decide +kernel
theorem dX2_increase_2 : decode cX2_increase 2 = .ok (.getfield 9, 3) := by decide +kernel
theorem dX2_increase_5 : decode cX2_increase 5 = .ok (.imul, 1) := by decide +kernel
theorem dX2_increase_6 : decode cX2_increase 6 = .ok (.iload_n 2, 1) := by decide +kernel
theorem dX2_increase_7 : decode cX2_increase 7 = .ok (.iadd, 1) := by decide +kernel
theorem dX2_increase_8 : decode cX2_increase 8 = .ok (.istore 4, 2) := by decide +kernel
theorem dX2_increase_10 : decode cX2_increase 10 = .ok (.iload 4, 2) := by decide +kernel
theorem dX2_increase_12 : decode cX2_increase 12 = .ok (.ifCond .lt 24, 3) := by decide +kernel
theorem dX2_increase_15 : decode cX2_increase 15 = .ok (.iload 4, 2) := by decide +kernel
theorem dX2_increase_17 : decode cX2_increase 17 = .ok (.aload_n 0, 1) := by decide +kernel
theorem dX2_increase_18 : decode cX2_increase 18 = .ok (.getfield 21, 3) := by decide +kernel
theorem dX2_increase_21 : decode cX2_increase 21 = .ok (.arraylength, 1) := by decide +kernel
theorem dX2_increase_22 : decode cX2_increase 22 = .ok (.if_icmp .ge 14, 3) := by decide +kernel
theorem dX2_increase_25 : decode cX2_increase 25 = .ok (.aload_n 0, 1) := by decide +kernel
theorem dX2_increase_26 : decode cX2_increase 26 = .ok (.getfield 21, 3) := by decide +kernel
theorem dX2_increase_29 : decode cX2_increase 29 = .ok (.iload 4, 2) := by decide +kernel
theorem dX2_increase_31 : decode cX2_increase 31 = .ok (.dup2, 1) := by decide +kernel
theorem dX2_increase_32 : decode cX2_increase 32 = .ok (.iaload, 1) := by decide +kernel
theorem dX2_increase_33 : decode cX2_increase 33 = .ok (.iload_n 3, 1) := by decide +kernel
theorem dX2_increase_34 : decode cX2_increase 34 = .ok (.iadd, 1) := by decide +kernel
theorem dX2_increase_35 : decode cX2_increase 35 = .ok (.iastore, 1) := by decide +kernel
theorem dX2_increase_36 : decode cX2_increase 36 = .ok (.return_, 1) := by decide +kernel
theorem dX2_clear_0 : decode cX2_clear 0 = .ok (.aload_n 0, 1) := by decide +kernel
theorem dX2_clear_1 : decode cX2_clear 1 = .ok (.getfield 21, 3) := by decide +kernel
theorem dX2_clear_4 : decode cX2_clear 4 = .ok (.iconst 0, 1) := by decide +kernel
theorem dX2_clear_5 : decode cX2_clear 5 = .ok (.invokestatic 25, 3) := by decide +kernel
theorem dX2_clear_8 : decode cX2_clear 8 = .ok (.return_, 1) := by decide +kernel
theorem dX2_become_0 : decode cX2_become 0 = .ok (.aload_n 1, 1) := by decide +kernel
theorem dX2_become_1 : decode cX2_become 1 = .ok (.ifnull 29, 3) := by decide +kernel
theorem dX2_become_4 : decode cX2_become 4 = .ok (.aload_n 1, 1) := by decide +kernel
theorem dX2_become_5 : decode cX2_become 5 = .ok (.getfield 21, 3) := by decide +kernel
theorem dX2_become_8 : decode cX2_become 8 = .ok (.iconst 0, 1) := by decide +kernel
theorem dX2_become_9 : decode cX2_become 9 = .ok (.aload_n 0, 1) := by decide +kernel
theorem dX2_become_10 : decode cX2_become 10 = .ok (.getfield 21, 3) := by decide +kernel
theorem dX2_become_13 : decode cX2_become 13 = .ok (.iconst 0, 1) := by decide +kernel
theorem dX2_become_14 : decode cX2_become 14 = .ok (.aload_n 1, 1) := by decide +kernel
theorem dX2_become_15 : decode cX2_become 15 = .ok (.getfield 21, 3) := by decide +kernel
theorem dX2_become_18 : decode cX2_become 18 = .ok (.arraylength, 1) := by decide +kernel
theorem dX2_become_19 : decode cX2_become 19 = .ok (.aload_n 0, 1) := by decide +kernel
theorem dX2_become_20 : decode cX2_become 20 = .ok (.getfield 21, 3) := by decide +kernel
theorem dX2_become_23 : decode cX2_become 23 = .ok (.arraylength, 1) := by decide +kernel
theorem dX2_become_24 : decode cX2_become 24 = .ok (.invokestatic 31, 3) := by decide +kernel
theorem dX2_become_27 : decode cX2_become 27 = .ok (.invokestatic 34, 3) := by decide +kernel
theorem dX2_become_30 : decode cX2_become 30 = .ok (.return_, 1) := by decide +kernel
theorem dJ6_bitCount_0f7a4_0 : decode cJ6_bitCount_0f7a4 0 = .ok (.iload_n 0, 1) := by decide +kernel
theorem dJ6_bitCount_0f7a4_1 : decode cJ6_bitCount_0f7a4 1 = .ok (.iload_n 0, 1) := by decide +kernel
theorem dJ6_bitCount_0f7a4_2 : decode cJ6_bitCount_0f7a4 2 = .ok (.iconst 1, 1) := by decide +kernel
theorem dJ6_bitCount_0f7a4_3 : decode cJ6_bitCount_0f7a4 3 = .ok (.iushr, 1) := by decide +kernel
theorem dJ6_bitCount_0f7a4_4 : decode cJ6_bitCount_0f7a4 4 = .ok (.ldc_w 265, 3) := by decide +kernel
theorem dJ6_bitCount_0f7a4_7 : decode cJ6_bitCount_0f7a4 7 = .ok (.iand, 1) := by decide +kernel
theorem dJ6_bitCount_0f7a4_8 : decode cJ6_bitCount_0f7a4 8 = .ok (.isub, 1) := by decide +kernel
theorem dJ6_bitCount_0f7a4_9 : decode cJ6_bitCount_0f7a4 9 = .ok (.istore_n 0, 1) := by decide +kernel
theorem dJ6_bitCount_0f7a4_10 : decode cJ6_bitCount_0f7a4 10 = .ok (.iload_n 0, 1) := by decide +kernel
theorem dJ6_bitCount_0f7a4_11 : decode cJ6_bitCount_0f7a4 11 = .ok (.ldc_w 266, 3) := by decide +kernel
theorem dJ6_bitCount_0f7a4_14 : decode cJ6_bitCount_0f7a4 14 = .ok (.iand, 1) := by decide +kernel
theorem dJ6_bitCount_0f7a4_15 : decode cJ6_bitCount_0f7a4 15 = .ok (.iload_n 0, 1) := by decide +kernel
theorem dJ6_bitCount_0f7a4_16 : decode cJ6_bitCount_0f7a4 16 = .ok (.iconst 2, 1) := by decide +kernel
theorem dJ6_bitCount_0f7a4_17 : decode cJ6_bitCount_0f7a4 17 = .ok (.iushr, 1) := by decide +kernel
theorem dJ6_bitCount_0f7a4_18 : decode cJ6_bitCount_0f7a4 18 = .ok (.ldc_w 266, 3) := by decide +kernel
theorem dJ6_bitCount_0f7a4_21 : decode cJ6_bitCount_0f7a4 21 = .ok (.iand, 1) := by decide +kernel
theorem dJ6_bitCount_0f7a4_22 : decode cJ6_bitCount_0f7a4 22 = .ok (.iadd, 1) := by decide +kernel
theorem dJ6_bitCount_0f7a4_23 : decode cJ6_bitCount_0f7a4 23 = .ok (.istore_n 0, 1) := by decide +kernel
theorem dJ6_bitCount_0f7a4_24 : decode cJ6_bitCount_0f7a4 24 = .ok (.iload_n 0, 1) := by decide +kernel
theorem dJ6_bitCount_0f7a4_25 : decode cJ6_bitCount_0f7a4 25 = .ok (.iload_n 0, 1) := by decide +kernel
theorem dJ6_bitCount_0f7a4_26 : decode cJ6_bitCount_0f7a4 26 = .ok (.iconst 4, 1) := by decide +kernel
theorem dJ6_bitCount_0f7a4_27 : decode cJ6_bitCount_0f7a4 27 = .ok (.iushr, 1) := by decide +kernel
theorem dJ6_bitCount_0f7a4_28 : decode cJ6_bitCount_0f7a4 28 = .ok (.iadd, 1) := by decide +kernel
theorem dJ6_bitCount_0f7a4_29 : decode cJ6_bitCount_0f7a4 29 = .ok (.ldc_w 267, 3) := by decide +kernel
theorem dJ6_bitCount_0f7a4_32 : decode cJ6_bitCount_0f7a4 32 = .ok (.iand, 1) := by decide +kernel
theorem dJ6_bitCount_0f7a4_33 : decode cJ6_bitCount_0f7a4 33 = .ok (.istore_n 0, 1) := by decide +kernel
theorem dJ6_bitCount_0f7a4_34 : decode cJ6_bitCount_0f7a4 34 = .ok (.iload_n 0, 1) := by decide +kernel
theorem dJ6_bitCount_0f7a4_35 : decode cJ6_bitCount_0f7a4 35 = .ok (.iload_n 0, 1) := by decide +kernel
theorem dJ6_bitCount_0f7a4_36 : decode cJ6_bitCount_0f7a4 36 = .ok (.bipush 8, 2) := by decide +kernel
theorem dJ6_bitCount_0f7a4_38 : decode cJ6_bitCount_0f7a4 38 = .ok (.iushr, 1) := by decide +kernel
theorem dJ6_bitCount_0f7a4_39 : decode cJ6_bitCount_0f7a4 39 = .ok (.iadd, 1) := by decide +kernel
theorem dJ6_bitCount_0f7a4_40 : decode cJ6_bitCount_0f7a4 40 = .ok (.istore_n 0, 1) := by decide +kernel
theorem dJ6_bitCount_0f7a4_41 : decode cJ6_bitCount_0f7a4 41 = .ok (.iload_n 0, 1) := by decide +kernel
theorem dJ6_bitCount_0f7a4_42 : decode cJ6_bitCount_0f7a4 42 = .ok (.iload_n 0, 1) := by decide +kernel
theorem dJ6_bitCount_0f7a4_43 : decode cJ6_bitCount_0f7a4 43 = .ok (.bipush 16, 2) := by decide +kernel
theorem dJ6_bitCount_0f7a4_45 : decode cJ6_bitCount_0f7a4 45 = .ok (.iushr, 1) := by decide +kernel
theorem dJ6_bitCount_0f7a4_46 : decode cJ6_bitCount_0f7a4 46 = .ok (.iadd, 1) := by decide +kernel
theorem dJ6_bitCount_0f7a4_47 : decode cJ6_bitCount_0f7a4 47 = .ok (.istore_n 0, 1) := by decide +kernel
theorem dJ6_bitCount_0f7a4_48 : decode cJ6_bitCount_0f7a4 48 = .ok (.iload_n 0, 1) := by decide +kernel
theorem dJ6_bitCount_0f7a4_49 : decode cJ6_bitCount_0f7a4 49 = .ok (.bipush 63, 2) := by decide +kernel
theorem dJ6_bitCount_0f7a4_51 : decode cJ6_bitCount_0f7a4 51 = .ok (.iand, 1) := by decide +kernel
theorem dJ6_bitCount_0f7a4_52 : decode cJ6_bitCount_0f7a4 52 = .ok (.ireturn, 1) := by decide +kernel
theorem dJ9_max_7cf53_0 : decode cJ9_max_7cf53 0 = .ok (.iload_n 0, 1) := by decide +kernel
theorem dJ9_max_7cf53_1 : decode cJ9_max_7cf53 1 = .ok (.iload_n 1, 1) := by decide +kernel
theorem dJ9_max_7cf53_2 : decode cJ9_max_7cf53 2 = .ok (.if_icmp .lt 7, 3) := by decide +kernel
theorem dJ9_max_7cf53_5 : decode cJ9_max_7cf53 5 = .ok (.iload_n 0, 1) := by decide +kernel
theorem dJ9_max_7cf53_6 : decode cJ9_max_7cf53 6 = .ok (.goto 4, 3) := by decide +kernel
theorem dJ9_max_7cf53_9 : decode cJ9_max_7cf53 9 = .ok (.iload_n 1, 1) := by decide +kernel
theorem dJ9_max_7cf53_10 : decode cJ9_max_7cf53 10 = .ok (.ireturn, 1) := by decide +kernel
theorem dJ9_min_7cf53_0 : decode cJ9_min_7cf53 0 = .ok (.iload_n 0, 1) := by decide +kernel
theorem dJ9_min_7cf53_1 : decode cJ9_min_7cf53 1 = .ok (.iload_n 1, 1) := by decide +kernel
theorem dJ9_min_7cf53_2 : decode cJ9_min_7cf53 2 = .ok (.if_icmp .gt 7, 3) := by decide +kernel
theorem dJ9_min_7cf53_5 : decode cJ9_min_7cf53 5 = .ok (.iload_n 0, 1) := by decide +kernel
theorem dJ9_min_7cf53_6 : decode cJ9_min_7cf53 6 = .ok (.goto 4, 3) := by decide +kernel
theorem dJ9_min_7cf53_9 : decode cJ9_min_7cf53 9 = .ok (.iload_n 1, 1) := by decide +kernel
theorem dJ9_min_7cf53_10 : decode cJ9_min_7cf53 10 = .ok (.ireturn, 1) := by decide +kernel
theorem dJ7_fill_53178_0 : decode cJ7_fill_53178 0 = .ok (.iconst 0, 1) := by decide +kernel
theorem dJ7_fill_53178_1 : decode cJ7_fill_53178 1 = .ok (.istore_n 2, 1) := by decide +kernel
theorem dJ7_fill_53178_2 : decode cJ7_fill_53178 2 = .ok (.aload_n 0, 1) := by decide +kernel
theorem dJ7_fill_53178_3 : decode cJ7_fill_53178 3 = .ok (.arraylength, 1) := by decide +kernel
theorem dJ7_fill_53178_4 : decode cJ7_fill_53178 4 = .ok (.istore_n 3, 1) := by decide +kernel
theorem dJ7_fill_53178_5 : decode cJ7_fill_53178 5 = .ok (.iload_n 2, 1) := by decide +kernel
theorem dJ7_fill_53178_6 : decode cJ7_fill_53178 6 = .ok (.iload_n 3, 1) := by decide +kernel
theorem dJ7_fill_53178_7 : decode cJ7_fill_53178 7 = .ok (.if_icmp .ge 13, 3) := by decide +kernel
theorem dJ7_fill_53178_10 : decode cJ7_fill_53178 10 = .ok (.aload_n 0, 1) := by decide +kernel
theorem dJ7_fill_53178_11 : decode cJ7_fill_53178 11 = .ok (.iload_n 2, 1) := by decide +kernel
theorem dJ7_fill_53178_12 : decode cJ7_fill_53178 12 = .ok (.iload_n 1, 1) := by decide +kernel
theorem dJ7_fill_53178_13 : decode cJ7_fill_53178 13 = .ok (.iastore, 1) := by decide +kernel
theorem dJ7_fill_53178_14 : decode cJ7_fill_53178 14 = .ok (.iinc 2 1, 3) := by decide +kernel
theorem dJ7_fill_53178_17 : decode cJ7_fill_53178 17 = .ok (.goto (-12), 3) := by decide +kernel
theorem dJ7_fill_53178_20 : decode cJ7_fill_53178 20 = .ok (.return_, 1) := by decide +kernel
end
section
/-! THE LAYER: a heap is a function HP of addresses (what is known of it); V: the walk at a pc over such a heap; Mg: a method's contract over such heaps. Rows r_..: one an instruction. -/
abbrev HP : Type := Nat → Option va_E
abbrev ga_ : Type := va_G × (Nat → ClassId) × Nat × (Nat → Option Cell)
def up_ (h : HP) (a : Nat) (e : va_E) : HP := fun q => if q = a then some e else h q
theorem up_s (h : HP) (a : Nat) (e : va_E) : up_ h a e a = some e := by simp [up_]
theorem up_n {h : HP} {a b : Nat} {e : va_E} (hb : b ≠ a) : up_ h a e b = h b := by simp [up_, hb]
theorem up_up (h : HP) (a : Nat) (e e2 : va_E) : up_ (up_ h a e) a e2 = up_ h a e2 := by funext q; by_cases c : q = a <;> simp [up_, c]
def tys_ (cy : Nat → ClassId) : List (ClassId × FieldType) := [(cy 0, .int), (cy 1, .char), (cy 2, .int), (cy 3, .int), (cy 4, .object RX0)]
abbrev aI_ (G : ga_) (n : Nat) (f : Nat → Int32) : va_E := .inl (G.2.1 0, n, .inl f)
abbrev aC_ (G : ga_) (n : Nat) (f : Nat → Int32) : va_E := .inl (G.2.1 1, n, .inl f)
abbrev aG_ (G : ga_) (n : Nat) (f : Nat → Option Nat) : va_E := .inl (G.2.1 4, n, .inr (.inr (.inr (.inr f))))
abbrev ob_ (ci : Nat) (fs : List Value) : va_E := .inr (ci, fs)
def NB : List Cond := [(Jvm.Cond.methodLinkNest "RustTiles" (9 : Nat) ({ cls := "RustTiles$Game", name := "<init>", desc := "()V" } : Jvm.MethodName) "RustTiles"), (Jvm.Cond.methodLinkNest "RustTiles" (18 : Nat) ({ cls := "RustTiles$Trains", name := "<init>", desc := "()V" } : Jvm.MethodName) "RustTiles"), (Jvm.Cond.methodLinkNest "RustTiles" (25 : Nat) ({ cls := "RustTiles$Text", name := "<init>", desc := "()V" } : Jvm.MethodName) "RustTiles"), (Jvm.Cond.methodLinkNest "RustTiles" (32 : Nat) ({ cls := "RustTiles$Past", name := "<init>", desc := "()V" } : Jvm.MethodName) "RustTiles"), (Jvm.Cond.methodLinkNest "RustTiles$Past" (21 : Nat) ({ cls := "RustTiles$Game", name := "<init>", desc := "()V" } : Jvm.MethodName) "RustTiles"), (Jvm.Cond.fieldLinkNest "RustTiles$Trains" (41 : Nat) "RustTiles$Game" "tiles" "LRustTiles$Table;" "RustTiles"), (Jvm.Cond.fieldLinkNest "RustTiles" (148 : Nat) "RustTiles$Game" "tiles" "LRustTiles$Table;" "RustTiles"), (Jvm.Cond.fieldLinkNest "RustTiles$Trains" (34 : Nat) "RustTiles$Game" "hands" "LRustTiles$Table;" "RustTiles"), (Jvm.Cond.fieldLinkNest "RustTiles" (164 : Nat) "RustTiles$Game" "hands" "LRustTiles$Table;" "RustTiles"), (Jvm.Cond.fieldLinkNest "RustTiles" (173 : Nat) "RustTiles$Game" "rows" "LRustTiles$Table;" "RustTiles"), (Jvm.Cond.fieldLinkNest "RustTiles" (81 : Nat) "RustTiles$Game" "onMove" "I" "RustTiles"), (Jvm.Cond.fieldLinkNest "RustTiles" (100 : Nat) "RustTiles$Game" "interval" "I" "RustTiles"), (Jvm.Cond.fieldLinkNest "RustTiles" (135 : Nat) "RustTiles$Past" "size" "I" "RustTiles")]
def nbk_ : Cond → Bool
  | .fieldLinkNest _ _ _ _ _ _ => true
  | .methodLinkNest _ _ _ _ => true
  | _ => false
theorem nb_moved {w : Cond} (hw : nbk_ w = true) {s U : State} (hW : s.WarmedH U.vm) (h : va_Nw w s) : va_Nw w U := by
  cases w <;> first | exact va_Nw.warmF hW h | exact va_Nw.warmM hW h | exact absurd hw (by simp [nbk_])
theorem nb_same {w : Cond} (hw : nbk_ w = true) {s U : State} (hW : s.vm = U.vm) (h : va_Nw w s) : va_Nw w U := by
  cases w <;> first | exact va_Nw.same rfl hW h | exact absurd hw (by simp [nbk_])
theorem NB_ok : ∀ w ∈ NB, nbk_ w = true := List.all_eq_true.mp rfl
/-- what every method is told of the machine's tables -/
def XB : List String := ["java/lang/IllegalArgumentException", "java/lang/IllegalStateException", "java/lang/IndexOutOfBoundsException"]
/-- the classes that the law catches -/
def YB : List String := ["java/lang/IllegalArgumentException", "java/lang/IndexOutOfBoundsException"]
def DB : List MethodName := [Bundle.initS "java/lang/RuntimeException", Bundle.initS "java/lang/Exception", Bundle.initS Bundle.tN]
def SR : List (Nat × String) := [(47, "no such players or lot"), (91, "no such place in the hand"), (98, "no such setting"), (138, "no saved state"), (143, "no such tile"), (231, "no such row"), (233, "no such end"), (239, "no such player in this game"), (241, "a place below 0"), (243, "nothing of this number to tell"), (245, "no such grade")]
/-- what a throw and a catch want of the tables, and of the statics below lo -/
def ex_ (G : ga_) (U : State) : Prop := (∀ X ∈ XB, va_Nw (.castable X X) U) ∧ (∀ X ∈ XB, ∀ Y ∈ YB, X ≠ Y → va_Nc X Y U) ∧ (∀ q ∈ SR, ∃ sa, vk_R RX5 q.1 q.2 sa U) ∧ (∀ y ∈ DB, va_Nw (.declares y) U) ∧ ∃ H0 : Heap, (∀ q, q < G.2.2.1 → H0[q]? = G.2.2.2 q) ∧ vx_Zq Bundle.tN "UNASSIGNED_STACK" Bundle.steD (fun q => G.2.2.1 ≤ q) U H0 ∧ vx_Zq Bundle.tN "SUPPRESSED_SENTINEL" Bundle.listD (fun q => G.2.2.1 ≤ q) U H0
theorem ex_.moved {G : ga_} {s U : State} (hW : s.WarmedH U.vm) (h : ex_ G s) : ex_ G U := by
  obtain ⟨h1, h2, h3, hd, H0, h4, h5, h6⟩ := h
  refine ⟨fun X hX => va_Nw.warmC hW (h1 X hX), fun X hX Y hY n => (h2 X hX Y hY n).moved hW.alike, fun q hq => ?_, fun y hy => va_Nw.warmD hW (hd y hy), H0, h4, h5.moved hW.alike, h6.moved hW.alike⟩
  obtain ⟨sa, h⟩ := h3 q hq
  exact ⟨sa, h.warm hW⟩
theorem ex_.same {G : ga_} {s U : State} (hW : s.vm = U.vm) (h : ex_ G s) : ex_ G U := by
  obtain ⟨h1, h2, h3, hd, H0, h4, h5, h6⟩ := h
  have hA : s.vm.Alike U.vm := by rw [hW]; exact Vm.Alike.refl U.vm
  refine ⟨fun X hX => va_Nw.same rfl hW (h1 X hX), fun X hX Y hY n => (h2 X hX Y hY n).moved hA, fun q hq => ?_, fun y hy => va_Nw.same rfl hW (hd y hy), H0, h4, h5.moved hA, h6.moved hA⟩
  obtain ⟨sa, h⟩ := h3 q hq
  exact ⟨sa, h.same hW.symm⟩
def ev_ (G : ga_) (U : State) : Prop := va_K G.1 vwCl (tys_ G.2.1) U ∧ (∀ w ∈ NB, va_Nw w U) ∧ va_AO RX0 U ∧ ex_ G U
theorem ev_.moved {G : ga_} {s U : State} (hW : s.WarmedH U.vm) (h : ev_ G s) : ev_ G U := ⟨va_K.moved hW.alike h.1, fun w hw => nb_moved (NB_ok w hw) hW (h.2.1 w hw), va_AO.moved hW.alike h.2.2.1, ex_.moved hW h.2.2.2⟩
theorem ev_.same {G : ga_} {s U : State} (hW : s.vm = U.vm) (h : ev_ G s) : ev_ G U := ⟨va_K.moved (by rw [hW]; exact Vm.Alike.refl U.vm) h.1, fun w hw => nb_same (NB_ok w hw) hW (h.2.1 w hw), va_AO.moved (by rw [hW]; exact Vm.Alike.refl U.vm) h.2.2.1, ex_.same hW h.2.2.2⟩
/-- the heap H holds h, has sz cells, and is below lo as it was -/
def hr_ (G : ga_) (h : HP) (sz : Nat) (H : Heap) : Prop := H.size = sz ∧ G.2.2.1 ≤ sz ∧ (∀ q, q < G.2.2.1 → H[q]? = G.2.2.2 q) ∧ ∀ (a : Nat) (e : va_E), h a = some e → G.2.2.1 ≤ a ∧ va_at G.1 vwCl (a, e) H
theorem hr_.lt {G : ga_} {h : HP} {sz : Nat} {H : Heap} (w : hr_ G h sz H) {a : Nat} {e : va_E} (ha : h a = some e) : a < sz := by
  have := (w.2.2.2 a e ha).2.lt
  rw [w.1] at this
  exact this
theorem hr_.put {G : ga_} {h : HP} {sz : Nat} {H H1 : Heap} {a : Nat} {e : va_E} (w : hr_ G h sz H) (hl : G.2.2.1 ≤ a) (h1 : va_at G.1 vwCl (a, e) H1) (z : H1.size = H.size) (oq : ∀ q, q ≠ a → H1[q]? = H[q]?) : hr_ G (up_ h a e) sz H1 := by
  refine ⟨z.trans w.1, w.2.1, fun q hq => ?_, fun b e2 hb => ?_⟩
  · rw [oq q (by omega)]; exact w.2.2.1 q hq
  · by_cases c : b = a
    · subst c; rw [up_s] at hb; cases hb; exact ⟨hl, h1⟩
    · rw [up_n c] at hb
      exact ⟨(w.2.2.2 b e2 hb).1, (w.2.2.2 b e2 hb).2.kept (oq b c)⟩
theorem hr_.new {G : ga_} {h : HP} {sz : Nat} {H H1 : Heap} {e : va_E} (w : hr_ G h sz H) (h1 : va_at G.1 vwCl (sz, e) H1) (z : H1.size = sz + 1) (oq : ∀ q, q < sz → H1[q]? = H[q]?) : hr_ G (up_ h sz e) (sz + 1) H1 := by
  refine ⟨z, by have := w.2.1; omega, fun q hq => ?_, fun b e2 hb => ?_⟩
  · rw [oq q (by have := w.2.1; omega)]; exact w.2.2.1 q hq
  · by_cases c : b = sz
    · subst c; rw [up_s] at hb; cases hb; exact ⟨w.2.1, h1⟩
    · rw [up_n c] at hb
      exact ⟨(w.2.2.2 b e2 hb).1, (w.2.2.2 b e2 hb).2.kept (oq b (w.lt hb))⟩
/-- fewer cells are told -/
theorem hr_.less {G : ga_} {h h2 : HP} {sz : Nat} {H : Heap} (w : hr_ G h sz H) (hs : ∀ a e, h2 a = some e → h a = some e) : hr_ G h2 sz H := ⟨w.1, w.2.1, w.2.2.1, fun a e he => w.2.2.2 a e (hs a e he)⟩
-- locals
def gl_ : List (Nat × Value) → Nat → Option Value
  | [], _ => none
  | (j, v) :: t, i => cond (Nat.beq j i) (some v) (gl_ t i)
theorem gl_in {L : List (Nat × Value)} {i : Nat} {v : Value} (h : gl_ L i = some v) : (i, v) ∈ L := by
  induction L with
  | nil => cases h
  | cons q t ih =>
    obtain ⟨j, w⟩ := q
    unfold gl_ at h
    cases hb : Nat.beq j i with
    | true =>
      rw [hb] at h
      have e := Nat.eq_of_beq_eq_true hb
      subst e
      cases h
      exact List.mem_cons_self
    | false =>
      rw [hb] at h
      exact List.mem_cons_of_mem _ (ih h)
theorem gl_at {ls : Array Slot} {nL : Nat} {L : List (Nat × Value)} (h : lv_has ls nL L) {i : Nat} {v : Value} (hg : gl_ L i = some v) : ls[i]? = some (.val v) := h.2.2 (i, v) (gl_in hg)
abbrev st1_ (L : List (Nat × Value)) (i : Nat) (v : Value) : List (Nat × Value) := (i, v) :: L.filter (fun q => !(q.1 == i) && !(q.1 + 1 == i && q.2.category == 2))
abbrev st2_ (L : List (Nat × Value)) (i : Nat) (v : Value) : List (Nat × Value) := (i, v) :: L.filter (fun q => !(q.1 == i) && (!(q.1 == i + 1) && !(q.1 + 1 == i && q.2.category == 2)))
/-- the places of L2 hold in L what L2 says -/
def sub_ (L : List (Nat × Value)) : List (Nat × Value) → Prop
  | [] => True
  | (i, v) :: t => gl_ L i = some v ∧ sub_ L t
theorem sub_.has {ls : Array Slot} {nL : Nat} {L : List (Nat × Value)} (h : lv_has ls nL L) : ∀ {L2 : List (Nat × Value)}, sub_ L L2 → lv_has ls nL L2 := by
  intro L2 hs
  refine ⟨h.1, h.2.1, ?_⟩
  induction L2 with
  | nil => intro q hq; cases hq
  | cons x t ih =>
    intro q hq
    obtain ⟨i, v⟩ := x
    rcases List.mem_cons.mp hq with rfl | hq
    · exact gl_at h hs.1
    · exact ih hs.2 q hq
section LY
variable {p : Program} {l : Launch} {e : Env} {R : Room} {s : State} {m : MethodId} {args : Array Value} {below : List Frame} {meth : Method} {c : Code} {Q : State → Prop}
variable {G : ga_} {own : String} {cc : ByteArray} {nL : Nat} {ret : Option FieldType} {nm : String}
/-- what a method's body knows all along -/
def Cx (p : Program) (l : Launch) (R : Room) (s : State) (m : MethodId) (args : Array Value) (meth : Method) (c : Code) (G : ga_) (own : String) (cc : ByteArray) (nL : Nat) (ret : Option FieldType) (nm : String) : Prop :=
  p.tables.exec = Jvm.exec ∧ c.code = cc ∧ c.maxLocals = nL ∧ s.vm.findClass own = some m.cls ∧ (∀ w ∈ TB, w.before args s = true) ∧ ev_ G s ∧ meth.sig.returnType = ret ∧ meth.locks = false ∧ meth.name = nm
def V (p : Program) (l : Launch) (e : Env) (R : Room) (s : State) (m : MethodId) (args : Array Value) (below : List Frame) (meth : Method) (c : Code) (G : ga_) (nL : Nat) (Q : State → Prop) (h : HP) (sz k n pc : Nat) (L : List (Nat × Value)) (st : List Value) : Prop :=
  ∀ (H : Heap) (locs : List Loc) (ls : Array Slot), hr_ G h sz H → (∀ q ∈ locs, G.2.2.1 ≤ q.base) → lv_has ls nL L → W p l e R s m args below meth c H locs k n Q (F0 m pc ls st)
def Qg (G : ga_) (below : List Frame) (args : Array Value) (s : State) (mc ms : Nat) (Post : Option Value → HP → Nat → Prop) : State → Prop := MQ below (fun _ _ oc t => ∃ v h1 s1, oc = .returned v ∧ Post v h1 s1 ∧ hr_ G h1 s1 t.heap) args s mc ms (fun q => G.2.2.1 ≤ q)
/-- a method's contract: from a heap h of sz cells it returns, with Post of its answer and of the heap then -/
def Mg (G : ga_) (l : Launch) (y : MethodName) (cc : ByteArray) (nL : Nat) (ret : Option FieldType) (fr lo mc ms : Nat) (av : List Value) (h : HP) (sz : Nat) (Post : Option Value → HP → Nat → Prop) : Prop :=
  Met l y (.code y cc nL ret :: TB) { frames := fr, cells := mc, slots := ms, locals := lo } (va_Pc av (fun U => hr_ G h sz U.heap ∧ ev_ G U)) (fun _ _ oc t => ∃ v h1 s1, oc = .returned v ∧ Post v h1 s1 ∧ hr_ G h1 s1 t.heap) mc ms (fun q => G.2.2.1 ≤ q)
/-- what it answers and leaves is told -/
def Mf (G : ga_) (l : Launch) (y : MethodName) (cc : ByteArray) (nL : Nat) (ret : Option FieldType) (fr lo mc ms : Nat) (av : List Value) (h : HP) (sz : Nat) (v : Option Value) (h' : HP) (sz' : Nat) : Prop := Mg G l y cc nL ret fr lo mc ms av h sz (fun v1 h1 s1 => v1 = v ∧ h1 = h' ∧ s1 = sz')
theorem Mg.ofV {y : MethodName} {fr lo mc ms : Nat} {av : List Value} {h : HP} {sz : Nat} {Post : Option Value → HP → Nat → Prop} (L0 : List (Nat × Value)) (hy : plainName y.cls = true) (hn : (lg_sl av).length ≤ nL) (hL : lv_args 0 av = L0)
    (body : ∀ (p : Program) (e : Env) (s : State) (m : MethodId) (args : Array Value) (below : List Frame) (meth : Method) (c : Code), Cx p l { frames := fr, cells := mc, slots := ms, locals := lo } s m args meth c G y.cls cc nL ret y.name →
      V p l e { frames := fr, cells := mc, slots := ms, locals := lo } s m args below meth c G nL (Qg G below args s mc ms Post) h sz 0 0 0 L0 []) : Mg G l y cc nL ret fr lo mc ms av h sz Post := by
  refine Met.ofW hy rfl ?_
  intro p e s m args below meth c s₁ B hml hv
  obtain ⟨rfl, hh, hev⟩ := hv
  have hts := atoms_spec (ws := .code y cc nL ret :: TB) B.pre
  have hC : Cx p l { frames := fr, cells := mc, slots := ms, locals := lo } s m av.toArray meth c G y.cls cc nL ret y.name :=
    ⟨B.exec, B.bytes, hml, findClass_of_methodNamed B.named, fun w hw => hts w (List.mem_cons_of_mem _ hw), hev, B.returns, B.notSynchronized, (name_of_methodNamed B.named B.method).1⟩
  have hl := lv_entry av (n := nL) hn
  rw [lg_entry_eq]
  rw [hL] at hl
  exact body p e s m av.toArray below meth c hC s.heap [] _ hh (fun q hq => by cases hq) hl
theorem V.sub {h : HP} {sz k n pc : Nat} {L : List (Nat × Value)} {st : List Value} (L2 : List (Nat × Value)) (hs : sub_ L L2) (kk : V p l e R s m args below meth c G nL Q h sz k n pc L2 st) : V p l e R s m args below meth c G nL Q h sz k n pc L st :=
  fun H locs ls a b d => kk H locs ls a b (hs.has d)
theorem V.widen {h : HP} {sz k n k2 n2 pc : Nat} {L : List (Nat × Value)} {st : List Value} (h1 : k ≤ k2) (h2 : n ≤ n2) (kk : V p l e R s m args below meth c G nL Q h sz k2 n2 pc L st) : V p l e R s m args below meth c G nL Q h sz k n pc L st :=
  fun H locs ls a b d => W.widen h1 h2 (kk H locs ls a b d)
theorem V.less {h h2 : HP} {sz k n pc : Nat} {L : List (Nat × Value)} {st : List Value} (hs : ∀ a e, h2 a = some e → h a = some e) (kk : V p l e R s m args below meth c G nL Q h2 sz k n pc L st) : V p l e R s m args below meth c G nL Q h sz k n pc L st :=
  fun H locs ls a b d => kk H locs ls (a.less hs) b d
theorem V.heap {h h2 : HP} {sz k n pc : Nat} {L : List (Nat × Value)} {st : List Value} (hs : h = h2) (kk : V p l e R s m args below meth c G nL Q h2 sz k n pc L st) : V p l e R s m args below meth c G nL Q h sz k n pc L st := hs ▸ kk
theorem V.stack {h : HP} {sz k n pc : Nat} {L : List (Nat × Value)} {st st2 : List Value} (hs : st = st2) (kk : V p l e R s m args below meth c G nL Q h sz k n pc L st2) : V p l e R s m args below meth c G nL Q h sz k n pc L st := hs ▸ kk
variable {h : HP} {sz k n pc : Nat} {L : List (Nat × Value)} {st : List Value}

theorem r_iconst (C : Cx p l R s m args meth c G own cc nL ret nm) {i : Int} {v : Int32} (hd : decode cc pc = .ok (.iconst i, 1)) (hv : Int32.ofInt i = v) (kk : V p l e R s m args below meth c G nL Q h sz k n (pc + 1) L (.int v :: st)) : V p l e R s m args below meth c G nL Q h sz k n pc L (st) := fun H locs ls a b d => lv_iconst C.1 C.2.1 hd hv (kk H locs ls a b d)
theorem r_bipush (C : Cx p l R s m args meth c G own cc nL ret nm) {i : Int} {v : Int32} (hd : decode cc pc = .ok (.bipush i, 2)) (hv : (Int8.ofInt i).toInt32 = v) (kk : V p l e R s m args below meth c G nL Q h sz k n (pc + 2) L (.int v :: st)) : V p l e R s m args below meth c G nL Q h sz k n pc L (st) := fun H locs ls a b d => lv_bipush C.1 C.2.1 hd hv (kk H locs ls a b d)
theorem r_sipush (C : Cx p l R s m args meth c G own cc nL ret nm) {i : Int} {v : Int32} (hd : decode cc pc = .ok (.sipush i, 3)) (hv : (Int16.ofInt i).toInt32 = v) (kk : V p l e R s m args below meth c G nL Q h sz k n (pc + 3) L (.int v :: st)) : V p l e R s m args below meth c G nL Q h sz k n pc L (st) := fun H locs ls a b d => lv_sipush C.1 C.2.1 hd hv (kk H locs ls a b d)
theorem r_null (C : Cx p l R s m args meth c G own cc nL ret nm)  (hd : decode cc pc = .ok (.aconst_null, 1))  (kk : V p l e R s m args below meth c G nL Q h sz k n (pc + 1) L (.null :: st)) : V p l e R s m args below meth c G nL Q h sz k n pc L (st) := fun H locs ls a b d => lv_null C.1 C.2.1 hd  (kk H locs ls a b d)
theorem r_iload_n (C : Cx p l R s m args meth c G own cc nL ret nm) {j : Fin 4} {i : Nat} {x : Int32} (hd : decode cc pc = .ok (.iload_n j, 1)) (hi : (j : Nat) = i) (hg : gl_ L i = some (.int x)) (kk : V p l e R s m args below meth c G nL Q h sz k n (pc + 1) L (.int x :: st)) : V p l e R s m args below meth c G nL Q h sz k n pc L (st) := fun H locs ls a b d => lv_iload_n C.1 C.2.1 hd hi (gl_at d hg) (kk H locs ls a b d)
theorem r_iload (C : Cx p l R s m args meth c G own cc nL ret nm) {i : Nat} {x : Int32} (hd : decode cc pc = .ok (.iload i, 2)) (hg : gl_ L i = some (.int x)) (kk : V p l e R s m args below meth c G nL Q h sz k n (pc + 2) L (.int x :: st)) : V p l e R s m args below meth c G nL Q h sz k n pc L (st) := fun H locs ls a b d => lv_iload C.1 C.2.1 hd (gl_at d hg) (kk H locs ls a b d)
theorem r_istore_n (C : Cx p l R s m args meth c G own cc nL ret nm) {j : Fin 4} {i : Nat} {x : Int32} (hd : decode cc pc = .ok (.istore_n j, 1)) (hi : (j : Nat) = i) (hn : i < nL) (kk : V p l e R s m args below meth c G nL Q h sz k n (pc + 1) (st1_ L i (.int x)) st) : V p l e R s m args below meth c G nL Q h sz k n pc L (.int x :: st) := fun H locs ls a b d => lv_istore_n C.1 C.2.1 hd hi d hn rfl (fun ls2 d2 => kk H locs ls2 a b d2)
theorem r_istore (C : Cx p l R s m args meth c G own cc nL ret nm) {i : Nat} {x : Int32} (hd : decode cc pc = .ok (.istore i, 2)) (hn : i < nL) (kk : V p l e R s m args below meth c G nL Q h sz k n (pc + 2) (st1_ L i (.int x)) st) : V p l e R s m args below meth c G nL Q h sz k n pc L (.int x :: st) := fun H locs ls a b d => lv_istore C.1 C.2.1 hd d hn rfl (fun ls2 d2 => kk H locs ls2 a b d2)
theorem r_lload_n (C : Cx p l R s m args meth c G own cc nL ret nm) {j : Fin 4} {i : Nat} {x : Int64} (hd : decode cc pc = .ok (.lload_n j, 1)) (hi : (j : Nat) = i) (hg : gl_ L i = some (.long x)) (kk : V p l e R s m args below meth c G nL Q h sz k n (pc + 1) L (.long x :: st)) : V p l e R s m args below meth c G nL Q h sz k n pc L (st) := fun H locs ls a b d => lv_lload_n C.1 C.2.1 hd hi (gl_at d hg) (kk H locs ls a b d)
theorem r_lload (C : Cx p l R s m args meth c G own cc nL ret nm) {i : Nat} {x : Int64} (hd : decode cc pc = .ok (.lload i, 2)) (hg : gl_ L i = some (.long x)) (kk : V p l e R s m args below meth c G nL Q h sz k n (pc + 2) L (.long x :: st)) : V p l e R s m args below meth c G nL Q h sz k n pc L (st) := fun H locs ls a b d => lv_lload C.1 C.2.1 hd (gl_at d hg) (kk H locs ls a b d)
theorem r_lstore_n (C : Cx p l R s m args meth c G own cc nL ret nm) {j : Fin 4} {i : Nat} {x : Int64} (hd : decode cc pc = .ok (.lstore_n j, 1)) (hi : (j : Nat) = i) (hn : i + 1 < nL) (kk : V p l e R s m args below meth c G nL Q h sz k n (pc + 1) (st2_ L i (.long x)) st) : V p l e R s m args below meth c G nL Q h sz k n pc L (.long x :: st) := fun H locs ls a b d => lv_lstore_n C.1 C.2.1 hd hi d hn rfl (fun ls2 d2 => kk H locs ls2 a b d2)
theorem r_lstore (C : Cx p l R s m args meth c G own cc nL ret nm) {i : Nat} {x : Int64} (hd : decode cc pc = .ok (.lstore i, 2)) (hn : i + 1 < nL) (kk : V p l e R s m args below meth c G nL Q h sz k n (pc + 2) (st2_ L i (.long x)) st) : V p l e R s m args below meth c G nL Q h sz k n pc L (.long x :: st) := fun H locs ls a b d => lv_lstore C.1 C.2.1 hd d hn rfl (fun ls2 d2 => kk H locs ls2 a b d2)
theorem r_dload_n (C : Cx p l R s m args meth c G own cc nL ret nm) {j : Fin 4} {i : Nat} {x : UInt64} (hd : decode cc pc = .ok (.dload_n j, 1)) (hi : (j : Nat) = i) (hg : gl_ L i = some (.double x)) (kk : V p l e R s m args below meth c G nL Q h sz k n (pc + 1) L (.double x :: st)) : V p l e R s m args below meth c G nL Q h sz k n pc L (st) := fun H locs ls a b d => lv_dload_n C.1 C.2.1 hd hi (gl_at d hg) (kk H locs ls a b d)
theorem r_dload (C : Cx p l R s m args meth c G own cc nL ret nm) {i : Nat} {x : UInt64} (hd : decode cc pc = .ok (.dload i, 2)) (hg : gl_ L i = some (.double x)) (kk : V p l e R s m args below meth c G nL Q h sz k n (pc + 2) L (.double x :: st)) : V p l e R s m args below meth c G nL Q h sz k n pc L (st) := fun H locs ls a b d => lv_dload C.1 C.2.1 hd (gl_at d hg) (kk H locs ls a b d)
theorem r_dstore_n (C : Cx p l R s m args meth c G own cc nL ret nm) {j : Fin 4} {i : Nat} {x : UInt64} (hd : decode cc pc = .ok (.dstore_n j, 1)) (hi : (j : Nat) = i) (hn : i + 1 < nL) (kk : V p l e R s m args below meth c G nL Q h sz k n (pc + 1) (st2_ L i (.double x)) st) : V p l e R s m args below meth c G nL Q h sz k n pc L (.double x :: st) := fun H locs ls a b d => lv_dstore_n C.1 C.2.1 hd hi d hn rfl (fun ls2 d2 => kk H locs ls2 a b d2)
theorem r_dstore (C : Cx p l R s m args meth c G own cc nL ret nm) {i : Nat} {x : UInt64} (hd : decode cc pc = .ok (.dstore i, 2)) (hn : i + 1 < nL) (kk : V p l e R s m args below meth c G nL Q h sz k n (pc + 2) (st2_ L i (.double x)) st) : V p l e R s m args below meth c G nL Q h sz k n pc L (.double x :: st) := fun H locs ls a b d => lv_dstore C.1 C.2.1 hd d hn rfl (fun ls2 d2 => kk H locs ls2 a b d2)
theorem r_aload_n (C : Cx p l R s m args meth c G own cc nL ret nm) {j : Fin 4} {i x : Nat} (hd : decode cc pc = .ok (.aload_n j, 1)) (hi : (j : Nat) = i) (hg : gl_ L i = some (.ref x)) (kk : V p l e R s m args below meth c G nL Q h sz k n (pc + 1) L (.ref x :: st)) : V p l e R s m args below meth c G nL Q h sz k n pc L (st) := fun H locs ls a b d => lv_aload_n C.1 C.2.1 hd hi (gl_at d hg) (kk H locs ls a b d)
theorem r_aload (C : Cx p l R s m args meth c G own cc nL ret nm) {i x : Nat} (hd : decode cc pc = .ok (.aload i, 2)) (hg : gl_ L i = some (.ref x)) (kk : V p l e R s m args below meth c G nL Q h sz k n (pc + 2) L (.ref x :: st)) : V p l e R s m args below meth c G nL Q h sz k n pc L (st) := fun H locs ls a b d => lv_aload C.1 C.2.1 hd (gl_at d hg) (kk H locs ls a b d)
theorem r_astore_n (C : Cx p l R s m args meth c G own cc nL ret nm) {j : Fin 4} {i x : Nat} (hd : decode cc pc = .ok (.astore_n j, 1)) (hi : (j : Nat) = i) (hn : i < nL) (kk : V p l e R s m args below meth c G nL Q h sz k n (pc + 1) (st1_ L i (.ref x)) st) : V p l e R s m args below meth c G nL Q h sz k n pc L (.ref x :: st) := fun H locs ls a b d => lv_astore_n C.1 C.2.1 hd hi d hn rfl (fun ls2 d2 => kk H locs ls2 a b d2)
theorem r_astore (C : Cx p l R s m args meth c G own cc nL ret nm) {i x : Nat} (hd : decode cc pc = .ok (.astore i, 2)) (hn : i < nL) (kk : V p l e R s m args below meth c G nL Q h sz k n (pc + 2) (st1_ L i (.ref x)) st) : V p l e R s m args below meth c G nL Q h sz k n pc L (.ref x :: st) := fun H locs ls a b d => lv_astore C.1 C.2.1 hd d hn rfl (fun ls2 d2 => kk H locs ls2 a b d2)
theorem r_iinc (C : Cx p l R s m args meth c G own cc nL ret nm) {i : Nat} {z : Int} {x v : Int32} (hd : decode cc pc = .ok (.iinc i z, 3)) (hg : gl_ L i = some (.int x)) (hv : Int32.ofInt z = v) (hn : i < nL) (kk : V p l e R s m args below meth c G nL Q h sz k n (pc + 3) (st1_ L i (.int (x + v))) st) : V p l e R s m args below meth c G nL Q h sz k n pc L st := fun H locs ls a b d => by
  obtain ⟨q, hq⟩ := List.getElem?_of_mem (gl_in hg)
  exact lv_iinc C.1 C.2.1 hd d hq (by rw [hv]) hn rfl (fun ls2 d2 => kk H locs ls2 a b d2)
theorem r_iadd (C : Cx p l R s m args meth c G own cc nL ret nm) {x y : Int32} (hd : decode cc pc = .ok (.iadd, 1))  (kk : V p l e R s m args below meth c G nL Q h sz k n (pc + 1) L (.int (x + y) :: st)) : V p l e R s m args below meth c G nL Q h sz k n pc L (.int y :: .int x :: st) := fun H locs ls a b d => lv_iadd C.1 C.2.1 hd  (kk H locs ls a b d)
theorem r_isub (C : Cx p l R s m args meth c G own cc nL ret nm) {x y : Int32} (hd : decode cc pc = .ok (.isub, 1))  (kk : V p l e R s m args below meth c G nL Q h sz k n (pc + 1) L (.int (x - y) :: st)) : V p l e R s m args below meth c G nL Q h sz k n pc L (.int y :: .int x :: st) := fun H locs ls a b d => lv_isub C.1 C.2.1 hd  (kk H locs ls a b d)
theorem r_imul (C : Cx p l R s m args meth c G own cc nL ret nm) {x y : Int32} (hd : decode cc pc = .ok (.imul, 1))  (kk : V p l e R s m args below meth c G nL Q h sz k n (pc + 1) L (.int (x * y) :: st)) : V p l e R s m args below meth c G nL Q h sz k n pc L (.int y :: .int x :: st) := fun H locs ls a b d => lv_imul C.1 C.2.1 hd  (kk H locs ls a b d)
theorem r_iand (C : Cx p l R s m args meth c G own cc nL ret nm) {x y : Int32} (hd : decode cc pc = .ok (.iand, 1))  (kk : V p l e R s m args below meth c G nL Q h sz k n (pc + 1) L (.int (x &&& y) :: st)) : V p l e R s m args below meth c G nL Q h sz k n pc L (.int y :: .int x :: st) := fun H locs ls a b d => lv_iand C.1 C.2.1 hd  (kk H locs ls a b d)
theorem r_ior (C : Cx p l R s m args meth c G own cc nL ret nm) {x y : Int32} (hd : decode cc pc = .ok (.ior, 1))  (kk : V p l e R s m args below meth c G nL Q h sz k n (pc + 1) L (.int (x ||| y) :: st)) : V p l e R s m args below meth c G nL Q h sz k n pc L (.int y :: .int x :: st) := fun H locs ls a b d => lv_ior C.1 C.2.1 hd  (kk H locs ls a b d)
theorem r_ixor (C : Cx p l R s m args meth c G own cc nL ret nm) {x y : Int32} (hd : decode cc pc = .ok (.ixor, 1))  (kk : V p l e R s m args below meth c G nL Q h sz k n (pc + 1) L (.int (x ^^^ y) :: st)) : V p l e R s m args below meth c G nL Q h sz k n pc L (.int y :: .int x :: st) := fun H locs ls a b d => lv_ixor C.1 C.2.1 hd  (kk H locs ls a b d)
theorem r_ladd (C : Cx p l R s m args meth c G own cc nL ret nm) {x y : Int64} (hd : decode cc pc = .ok (.ladd, 1))  (kk : V p l e R s m args below meth c G nL Q h sz k n (pc + 1) L (.long (x + y) :: st)) : V p l e R s m args below meth c G nL Q h sz k n pc L (.long y :: .long x :: st) := fun H locs ls a b d => lv_ladd C.1 C.2.1 hd  (kk H locs ls a b d)
theorem r_lsub (C : Cx p l R s m args meth c G own cc nL ret nm) {x y : Int64} (hd : decode cc pc = .ok (.lsub, 1))  (kk : V p l e R s m args below meth c G nL Q h sz k n (pc + 1) L (.long (x - y) :: st)) : V p l e R s m args below meth c G nL Q h sz k n pc L (.long y :: .long x :: st) := fun H locs ls a b d => lv_lsub C.1 C.2.1 hd  (kk H locs ls a b d)
theorem r_lmul (C : Cx p l R s m args meth c G own cc nL ret nm) {x y : Int64} (hd : decode cc pc = .ok (.lmul, 1))  (kk : V p l e R s m args below meth c G nL Q h sz k n (pc + 1) L (.long (x * y) :: st)) : V p l e R s m args below meth c G nL Q h sz k n pc L (.long y :: .long x :: st) := fun H locs ls a b d => lv_lmul C.1 C.2.1 hd  (kk H locs ls a b d)
theorem r_idiv (C : Cx p l R s m args meth c G own cc nL ret nm) {x y : Int32} (hd : decode cc pc = .ok (.idiv, 1)) (hz : ¬ y = 0) (kk : V p l e R s m args below meth c G nL Q h sz k n (pc + 1) L (.int (x / y) :: st)) : V p l e R s m args below meth c G nL Q h sz k n pc L (.int y :: .int x :: st) := fun H locs ls a b d => lv_idiv C.1 C.2.1 hd hz (kk H locs ls a b d)
theorem r_irem (C : Cx p l R s m args meth c G own cc nL ret nm) {x y : Int32} (hd : decode cc pc = .ok (.irem, 1)) (hz : ¬ y = 0) (kk : V p l e R s m args below meth c G nL Q h sz k n (pc + 1) L (.int (x - x / y * y) :: st)) : V p l e R s m args below meth c G nL Q h sz k n pc L (.int y :: .int x :: st) := fun H locs ls a b d => lv_irem C.1 C.2.1 hd hz (kk H locs ls a b d)
theorem r_i2l (C : Cx p l R s m args meth c G own cc nL ret nm) {x : Int32} (hd : decode cc pc = .ok (.i2l, 1))  (kk : V p l e R s m args below meth c G nL Q h sz k n (pc + 1) L (.long x.toInt64 :: st)) : V p l e R s m args below meth c G nL Q h sz k n pc L (.int x :: st) := fun H locs ls a b d => lv_i2l C.1 C.2.1 hd rfl (kk H locs ls a b d)
theorem r_i2c (C : Cx p l R s m args meth c G own cc nL ret nm) {x : Int32} (hd : decode cc pc = .ok (.i2c, 1))  (kk : V p l e R s m args below meth c G nL Q h sz k n (pc + 1) L (.int (x.toUInt32 % 65536).toInt32 :: st)) : V p l e R s m args below meth c G nL Q h sz k n pc L (.int x :: st) := fun H locs ls a b d => lv_i2c C.1 C.2.1 hd rfl (kk H locs ls a b d)
theorem r_dup (C : Cx p l R s m args meth c G own cc nL ret nm) {v : Value} (hd : decode cc pc = .ok (.dup, 1)) (hv : v.category = 1) (kk : V p l e R s m args below meth c G nL Q h sz k n (pc + 1) L (v :: v :: st)) : V p l e R s m args below meth c G nL Q h sz k n pc L (v :: st) := fun H locs ls a b d => lv_dup C.1 C.2.1 hd hv (kk H locs ls a b d)
theorem r_pop (C : Cx p l R s m args meth c G own cc nL ret nm) {v : Value} (hd : decode cc pc = .ok (.pop, 1)) (hv : v.category = 1) (kk : V p l e R s m args below meth c G nL Q h sz k n (pc + 1) L (st)) : V p l e R s m args below meth c G nL Q h sz k n pc L (v :: st) := fun H locs ls a b d => lv_pop C.1 C.2.1 hd hv (kk H locs ls a b d)
theorem r_dup2 (C : Cx p l R s m args meth c G own cc nL ret nm) {v w : Value} (hd : decode cc pc = .ok (.dup2, 1)) (hv : v.category = 1) (hw : w.category = 1) (kk : V p l e R s m args below meth c G nL Q h sz k n (pc + 1) L (v :: w :: v :: w :: st)) : V p l e R s m args below meth c G nL Q h sz k n pc L (v :: w :: st) := fun H locs ls a b d => lv_dup2_11 C.1 C.2.1 hd hv hw (kk H locs ls a b d)
theorem r_icmp_eq (C : Cx p l R s m args meth c G own cc nL ret nm) {x y : Int32} {off : Int} (tgt : Nat) (hd : decode cc pc = .ok (.if_icmp .eq off, 3)) (ht : (pc : Int) + off = (tgt : Int)) (kt : x = y → V p l e R s m args below meth c G nL Q h sz k n tgt L st) (kf : ¬ x = y → V p l e R s m args below meth c G nL Q h sz k n (pc + 3) L st) : V p l e R s m args below meth c G nL Q h sz k n pc L (.int y :: .int x :: st) := fun H locs ls a b d => lv_icmp_eq C.1 C.2.1 hd ht (fun z => kt z H locs ls a b d) (fun z => kf z H locs ls a b d)
theorem r_icmp_ne (C : Cx p l R s m args meth c G own cc nL ret nm) {x y : Int32} {off : Int} (tgt : Nat) (hd : decode cc pc = .ok (.if_icmp .ne off, 3)) (ht : (pc : Int) + off = (tgt : Int)) (kt : x ≠ y → V p l e R s m args below meth c G nL Q h sz k n tgt L st) (kf : x = y → V p l e R s m args below meth c G nL Q h sz k n (pc + 3) L st) : V p l e R s m args below meth c G nL Q h sz k n pc L (.int y :: .int x :: st) := fun H locs ls a b d => lv_icmp_ne C.1 C.2.1 hd ht (fun z => kt z H locs ls a b d) (fun z => kf z H locs ls a b d)
theorem r_icmp_lt (C : Cx p l R s m args meth c G own cc nL ret nm) {x y : Int32} {off : Int} (tgt : Nat) (hd : decode cc pc = .ok (.if_icmp .lt off, 3)) (ht : (pc : Int) + off = (tgt : Int)) (kt : x < y → V p l e R s m args below meth c G nL Q h sz k n tgt L st) (kf : ¬ x < y → V p l e R s m args below meth c G nL Q h sz k n (pc + 3) L st) : V p l e R s m args below meth c G nL Q h sz k n pc L (.int y :: .int x :: st) := fun H locs ls a b d => lv_icmp_lt C.1 C.2.1 hd ht (fun z => kt z H locs ls a b d) (fun z => kf z H locs ls a b d)
theorem r_icmp_ge (C : Cx p l R s m args meth c G own cc nL ret nm) {x y : Int32} {off : Int} (tgt : Nat) (hd : decode cc pc = .ok (.if_icmp .ge off, 3)) (ht : (pc : Int) + off = (tgt : Int)) (kt : y ≤ x → V p l e R s m args below meth c G nL Q h sz k n tgt L st) (kf : ¬ y ≤ x → V p l e R s m args below meth c G nL Q h sz k n (pc + 3) L st) : V p l e R s m args below meth c G nL Q h sz k n pc L (.int y :: .int x :: st) := fun H locs ls a b d => lv_icmp_ge C.1 C.2.1 hd ht (fun z => kt z H locs ls a b d) (fun z => kf z H locs ls a b d)
theorem r_icmp_gt (C : Cx p l R s m args meth c G own cc nL ret nm) {x y : Int32} {off : Int} (tgt : Nat) (hd : decode cc pc = .ok (.if_icmp .gt off, 3)) (ht : (pc : Int) + off = (tgt : Int)) (kt : y < x → V p l e R s m args below meth c G nL Q h sz k n tgt L st) (kf : ¬ y < x → V p l e R s m args below meth c G nL Q h sz k n (pc + 3) L st) : V p l e R s m args below meth c G nL Q h sz k n pc L (.int y :: .int x :: st) := fun H locs ls a b d => lv_icmp_gt C.1 C.2.1 hd ht (fun z => kt z H locs ls a b d) (fun z => kf z H locs ls a b d)
theorem r_icmp_le (C : Cx p l R s m args meth c G own cc nL ret nm) {x y : Int32} {off : Int} (tgt : Nat) (hd : decode cc pc = .ok (.if_icmp .le off, 3)) (ht : (pc : Int) + off = (tgt : Int)) (kt : x ≤ y → V p l e R s m args below meth c G nL Q h sz k n tgt L st) (kf : ¬ x ≤ y → V p l e R s m args below meth c G nL Q h sz k n (pc + 3) L st) : V p l e R s m args below meth c G nL Q h sz k n pc L (.int y :: .int x :: st) := fun H locs ls a b d => lv_icmp_le C.1 C.2.1 hd ht (fun z => kt z H locs ls a b d) (fun z => kf z H locs ls a b d)
theorem r_if_eq (C : Cx p l R s m args meth c G own cc nL ret nm) {x : Int32} {off : Int} (tgt : Nat) (hd : decode cc pc = .ok (.ifCond .eq off, 3)) (ht : (pc : Int) + off = (tgt : Int)) (kt : x = 0 → V p l e R s m args below meth c G nL Q h sz k n tgt L st) (kf : ¬ x = 0 → V p l e R s m args below meth c G nL Q h sz k n (pc + 3) L st) : V p l e R s m args below meth c G nL Q h sz k n pc L (.int x :: st) := fun H locs ls a b d => lv_if_eq C.1 C.2.1 hd ht (fun z => kt z H locs ls a b d) (fun z => kf z H locs ls a b d)
theorem r_if_ne (C : Cx p l R s m args meth c G own cc nL ret nm) {x : Int32} {off : Int} (tgt : Nat) (hd : decode cc pc = .ok (.ifCond .ne off, 3)) (ht : (pc : Int) + off = (tgt : Int)) (kt : x ≠ 0 → V p l e R s m args below meth c G nL Q h sz k n tgt L st) (kf : x = 0 → V p l e R s m args below meth c G nL Q h sz k n (pc + 3) L st) : V p l e R s m args below meth c G nL Q h sz k n pc L (.int x :: st) := fun H locs ls a b d => lv_if_ne C.1 C.2.1 hd ht (fun z => kt z H locs ls a b d) (fun z => kf z H locs ls a b d)
theorem r_if_lt (C : Cx p l R s m args meth c G own cc nL ret nm) {x : Int32} {off : Int} (tgt : Nat) (hd : decode cc pc = .ok (.ifCond .lt off, 3)) (ht : (pc : Int) + off = (tgt : Int)) (kt : x < 0 → V p l e R s m args below meth c G nL Q h sz k n tgt L st) (kf : ¬ x < 0 → V p l e R s m args below meth c G nL Q h sz k n (pc + 3) L st) : V p l e R s m args below meth c G nL Q h sz k n pc L (.int x :: st) := fun H locs ls a b d => lv_if_lt C.1 C.2.1 hd ht (fun z => kt z H locs ls a b d) (fun z => kf z H locs ls a b d)
theorem r_if_ge (C : Cx p l R s m args meth c G own cc nL ret nm) {x : Int32} {off : Int} (tgt : Nat) (hd : decode cc pc = .ok (.ifCond .ge off, 3)) (ht : (pc : Int) + off = (tgt : Int)) (kt : 0 ≤ x → V p l e R s m args below meth c G nL Q h sz k n tgt L st) (kf : ¬ 0 ≤ x → V p l e R s m args below meth c G nL Q h sz k n (pc + 3) L st) : V p l e R s m args below meth c G nL Q h sz k n pc L (.int x :: st) := fun H locs ls a b d => lv_if_ge C.1 C.2.1 hd ht (fun z => kt z H locs ls a b d) (fun z => kf z H locs ls a b d)
theorem r_if_gt (C : Cx p l R s m args meth c G own cc nL ret nm) {x : Int32} {off : Int} (tgt : Nat) (hd : decode cc pc = .ok (.ifCond .gt off, 3)) (ht : (pc : Int) + off = (tgt : Int)) (kt : 0 < x → V p l e R s m args below meth c G nL Q h sz k n tgt L st) (kf : ¬ 0 < x → V p l e R s m args below meth c G nL Q h sz k n (pc + 3) L st) : V p l e R s m args below meth c G nL Q h sz k n pc L (.int x :: st) := fun H locs ls a b d => lv_if_gt C.1 C.2.1 hd ht (fun z => kt z H locs ls a b d) (fun z => kf z H locs ls a b d)
theorem r_if_le (C : Cx p l R s m args meth c G own cc nL ret nm) {x : Int32} {off : Int} (tgt : Nat) (hd : decode cc pc = .ok (.ifCond .le off, 3)) (ht : (pc : Int) + off = (tgt : Int)) (kt : x ≤ 0 → V p l e R s m args below meth c G nL Q h sz k n tgt L st) (kf : ¬ x ≤ 0 → V p l e R s m args below meth c G nL Q h sz k n (pc + 3) L st) : V p l e R s m args below meth c G nL Q h sz k n pc L (.int x :: st) := fun H locs ls a b d => lv_if_le C.1 C.2.1 hd ht (fun z => kt z H locs ls a b d) (fun z => kf z H locs ls a b d)
theorem r_goto (C : Cx p l R s m args meth c G own cc nL ret nm) {off : Int} (tgt : Nat) (hd : decode cc pc = .ok (.goto off, 3)) (ht : (pc : Int) + off = (tgt : Int)) (kk : V p l e R s m args below meth c G nL Q h sz k n tgt L st) : V p l e R s m args below meth c G nL Q h sz k n pc L st := fun H locs ls a b d => lv_goto C.1 C.2.1 hd ht (kk H locs ls a b d)
theorem r_ldc (C : Cx p l R s m args meth c G own cc nL ret nm) {i : Nat} {v : Int32} (hw : Cond.constant own i v ∈ TB) (hd : decode cc pc = .ok (.ldc i, 2)) (kk : V p l e R s m args below meth c G nL Q h sz k n (pc + 2) L (.int v :: st)) : V p l e R s m args below meth c G nL Q h sz k n pc L st := fun H locs ls a b d => lv_ldc C.1 C.2.1 C.2.2.2.1 (C.2.2.2.2.1 _ hw) hd (kk H locs ls a b d)
theorem r_ldc2 (C : Cx p l R s m args meth c G own cc nL ret nm) {i : Nat} {v : Int64} (hw : Cond.constantLong own i v ∈ TB) (hd : decode cc pc = .ok (.ldc2_w i, 3)) (kk : V p l e R s m args below meth c G nL Q h sz k n (pc + 3) L (.long v :: st)) : V p l e R s m args below meth c G nL Q h sz k n pc L st := fun H locs ls a b d => lv_ldc2 C.1 C.2.1 C.2.2.2.1 (C.2.2.2.2.1 _ hw) hd (kk H locs ls a b d)
theorem r_get (C : Cx p l R s m args meth c G own cc nL ret nm) {ref Cn : String} {T : u_T} {N ci index a0 j : Nat} {fs : List Value} {v : Value} (hc : vwCl[ci]? = some (Cn, T, N)) (hin : ∀ w ∈ u_ws Cn T N, w ∈ TB) (he : h a0 = some (ob_ ci fs)) (hj : j < N) (hw : Cond.fieldLink own index ref (T j).2.1 (T j).2.2.1 ∈ TB) (hr : (T j).1 = ref) (hv : fs[j]? = some v) (hd : decode cc pc = .ok (.getfield index, 3)) (kk : V p l e R s m args below meth c G nL Q h sz k n (pc + 3) L (v :: st)) : V p l e R s m args below meth c G nL Q h sz k n pc L (.ref a0 :: st) := by
  intro H locs ls a b d
  exact va_get (ws := [(a0, ob_ ci fs)]) C.1 C.2.1 C.2.2.2.2.1 hin C.2.2.2.1 C.2.2.2.2.2.1.1 (fun q x hx => by cases q with
    | zero => cases hx; exact (a.2.2.2 _ _ he).2
    | succ q => simp at hx) 0 rfl hc j hj (C.2.2.2.2.1 _ hw) (by rw [hr]; exact fun _ z => z) hv hd (kk H locs ls a b d)
theorem r_getN (C : Cx p l R s m args meth c G own cc nL ret nm) {ref Cn host : String} {T : u_T} {N ci index a0 j : Nat} {fs : List Value} {v : Value} (hc : vwCl[ci]? = some (Cn, T, N)) (hin : ∀ w ∈ u_ws Cn T N, w ∈ TB) (he : h a0 = some (ob_ ci fs)) (hj : j < N) (hw : Cond.fieldLinkNest own index ref (T j).2.1 (T j).2.2.1 host ∈ NB) (hr : (T j).1 = ref) (hv : fs[j]? = some v) (hd : decode cc pc = .ok (.getfield index, 3)) (kk : V p l e R s m args below meth c G nL Q h sz k n (pc + 3) L (v :: st)) : V p l e R s m args below meth c G nL Q h sz k n pc L (.ref a0 :: st) := by
  intro H locs ls a b d
  exact va_getN (ws := [(a0, ob_ ci fs)]) C.1 C.2.1 C.2.2.2.2.1 hin C.2.2.2.1 C.2.2.2.2.2.1.1 (fun q x hx => by cases q with
    | zero => cases hx; exact (a.2.2.2 _ _ he).2
    | succ q => simp at hx) 0 rfl hc j hj (va_Nw.use rfl (C.2.2.2.2.2.1.2.1 _ hw)) (by rw [hr]; exact fun _ z => z) hv hd (kk H locs ls a b d)
theorem r_put (C : Cx p l R s m args meth c G own cc nL ret nm) {ref Cn : String} {T : u_T} {N ci index a0 j : Nat} {fs : List Value} {v : Value} {ty : FieldType} (ty0 : Nat → FieldType) (hty : ∀ k, k < N → parseFieldDescriptor (T k).2.2.1 = some (ty0 k)) (hnm : ∀ a, a < N → ∀ b, b < N → a ≠ b → (T a).2.1 ≠ (T b).2.1) (hc : vwCl[ci]? = some (Cn, T, N)) (hin : ∀ w ∈ u_ws Cn T N, w ∈ TB) (he : h a0 = some (ob_ ci fs)) (hj : j < N) (hw : Cond.fieldLink own index ref (T j).2.1 (T j).2.2.1 ∈ TB) (hr : (T j).1 = ref) (hfin : (T j).2.2.2 = false) (hd0 : parseFieldDescriptor (T j).2.2.1 = some ty) (hn : narrow ty v = v) (hfit : fits ty v = true) (hl : j < fs.length) (hd : decode cc pc = .ok (.putfield index, 3)) (kk : V p l e R s m args below meth c G nL Q (up_ h a0 (ob_ ci (fs.set j v))) sz k n (pc + 3) L st) : V p l e R s m args below meth c G nL Q h sz k n pc L (v :: .ref a0 :: st) := by
  intro H locs ls a b d
  have hap := va_apart (own := own) C.2.2.2.2.1 hin ty0 hty hnm C.2.2.2.2.2.1.1 hc
  obtain ⟨r, h1, cell, q1, q2, q3, q4⟩ := (a.2.2.2 _ _ he).2
  have hr2 : r = (Cn, T, N) := Option.some.inj (h1.symm.trans hc)
  subst hr2
  obtain ⟨hS, hfc, kC, hkC, hkind⟩ := C.2.2.2.2.2.1.1.1 ci _ hc
  obtain ⟨cf, kf, fi, f, hi, hsl⟩ := hS j hj
  have hlay := C.2.2.2.2.1 _ (hin _ (u_in_lay hj))
  unfold u_lay at hlay
  rw [if_neg (by rw [hfin]; decide)] at hlay
  have hst := (u_facts hfc hkC (u_lays C.2.2.2.2.1 hin hj) hi).1
  have h6 := u_store hfc hkC hkind hlay hi hd0 hn hfit
  subst hr
  refine W.putK C.1 C.2.1 (f := f) ⟨C.2.2.2.1, C.2.2.2.2.1 _ hw, ⟨_, _, _, hi⟩, hst⟩ (by rw [q2]; exact h6) q1 q3 (by rw [hsl]; exact k2_hasslot (q4 j hj)) rfl rfl hd fun H' e1 e2 e3 => ?_
  rw [hsl] at e1 ⊢
  exact kk H' _ ls (a.put (a.2.2.2 _ _ he).1 ⟨_, hc, t_OB.to (V := updV (vp_V fs) j v) ⟨_, e1, q2, q3, t_set q4 hap hj v⟩ (fun i _ => vp_updV_set hl v i)⟩ e2 e3) (fun q hq => by
    rcases List.mem_append.mp hq with z | z
    · exact b q z
    · have := List.mem_singleton.mp z
      subst this
      exact (a.2.2.2 _ _ he).1) d
theorem r_putN (C : Cx p l R s m args meth c G own cc nL ret nm) {ref Cn host : String} {T : u_T} {N ci index a0 j : Nat} {fs : List Value} {v : Value} {ty : FieldType} (ty0 : Nat → FieldType) (hty : ∀ k, k < N → parseFieldDescriptor (T k).2.2.1 = some (ty0 k)) (hnm : ∀ a, a < N → ∀ b, b < N → a ≠ b → (T a).2.1 ≠ (T b).2.1) (hc : vwCl[ci]? = some (Cn, T, N)) (hin : ∀ w ∈ u_ws Cn T N, w ∈ TB) (he : h a0 = some (ob_ ci fs)) (hj : j < N) (hw : Cond.fieldLinkNest own index ref (T j).2.1 (T j).2.2.1 host ∈ NB) (hr : (T j).1 = ref) (hfin : (T j).2.2.2 = false) (hd0 : parseFieldDescriptor (T j).2.2.1 = some ty) (hn : narrow ty v = v) (hfit : fits ty v = true) (hl : j < fs.length) (hd : decode cc pc = .ok (.putfield index, 3)) (kk : V p l e R s m args below meth c G nL Q (up_ h a0 (ob_ ci (fs.set j v))) sz k n (pc + 3) L st) : V p l e R s m args below meth c G nL Q h sz k n pc L (v :: .ref a0 :: st) := by
  intro H locs ls a b d
  have hap := va_apart (own := own) C.2.2.2.2.1 hin ty0 hty hnm C.2.2.2.2.2.1.1 hc
  obtain ⟨r, h1, cell, q1, q2, q3, q4⟩ := (a.2.2.2 _ _ he).2
  have hr2 : r = (Cn, T, N) := Option.some.inj (h1.symm.trans hc)
  subst hr2
  obtain ⟨hS, hfc, kC, hkC, hkind⟩ := C.2.2.2.2.2.1.1.1 ci _ hc
  obtain ⟨cf, kf, fi, f, hi, hsl⟩ := hS j hj
  have hlay := C.2.2.2.2.1 _ (hin _ (u_in_lay hj))
  unfold u_lay at hlay
  rw [if_neg (by rw [hfin]; decide)] at hlay
  have hst := (u_facts hfc hkC (u_lays C.2.2.2.2.1 hin hj) hi).1
  have h6 := u_store hfc hkC hkind hlay hi hd0 hn hfit
  subst hr
  refine va_WputK C.1 C.2.1 (f := f) C.2.2.2.1 (va_Nw.use rfl (C.2.2.2.2.2.1.2.1 _ hw)) hi hst (by rw [q2]; exact h6) q1 q3 (by rw [hsl]; exact k2_hasslot (q4 j hj)) rfl rfl hd fun H' e1 e2 e3 => ?_
  rw [hsl] at e1 ⊢
  exact kk H' _ ls (a.put (a.2.2.2 _ _ he).1 ⟨_, hc, t_OB.to (V := updV (vp_V fs) j v) ⟨_, e1, q2, q3, t_set q4 hap hj v⟩ (fun i _ => vp_updV_set hl v i)⟩ e2 e3) (fun q hq => by
    rcases List.mem_append.mp hq with z | z
    · exact b q z
    · have := List.mem_singleton.mp z
      subst this
      exact (a.2.2.2 _ _ he).1) d
theorem r_putF (C : Cx p l R s m args meth c G own cc nL ret nm) {ref Cn : String} {T : u_T} {N ci index a0 j : Nat} {fs : List Value} {v : Value} {ty : FieldType} (ty0 : Nat → FieldType) (hty : ∀ k, k < N → parseFieldDescriptor (T k).2.2.1 = some (ty0 k)) (hnm : ∀ a, a < N → ∀ b, b < N → a ≠ b → (T a).2.1 ≠ (T b).2.1) (hc : vwCl[ci]? = some (Cn, T, N)) (hin : ∀ w ∈ u_ws Cn T N, w ∈ TB) (he : h a0 = some (ob_ ci fs)) (hj : j < N) (hw : Cond.fieldLink own index ref (T j).2.1 (T j).2.2.1 ∈ TB) (hr : (T j).1 = ref) (hfin : (T j).2.2.2 = true) (hin2 : nm = "<init>") (hdecl : (T j).1 = own) (hd0 : parseFieldDescriptor (T j).2.2.1 = some ty) (hn : narrow ty v = v) (hfit : fits ty v = true) (hl : j < fs.length) (hd : decode cc pc = .ok (.putfield index, 3)) (kk : V p l e R s m args below meth c G nL Q (up_ h a0 (ob_ ci (fs.set j v))) sz k n (pc + 3) L st) : V p l e R s m args below meth c G nL Q h sz k n pc L (v :: .ref a0 :: st) := by
  intro H locs ls a b d
  have hap := va_apart (own := own) C.2.2.2.2.1 hin ty0 hty hnm C.2.2.2.2.2.1.1 hc
  obtain ⟨r, h1, cell, q1, q2, q3, q4⟩ := (a.2.2.2 _ _ he).2
  have hr2 : r = (Cn, T, N) := Option.some.inj (h1.symm.trans hc)
  subst hr2
  obtain ⟨hS, hfc, kC, hkC, hkind⟩ := C.2.2.2.2.2.1.1.1 ci _ hc
  obtain ⟨cf, kf, fi, f, hi, hsl⟩ := hS j hj
  have hlay := C.2.2.2.2.1 _ (hin _ (u_in_lay hj))
  unfold u_lay at hlay
  rw [if_pos hfin] at hlay
  have hst := (u_facts hfc hkC (u_lays C.2.2.2.2.1 hin hj) hi).1
  have hcf : m.cls = cf := by
    obtain ⟨_, _, c', _, _, _, -, -, hf', -, -, -, hown2, -⟩ := Cond.laysFinal_spec hlay
    have e1 : c' = cf := by have := hi.symm.trans hf'; simp at this; exact this.1.symm
    rw [hdecl] at hown2
    rw [← e1]; exact Option.some.inj (C.2.2.2.1.symm.trans hown2)
  have h6 := u_fits hfc hkC hkind (Or.inr hlay) hi hd0 hn hfit
  subst hr
  refine W.putFinK C.1 C.2.1 C.2.2.2.1 (C.2.2.2.2.1 _ hw) hi hst hcf (C.2.2.2.2.2.2.2.2.trans hin2) (by rw [q2]; exact h6) q1 q3 (by rw [hsl]; exact k2_hasslot (q4 j hj)) rfl rfl hd fun H' e1 e2 e3 => ?_
  rw [hsl] at e1 ⊢
  exact kk H' _ ls (a.put (a.2.2.2 _ _ he).1 ⟨_, hc, t_OB.to (V := updV (vp_V fs) j v) ⟨_, e1, q2, q3, t_set q4 hap hj v⟩ (fun i _ => vp_updV_set hl v i)⟩ e2 e3) (fun q hq => by
    rcases List.mem_append.mp hq with z | z
    · exact b q z
    · have := List.mem_singleton.mp z
      subst this
      exact (a.2.2.2 _ _ he).1) d
theorem r_iald (C : Cx p l R s m args meth c G own cc nL ret nm) {a0 N : Nat} {f : Nat → Int32} {i : Int32} (he : h a0 = some (aI_ G N f)) (hi : vp_in i N) (hd : decode cc pc = .ok (.iaload, 1)) (kk : V p l e R s m args below meth c G nL Q h sz k n (pc + 1) L (.int (f i.toNatClampNeg) :: st)) : V p l e R s m args below meth c G nL Q h sz k n pc L (.int i :: .ref a0 :: st) := by
  intro H locs ls a b d
  exact va_iald (ws := [(a0, aI_ G N f)]) C.1 C.2.1 C.2.2.2.2.2.1.1 (fun q x hx => by cases q with
    | zero => cases hx; exact (a.2.2.2 _ _ he).2
    | succ q => simp at hx) 0 0 rfl rfl hi hd (kk H locs ls a b d)
theorem r_cald (C : Cx p l R s m args meth c G own cc nL ret nm) {a0 N : Nat} {f : Nat → Int32} {i : Int32} (he : h a0 = some (aC_ G N f)) (hi : vp_in i N) (hd : decode cc pc = .ok (.caload, 1)) (kk : V p l e R s m args below meth c G nL Q h sz k n (pc + 1) L (.int (f i.toNatClampNeg) :: st)) : V p l e R s m args below meth c G nL Q h sz k n pc L (.int i :: .ref a0 :: st) := by
  intro H locs ls a b d
  exact va_cald (ws := [(a0, aC_ G N f)]) C.1 C.2.1 C.2.2.2.2.2.1.1 (fun q x hx => by cases q with
    | zero => cases hx; exact (a.2.2.2 _ _ he).2
    | succ q => simp at hx) 0 1 rfl rfl hi hd (kk H locs ls a b d)
theorem r_aald (C : Cx p l R s m args meth c G own cc nL ret nm) {a0 N : Nat} {f : Nat → Option Nat} {i : Int32} (he : h a0 = some (aG_ G N f)) (hi : vp_in i N) (hd : decode cc pc = .ok (.aaload, 1)) (kk : V p l e R s m args below meth c G nL Q h sz k n (pc + 1) L (va_rf (f i.toNatClampNeg) :: st)) : V p l e R s m args below meth c G nL Q h sz k n pc L (.int i :: .ref a0 :: st) := by
  intro H locs ls a b d
  exact va_aldq (ws := [(a0, aG_ G N f)]) C.1 C.2.1 C.2.2.2.2.2.1.1 (fun q x hx => by cases q with
    | zero => cases hx; exact (a.2.2.2 _ _ he).2
    | succ q => simp at hx) 0 4 rfl rfl hi hd (kk H locs ls a b d)
theorem r_alenI (C : Cx p l R s m args meth c G own cc nL ret nm) {a0 N : Nat} {f : Nat → Int32} (he : h a0 = some (aI_ G N f)) (hd : decode cc pc = .ok (.arraylength, 1)) (kk : V p l e R s m args below meth c G nL Q h sz k n (pc + 1) L (.int (nI N) :: st)) : V p l e R s m args below meth c G nL Q h sz k n pc L (.ref a0 :: st) := by
  intro H locs ls a b d
  exact va_alen (ws := [(a0, aI_ G N f)]) C.1 C.2.1 C.2.2.2.2.2.1.1 (fun q x hx => by cases q with
    | zero => cases hx; exact (a.2.2.2 _ _ he).2
    | succ q => simp at hx) 0 0 rfl rfl rfl hd (kk H locs ls a b d)
theorem r_alenC (C : Cx p l R s m args meth c G own cc nL ret nm) {a0 N : Nat} {f : Nat → Int32} (he : h a0 = some (aC_ G N f)) (hd : decode cc pc = .ok (.arraylength, 1)) (kk : V p l e R s m args below meth c G nL Q h sz k n (pc + 1) L (.int (nI N) :: st)) : V p l e R s m args below meth c G nL Q h sz k n pc L (.ref a0 :: st) := by
  intro H locs ls a b d
  exact va_alen (ws := [(a0, aC_ G N f)]) C.1 C.2.1 C.2.2.2.2.2.1.1 (fun q x hx => by cases q with
    | zero => cases hx; exact (a.2.2.2 _ _ he).2
    | succ q => simp at hx) 0 1 rfl rfl rfl hd (kk H locs ls a b d)
theorem r_alenG (C : Cx p l R s m args meth c G own cc nL ret nm) {a0 N : Nat} {f : Nat → Option Nat} (he : h a0 = some (aG_ G N f)) (hd : decode cc pc = .ok (.arraylength, 1)) (kk : V p l e R s m args below meth c G nL Q h sz k n (pc + 1) L (.int (nI N) :: st)) : V p l e R s m args below meth c G nL Q h sz k n pc L (.ref a0 :: st) := by
  intro H locs ls a b d
  exact va_alen (ws := [(a0, aG_ G N f)]) C.1 C.2.1 C.2.2.2.2.2.1.1 (fun q x hx => by cases q with
    | zero => cases hx; exact (a.2.2.2 _ _ he).2
    | succ q => simp at hx) 0 4 rfl rfl rfl hd (kk H locs ls a b d)
theorem r_ishl (C : Cx p l R s m args meth c G own cc nL ret nm) {x y : Int32} (hd : decode cc pc = .ok (.ishl, 1))  (kk : V p l e R s m args below meth c G nL Q h sz k n (pc + 1) L (.int (x <<< (y &&& 31)) :: st)) : V p l e R s m args below meth c G nL Q h sz k n pc L (.int y :: .int x :: st) := fun H locs ls a b d => lv_ishl C.1 C.2.1 hd  (kk H locs ls a b d)
theorem r_ishr (C : Cx p l R s m args meth c G own cc nL ret nm) {x y : Int32} (hd : decode cc pc = .ok (.ishr, 1))  (kk : V p l e R s m args below meth c G nL Q h sz k n (pc + 1) L (.int (x >>> (y &&& 31)) :: st)) : V p l e R s m args below meth c G nL Q h sz k n pc L (.int y :: .int x :: st) := fun H locs ls a b d => lv_ishr C.1 C.2.1 hd  (kk H locs ls a b d)
theorem r_iushr (C : Cx p l R s m args meth c G own cc nL ret nm) {x y : Int32} (hd : decode cc pc = .ok (.iushr, 1))  (kk : V p l e R s m args below meth c G nL Q h sz k n (pc + 1) L (.int ((x.toUInt32 >>> (y.toUInt32 &&& Int32.toUInt32 31)).toInt32) :: st)) : V p l e R s m args below meth c G nL Q h sz k n pc L (.int y :: .int x :: st) := fun H locs ls a b d => lv_iushr C.1 C.2.1 hd rfl (kk H locs ls a b d)
theorem r_lshl (C : Cx p l R s m args meth c G own cc nL ret nm) {x : Int64} {y : Int32} (hd : decode cc pc = .ok (.lshl, 1))  (kk : V p l e R s m args below meth c G nL Q h sz k n (pc + 1) L (.long (x <<< (y.toInt64 &&& 63)) :: st)) : V p l e R s m args below meth c G nL Q h sz k n pc L (.int y :: .long x :: st) := fun H locs ls a b d => lv_lshl C.1 C.2.1 hd rfl (kk H locs ls a b d)
theorem r_lcmp (C : Cx p l R s m args meth c G own cc nL ret nm) {x y : Int64} (hd : decode cc pc = .ok (.lcmp, 1))  (kk : V p l e R s m args below meth c G nL Q h sz k n (pc + 1) L (.int (lg_cmp x y) :: st)) : V p l e R s m args below meth c G nL Q h sz k n pc L (.long y :: .long x :: st) := fun H locs ls a b d => W.lcmp C.1 C.2.1 hd  (kk H locs ls a b d)
theorem r_lconst (C : Cx p l R s m args meth c G own cc nL ret nm) {i : Fin 2} {v : Int64} (hd : decode cc pc = .ok (.lconst i, 1)) (hv : Int64.ofNat (i : Nat) = v) (kk : V p l e R s m args below meth c G nL Q h sz k n (pc + 1) L (.long v :: st)) : V p l e R s m args below meth c G nL Q h sz k n pc L (st) := fun H locs ls a b d => lv_lconst C.1 C.2.1 hd hv (kk H locs ls a b d)
theorem r_dconst0 (C : Cx p l R s m args meth c G own cc nL ret nm)  (hd : decode cc pc = .ok (.dconst 0, 1))  (kk : V p l e R s m args below meth c G nL Q h sz k n (pc + 1) L (.double FP.dconst0 :: st)) : V p l e R s m args below meth c G nL Q h sz k n pc L (st) := fun H locs ls a b d => lv_dconst0 C.1 C.2.1 hd  (kk H locs ls a b d)
theorem r_dconst1 (C : Cx p l R s m args meth c G own cc nL ret nm)  (hd : decode cc pc = .ok (.dconst 1, 1))  (kk : V p l e R s m args below meth c G nL Q h sz k n (pc + 1) L (.double FP.dconst1 :: st)) : V p l e R s m args below meth c G nL Q h sz k n pc L (st) := fun H locs ls a b d => lv_dconst1 C.1 C.2.1 hd  (kk H locs ls a b d)
theorem r_i2d (C : Cx p l R s m args meth c G own cc nL ret nm) {x : Int32} (hd : decode cc pc = .ok (.i2d, 1))  (kk : V p l e R s m args below meth c G nL Q h sz k n (pc + 1) L (.double (FP.i2d x) :: st)) : V p l e R s m args below meth c G nL Q h sz k n pc L (.int x :: st) := fun H locs ls a b d => lv_i2d C.1 C.2.1 hd  (kk H locs ls a b d)
theorem r_d2l (C : Cx p l R s m args meth c G own cc nL ret nm) {x : UInt64} (hd : decode cc pc = .ok (.d2l, 1))  (kk : V p l e R s m args below meth c G nL Q h sz k n (pc + 1) L (.long (FP.d2l x) :: st)) : V p l e R s m args below meth c G nL Q h sz k n pc L (.double x :: st) := fun H locs ls a b d => lv_d2l C.1 C.2.1 hd  (kk H locs ls a b d)
theorem r_dcmp (C : Cx p l R s m args meth c G own cc nL ret nm) {x y : UInt64} {op : CmpOp} (hd : decode cc pc = .ok (.dcmp op, 1))  (kk : V p l e R s m args below meth c G nL Q h sz k n (pc + 1) L (.int (Op.cmpValue (FP.dcmp x y) op) :: st)) : V p l e R s m args below meth c G nL Q h sz k n pc L (.double y :: .double x :: st) := fun H locs ls a b d => lv_dcmp C.1 C.2.1 hd  (kk H locs ls a b d)
theorem r_dmul (C : Cx p l R s m args meth c G own cc nL ret nm) {x y : UInt64} (hd : decode cc pc = .ok (.dmul, 1)) (hz : vf_n64 (FP.dmul x y)) (kk : V p l e R s m args below meth c G nL Q h sz k n (pc + 1) L (.double (FP.dmul x y) :: st)) : V p l e R s m args below meth c G nL Q h sz k n pc L (.double y :: .double x :: st) := fun H locs ls a b d => lv_dmul C.1 C.2.1 hd hz (kk H locs ls a b d)
theorem r_ddiv (C : Cx p l R s m args meth c G own cc nL ret nm) {x y : UInt64} (hd : decode cc pc = .ok (.ddiv, 1)) (hz : vf_n64 (FP.ddiv x y)) (kk : V p l e R s m args below meth c G nL Q h sz k n (pc + 1) L (.double (FP.ddiv x y) :: st)) : V p l e R s m args below meth c G nL Q h sz k n pc L (.double y :: .double x :: st) := fun H locs ls a b d => lv_ddiv C.1 C.2.1 hd hz (kk H locs ls a b d)
theorem r_dsub (C : Cx p l R s m args meth c G own cc nL ret nm) {x y : UInt64} (hd : decode cc pc = .ok (.dsub, 1)) (hz : vf_n64 (FP.dsub x y)) (kk : V p l e R s m args below meth c G nL Q h sz k n (pc + 1) L (.double (FP.dsub x y) :: st)) : V p l e R s m args below meth c G nL Q h sz k n pc L (.double y :: .double x :: st) := fun H locs ls a b d => lv_dsub C.1 C.2.1 hd hz (kk H locs ls a b d)
theorem r_ldc_w (C : Cx p l R s m args meth c G own cc nL ret nm) {i : Nat} {v : Int32} (hw : Cond.constant own i v ∈ TB) (hd : decode cc pc = .ok (.ldc_w i, 3)) (kk : V p l e R s m args below meth c G nL Q h sz k n (pc + 3) L (.int v :: st)) : V p l e R s m args below meth c G nL Q h sz k n pc L st := fun H locs ls a b d => lv_ldcw C.1 C.2.1 C.2.2.2.1 (C.2.2.2.2.1 _ hw) hd (kk H locs ls a b d)
theorem r_ldcd (C : Cx p l R s m args meth c G own cc nL ret nm) {i : Nat} {v : UInt64} (hw : Cond.constantDouble own i v ∈ TB) (hd : decode cc pc = .ok (.ldc2_w i, 3)) (kk : V p l e R s m args below meth c G nL Q h sz k n (pc + 3) L (.double v :: st)) : V p l e R s m args below meth c G nL Q h sz k n pc L st := fun H locs ls a b d => lv_ldc2d C.1 C.2.1 C.2.2.2.1 (C.2.2.2.2.1 _ hw) hd (kk H locs ls a b d)
theorem r_ifnull (C : Cx p l R s m args meth c G own cc nL ret nm) {x : Nat} {off : Int} (hd : decode cc pc = .ok (.ifnull off, 3)) (kk : V p l e R s m args below meth c G nL Q h sz k n (pc + 3) L st) : V p l e R s m args below meth c G nL Q h sz k n pc L (.ref x :: st) := fun H locs ls a b d => lv_ifnull C.1 C.2.1 hd (kk H locs ls a b d)
theorem r_ifnonnull (C : Cx p l R s m args meth c G own cc nL ret nm) {x : Nat} {off : Int} (tgt : Nat) (hd : decode cc pc = .ok (.ifnonnull off, 3)) (ht : (pc : Int) + off = (tgt : Int)) (kk : V p l e R s m args below meth c G nL Q h sz k n tgt L st) : V p l e R s m args below meth c G nL Q h sz k n pc L (.ref x :: st) := fun H locs ls a b d => lv_ifnonnull C.1 C.2.1 hd ht (kk H locs ls a b d)
theorem r_ifnullN (C : Cx p l R s m args meth c G own cc nL ret nm) {off : Int} (tgt : Nat) (hd : decode cc pc = .ok (.ifnull off, 3)) (ht : (pc : Int) + off = (tgt : Int)) (kk : V p l e R s m args below meth c G nL Q h sz k n tgt L st) : V p l e R s m args below meth c G nL Q h sz k n pc L (.null :: st) := fun H locs ls a b d => lv_ifnullN C.1 C.2.1 hd ht (kk H locs ls a b d)
theorem r_ifnonnullN (C : Cx p l R s m args meth c G own cc nL ret nm) {off : Int} (hd : decode cc pc = .ok (.ifnonnull off, 3)) (kk : V p l e R s m args below meth c G nL Q h sz k n (pc + 3) L st) : V p l e R s m args below meth c G nL Q h sz k n pc L (.null :: st) := fun H locs ls a b d => lv_ifnonnullN C.1 C.2.1 hd (kk H locs ls a b d)
theorem r_astore_nN (C : Cx p l R s m args meth c G own cc nL ret nm) {j : Fin 4} {i : Nat} (hd : decode cc pc = .ok (.astore_n j, 1)) (hi : (j : Nat) = i) (hn : i < nL) (kk : V p l e R s m args below meth c G nL Q h sz k n (pc + 1) (st1_ L i .null) st) : V p l e R s m args below meth c G nL Q h sz k n pc L (.null :: st) := fun H locs ls a b d => lv_astore_nN C.1 C.2.1 hd hi d hn rfl (fun ls2 d2 => kk H locs ls2 a b d2)
theorem r_aload_nN (C : Cx p l R s m args meth c G own cc nL ret nm) {j : Fin 4} {i : Nat} (hd : decode cc pc = .ok (.aload_n j, 1)) (hi : (j : Nat) = i) (hg : gl_ L i = some .null) (kk : V p l e R s m args below meth c G nL Q h sz k n (pc + 1) L (.null :: st)) : V p l e R s m args below meth c G nL Q h sz k n pc L (st) := fun H locs ls a b d => lv_aload_nN C.1 C.2.1 hd hi (gl_at d hg) (kk H locs ls a b d)
theorem r_tsw (C : Cx p l R s m args meth c G own cc nL ret nm) {dflt lo hi off : Int} {offs : Array Int} {len : Nat} {x : Int32} (tgt : Nat) (hd : decode cc pc = .ok (.tableswitch dflt lo hi offs, len)) (h1 : ¬ x.toInt < lo) (h2 : ¬ hi < x.toInt) (ho : offs[(x.toInt - lo).toNat]? = some off) (ht : (pc : Int) + off = (tgt : Int)) (kk : V p l e R s m args below meth c G nL Q h sz k n tgt L st) : V p l e R s m args below meth c G nL Q h sz k n pc L (.int x :: st) := fun H locs ls a b d => lv_tableIn C.1 C.2.1 hd h1 h2 ho ht (kk H locs ls a b d)
theorem r_tswO (C : Cx p l R s m args meth c G own cc nL ret nm) {dflt lo hi : Int} {offs : Array Int} {len : Nat} {x : Int32} (tgt : Nat) (hd : decode cc pc = .ok (.tableswitch dflt lo hi offs, len)) (h1 : x.toInt < lo ∨ hi < x.toInt) (ht : (pc : Int) + dflt = (tgt : Int)) (kk : V p l e R s m args below meth c G nL Q h sz k n tgt L st) : V p l e R s m args below meth c G nL Q h sz k n pc L (.int x :: st) := fun H locs ls a b d => lv_tableOut C.1 C.2.1 hd h1 ht (kk H locs ls a b d)
theorem r_iast (C : Cx p l R s m args meth c G own cc nL ret nm) {a0 N : Nat} {f : Nat → Int32} {i x : Int32} (he : h a0 = some (aI_ G N f)) (hi : vp_in i N) (hd : decode cc pc = .ok (.iastore, 1)) (kk : V p l e R s m args below meth c G nL Q (up_ h a0 (aI_ G N (upd f i.toNatClampNeg x))) sz k n (pc + 1) L st) : V p l e R s m args below meth c G nL Q h sz k n pc L (.int x :: .int i :: .ref a0 :: st) := by
  intro H locs ls a b d
  refine W.iast C.1 C.2.1 (a.2.2.2 _ _ he).2 ((C.2.2.2.2.2.1.1.2 0 _ rfl).1 N (fun j => .int (f j))) (fun q => by cases q) (by show ¬ (i < 0 ∨ (arrV _ _ _).slots.size ≤ _); rw [arrV_size]; exact hi) rfl rfl hd fun H1 e1 z oq => ?_
  refine kk H1 _ ls (a.put (a.2.2.2 _ _ he).1 ?_ z oq) (fun q hq => by
    rcases List.mem_append.mp hq with z | z
    · exact b q z
    · have := List.mem_singleton.mp z
      subst this
      exact (a.2.2.2 _ _ he).1) d
  show H1[a0]? = some (vp_cell _ _)
  rw [e1]
  rw [vp_cell_i, vp_cell_i, arrV_store]
  congr 2
  funext q
  by_cases hq : q = i.toNatClampNeg
  · subst hq
    simp [updV, upd, vp_nar]
    try rfl
  · simp [updV, upd, hq]
theorem r_cast (C : Cx p l R s m args meth c G own cc nL ret nm) {a0 N : Nat} {f : Nat → Int32} {i x : Int32} (he : h a0 = some (aC_ G N f)) (hi : vp_in i N) (hd : decode cc pc = .ok (.castore, 1)) (kk : V p l e R s m args below meth c G nL Q (up_ h a0 (aC_ G N (upd f i.toNatClampNeg (vp_nar .char x)))) sz k n (pc + 1) L st) : V p l e R s m args below meth c G nL Q h sz k n pc L (.int x :: .int i :: .ref a0 :: st) := by
  intro H locs ls a b d
  refine W.cast C.1 C.2.1 (a.2.2.2 _ _ he).2 ((C.2.2.2.2.2.1.1.2 1 _ rfl).1 N (fun j => .int (f j))) (fun q => by cases q) (by show ¬ (i < 0 ∨ (arrV _ _ _).slots.size ≤ _); rw [arrV_size]; exact hi) rfl rfl hd fun H1 e1 z oq => ?_
  refine kk H1 _ ls (a.put (a.2.2.2 _ _ he).1 ?_ z oq) (fun q hq => by
    rcases List.mem_append.mp hq with z | z
    · exact b q z
    · have := List.mem_singleton.mp z
      subst this
      exact (a.2.2.2 _ _ he).1) d
  show H1[a0]? = some (vp_cell _ _)
  rw [e1]
  rw [vp_cell_i, vp_cell_i, arrV_store]
  congr 2
  funext q
  by_cases hq : q = i.toNatClampNeg
  · subst hq
    simp [updV, upd, vp_nar]
    try rfl
  · simp [updV, upd, hq]
theorem r_aast (C : Cx p l R s m args meth c G own cc nL ret nm) {a0 N v0 : Nat} {f : Nat → Option Nat} {i : Int32} {fs : List Value} (he : h a0 = some (aG_ G N f)) (hv0 : h v0 = some (ob_ 0 fs)) (hi : vp_in i N) (hd : decode cc pc = .ok (.aastore, 1)) (kk : V p l e R s m args below meth c G nL Q (up_ h a0 (aG_ G N (va_up f i.toNatClampNeg (some v0)))) sz k n (pc + 1) L st) : V p l e R s m args below meth c G nL Q h sz k n pc L (.ref v0 :: .int i :: .ref a0 :: st) := by
  intro H locs ls a b d
  have hlt : i.toNatClampNeg < N := Nat.not_le.mp fun q => hi (Or.inr q)
  have h0 : ¬ i < 0 := fun q => hi (Or.inl q)
  obtain ⟨r', hr', cellV, g1, g2, g3, -⟩ := (a.2.2.2 _ _ hv0).2
  have hcls := (C.2.2.2.2.2.1.1.1 0 (RX0, TX0, 13) rfl).2
  obtain ⟨kA, comp, k1, k2, k3, -⟩ := (C.2.2.2.2.2.1.1.2 4 _ rfl).2
  have hcomp : comp = G.1.1 0 := Option.some.inj (k3.symm.trans hcls.1)
  subst hcomp
  obtain ⟨kC, hkC, -⟩ := hcls.2
  refine W.aast C.1 C.2.1 (a.2.2.2 _ _ he).2 (fun q h => by cases h) (fun h => by cases h) k1 k2 rfl hkC ⟨h0, by show _ < (arrV _ _ _).slots.size; rw [arrV_size]; exact hlt⟩ g1 (fun q h => by rw [g3] at h; cases h) (by rw [g2]; exact hkC) (by rw [g2]; exact va_assign hcls) rfl rfl hd fun H1 e1 z oq => ?_
  refine kk H1 _ ls (a.put (a.2.2.2 _ _ he).1 ?_ z oq) (fun q hq => by
    rcases List.mem_append.mp hq with z | z
    · exact b q z
    · have := List.mem_singleton.mp z
      subst this
      exact (a.2.2.2 _ _ he).1) d
  show H1[a0]? = some (vp_cell _ _)
  rw [e1]
  rw [vp_cell_q, vp_cell_q, arrV_store]
  congr 2
  funext q
  by_cases hq : q = i.toNatClampNeg
  · subst hq
    simp [updV, va_up, va_rf]
  · simp [updV, va_up, hq]
theorem r_new (C : Cx p l R s m args meth c G own cc nL ret nm) {Cn : String} {T : u_T} {N ci index : Nat} {fs : List Value} (ty : Nat → FieldType) (hty : ∀ k, k < N → parseFieldDescriptor (T k).2.2.1 = some (ty k)) (hc : vwCl[ci]? = some (Cn, T, N)) (hin : ∀ w ∈ u_ws Cn T N, w ∈ TB) (hcl : Cond.classLink own index Cn ∈ TB) (hinst : Cond.instantiable Cn N ∈ TB) (hini : Cond.initialized Cn ∈ TB) (hfs : ∀ j, j < N → defaultValue (ty j) = vp_V fs j) (hk : k + 1 ≤ R.cells) (hn : n + N ≤ R.slots) (hd : decode cc pc = .ok (.new index, 3)) (kk : V p l e R s m args below meth c G nL Q (up_ h sz (ob_ ci fs)) (sz + 1) (k + 1) (n + N) (pc + 3) L (.ref sz :: st)) : V p l e R s m args below meth c G nL Q h sz k n pc L st := by
  intro H locs ls a b d
  have hts := C.2.2.2.2.1
  have hKn := C.2.2.2.2.2.1.1.1 ci _ hc
  refine W.newcK C.1 C.2.1 C.2.2.2.1 (hts _ hcl) (hts _ hinst) (hts _ hini) rfl hd hk hn hKn.2.1 a.1 fun H1 kC hkC e1 z1 o1 => ?_
  exact kk H1 locs ls (a.new ⟨_, hc, (u_born ty hts hin hKn hkC e1 hty).to hfs⟩ z1 o1) b d
theorem r_newaI (C : Cx p l R s m args meth c G own cc nL ret nm) {i : Int32} {N : Nat} (hw : Cond.arrayClass .int ∈ TB) (h0 : ¬ i < 0) (hN : i.toNatClampNeg = N) (hb : N * 8 ≤ 536870912) (hk : k + 1 ≤ R.cells) (hn : n + N ≤ R.slots) (hd : decode cc pc = .ok (.newarray .int, 2)) (kk : V p l e R s m args below meth c G nL Q (up_ h sz (aI_ G N (fun _ => 0))) (sz + 1) (k + 1) (n + N) (pc + 2) L (.ref sz :: st)) : V p l e R s m args below meth c G nL Q h sz k n pc L (.int i :: st) := by
  intro H locs ls a b d
  refine va_newaK (atype := .int) C.1 C.2.1 (C.2.2.2.2.1 _ hw) rfl hd rfl h0 hN (Nat.le_trans (Nat.mul_le_mul_left N (by decide)) hb) hk hn a.1 fun H1 cA e1 z1 o1 _ hNm => ?_
  have hcA : cA = G.2.1 0 := Option.some.inj (hNm.symm.trans (C.2.2.2.2.2.1.1.2 0 _ rfl).2)
  subst hcA
  exact kk H1 locs ls (a.new e1 z1 o1) b d
theorem r_newaC (C : Cx p l R s m args meth c G own cc nL ret nm) {i : Int32} {N : Nat} (hw : Cond.arrayClass .char ∈ TB) (h0 : ¬ i < 0) (hN : i.toNatClampNeg = N) (hb : N * 8 ≤ 536870912) (hk : k + 1 ≤ R.cells) (hn : n + N ≤ R.slots) (hd : decode cc pc = .ok (.newarray .char, 2)) (kk : V p l e R s m args below meth c G nL Q (up_ h sz (aC_ G N (fun _ => 0))) (sz + 1) (k + 1) (n + N) (pc + 2) L (.ref sz :: st)) : V p l e R s m args below meth c G nL Q h sz k n pc L (.int i :: st) := by
  intro H locs ls a b d
  refine va_newaK (atype := .char) C.1 C.2.1 (C.2.2.2.2.1 _ hw) rfl hd rfl h0 hN (Nat.le_trans (Nat.mul_le_mul_left N (by decide)) hb) hk hn a.1 fun H1 cA e1 z1 o1 _ hNm => ?_
  have hcA : cA = G.2.1 1 := Option.some.inj (hNm.symm.trans (C.2.2.2.2.2.1.1.2 1 _ rfl).2)
  subst hcA
  exact kk H1 locs ls (a.new e1 z1 o1) b d
theorem r_newG (C : Cx p l R s m args meth c G own cc nL ret nm) {i : Int32} {N index : Nat} (hcl : Cond.classLink own index RX0 ∈ TB) (h0 : ¬ i < 0) (hN : i.toNatClampNeg = N) (hb : N * 4 ≤ 536870912) (hk : k + 1 ≤ R.cells) (hn : n + N ≤ R.slots) (hd : decode cc pc = .ok (.anewarray index, 3)) (kk : V p l e R s m args below meth c G nL Q (up_ h sz (aG_ G N (fun _ => none))) (sz + 1) (k + 1) (n + N) (pc + 3) L (.ref sz :: st)) : V p l e R s m args below meth c G nL Q h sz k n pc L (.int i :: st) := by
  intro H locs ls a b d
  subst hN
  refine W.anew C.1 C.2.1 C.2.2.2.1 (C.2.2.2.2.1 _ hcl) (va_AO.use C.2.2.2.2.2.1.2.2.1) rfl hd rfl h0 hb hk hn fun cA kA comp f1 f2 f3 f4 => ?_
  obtain ⟨kB, comp2, -, -, -, k4⟩ := (C.2.2.2.2.2.1.1.2 4 _ rfl).2
  have hcA : cA = G.2.1 4 := Option.some.inj (f1.symm.trans k4)
  subst hcA
  have hz := a.1
  subst hz
  refine kk _ locs ls (a.new (show _ = some (arrV _ _ (fun _ => .null)) from ?_) (by rw [Array.size_push]) (fun q hq => by rw [Array.getElem?_push, if_neg (Nat.ne_of_lt hq)])) b d
  rw [Array.getElem?_push_size]
  exact congrArg some (arrV_new _ _ _)
theorem r_iret (C : Cx p l R s m args meth c G own cc nL ret nm) {x : Int32} {mc ms : Nat} {Post : Option Value → HP → Nat → Prop} (hr : ret = some .int) (hk : k ≤ mc) (hn : n ≤ ms) (hp : Post (some (.int x)) h sz) (hd : decode cc pc = .ok (.ireturn, 1)) : V p l e R s m args below meth c G nL (Qg G below args s mc ms Post) h sz k n pc L [.int x] := by
  intro H locs ls a b d
  refine W.widen hk hn ?_
  exact W.iret (v := x) C.1 C.2.1 (C.2.2.2.2.2.2.1.trans hr) (fun t ht hW => ⟨_, _, _, rfl, hp, by rw [ht]; exact a⟩) b hd (hlocks := C.2.2.2.2.2.2.2.1)
theorem r_lret (C : Cx p l R s m args meth c G own cc nL ret nm) {x : Int64} {mc ms : Nat} {Post : Option Value → HP → Nat → Prop} (hr : ret = some .long) (hk : k ≤ mc) (hn : n ≤ ms) (hp : Post (some (.long x)) h sz) (hd : decode cc pc = .ok (.lreturn, 1)) : V p l e R s m args below meth c G nL (Qg G below args s mc ms Post) h sz k n pc L [.long x] := by
  intro H locs ls a b d
  refine W.widen hk hn ?_
  exact W.lret (v := x) C.1 C.2.1 (C.2.2.2.2.2.2.1.trans hr) (fun t ht hW => ⟨_, _, _, rfl, hp, by rw [ht]; exact a⟩) b hd (hlocks := C.2.2.2.2.2.2.2.1)
theorem r_dret (C : Cx p l R s m args meth c G own cc nL ret nm) {x : UInt64} {mc ms : Nat} {Post : Option Value → HP → Nat → Prop} (hr : ret = some .double) (hk : k ≤ mc) (hn : n ≤ ms) (hp : Post (some (.double x)) h sz) (hd : decode cc pc = .ok (.dreturn, 1)) : V p l e R s m args below meth c G nL (Qg G below args s mc ms Post) h sz k n pc L [.double x] := by
  intro H locs ls a b d
  refine W.widen hk hn ?_
  exact W.dret (v := x) C.1 C.2.1 (C.2.2.2.2.2.2.1.trans hr) (fun t ht hW => ⟨_, _, _, rfl, hp, by rw [ht]; exact a⟩) b hd (hlocks := C.2.2.2.2.2.2.2.1)
theorem r_zret (C : Cx p l R s m args meth c G own cc nL ret nm) {x : Int32} {mc ms : Nat} {Post : Option Value → HP → Nat → Prop} (hr : ret = some .boolean) (hx : x = 0 ∨ x = 1) (hk : k ≤ mc) (hn : n ≤ ms) (hp : Post (some (.int x)) h sz) (hd : decode cc pc = .ok (.ireturn, 1)) : V p l e R s m args below meth c G nL (Qg G below args s mc ms Post) h sz k n pc L [.int x] := by
  intro H locs ls a b d
  refine W.widen hk hn ?_
  exact W.zret (v := x) C.1 C.2.1 (C.2.2.2.2.2.2.1.trans hr) (by rcases hx with rfl | rfl <;> rfl) (fun t ht hW => ⟨_, _, _, rfl, hp, by rw [ht]; exact a⟩) b hd (hlocks := C.2.2.2.2.2.2.2.1)
theorem r_vret (C : Cx p l R s m args meth c G own cc nL ret nm) {mc ms : Nat} {Post : Option Value → HP → Nat → Prop} (hr : ret = none) (hk : k ≤ mc) (hn : n ≤ ms) (hp : Post none h sz) (hd : decode cc pc = .ok (.return_, 1)) : V p l e R s m args below meth c G nL (Qg G below args s mc ms Post) h sz k n pc L [] := by
  intro H locs ls a b d
  refine W.widen hk hn ?_
  exact W.vret C.1 C.2.1 (C.2.2.2.2.2.2.1.trans hr) (fun t ht hW => ⟨_, _, _, rfl, hp, by rw [ht]; exact a⟩) b hd (hlocks := C.2.2.2.2.2.2.2.1)
theorem r_objInit (C : Cx p l R s m args meth c G own cc nL ret nm) {a0 idx : Nat} (hl : Cond.methodLink own idx Lib.objectInit ∈ TB) (hi : Cond.instanceMethod Lib.objectInit ∈ TB) (hcd : Cond.code Lib.objectInit ⟨#[0xb1]⟩ 1 none ∈ TB) (hf : 1 ≤ R.frames) (hlo : (st.map fun v => v.category).sum + 12 ≤ R.locals) (hd : decode cc pc = .ok (.invokespecial idx, 3)) (kk : V p l e R s m args below meth c G nL Q h sz k n (pc + 3) L st) : V p l e R s m args below meth c G nL Q h sz k n pc L (.ref a0 :: st) := by
  intro H locs ls a b d
  exact W.objInit C.1 C.2.1 C.2.2.2.1 (C.2.2.2.2.1 _ hl) (C.2.2.2.2.1 _ hi) (C.2.2.2.2.1 _ hcd) rfl (by rw [C.2.2.1]; exact d.1) rfl hd hf (by show 2 * 0 + _ + 12 ≤ _; omega) (kk H locs ls a b d)
theorem r_mmax (C : Cx p l R s m args meth c G own cc nL ret nm) {x y : Int32} {idx : Nat} (hl : Cond.methodLink own idx Lib.Math.max.name ∈ TB) (h2 : Cond.static Lib.Math.max.name ∈ TB) (h3 : Cond.initialized "java/lang/Math" ∈ TB) (h4 : Cond.code Lib.Math.max.name Lib.Math.max.code 2 (some .int) ∈ TB) (hf : 1 ≤ R.frames) (hlo : (st.map fun v => v.category).sum + 13 ≤ R.locals) (hk : k ≤ R.cells) (hn : n ≤ R.slots) (hd : decode cc pc = .ok (.invokestatic idx, 3)) (kk : V p l e R s m args below meth c G nL Q h sz k n (pc + 3) L (.int (if x < y then y else x) :: st)) : V p l e R s m args below meth c G nL Q h sz k n pc L (.int y :: .int x :: st) := by
  intro H locs ls a b d
  exact va_mmax C.1 C.2.1 (C.2.2.1.trans d.1.symm) C.2.2.2.1 (C.2.2.2.2.1 _ hl) (C.2.2.2.2.1 _ h2) (C.2.2.2.2.1 _ h3) (C.2.2.2.2.1 _ h4) hf hlo hk hn hd (kk H locs ls a b d)
theorem r_mmin (C : Cx p l R s m args meth c G own cc nL ret nm) {x y : Int32} {idx : Nat} (hl : Cond.methodLink own idx Lib.Math.min.name ∈ TB) (h2 : Cond.static Lib.Math.min.name ∈ TB) (h3 : Cond.initialized "java/lang/Math" ∈ TB) (h4 : Cond.code Lib.Math.min.name Lib.Math.min.code 2 (some .int) ∈ TB) (hf : 1 ≤ R.frames) (hlo : (st.map fun v => v.category).sum + 13 ≤ R.locals) (hk : k ≤ R.cells) (hn : n ≤ R.slots) (hd : decode cc pc = .ok (.invokestatic idx, 3)) (kk : V p l e R s m args below meth c G nL Q h sz k n (pc + 3) L (.int (if y < x then y else x) :: st)) : V p l e R s m args below meth c G nL Q h sz k n pc L (.int y :: .int x :: st) := by
  intro H locs ls a b d
  exact va_mmin C.1 C.2.1 (C.2.2.1.trans d.1.symm) C.2.2.2.1 (C.2.2.2.2.1 _ hl) (C.2.2.2.2.1 _ h2) (C.2.2.2.2.1 _ h3) (C.2.2.2.2.1 _ h4) hf hlo hk hn hd (kk H locs ls a b d)
/-- the words of a virtual call, of a static one, of a constructor's -/
def LkV (own : String) (index : Nat) (y : MethodName) (bytes : ByteArray) (maxL : Nat) (rt : Option FieldType) (q : Nat) : Prop := Cond.methodLink own index y ∈ TB ∧ Cond.instanceMethod y ∈ TB ∧ Cond.selects y.cls y y ∈ TB ∧ Cond.initialized y.cls ∈ TB ∧ Cond.code y bytes maxL rt ∈ TB ∧ (y.cls ≠ "java/lang/invoke/MethodHandle" ∧ y.cls ≠ "java/lang/invoke/VarHandle" ∧ (parseMethodDescriptor y.desc).map (fun d => d.parameters.length) = some q)
def LkS (own : String) (index : Nat) (y : MethodName) (bytes : ByteArray) (maxL : Nat) (rt : Option FieldType) (q : Nat) : Prop := Cond.methodLink own index y ∈ TB ∧ Cond.static y ∈ TB ∧ Cond.initialized y.cls ∈ TB ∧ Cond.code y bytes maxL rt ∈ TB ∧ (y.cls ≠ "java/lang/invoke/MethodHandle" ∧ y.cls ≠ "java/lang/invoke/VarHandle" ∧ (parseMethodDescriptor y.desc).map (fun d => d.parameters.length) = some q)
def LkI (own : String) (index : Nat) (y : MethodName) (bytes : ByteArray) (maxL : Nat) (q : Nat) : Prop := Cond.methodLink own index y ∈ TB ∧ Cond.instanceMethod y ∈ TB ∧ Cond.initialized y.cls ∈ TB ∧ Cond.code y bytes maxL none ∈ TB ∧ y.name = "<init>" ∧ (y.cls ≠ "java/lang/invoke/MethodHandle" ∧ y.cls ≠ "java/lang/invoke/VarHandle" ∧ (parseMethodDescriptor y.desc).map (fun d => d.parameters.length) = some q)
def LkN (own : String) (index : Nat) (host : String) (y : MethodName) (bytes : ByteArray) (maxL : Nat) (q : Nat) : Prop := Cond.methodLinkNest own index y host ∈ NB ∧ Cond.instanceMethod y ∈ TB ∧ Cond.initialized y.cls ∈ TB ∧ Cond.code y bytes maxL none ∈ TB ∧ y.name = "<init>" ∧ (y.cls ≠ "java/lang/invoke/MethodHandle" ∧ y.cls ≠ "java/lang/invoke/VarHandle" ∧ (parseMethodDescriptor y.desc).map (fun d => d.parameters.length) = some q)
theorem law_good : ∀ w ∈ TB, goodWord w = true := fun _ h => (List.mem_filter.mp h).2
theorem law_in {y : MethodName} {cc : ByteArray} {nL : Nat} {rt : Option FieldType} (hc : Cond.code y cc nL rt ∈ TB) : GoodIn TB (.code y cc nL rt :: TB) := by
  intro w hw
  have hm : w ∈ TB := by
    rcases List.mem_cons.mp hw with rfl | hw
    · exact hc
    · exact hw
  exact ⟨hm, good_of_word (law_good w hm)⟩
/-- the room that a call needs, here: frames, locals, cells, slots, and what lies below on the stack -/
def Rm (R : Room) (k n fr maxL lo mc ms : Nat) (rest : List Value) : Prop := fr + 1 ≤ R.frames ∧ 8 + (maxL + 11) + lo ≤ R.locals ∧ k + mc ≤ R.cells ∧ n + ms ≤ R.slots ∧ (rest.map fun v => v.category).sum ≤ 8
theorem pc_blind {G : ga_} {av : List Value} {h : HP} {sz : Nat} : FrameBlind (va_Pc av (fun U => hr_ G h sz U.heap ∧ ev_ G U)) := fun a U g mk q => ⟨q.1, q.2.1, ev_.same (s := U) (U := U.calling g mk a) rfl q.2.2⟩
theorem r_callV (C : Cx p l R s m args meth c G own cc nL ret nm) {y : MethodName} {bytes : ByteArray} {maxL fr lo mc ms index q : Nat} {rt : Option FieldType} {As rest : List Value} {Post : Option Value → HP → Nat → Prop} {b0 ci N : Nat} {T : u_T} {fs : List Value} (hM : Mg G l y bytes maxL rt fr lo mc ms (.ref b0 :: As) h sz Post) (lk : LkV own index y bytes maxL rt q) (hc : vwCl[ci]? = some (y.cls, T, N)) (he : h b0 = some (ob_ ci fs)) (hq : As.length = q) (hs : st = As.reverse ++ .ref b0 :: rest) (rm : Rm R k n fr maxL lo mc ms rest) (hd : decode cc pc = .ok (.invokevirtual index, 3)) (kk : ∀ v h1 s1, Post v h1 s1 → V p l e R s m args below meth c G nL Q h1 s1 (k + mc) (n + ms) (pc + 3) L (v.toList ++ rest)) : V p l e R s m args below meth c G nL Q h sz k n pc L st := by
  intro H locs ls a b d T0 hT X
  subst hs
  obtain ⟨l1, l2, l3, l4, l5, l6, l7, l8⟩ := lk
  obtain ⟨g1, g2, g3, g4, g5⟩ := rm
  have hts := C.2.2.2.2.1
  have ok : ∀ w ∈ (wsV own index y.cls y (.code y bytes maxL rt :: TB)), w ∈ TB := by
    intro w hw
    simp only [wsV, List.cons_append, List.nil_append, List.mem_cons] at hw
    rcases hw with rfl | rfl | rfl | rfl | rfl | hw
    · exact l1
    · exact l2
    · exact l3
    · exact l4
    · exact l5
    · exact hw
  have HR := va_runV (p := p) (l := l) (e := e) (s := s) (m := m) (meth := meth) (c := c) (R := R) (args := args) (below := below) (locs := locs) (cells := k) (slots := n) (As := As) (rest := rest) (g := F0 m pc ls (As.reverse ++ .ref b0 :: rest)) ⟨C.1, C.2.1, C.2.2.1, C.2.2.2.1, hts⟩ hM (cwV q hts (fun w hw => ⟨ok w hw, good_of_word (law_good w (ok w hw))⟩) rfl rfl rfl ⟨rfl, l6, l7, l8⟩ ⟨g1, g2⟩)
    ⟨pc_blind, by
      obtain ⟨r', h1', cell, k1, k2, k3, -⟩ := (a.2.2.2 _ _ he).2
      exact ⟨cell, k1, by rw [k3]; rfl, by rw [k2]; exact (C.2.2.2.2.2.1.1.1 ci _ hc).2.1⟩, fun U hU hW => ⟨rfl, by rw [hU]; exact a, ev_.moved hW C.2.2.2.2.2.1⟩⟩ rfl hq d.1 rfl (by show 2 * 0 + _ ≤ 8; omega) hd ⟨g3, g4⟩
  obtain ⟨v, st₀, t, T', L1, h0, X', hL, e1, e2, ⟨v1, h1, s1, hv, hp, hh⟩, stp⟩ := HR T0 hT X
  cases hv
  obtain ⟨t2, a1, b1⟩ := kk _ h1 s1 hp T'.heap (locs ++ L1) ls (by rw [e1]; exact hh) (fun q hq => by
    rcases List.mem_append.mp hq with z | z
    · exact b q z
    · exact hL q z) d T' rfl X'
  exact ⟨t2, stp t2 a1, b1⟩
theorem r_callS (C : Cx p l R s m args meth c G own cc nL ret nm) {y : MethodName} {bytes : ByteArray} {maxL fr lo mc ms index q : Nat} {rt : Option FieldType} {As rest : List Value} {Post : Option Value → HP → Nat → Prop} (hM : Mg G l y bytes maxL rt fr lo mc ms As h sz Post) (lk : LkS own index y bytes maxL rt q) (hq : As.length = q) (hs : st = As.reverse ++ rest) (rm : Rm R k n fr maxL lo mc ms rest) (hd : decode cc pc = .ok (.invokestatic index, 3)) (kk : ∀ v h1 s1, Post v h1 s1 → V p l e R s m args below meth c G nL Q h1 s1 (k + mc) (n + ms) (pc + 3) L (v.toList ++ rest)) : V p l e R s m args below meth c G nL Q h sz k n pc L st := by
  intro H locs ls a b d T0 hT X
  subst hs
  obtain ⟨l1, l2, l4, l5, l6, l7, l8⟩ := lk
  obtain ⟨g1, g2, g3, g4, g5⟩ := rm
  have hts := C.2.2.2.2.1
  have ok : ∀ w ∈ (va_wsS own index y (.code y bytes maxL rt :: TB)), w ∈ TB := by
    intro w hw
    simp only [va_wsS, List.cons_append, List.nil_append, List.mem_cons] at hw
    rcases hw with rfl | rfl | rfl | rfl | hw
    · exact l1
    · exact l2
    · exact l4
    · exact l5
    · exact hw
  have HR := va_runS (p := p) (l := l) (e := e) (s := s) (m := m) (meth := meth) (c := c) (R := R) (args := args) (below := below) (locs := locs) (cells := k) (slots := n) (As := As) (rest := rest) (g := F0 m pc ls (As.reverse ++ rest)) ⟨C.1, C.2.1, C.2.2.1, C.2.2.2.1, hts⟩ hM (va_cwS q hts (fun w hw => ⟨ok w hw, good_of_word (law_good w (ok w hw))⟩) rfl rfl rfl ⟨l6, l7, l8⟩ ⟨g1, g2⟩)
    ⟨pc_blind, fun U hU hW => ⟨rfl, by rw [hU]; exact a, ev_.moved hW C.2.2.2.2.2.1⟩⟩ rfl hq d.1 rfl (by show 2 * 0 + _ ≤ 8; omega) hd ⟨g3, g4⟩
  obtain ⟨v, st₀, t, T', L1, h0, X', hL, e1, e2, ⟨v1, h1, s1, hv, hp, hh⟩, stp⟩ := HR T0 hT X
  cases hv
  obtain ⟨t2, a1, b1⟩ := kk _ h1 s1 hp T'.heap (locs ++ L1) ls (by rw [e1]; exact hh) (fun q hq => by
    rcases List.mem_append.mp hq with z | z
    · exact b q z
    · exact hL q z) d T' rfl X'
  exact ⟨t2, stp t2 a1, b1⟩
theorem r_callI (C : Cx p l R s m args meth c G own cc nL ret nm) {y : MethodName} {bytes : ByteArray} {maxL fr lo mc ms index q b0 : Nat} {As rest : List Value} {Post : Option Value → HP → Nat → Prop} (hM : Mg G l y bytes maxL none fr lo mc ms (.ref b0 :: As) h sz Post) (lk : LkI own index y bytes maxL q) (hq : As.length = q) (hs : st = As.reverse ++ .ref b0 :: rest) (rm : Rm R k n fr maxL lo mc ms rest) (hd : decode cc pc = .ok (.invokespecial index, 3)) (kk : ∀ v h1 s1, Post v h1 s1 → V p l e R s m args below meth c G nL Q h1 s1 (k + mc) (n + ms) (pc + 3) L (v.toList ++ rest)) : V p l e R s m args below meth c G nL Q h sz k n pc L st := by
  intro H locs ls a b d T0 hT X
  subst hs
  obtain ⟨l1, l2, l4, l5, ln, l6, l7, l8⟩ := lk
  obtain ⟨g1, g2, g3, g4, g5⟩ := rm
  have hts := C.2.2.2.2.1
  have HR := va_runI (p := p) (l := l) (e := e) (s := s) (m := m) (meth := meth) (c := c) (R := R) (args := args) (below := below) (locs := locs) (cells := k) (slots := n) (As := As) (rest := rest) (g := F0 m pc ls (As.reverse ++ .ref b0 :: rest)) ⟨C.1, C.2.1, C.2.2.1, C.2.2.2.1, hts⟩ hM (cwI q hts (law_in l5) rfl rfl rfl (hts _ l4) (hts _ l1) (hts _ l2) ln ⟨l6, l7, l8⟩ ⟨g1, g2⟩)
    ⟨pc_blind, fun U hU hW => ⟨rfl, by rw [hU]; exact a, ev_.moved hW C.2.2.2.2.2.1⟩⟩ rfl hq d.1 rfl (by show 2 * 0 + _ ≤ 8; omega) hd ⟨g3, g4⟩
  obtain ⟨v, st₀, t, T', L1, h0, X', hL, e1, e2, ⟨v1, h1, s1, hv, hp, hh⟩, stp⟩ := HR T0 hT X
  cases hv
  obtain ⟨t2, a1, b1⟩ := kk _ h1 s1 hp T'.heap (locs ++ L1) ls (by rw [e1]; exact hh) (fun q hq => by
    rcases List.mem_append.mp hq with z | z
    · exact b q z
    · exact hL q z) d T' rfl X'
  exact ⟨t2, stp t2 a1, b1⟩
theorem r_callN (C : Cx p l R s m args meth c G own cc nL ret nm) {y : MethodName} {host : String} {bytes : ByteArray} {maxL fr lo mc ms index q b0 : Nat} {As rest : List Value} {Post : Option Value → HP → Nat → Prop} (hM : Mg G l y bytes maxL none fr lo mc ms (.ref b0 :: As) h sz Post) (lk : LkN own index host y bytes maxL q) (hq : As.length = q) (hs : st = As.reverse ++ .ref b0 :: rest) (rm : Rm R k n fr maxL lo mc ms rest) (hd : decode cc pc = .ok (.invokespecial index, 3)) (kk : ∀ v h1 s1, Post v h1 s1 → V p l e R s m args below meth c G nL Q h1 s1 (k + mc) (n + ms) (pc + 3) L (v.toList ++ rest)) : V p l e R s m args below meth c G nL Q h sz k n pc L st := by
  intro H locs ls a b d T0 hT X
  subst hs
  obtain ⟨l1, l2, l4, l5, ln, l6, l7, l8⟩ := lk
  obtain ⟨g1, g2, g3, g4, g5⟩ := rm
  have hts := C.2.2.2.2.1
  have HR := va_runIN (p := p) (l := l) (e := e) (s := s) (m := m) (meth := meth) (c := c) (R := R) (args := args) (below := below) (locs := locs) (cells := k) (slots := n) (As := As) (rest := rest) (g := F0 m pc ls (As.reverse ++ .ref b0 :: rest)) ⟨C.1, C.2.1, C.2.2.1, C.2.2.2.1, hts⟩ hM ⟨va_cnB q hts (law_in l5) rfl rfl rfl (C.2.2.2.2.2.1.2.1 _ l1) (hts _ l4) ⟨l6, l7, l8⟩ ⟨g1, g2⟩, ln, hts _ l2⟩
    ⟨pc_blind, fun U hU hW => ⟨rfl, by rw [hU]; exact a, ev_.moved hW C.2.2.2.2.2.1⟩⟩ rfl hq d.1 rfl (by show 2 * 0 + _ ≤ 8; omega) hd ⟨g3, g4⟩
  obtain ⟨v, st₀, t, T', L1, h0, X', hL, e1, e2, ⟨v1, h1, s1, hv, hp, hh⟩, stp⟩ := HR T0 hT X
  cases hv
  obtain ⟨t2, a1, b1⟩ := kk _ h1 s1 hp T'.heap (locs ++ L1) ls (by rw [e1]; exact hh) (fun q hq => by
    rcases List.mem_append.mp hq with z | z
    · exact b q z
    · exact hL q z) d T' rfl X'
  exact ⟨t2, stp t2 a1, b1⟩
theorem r_cVv (C : Cx p l R s m args meth c G own cc nL ret nm) {y : MethodName} {bytes : ByteArray} {maxL fr lo mc ms index q : Nat} {rt : Option FieldType} {As rest : List Value} {h1 : HP} {s1 : Nat} {b0 ci N : Nat} {T : u_T} {fs : List Value} (hM : Mf G l y bytes maxL rt fr lo mc ms (.ref b0 :: As) h sz none h1 s1) (lk : LkV own index y bytes maxL rt q) (hc : vwCl[ci]? = some (y.cls, T, N)) (he : h b0 = some (ob_ ci fs)) (hq : As.length = q) (hs : st = As.reverse ++ .ref b0 :: rest) (rm : Rm R k n fr maxL lo mc ms rest) (hd : decode cc pc = .ok (.invokevirtual index, 3)) (kk : V p l e R s m args below meth c G nL Q h1 s1 (k + mc) (n + ms) (pc + 3) L (rest)) : V p l e R s m args below meth c G nL Q h sz k n pc L st := r_callV C hM lk hc he hq hs rm hd (fun v h2 s2 hp => by obtain ⟨rfl, rfl, rfl⟩ := hp; exact kk)
theorem r_cSv (C : Cx p l R s m args meth c G own cc nL ret nm) {y : MethodName} {bytes : ByteArray} {maxL fr lo mc ms index q : Nat} {rt : Option FieldType} {As rest : List Value} {h1 : HP} {s1 : Nat} (hM : Mf G l y bytes maxL rt fr lo mc ms As h sz none h1 s1) (lk : LkS own index y bytes maxL rt q) (hq : As.length = q) (hs : st = As.reverse ++ rest) (rm : Rm R k n fr maxL lo mc ms rest) (hd : decode cc pc = .ok (.invokestatic index, 3)) (kk : V p l e R s m args below meth c G nL Q h1 s1 (k + mc) (n + ms) (pc + 3) L (rest)) : V p l e R s m args below meth c G nL Q h sz k n pc L st := r_callS C hM lk hq hs rm hd (fun v h2 s2 hp => by obtain ⟨rfl, rfl, rfl⟩ := hp; exact kk)
theorem r_cVi (C : Cx p l R s m args meth c G own cc nL ret nm) {y : MethodName} {bytes : ByteArray} {maxL fr lo mc ms index q : Nat} {rt : Option FieldType} {As rest : List Value} {h1 : HP} {s1 : Nat} {r : Int32} {b0 ci N : Nat} {T : u_T} {fs : List Value} (hM : Mf G l y bytes maxL rt fr lo mc ms (.ref b0 :: As) h sz (some (.int r)) h1 s1) (lk : LkV own index y bytes maxL rt q) (hc : vwCl[ci]? = some (y.cls, T, N)) (he : h b0 = some (ob_ ci fs)) (hq : As.length = q) (hs : st = As.reverse ++ .ref b0 :: rest) (rm : Rm R k n fr maxL lo mc ms rest) (hd : decode cc pc = .ok (.invokevirtual index, 3)) (kk : V p l e R s m args below meth c G nL Q h1 s1 (k + mc) (n + ms) (pc + 3) L (.int r :: rest)) : V p l e R s m args below meth c G nL Q h sz k n pc L st := r_callV C hM lk hc he hq hs rm hd (fun v h2 s2 hp => by obtain ⟨rfl, rfl, rfl⟩ := hp; exact kk)
theorem r_cSi (C : Cx p l R s m args meth c G own cc nL ret nm) {y : MethodName} {bytes : ByteArray} {maxL fr lo mc ms index q : Nat} {rt : Option FieldType} {As rest : List Value} {h1 : HP} {s1 : Nat} {r : Int32} (hM : Mf G l y bytes maxL rt fr lo mc ms As h sz (some (.int r)) h1 s1) (lk : LkS own index y bytes maxL rt q) (hq : As.length = q) (hs : st = As.reverse ++ rest) (rm : Rm R k n fr maxL lo mc ms rest) (hd : decode cc pc = .ok (.invokestatic index, 3)) (kk : V p l e R s m args below meth c G nL Q h1 s1 (k + mc) (n + ms) (pc + 3) L (.int r :: rest)) : V p l e R s m args below meth c G nL Q h sz k n pc L st := r_callS C hM lk hq hs rm hd (fun v h2 s2 hp => by obtain ⟨rfl, rfl, rfl⟩ := hp; exact kk)
theorem r_cVl (C : Cx p l R s m args meth c G own cc nL ret nm) {y : MethodName} {bytes : ByteArray} {maxL fr lo mc ms index q : Nat} {rt : Option FieldType} {As rest : List Value} {h1 : HP} {s1 : Nat} {r : Int64} {b0 ci N : Nat} {T : u_T} {fs : List Value} (hM : Mf G l y bytes maxL rt fr lo mc ms (.ref b0 :: As) h sz (some (.long r)) h1 s1) (lk : LkV own index y bytes maxL rt q) (hc : vwCl[ci]? = some (y.cls, T, N)) (he : h b0 = some (ob_ ci fs)) (hq : As.length = q) (hs : st = As.reverse ++ .ref b0 :: rest) (rm : Rm R k n fr maxL lo mc ms rest) (hd : decode cc pc = .ok (.invokevirtual index, 3)) (kk : V p l e R s m args below meth c G nL Q h1 s1 (k + mc) (n + ms) (pc + 3) L (.long r :: rest)) : V p l e R s m args below meth c G nL Q h sz k n pc L st := r_callV C hM lk hc he hq hs rm hd (fun v h2 s2 hp => by obtain ⟨rfl, rfl, rfl⟩ := hp; exact kk)
theorem r_cSl (C : Cx p l R s m args meth c G own cc nL ret nm) {y : MethodName} {bytes : ByteArray} {maxL fr lo mc ms index q : Nat} {rt : Option FieldType} {As rest : List Value} {h1 : HP} {s1 : Nat} {r : Int64} (hM : Mf G l y bytes maxL rt fr lo mc ms As h sz (some (.long r)) h1 s1) (lk : LkS own index y bytes maxL rt q) (hq : As.length = q) (hs : st = As.reverse ++ rest) (rm : Rm R k n fr maxL lo mc ms rest) (hd : decode cc pc = .ok (.invokestatic index, 3)) (kk : V p l e R s m args below meth c G nL Q h1 s1 (k + mc) (n + ms) (pc + 3) L (.long r :: rest)) : V p l e R s m args below meth c G nL Q h sz k n pc L st := r_callS C hM lk hq hs rm hd (fun v h2 s2 hp => by obtain ⟨rfl, rfl, rfl⟩ := hp; exact kk)
theorem r_cVd (C : Cx p l R s m args meth c G own cc nL ret nm) {y : MethodName} {bytes : ByteArray} {maxL fr lo mc ms index q : Nat} {rt : Option FieldType} {As rest : List Value} {h1 : HP} {s1 : Nat} {r : UInt64} {b0 ci N : Nat} {T : u_T} {fs : List Value} (hM : Mf G l y bytes maxL rt fr lo mc ms (.ref b0 :: As) h sz (some (.double r)) h1 s1) (lk : LkV own index y bytes maxL rt q) (hc : vwCl[ci]? = some (y.cls, T, N)) (he : h b0 = some (ob_ ci fs)) (hq : As.length = q) (hs : st = As.reverse ++ .ref b0 :: rest) (rm : Rm R k n fr maxL lo mc ms rest) (hd : decode cc pc = .ok (.invokevirtual index, 3)) (kk : V p l e R s m args below meth c G nL Q h1 s1 (k + mc) (n + ms) (pc + 3) L (.double r :: rest)) : V p l e R s m args below meth c G nL Q h sz k n pc L st := r_callV C hM lk hc he hq hs rm hd (fun v h2 s2 hp => by obtain ⟨rfl, rfl, rfl⟩ := hp; exact kk)
theorem r_cSd (C : Cx p l R s m args meth c G own cc nL ret nm) {y : MethodName} {bytes : ByteArray} {maxL fr lo mc ms index q : Nat} {rt : Option FieldType} {As rest : List Value} {h1 : HP} {s1 : Nat} {r : UInt64} (hM : Mf G l y bytes maxL rt fr lo mc ms As h sz (some (.double r)) h1 s1) (lk : LkS own index y bytes maxL rt q) (hq : As.length = q) (hs : st = As.reverse ++ rest) (rm : Rm R k n fr maxL lo mc ms rest) (hd : decode cc pc = .ok (.invokestatic index, 3)) (kk : V p l e R s m args below meth c G nL Q h1 s1 (k + mc) (n + ms) (pc + 3) L (.double r :: rest)) : V p l e R s m args below meth c G nL Q h sz k n pc L st := r_callS C hM lk hq hs rm hd (fun v h2 s2 hp => by obtain ⟨rfl, rfl, rfl⟩ := hp; exact kk)
theorem r_cIv (C : Cx p l R s m args meth c G own cc nL ret nm) {y : MethodName} {bytes : ByteArray} {maxL fr lo mc ms index q b0 : Nat} {As rest : List Value} {h1 : HP} {s1 : Nat}  (hM : Mf G l y bytes maxL none fr lo mc ms (.ref b0 :: As) h sz none h1 s1) (lk : LkI own index y bytes maxL q) (hq : As.length = q) (hs : st = As.reverse ++ .ref b0 :: rest) (rm : Rm R k n fr maxL lo mc ms rest) (hd : decode cc pc = .ok (.invokespecial index, 3)) (kk : V p l e R s m args below meth c G nL Q h1 s1 (k + mc) (n + ms) (pc + 3) L rest) : V p l e R s m args below meth c G nL Q h sz k n pc L st := r_callI C hM lk hq hs rm hd (fun v h2 s2 hp => by obtain ⟨rfl, rfl, rfl⟩ := hp; exact kk)
theorem r_cNv (C : Cx p l R s m args meth c G own cc nL ret nm) {y : MethodName} {bytes : ByteArray} {maxL fr lo mc ms index q b0 : Nat} {As rest : List Value} {h1 : HP} {s1 : Nat}  {host : String} (hM : Mf G l y bytes maxL none fr lo mc ms (.ref b0 :: As) h sz none h1 s1) (lk : LkN own index host y bytes maxL q) (hq : As.length = q) (hs : st = As.reverse ++ .ref b0 :: rest) (rm : Rm R k n fr maxL lo mc ms rest) (hd : decode cc pc = .ok (.invokespecial index, 3)) (kk : V p l e R s m args below meth c G nL Q h1 s1 (k + mc) (n + ms) (pc + 3) L rest) : V p l e R s m args below meth c G nL Q h sz k n pc L st := r_callN C hM lk hq hs rm hd (fun v h2 s2 hp => by obtain ⟨rfl, rfl, rfl⟩ := hp; exact kk)
theorem r_acopy (C : Cx p l R s m args meth c G own cc nL ret nm) {a0 a1 n0 n1 : Nat} {f g : Nat → Int32} {N : Int32} {idx : Nat} (hl : Cond.methodLink own idx arraycopyName ∈ TB) (h2 : Cond.native arraycopyName ∈ TB) (h3 : Cond.static arraycopyName ∈ TB) (h4 : Cond.initialized "java/lang/System" ∈ TB) (he0 : h a0 = some (aI_ G n0 f)) (he : h a1 = some (aI_ G n1 g)) (g3 : ¬ N < 0) (g4 : N.toNatClampNeg ≤ n0) (g5 : N.toNatClampNeg ≤ n1) (hf : 1 ≤ R.frames) (hlo : (st.map fun v => v.category).sum + (nativeFrameWords "java/lang/System" "arraycopy" 5 + 11) ≤ R.locals) (hd : decode cc pc = .ok (.invokestatic idx, 3)) (kk : V p l e R s m args below meth c G nL Q (up_ h a1 (aI_ G n1 (va_cpy f g 0 0 N.toNatClampNeg))) sz k n (pc + 3) L st) : V p l e R s m args below meth c G nL Q h sz k n pc L (.int N :: .int 0 :: .ref a1 :: .int 0 :: .ref a0 :: st) := by
  intro H locs ls a b d
  have nn : N.toInt = (N.toNatClampNeg : Int) := by
    have hz0 : (0 : Int) ≤ N.toInt := by
      have := Int32.not_lt.mp g3
      simpa using Int32.le_iff_toInt_le.mp this
    show N.toInt = ((N.toInt.toNat : Nat) : Int)
    omega
  intro T hT X
  have hc0 : H[a0]? = some (vp_cell (G.2.1 0) (n0, .inl f)) := (a.2.2.2 _ _ he0).2
  have hc1 : H[a1]? = some (vp_cell (G.2.1 0) (n1, .inl g)) := (a.2.2.2 _ _ he).2
  obtain ⟨-, k0, hk0, cm0, hkk0⟩ := (C.2.2.2.2.2.1.1.2 0 _ rfl).1 n0 (fun j => .int (f j))
  obtain ⟨-, k1, hk1, cm1, hkk1⟩ := (C.2.2.2.2.2.1.1.2 0 _ rfl).1 n1 (fun j => .int (g j))
  obtain ⟨vm', X', step⟩ := X.arraycopy C.1 C.2.2.2.1 (C.2.2.2.2.1 _ hl) (C.2.2.2.2.1 _ h2) (C.2.2.2.2.1 _ h3) (C.2.2.2.2.1 _ h4) (src := a0) (dst := a1) (cs := vp_cell (G.2.1 0) (n0, .inl f)) (cd := vp_cell (G.2.1 0) (n1, .inl g)) (srcPos := 0) (destPos := 0) (n := N) (by rw [hT]; exact hc0) (by rw [hT]; exact hc1)
    (fun _ h => by cases h) (fun _ h => by cases h) (fun h => by cases h) (fun h => by cases h) hk0 hk1 hkk0 hkk1 (by simp [refKind]) (by decide) (by decide) g3
    (by rw [nn]; show ¬ ((0 : Int32).toInt + _ > ((arrV _ n0 (fun j => .int (f j))).slots.size : Int)); rw [arrV_size, show (0 : Int32).toInt = 0 from rfl]; omega)
    (by rw [nn]; show ¬ ((0 : Int32).toInt + _ > ((arrV _ n1 (fun j => .int (g j))).slots.size : Int)); rw [arrV_size, show (0 : Int32).toInt = 0 from rfl]; omega)
    (fun vm₁ _ i hi => by
      have e : (vp_cell (G.2.1 0) (n0, .inl f)).slots.getD ((0 : Int32).toNatClampNeg + i) .null = .int (f ((0 : Int32).toNatClampNeg + i)) := by
        show (arrV _ n0 (fun j => .int (f j))).slots.getD _ _ = _
        rw [Array.getD_eq_getD_getElem?, arrV_read _ _ (by show 0 + i < n0; omega)]
        rfl
      refine ⟨?_, ?_⟩
      · rw [e]
        rfl
      · rw [e]
        exact trivial)
    (g := F0 m pc ls (.int N :: .int 0 :: .ref a1 :: .int 0 :: .ref a0 :: st)) rfl (by rw [C.2.2.1]; exact d.1) (rest := st) rfl (by rw [C.2.1]; exact hd) hf (by show 2 * 0 + _ + _ ≤ _; omega)
  have e1 : copied (vp_cell (G.2.1 0) (n0, .inl f)) (vp_cell (G.2.1 0) (n1, .inl g)) 0 0 N = vp_cell (G.2.1 0) (n1, .inl (va_cpy f g 0 0 N.toNatClampNeg)) := va_copied (fun z => .int z) _ _ f g (by show 0 + _ ≤ _; omega)
  rw [e1] at X' step
  have hla : a1 < H.size := (Array.getElem?_eq_some_iff.mp hc1).1
  have oq : ∀ q : Nat, q ≠ a1 → (H.setIfInBounds a1 (vp_cell (G.2.1 0) (n1, .inl (va_cpy f g 0 0 N.toNatClampNeg))))[q]? = H[q]? := fun q hq => by simp [Array.getElem?_setIfInBounds, Ne.symm hq]
  obtain ⟨t, b1, b2⟩ := kk (H.setIfInBounds a1 (vp_cell (G.2.1 0) (n1, .inl (va_cpy f g 0 0 N.toNatClampNeg)))) _ ls (a.put (a.2.2.2 _ _ he).1 (show (H.setIfInBounds a1 _)[a1]? = some _ by simp [Array.getElem?_setIfInBounds, hla]) (by simp) oq) (fun q hq => by
    rcases List.mem_append.mp hq with z | z
    · exact b q z
    · obtain ⟨i, -, hi⟩ := List.mem_map.mp z
      rw [← hi]
      exact (a.2.2.2 _ _ he).1) d _ (by rw [← hT]; rfl) X'
  exact ⟨t, step t b1, b2⟩
end LY
end
section
/-! LINKS: the words that the rows name, by their places in TB. -/
theorem mw_ {w : Cond} (i : Nat) (h : lw_tbl[i]? = some w) (g : goodWord w = true) : w ∈ TB := List.mem_filter.mpr ⟨List.mem_of_getElem? h, g⟩
set_option maxRecDepth 20000 in
theorem in_X0 : ∀ w ∈ u_ws RX0 TX0 13, w ∈ TB := fun w h => List.mem_filter.mpr ⟨(show ∀ w ∈ u_ws RX0 TX0 13, w ∈ lw_tbl by decide +kernel) w h, (show ∀ w ∈ u_ws RX0 TX0 13, goodWord w = true by decide +kernel) w h⟩
set_option maxRecDepth 20000 in
theorem in_X1 : ∀ w ∈ u_ws RX1 TX1 3, w ∈ TB := fun w h => List.mem_filter.mpr ⟨(show ∀ w ∈ u_ws RX1 TX1 3, w ∈ lw_tbl by decide +kernel) w h, (show ∀ w ∈ u_ws RX1 TX1 3, goodWord w = true by decide +kernel) w h⟩
set_option maxRecDepth 20000 in
theorem in_X2 : ∀ w ∈ u_ws RX2 TX2 2, w ∈ TB := fun w h => List.mem_filter.mpr ⟨(show ∀ w ∈ u_ws RX2 TX2 2, w ∈ lw_tbl by decide +kernel) w h, (show ∀ w ∈ u_ws RX2 TX2 2, goodWord w = true by decide +kernel) w h⟩
set_option maxRecDepth 20000 in
theorem in_X3 : ∀ w ∈ u_ws RX3 TX3 2, w ∈ TB := fun w h => List.mem_filter.mpr ⟨(show ∀ w ∈ u_ws RX3 TX3 2, w ∈ lw_tbl by decide +kernel) w h, (show ∀ w ∈ u_ws RX3 TX3 2, goodWord w = true by decide +kernel) w h⟩
set_option maxRecDepth 20000 in
theorem in_X4 : ∀ w ∈ u_ws RX4 TX4 3, w ∈ TB := fun w h => List.mem_filter.mpr ⟨(show ∀ w ∈ u_ws RX4 TX4 3, w ∈ lw_tbl by decide +kernel) w h, (show ∀ w ∈ u_ws RX4 TX4 3, goodWord w = true by decide +kernel) w h⟩
set_option maxRecDepth 20000 in
theorem in_X5 : ∀ w ∈ u_ws RX5 TX5 5, w ∈ TB := fun w h => List.mem_filter.mpr ⟨(show ∀ w ∈ u_ws RX5 TX5 5, w ∈ lw_tbl by decide +kernel) w h, (show ∀ w ∈ u_ws RX5 TX5 5, goodWord w = true by decide +kernel) w h⟩
theorem lk_X5_9 : LkN RX5 9 "RustTiles" yX0_init cX0_init 1 0 := ⟨by decide +kernel, mw_ 56 (by decide +kernel) rfl, mw_ 30 (by decide +kernel) rfl, mw_ 57 (by decide +kernel) rfl, rfl, ⟨by decide +kernel, by decide +kernel, by decide +kernel⟩⟩
theorem fl_X5_10 : Cond.fieldLink RX5 10 "RustTiles" "game" "LRustTiles$Game;" ∈ TB := mw_ 224 (by decide +kernel) rfl
theorem lk_X5_18 : LkN RX5 18 "RustTiles" yX4_init cX4_init 1 0 := ⟨by decide +kernel, mw_ 126 (by decide +kernel) rfl, mw_ 33 (by decide +kernel) rfl, mw_ 127 (by decide +kernel) rfl, rfl, ⟨by decide +kernel, by decide +kernel, by decide +kernel⟩⟩
theorem fl_X5_19 : Cond.fieldLink RX5 19 "RustTiles" "trains" "LRustTiles$Trains;" ∈ TB := mw_ 225 (by decide +kernel) rfl
theorem lk_X5_25 : LkN RX5 25 "RustTiles" yX3_init cX3_init 1 0 := ⟨by decide +kernel, mw_ 144 (by decide +kernel) rfl, mw_ 34 (by decide +kernel) rfl, mw_ 145 (by decide +kernel) rfl, rfl, ⟨by decide +kernel, by decide +kernel, by decide +kernel⟩⟩
theorem fl_X5_26 : Cond.fieldLink RX5 26 "RustTiles" "text" "LRustTiles$Text;" ∈ TB := mw_ 226 (by decide +kernel) rfl
theorem lk_X5_32 : LkN RX5 32 "RustTiles" yX1_init cX1_init 1 0 := ⟨by decide +kernel, mw_ 157 (by decide +kernel) rfl, mw_ 35 (by decide +kernel) rfl, mw_ 158 (by decide +kernel) rfl, rfl, ⟨by decide +kernel, by decide +kernel, by decide +kernel⟩⟩
theorem fl_X5_33 : Cond.fieldLink RX5 33 "RustTiles" "past" "LRustTiles$Past;" ∈ TB := mw_ 227 (by decide +kernel) rfl
theorem fl_X5_37 : Cond.fieldLink RX5 37 "RustTiles" "slots" "[LRustTiles$Game;" ∈ TB := mw_ 228 (by decide +kernel) rfl
theorem lk_X5_41 : LkV RX5 41 yX0_start cX0_start 3 none 2 := ⟨mw_ 173 (by decide +kernel) rfl, mw_ 174 (by decide +kernel) rfl, mw_ 175 (by decide +kernel) rfl, mw_ 30 (by decide +kernel) rfl, mw_ 176 (by decide +kernel) rfl, ⟨by decide +kernel, by decide +kernel, by decide +kernel⟩⟩
theorem lk_X5_52 : LkV RX5 52 yX1_remember cX1_remember 3 none 1 := ⟨mw_ 405 (by decide +kernel) rfl, mw_ 406 (by decide +kernel) rfl, mw_ 407 (by decide +kernel) rfl, mw_ 35 (by decide +kernel) rfl, mw_ 408 (by decide +kernel) rfl, ⟨by decide +kernel, by decide +kernel, by decide +kernel⟩⟩
theorem lk_X5_56 : LkV RX5 56 yX0_stockSize cX0_stockSize 1 (some .int) 0 := ⟨mw_ 411 (by decide +kernel) rfl, mw_ 358 (by decide +kernel) rfl, mw_ 359 (by decide +kernel) rfl, mw_ 30 (by decide +kernel) rfl, mw_ 360 (by decide +kernel) rfl, ⟨by decide +kernel, by decide +kernel, by decide +kernel⟩⟩
theorem lk_X5_60 : LkS RX5 60 yX5_requireRow cX5_requireRow 1 none 1 := ⟨mw_ 416 (by decide +kernel) rfl, mw_ 417 (by decide +kernel) rfl, mw_ 29 (by decide +kernel) rfl, mw_ 418 (by decide +kernel) rfl, ⟨by decide +kernel, by decide +kernel, by decide +kernel⟩⟩
theorem lk_X5_64 : LkS RX5 64 yX5_requireEnd cX5_requireEnd 1 none 1 := ⟨mw_ 435 (by decide +kernel) rfl, mw_ 436 (by decide +kernel) rfl, mw_ 29 (by decide +kernel) rfl, mw_ 437 (by decide +kernel) rfl, ⟨by decide +kernel, by decide +kernel, by decide +kernel⟩⟩
theorem lk_X5_67 : LkV RX5 67 yX0_turnToLay cX0_turnToLay 6 (some .int) 3 := ⟨mw_ 439 (by decide +kernel) rfl, mw_ 440 (by decide +kernel) rfl, mw_ 441 (by decide +kernel) rfl, mw_ 30 (by decide +kernel) rfl, mw_ 442 (by decide +kernel) rfl, ⟨by decide +kernel, by decide +kernel, by decide +kernel⟩⟩
theorem lk_X5_71 : LkV RX5 71 yX0_turnToDraw cX0_turnToDraw 2 (some .int) 0 := ⟨mw_ 495 (by decide +kernel) rfl, mw_ 496 (by decide +kernel) rfl, mw_ 497 (by decide +kernel) rfl, mw_ 30 (by decide +kernel) rfl, mw_ 498 (by decide +kernel) rfl, ⟨by decide +kernel, by decide +kernel, by decide +kernel⟩⟩
theorem lk_X5_74 : LkV RX5 74 yX0_turnToPass cX0_turnToPass 1 (some .int) 0 := ⟨mw_ 503 (by decide +kernel) rfl, mw_ 504 (by decide +kernel) rfl, mw_ 505 (by decide +kernel) rfl, mw_ 30 (by decide +kernel) rfl, mw_ 506 (by decide +kernel) rfl, ⟨by decide +kernel, by decide +kernel, by decide +kernel⟩⟩
theorem lk_X5_77 : LkV RX5 77 yX0_isOver cX0_isOver 1 (some .boolean) 0 := ⟨mw_ 479 (by decide +kernel) rfl, mw_ 370 (by decide +kernel) rfl, mw_ 371 (by decide +kernel) rfl, mw_ 30 (by decide +kernel) rfl, mw_ 372 (by decide +kernel) rfl, ⟨by decide +kernel, by decide +kernel, by decide +kernel⟩⟩
theorem fn_X5_81 : Cond.fieldLinkNest RX5 81 "RustTiles$Game" "onMove" "I" "RustTiles" ∈ NB := by decide +kernel
theorem lk_X5_85 : LkV RX5 85 yX0_holdsPlace cX0_holdsPlace 3 (some .boolean) 2 := ⟨mw_ 480 (by decide +kernel) rfl, mw_ 448 (by decide +kernel) rfl, mw_ 449 (by decide +kernel) rfl, mw_ 30 (by decide +kernel) rfl, mw_ 450 (by decide +kernel) rfl, ⟨by decide +kernel, by decide +kernel, by decide +kernel⟩⟩
theorem lk_X5_94 : LkV RX5 94 yX0_oilTile cX0_oilTile 4 (some .int) 1 := ⟨mw_ 482 (by decide +kernel) rfl, mw_ 483 (by decide +kernel) rfl, mw_ 484 (by decide +kernel) rfl, mw_ 30 (by decide +kernel) rfl, mw_ 485 (by decide +kernel) rfl, ⟨by decide +kernel, by decide +kernel, by decide +kernel⟩⟩
theorem fn_X5_100 : Cond.fieldLinkNest RX5 100 "RustTiles$Game" "interval" "I" "RustTiles" ∈ NB := by decide +kernel
theorem fn_X5_135 : Cond.fieldLinkNest RX5 135 "RustTiles$Past" "size" "I" "RustTiles" ∈ NB := by decide +kernel
theorem lk_X5_140 : LkV RX5 140 yX1_restore cX1_restore 3 none 1 := ⟨mw_ 312 (by decide +kernel) rfl, mw_ 313 (by decide +kernel) rfl, mw_ 314 (by decide +kernel) rfl, mw_ 35 (by decide +kernel) rfl, mw_ 315 (by decide +kernel) rfl, ⟨by decide +kernel, by decide +kernel, by decide +kernel⟩⟩
theorem lk_X5_145 : LkS RX5 145 yX5_requireWhat cX5_requireWhat 2 none 2 := ⟨mw_ 334 (by decide +kernel) rfl, mw_ 335 (by decide +kernel) rfl, mw_ 29 (by decide +kernel) rfl, mw_ 336 (by decide +kernel) rfl, ⟨by decide +kernel, by decide +kernel, by decide +kernel⟩⟩
theorem fn_X5_148 : Cond.fieldLinkNest RX5 148 "RustTiles$Game" "tiles" "LRustTiles$Table;" "RustTiles" ∈ NB := by decide +kernel
theorem lk_X5_152 : LkV RX5 152 yX2_at cX2_at 4 (some .int) 2 := ⟨mw_ 535 (by decide +kernel) rfl, mw_ 205 (by decide +kernel) rfl, mw_ 206 (by decide +kernel) rfl, mw_ 31 (by decide +kernel) rfl, mw_ 207 (by decide +kernel) rfl, ⟨by decide +kernel, by decide +kernel, by decide +kernel⟩⟩
theorem lk_X5_158 : LkV RX5 158 yX5_requirePlayer cX5_requirePlayer 2 none 1 := ⟨mw_ 540 (by decide +kernel) rfl, mw_ 542 (by decide +kernel) rfl, mw_ 20 (by decide +kernel) rfl, mw_ 29 (by decide +kernel) rfl, mw_ 543 (by decide +kernel) rfl, ⟨by decide +kernel, by decide +kernel, by decide +kernel⟩⟩
theorem lk_X5_161 : LkS RX5 161 yX5_requirePlace cX5_requirePlace 1 none 1 := ⟨mw_ 549 (by decide +kernel) rfl, mw_ 550 (by decide +kernel) rfl, mw_ 29 (by decide +kernel) rfl, mw_ 551 (by decide +kernel) rfl, ⟨by decide +kernel, by decide +kernel, by decide +kernel⟩⟩
theorem fn_X5_164 : Cond.fieldLinkNest RX5 164 "RustTiles$Game" "hands" "LRustTiles$Table;" "RustTiles" ∈ NB := by decide +kernel
theorem lk_X5_167 : LkV RX5 167 yX0_stockTile cX0_stockTile 2 (some .int) 1 := ⟨mw_ 580 (by decide +kernel) rfl, mw_ 581 (by decide +kernel) rfl, mw_ 582 (by decide +kernel) rfl, mw_ 30 (by decide +kernel) rfl, mw_ 583 (by decide +kernel) rfl, ⟨by decide +kernel, by decide +kernel, by decide +kernel⟩⟩
theorem lk_X5_170 : LkV RX5 170 yX0_playerProperty cX0_playerProperty 3 (some .int) 2 := ⟨mw_ 564 (by decide +kernel) rfl, mw_ 565 (by decide +kernel) rfl, mw_ 566 (by decide +kernel) rfl, mw_ 30 (by decide +kernel) rfl, mw_ 567 (by decide +kernel) rfl, ⟨by decide +kernel, by decide +kernel, by decide +kernel⟩⟩
theorem fn_X5_173 : Cond.fieldLinkNest RX5 173 "RustTiles$Game" "rows" "LRustTiles$Table;" "RustTiles" ∈ NB := by decide +kernel
theorem lk_X5_176 : LkV RX5 176 yX0_numberOf cX0_numberOf 3 (some .int) 2 := ⟨mw_ 353 (by decide +kernel) rfl, mw_ 354 (by decide +kernel) rfl, mw_ 355 (by decide +kernel) rfl, mw_ 30 (by decide +kernel) rfl, mw_ 356 (by decide +kernel) rfl, ⟨by decide +kernel, by decide +kernel, by decide +kernel⟩⟩
theorem lk_X5_179 : LkV RX5 179 yX0_reasonAgainst cX0_reasonAgainst 4 (some .int) 3 := ⟨mw_ 602 (by decide +kernel) rfl, mw_ 444 (by decide +kernel) rfl, mw_ 445 (by decide +kernel) rfl, mw_ 30 (by decide +kernel) rfl, mw_ 446 (by decide +kernel) rfl, ⟨by decide +kernel, by decide +kernel, by decide +kernel⟩⟩
theorem lk_X5_182 : LkS RX5 182 yX5_requireGrade cX5_requireGrade 1 none 1 := ⟨mw_ 610 (by decide +kernel) rfl, mw_ 611 (by decide +kernel) rfl, mw_ 29 (by decide +kernel) rfl, mw_ 612 (by decide +kernel) rfl, ⟨by decide +kernel, by decide +kernel, by decide +kernel⟩⟩
theorem lk_X5_185 : LkV RX5 185 yX4_take cX4_take 5 none 2 := ⟨mw_ 614 (by decide +kernel) rfl, mw_ 615 (by decide +kernel) rfl, mw_ 616 (by decide +kernel) rfl, mw_ 33 (by decide +kernel) rfl, mw_ 617 (by decide +kernel) rfl, ⟨by decide +kernel, by decide +kernel, by decide +kernel⟩⟩
theorem lk_X5_189 : LkV RX5 189 yX4_tryFrom cX4_tryFrom 4 none 1 := ⟨mw_ 621 (by decide +kernel) rfl, mw_ 622 (by decide +kernel) rfl, mw_ 623 (by decide +kernel) rfl, mw_ 33 (by decide +kernel) rfl, mw_ 624 (by decide +kernel) rfl, ⟨by decide +kernel, by decide +kernel, by decide +kernel⟩⟩
theorem lk_X5_192 : LkV RX5 192 yX4_mostTiles cX4_mostTiles 4 (some .int) 0 := ⟨mw_ 637 (by decide +kernel) rfl, mw_ 638 (by decide +kernel) rfl, mw_ 639 (by decide +kernel) rfl, mw_ 33 (by decide +kernel) rfl, mw_ 640 (by decide +kernel) rfl, ⟨by decide +kernel, by decide +kernel, by decide +kernel⟩⟩
theorem lk_X5_195 : LkV RX5 195 yX4_wholeByCounting cX4_wholeByCounting 2 (some .int) 1 := ⟨mw_ 652 (by decide +kernel) rfl, mw_ 653 (by decide +kernel) rfl, mw_ 654 (by decide +kernel) rfl, mw_ 33 (by decide +kernel) rfl, mw_ 655 (by decide +kernel) rfl, ⟨by decide +kernel, by decide +kernel, by decide +kernel⟩⟩
theorem lk_X5_198 : LkV RX5 198 yX4_wholeByTrying cX4_wholeByTrying 2 (some .int) 0 := ⟨mw_ 664 (by decide +kernel) rfl, mw_ 665 (by decide +kernel) rfl, mw_ 666 (by decide +kernel) rfl, mw_ 33 (by decide +kernel) rfl, mw_ 667 (by decide +kernel) rfl, ⟨by decide +kernel, by decide +kernel, by decide +kernel⟩⟩
theorem lk_X5_201 : LkV RX5 201 yX0_bestPlace cX0_bestPlace 4 (some .int) 0 := ⟨mw_ 511 (by decide +kernel) rfl, mw_ 512 (by decide +kernel) rfl, mw_ 513 (by decide +kernel) rfl, mw_ 30 (by decide +kernel) rfl, mw_ 514 (by decide +kernel) rfl, ⟨by decide +kernel, by decide +kernel, by decide +kernel⟩⟩
theorem lk_X5_207 : LkV RX5 207 yX0_shareOfRust cX0_shareOfRust 1 (some .double) 0 := ⟨mw_ 589 (by decide +kernel) rfl, mw_ 590 (by decide +kernel) rfl, mw_ 591 (by decide +kernel) rfl, mw_ 30 (by decide +kernel) rfl, mw_ 592 (by decide +kernel) rfl, ⟨by decide +kernel, by decide +kernel, by decide +kernel⟩⟩
theorem lk_X5_235 : LkV RX5 235 yX0_hasPlayer cX0_hasPlayer 2 (some .boolean) 1 := ⟨mw_ 544 (by decide +kernel) rfl, mw_ 545 (by decide +kernel) rfl, mw_ 546 (by decide +kernel) rfl, mw_ 30 (by decide +kernel) rfl, mw_ 547 (by decide +kernel) rfl, ⟨by decide +kernel, by decide +kernel, by decide +kernel⟩⟩
theorem lk_X0_11 : LkI RX0 11 yX2_init cX2_init 3 2 := ⟨mw_ 61 (by decide +kernel) rfl, mw_ 62 (by decide +kernel) rfl, mw_ 31 (by decide +kernel) rfl, mw_ 63 (by decide +kernel) rfl, rfl, ⟨by decide +kernel, by decide +kernel, by decide +kernel⟩⟩
theorem fl_X0_14 : Cond.fieldLink RX0 14 "RustTiles$Game" "tiles" "LRustTiles$Table;" ∈ TB := mw_ 76 (by decide +kernel) rfl
theorem fl_X0_20 : Cond.fieldLink RX0 20 "RustTiles$Game" "hands" "LRustTiles$Table;" ∈ TB := mw_ 79 (by decide +kernel) rfl
theorem fl_X0_23 : Cond.fieldLink RX0 23 "RustTiles$Game" "tallies" "LRustTiles$Table;" ∈ TB := mw_ 82 (by decide +kernel) rfl
theorem fl_X0_26 : Cond.fieldLink RX0 26 "RustTiles$Game" "rows" "LRustTiles$Table;" ∈ TB := mw_ 83 (by decide +kernel) rfl
theorem fl_X0_29 : Cond.fieldLink RX0 29 "RustTiles$Game" "order" "LRustTiles$Table;" ∈ TB := mw_ 85 (by decide +kernel) rfl
theorem fl_X0_32 : Cond.fieldLink RX0 32 "RustTiles$Game" "interval" "I" ∈ TB := mw_ 94 (by decide +kernel) rfl
theorem lk_X0_36 : LkV RX0 36 yX2_become cX2_become 2 none 1 := ⟨mw_ 320 (by decide +kernel) rfl, mw_ 321 (by decide +kernel) rfl, mw_ 322 (by decide +kernel) rfl, mw_ 31 (by decide +kernel) rfl, mw_ 323 (by decide +kernel) rfl, ⟨by decide +kernel, by decide +kernel, by decide +kernel⟩⟩
theorem fl_X0_40 : Cond.fieldLink RX0 40 "RustTiles$Game" "playerCount" "I" ∈ TB := mw_ 86 (by decide +kernel) rfl
theorem fl_X0_43 : Cond.fieldLink RX0 43 "RustTiles$Game" "onMove" "I" ∈ TB := mw_ 87 (by decide +kernel) rfl
theorem fl_X0_46 : Cond.fieldLink RX0 46 "RustTiles$Game" "taken" "I" ∈ TB := mw_ 89 (by decide +kernel) rfl
theorem fl_X0_49 : Cond.fieldLink RX0 49 "RustTiles$Game" "turnsMade" "I" ∈ TB := mw_ 90 (by decide +kernel) rfl
theorem fl_X0_52 : Cond.fieldLink RX0 52 "RustTiles$Game" "passesInRow" "I" ∈ TB := mw_ 91 (by decide +kernel) rfl
theorem fl_X0_55 : Cond.fieldLink RX0 55 "RustTiles$Game" "refusals" "I" ∈ TB := mw_ 92 (by decide +kernel) rfl
theorem fl_X0_58 : Cond.fieldLink RX0 58 "RustTiles$Game" "lot" "I" ∈ TB := mw_ 93 (by decide +kernel) rfl
theorem lk_X0_61 : LkV RX0 61 yX2_clear cX2_clear 1 none 0 := ⟨mw_ 177 (by decide +kernel) rfl, mw_ 178 (by decide +kernel) rfl, mw_ 179 (by decide +kernel) rfl, mw_ 31 (by decide +kernel) rfl, mw_ 180 (by decide +kernel) rfl, ⟨by decide +kernel, by decide +kernel, by decide +kernel⟩⟩
theorem lk_X0_64 : LkV RX0 64 yX0_makeTiles cX0_makeTiles 4 none 0 := ⟨mw_ 184 (by decide +kernel) rfl, mw_ 186 (by decide +kernel) rfl, mw_ 0 (by decide +kernel) rfl, mw_ 30 (by decide +kernel) rfl, mw_ 187 (by decide +kernel) rfl, ⟨by decide +kernel, by decide +kernel, by decide +kernel⟩⟩
theorem lk_X0_67 : LkV RX0 67 yX0_makeRows cX0_makeRows 2 none 0 := ⟨mw_ 192 (by decide +kernel) rfl, mw_ 194 (by decide +kernel) rfl, mw_ 1 (by decide +kernel) rfl, mw_ 30 (by decide +kernel) rfl, mw_ 195 (by decide +kernel) rfl, ⟨by decide +kernel, by decide +kernel, by decide +kernel⟩⟩
theorem lk_X0_70 : LkV RX0 70 yX0_orderStock cX0_orderStock 3 none 1 := ⟨mw_ 196 (by decide +kernel) rfl, mw_ 198 (by decide +kernel) rfl, mw_ 2 (by decide +kernel) rfl, mw_ 30 (by decide +kernel) rfl, mw_ 199 (by decide +kernel) rfl, ⟨by decide +kernel, by decide +kernel, by decide +kernel⟩⟩
theorem lk_X0_74 : LkV RX0 74 yX0_deal cX0_deal 3 none 0 := ⟨mw_ 208 (by decide +kernel) rfl, mw_ 210 (by decide +kernel) rfl, mw_ 4 (by decide +kernel) rfl, mw_ 30 (by decide +kernel) rfl, mw_ 211 (by decide +kernel) rfl, ⟨by decide +kernel, by decide +kernel, by decide +kernel⟩⟩
theorem lk_X0_77 : LkV RX0 77 yX2_put cX2_put 5 none 3 := ⟨mw_ 188 (by decide +kernel) rfl, mw_ 189 (by decide +kernel) rfl, mw_ 190 (by decide +kernel) rfl, mw_ 31 (by decide +kernel) rfl, mw_ 191 (by decide +kernel) rfl, ⟨by decide +kernel, by decide +kernel, by decide +kernel⟩⟩
theorem lk_X0_81 : LkV RX0 81 yX0_insertInOrder cX0_insertInOrder 4 none 2 := ⟨mw_ 200 (by decide +kernel) rfl, mw_ 202 (by decide +kernel) rfl, mw_ 3 (by decide +kernel) rfl, mw_ 30 (by decide +kernel) rfl, mw_ 203 (by decide +kernel) rfl, ⟨by decide +kernel, by decide +kernel, by decide +kernel⟩⟩
theorem lk_X0_84 : LkV RX0 84 yX2_at cX2_at 4 (some .int) 2 := ⟨mw_ 204 (by decide +kernel) rfl, mw_ 205 (by decide +kernel) rfl, mw_ 206 (by decide +kernel) rfl, mw_ 31 (by decide +kernel) rfl, mw_ 207 (by decide +kernel) rfl, ⟨by decide +kernel, by decide +kernel, by decide +kernel⟩⟩
theorem lk_X0_88 : LkV RX0 88 yX0_takeFromStock cX0_takeFromStock 3 (some .int) 1 := ⟨mw_ 212 (by decide +kernel) rfl, mw_ 214 (by decide +kernel) rfl, mw_ 5 (by decide +kernel) rfl, mw_ 30 (by decide +kernel) rfl, mw_ 215 (by decide +kernel) rfl, ⟨by decide +kernel, by decide +kernel, by decide +kernel⟩⟩
theorem lk_X0_92 : LkV RX0 92 yX0_heldBy cX0_heldBy 2 (some .int) 1 := ⟨mw_ 216 (by decide +kernel) rfl, mw_ 217 (by decide +kernel) rfl, mw_ 218 (by decide +kernel) rfl, mw_ 30 (by decide +kernel) rfl, mw_ 219 (by decide +kernel) rfl, ⟨by decide +kernel, by decide +kernel, by decide +kernel⟩⟩
theorem lk_X0_95 : LkV RX0 95 yX2_increase cX2_increase 5 none 3 := ⟨mw_ 220 (by decide +kernel) rfl, mw_ 221 (by decide +kernel) rfl, mw_ 222 (by decide +kernel) rfl, mw_ 31 (by decide +kernel) rfl, mw_ 223 (by decide +kernel) rfl, ⟨by decide +kernel, by decide +kernel, by decide +kernel⟩⟩
theorem lk_X0_98 : LkV RX0 98 yX0_reasonAgainst cX0_reasonAgainst 4 (some .int) 3 := ⟨mw_ 443 (by decide +kernel) rfl, mw_ 444 (by decide +kernel) rfl, mw_ 445 (by decide +kernel) rfl, mw_ 30 (by decide +kernel) rfl, mw_ 446 (by decide +kernel) rfl, ⟨by decide +kernel, by decide +kernel, by decide +kernel⟩⟩
theorem lk_X0_102 : LkV RX0 102 yX0_takeFromHand cX0_takeFromHand 6 (some .int) 2 := ⟨mw_ 455 (by decide +kernel) rfl, mw_ 457 (by decide +kernel) rfl, mw_ 13 (by decide +kernel) rfl, mw_ 30 (by decide +kernel) rfl, mw_ 458 (by decide +kernel) rfl, ⟨by decide +kernel, by decide +kernel, by decide +kernel⟩⟩
theorem lk_X0_105 : LkV RX0 105 yX0_putAtEnd cX0_putAtEnd 6 none 3 := ⟨mw_ 459 (by decide +kernel) rfl, mw_ 461 (by decide +kernel) rfl, mw_ 14 (by decide +kernel) rfl, mw_ 30 (by decide +kernel) rfl, mw_ 462 (by decide +kernel) rfl, ⟨by decide +kernel, by decide +kernel, by decide +kernel⟩⟩
theorem lk_X0_108 : LkV RX0 108 yX0_endTurn cX0_endTurn 2 (some .int) 0 := ⟨mw_ 463 (by decide +kernel) rfl, mw_ 465 (by decide +kernel) rfl, mw_ 15 (by decide +kernel) rfl, mw_ 30 (by decide +kernel) rfl, mw_ 466 (by decide +kernel) rfl, ⟨by decide +kernel, by decide +kernel, by decide +kernel⟩⟩
theorem lk_X0_112 : LkV RX0 112 yX0_isOver cX0_isOver 1 (some .boolean) 0 := ⟨mw_ 369 (by decide +kernel) rfl, mw_ 370 (by decide +kernel) rfl, mw_ 371 (by decide +kernel) rfl, mw_ 30 (by decide +kernel) rfl, mw_ 372 (by decide +kernel) rfl, ⟨by decide +kernel, by decide +kernel, by decide +kernel⟩⟩
theorem lk_X0_116 : LkV RX0 116 yX0_stockSize cX0_stockSize 1 (some .int) 0 := ⟨mw_ 357 (by decide +kernel) rfl, mw_ 358 (by decide +kernel) rfl, mw_ 359 (by decide +kernel) rfl, mw_ 30 (by decide +kernel) rfl, mw_ 360 (by decide +kernel) rfl, ⟨by decide +kernel, by decide +kernel, by decide +kernel⟩⟩
theorem lk_X0_119 : LkV RX0 119 yX0_holdsPlace cX0_holdsPlace 3 (some .boolean) 2 := ⟨mw_ 447 (by decide +kernel) rfl, mw_ 448 (by decide +kernel) rfl, mw_ 449 (by decide +kernel) rfl, mw_ 30 (by decide +kernel) rfl, mw_ 450 (by decide +kernel) rfl, ⟨by decide +kernel, by decide +kernel, by decide +kernel⟩⟩
theorem lk_X0_123 : LkV RX0 123 yX0_fits cX0_fits 5 (some .boolean) 3 := ⟨mw_ 451 (by decide +kernel) rfl, mw_ 453 (by decide +kernel) rfl, mw_ 12 (by decide +kernel) rfl, mw_ 30 (by decide +kernel) rfl, mw_ 454 (by decide +kernel) rfl, ⟨by decide +kernel, by decide +kernel, by decide +kernel⟩⟩
theorem lk_X0_127 : LkV RX0 127 yX0_ageHand cX0_ageHand 5 none 1 := ⟨mw_ 467 (by decide +kernel) rfl, mw_ 469 (by decide +kernel) rfl, mw_ 16 (by decide +kernel) rfl, mw_ 30 (by decide +kernel) rfl, mw_ 470 (by decide +kernel) rfl, ⟨by decide +kernel, by decide +kernel, by decide +kernel⟩⟩
theorem lk_X0_130 : LkV RX0 130 yX0_rust cX0_rust 4 none 2 := ⟨mw_ 471 (by decide +kernel) rfl, mw_ 473 (by decide +kernel) rfl, mw_ 17 (by decide +kernel) rfl, mw_ 30 (by decide +kernel) rfl, mw_ 474 (by decide +kernel) rfl, ⟨by decide +kernel, by decide +kernel, by decide +kernel⟩⟩
theorem lk_X0_133 : LkV RX0 133 yX0_tallied cX0_tallied 4 (some .int) 1 := ⟨mw_ 361 (by decide +kernel) rfl, mw_ 363 (by decide +kernel) rfl, mw_ 7 (by decide +kernel) rfl, mw_ 30 (by decide +kernel) rfl, mw_ 364 (by decide +kernel) rfl, ⟨by decide +kernel, by decide +kernel, by decide +kernel⟩⟩
theorem lk_X0_136 : LkV RX0 136 yX0_winner cX0_winner 3 (some .int) 0 := ⟨mw_ 365 (by decide +kernel) rfl, mw_ 367 (by decide +kernel) rfl, mw_ 8 (by decide +kernel) rfl, mw_ 30 (by decide +kernel) rfl, mw_ 368 (by decide +kernel) rfl, ⟨by decide +kernel, by decide +kernel, by decide +kernel⟩⟩
theorem lk_X0_139 : LkV RX0 139 yX0_gradesHeld cX0_gradesHeld 5 (some .int) 1 := ⟨mw_ 377 (by decide +kernel) rfl, mw_ 379 (by decide +kernel) rfl, mw_ 10 (by decide +kernel) rfl, mw_ 30 (by decide +kernel) rfl, mw_ 380 (by decide +kernel) rfl, ⟨by decide +kernel, by decide +kernel, by decide +kernel⟩⟩
theorem lk_X0_142 : LkV RX0 142 yX0_sumOf cX0_sumOf 2 (some .int) 1 := ⟨mw_ 373 (by decide +kernel) rfl, mw_ 375 (by decide +kernel) rfl, mw_ 9 (by decide +kernel) rfl, mw_ 30 (by decide +kernel) rfl, mw_ 376 (by decide +kernel) rfl, ⟨by decide +kernel, by decide +kernel, by decide +kernel⟩⟩
theorem lk_X0_145 : LkV RX0 145 yX0_endsOpenTo cX0_endsOpenTo 6 (some .int) 1 := ⟨mw_ 568 (by decide +kernel) rfl, mw_ 570 (by decide +kernel) rfl, mw_ 21 (by decide +kernel) rfl, mw_ 30 (by decide +kernel) rfl, mw_ 571 (by decide +kernel) rfl, ⟨by decide +kernel, by decide +kernel, by decide +kernel⟩⟩
theorem lk_X0_148 : LkV RX0 148 yX0_gradesOf cX0_gradesOf 2 (some .int) 1 := ⟨mw_ 381 (by decide +kernel) rfl, mw_ 383 (by decide +kernel) rfl, mw_ 11 (by decide +kernel) rfl, mw_ 30 (by decide +kernel) rfl, mw_ 384 (by decide +kernel) rfl, ⟨by decide +kernel, by decide +kernel, by decide +kernel⟩⟩
theorem lk_X0_151 : LkV RX0 151 yX0_canLayAt cX0_canLayAt 6 (some .boolean) 3 := ⟨mw_ 572 (by decide +kernel) rfl, mw_ 574 (by decide +kernel) rfl, mw_ 22 (by decide +kernel) rfl, mw_ 30 (by decide +kernel) rfl, mw_ 575 (by decide +kernel) rfl, ⟨by decide +kernel, by decide +kernel, by decide +kernel⟩⟩
theorem lk_X0_154 : LkV RX0 154 yX0_fitsSomewhere cX0_fitsSomewhere 3 (some .boolean) 1 := ⟨mw_ 515 (by decide +kernel) rfl, mw_ 517 (by decide +kernel) rfl, mw_ 18 (by decide +kernel) rfl, mw_ 30 (by decide +kernel) rfl, mw_ 518 (by decide +kernel) rfl, ⟨by decide +kernel, by decide +kernel, by decide +kernel⟩⟩
theorem lk_X0_158 : LkV RX0 158 yX0_isBetter cX0_isBetter 5 (some .boolean) 2 := ⟨mw_ 519 (by decide +kernel) rfl, mw_ 521 (by decide +kernel) rfl, mw_ 19 (by decide +kernel) rfl, mw_ 30 (by decide +kernel) rfl, mw_ 522 (by decide +kernel) rfl, ⟨by decide +kernel, by decide +kernel, by decide +kernel⟩⟩
theorem fl_X1_11 : Cond.fieldLink RX1 11 "RustTiles$Past" "states" "[LRustTiles$Game;" ∈ TB := mw_ 162 (by decide +kernel) rfl
theorem fl_X1_17 : Cond.fieldLink RX1 17 "RustTiles$Past" "next" "I" ∈ TB := mw_ 163 (by decide +kernel) rfl
theorem lk_X1_21 : LkN RX1 21 "RustTiles" yX0_init cX0_init 1 0 := ⟨by decide +kernel, mw_ 56 (by decide +kernel) rfl, mw_ 30 (by decide +kernel) rfl, mw_ 57 (by decide +kernel) rfl, rfl, ⟨by decide +kernel, by decide +kernel, by decide +kernel⟩⟩
theorem lk_X1_22 : LkV RX1 22 yX0_become cX0_become 2 none 1 := ⟨mw_ 316 (by decide +kernel) rfl, mw_ 317 (by decide +kernel) rfl, mw_ 318 (by decide +kernel) rfl, mw_ 30 (by decide +kernel) rfl, mw_ 319 (by decide +kernel) rfl, ⟨by decide +kernel, by decide +kernel, by decide +kernel⟩⟩
theorem fl_X1_26 : Cond.fieldLink RX1 26 "RustTiles$Past" "size" "I" ∈ TB := mw_ 164 (by decide +kernel) rfl
theorem fl_X2_9 : Cond.fieldLink RX2 9 "RustTiles$Table" "columns" "I" ∈ TB := mw_ 68 (by decide +kernel) rfl
theorem fl_X2_21 : Cond.fieldLink RX2 21 "RustTiles$Table" "cells" "[I" ∈ TB := mw_ 69 (by decide +kernel) rfl
theorem lk_X2_25 : LkS RX2 25 yJ7_fill_53178 cJ7_fill_53178 4 none 2 := ⟨mw_ 181 (by decide +kernel) rfl, mw_ 182 (by decide +kernel) rfl, mw_ 36 (by decide +kernel) rfl, mw_ 183 (by decide +kernel) rfl, ⟨by decide +kernel, by decide +kernel, by decide +kernel⟩⟩
theorem fl_X3_9 : Cond.fieldLink RX3 9 "RustTiles$Text" "codes" "[C" ∈ TB := mw_ 147 (by decide +kernel) rfl
theorem lk_X4_11 : LkI RX4 11 yX2_init cX2_init 3 2 := ⟨mw_ 130 (by decide +kernel) rfl, mw_ 62 (by decide +kernel) rfl, mw_ 31 (by decide +kernel) rfl, mw_ 63 (by decide +kernel) rfl, rfl, ⟨by decide +kernel, by decide +kernel, by decide +kernel⟩⟩
theorem fl_X4_14 : Cond.fieldLink RX4 14 "RustTiles$Trains" "halves" "LRustTiles$Table;" ∈ TB := mw_ 131 (by decide +kernel) rfl
theorem fl_X4_20 : Cond.fieldLink RX4 20 "RustTiles$Trains" "open" "[I" ∈ TB := mw_ 132 (by decide +kernel) rfl
theorem fl_X4_24 : Cond.fieldLink RX4 24 "RustTiles$Trains" "size" "I" ∈ TB := mw_ 133 (by decide +kernel) rfl
theorem lk_X4_28 : LkV RX4 28 yX0_heldBy cX0_heldBy 2 (some .int) 1 := ⟨mw_ 618 (by decide +kernel) rfl, mw_ 217 (by decide +kernel) rfl, mw_ 218 (by decide +kernel) rfl, mw_ 30 (by decide +kernel) rfl, mw_ 219 (by decide +kernel) rfl, ⟨by decide +kernel, by decide +kernel, by decide +kernel⟩⟩
theorem fn_X4_34 : Cond.fieldLinkNest RX4 34 "RustTiles$Game" "hands" "LRustTiles$Table;" "RustTiles" ∈ NB := by decide +kernel
theorem lk_X4_37 : LkV RX4 37 yX2_at cX2_at 4 (some .int) 2 := ⟨mw_ 619 (by decide +kernel) rfl, mw_ 205 (by decide +kernel) rfl, mw_ 206 (by decide +kernel) rfl, mw_ 31 (by decide +kernel) rfl, mw_ 207 (by decide +kernel) rfl, ⟨by decide +kernel, by decide +kernel, by decide +kernel⟩⟩
theorem fn_X4_41 : Cond.fieldLinkNest RX4 41 "RustTiles$Game" "tiles" "LRustTiles$Table;" "RustTiles" ∈ NB := by decide +kernel
theorem lk_X4_44 : LkV RX4 44 yX2_put cX2_put 5 none 3 := ⟨mw_ 620 (by decide +kernel) rfl, mw_ 189 (by decide +kernel) rfl, mw_ 190 (by decide +kernel) rfl, mw_ 31 (by decide +kernel) rfl, mw_ 191 (by decide +kernel) rfl, ⟨by decide +kernel, by decide +kernel, by decide +kernel⟩⟩
theorem lk_X4_48 : LkV RX4 48 yX4_isTooLarge cX4_isTooLarge 1 (some .boolean) 0 := ⟨mw_ 625 (by decide +kernel) rfl, mw_ 627 (by decide +kernel) rfl, mw_ 23 (by decide +kernel) rfl, mw_ 33 (by decide +kernel) rfl, mw_ 628 (by decide +kernel) rfl, ⟨by decide +kernel, by decide +kernel, by decide +kernel⟩⟩
theorem lk_X4_52 : LkV RX4 52 yX4_goOnFrom cX4_goOnFrom 4 none 1 := ⟨mw_ 629 (by decide +kernel) rfl, mw_ 631 (by decide +kernel) rfl, mw_ 24 (by decide +kernel) rfl, mw_ 33 (by decide +kernel) rfl, mw_ 632 (by decide +kernel) rfl, ⟨by decide +kernel, by decide +kernel, by decide +kernel⟩⟩
theorem lk_X4_56 : LkV RX4 56 yX4_openBehind cX4_openBehind 6 (some .int) 2 := ⟨mw_ 633 (by decide +kernel) rfl, mw_ 635 (by decide +kernel) rfl, mw_ 25 (by decide +kernel) rfl, mw_ 33 (by decide +kernel) rfl, mw_ 636 (by decide +kernel) rfl, ⟨by decide +kernel, by decide +kernel, by decide +kernel⟩⟩
theorem lk_X4_59 : LkS RX4 59 yJ6_bitCount_0f7a4 cJ6_bitCount_0f7a4 1 (some .int) 1 := ⟨mw_ 641 (by decide +kernel) rfl, mw_ 642 (by decide +kernel) rfl, mw_ 44 (by decide +kernel) rfl, mw_ 643 (by decide +kernel) rfl, ⟨by decide +kernel, by decide +kernel, by decide +kernel⟩⟩
theorem lk_X4_69 : LkV RX4 69 yX4_hangsTogetherWith cX4_hangsTogetherWith 5 (some .boolean) 1 := ⟨mw_ 656 (by decide +kernel) rfl, mw_ 658 (by decide +kernel) rfl, mw_ 26 (by decide +kernel) rfl, mw_ 33 (by decide +kernel) rfl, mw_ 659 (by decide +kernel) rfl, ⟨by decide +kernel, by decide +kernel, by decide +kernel⟩⟩
theorem lk_X4_73 : LkV RX4 73 yX4_oddGradesAllow cX4_oddGradesAllow 4 (some .boolean) 1 := ⟨mw_ 660 (by decide +kernel) rfl, mw_ 662 (by decide +kernel) rfl, mw_ 27 (by decide +kernel) rfl, mw_ 33 (by decide +kernel) rfl, mw_ 663 (by decide +kernel) rfl, ⟨by decide +kernel, by decide +kernel, by decide +kernel⟩⟩
theorem lk_L_8 : LkV RL 8 yX5_begin cX5_begin 3 (some .int) 2 := ⟨mw_ 400 (by decide +kernel) rfl, mw_ 401 (by decide +kernel) rfl, mw_ 402 (by decide +kernel) rfl, mw_ 29 (by decide +kernel) rfl, mw_ 403 (by decide +kernel) rfl, ⟨by decide +kernel, by decide +kernel, by decide +kernel⟩⟩
theorem lk_L_14 : LkV RL 14 yX5_lay cX5_lay 4 (some .int) 3 := ⟨mw_ 412 (by decide +kernel) rfl, mw_ 413 (by decide +kernel) rfl, mw_ 414 (by decide +kernel) rfl, mw_ 29 (by decide +kernel) rfl, mw_ 415 (by decide +kernel) rfl, ⟨by decide +kernel, by decide +kernel, by decide +kernel⟩⟩
theorem lk_L_18 : LkV RL 18 yX5_oil cX5_oil 2 (some .int) 1 := ⟨mw_ 475 (by decide +kernel) rfl, mw_ 476 (by decide +kernel) rfl, mw_ 477 (by decide +kernel) rfl, mw_ 29 (by decide +kernel) rfl, mw_ 478 (by decide +kernel) rfl, ⟨by decide +kernel, by decide +kernel, by decide +kernel⟩⟩
theorem lk_L_22 : LkV RL 22 yX5_set cX5_set 3 (some .int) 1 := ⟨mw_ 486 (by decide +kernel) rfl, mw_ 487 (by decide +kernel) rfl, mw_ 488 (by decide +kernel) rfl, mw_ 29 (by decide +kernel) rfl, mw_ 489 (by decide +kernel) rfl, ⟨by decide +kernel, by decide +kernel, by decide +kernel⟩⟩
theorem lk_L_38 : LkV RL 38 yX5_draw cX5_draw 1 (some .int) 0 := ⟨mw_ 491 (by decide +kernel) rfl, mw_ 492 (by decide +kernel) rfl, mw_ 493 (by decide +kernel) rfl, mw_ 29 (by decide +kernel) rfl, mw_ 494 (by decide +kernel) rfl, ⟨by decide +kernel, by decide +kernel, by decide +kernel⟩⟩
theorem lk_L_42 : LkV RL 42 yX5_pass cX5_pass 1 (some .int) 0 := ⟨mw_ 499 (by decide +kernel) rfl, mw_ 500 (by decide +kernel) rfl, mw_ 501 (by decide +kernel) rfl, mw_ 29 (by decide +kernel) rfl, mw_ 502 (by decide +kernel) rfl, ⟨by decide +kernel, by decide +kernel, by decide +kernel⟩⟩
theorem lk_L_45 : LkV RL 45 yX5_advice cX5_advice 1 (some .int) 0 := ⟨mw_ 507 (by decide +kernel) rfl, mw_ 508 (by decide +kernel) rfl, mw_ 509 (by decide +kernel) rfl, mw_ 29 (by decide +kernel) rfl, mw_ 510 (by decide +kernel) rfl, ⟨by decide +kernel, by decide +kernel, by decide +kernel⟩⟩
theorem lk_L_48 : LkV RL 48 yX5_setting cX5_setting 1 (some .int) 0 := ⟨mw_ 526 (by decide +kernel) rfl, mw_ 527 (by decide +kernel) rfl, mw_ 528 (by decide +kernel) rfl, mw_ 29 (by decide +kernel) rfl, mw_ 529 (by decide +kernel) rfl, ⟨by decide +kernel, by decide +kernel, by decide +kernel⟩⟩
theorem lk_L_51 : LkV RL 51 yX5_count cX5_count 2 (some .int) 1 := ⟨mw_ 330 (by decide +kernel) rfl, mw_ 331 (by decide +kernel) rfl, mw_ 332 (by decide +kernel) rfl, mw_ 29 (by decide +kernel) rfl, mw_ 333 (by decide +kernel) rfl, ⟨by decide +kernel, by decide +kernel, by decide +kernel⟩⟩
theorem lk_L_54 : LkV RL 54 yX5_tileOf cX5_tileOf 3 (some .int) 2 := ⟨mw_ 530 (by decide +kernel) rfl, mw_ 531 (by decide +kernel) rfl, mw_ 532 (by decide +kernel) rfl, mw_ 29 (by decide +kernel) rfl, mw_ 533 (by decide +kernel) rfl, ⟨by decide +kernel, by decide +kernel, by decide +kernel⟩⟩
theorem lk_L_57 : LkV RL 57 yX5_hand cX5_hand 3 (some .int) 2 := ⟨mw_ 536 (by decide +kernel) rfl, mw_ 537 (by decide +kernel) rfl, mw_ 538 (by decide +kernel) rfl, mw_ 29 (by decide +kernel) rfl, mw_ 539 (by decide +kernel) rfl, ⟨by decide +kernel, by decide +kernel, by decide +kernel⟩⟩
theorem lk_L_60 : LkV RL 60 yX5_rowOf cX5_rowOf 3 (some .int) 2 := ⟨mw_ 553 (by decide +kernel) rfl, mw_ 554 (by decide +kernel) rfl, mw_ 555 (by decide +kernel) rfl, mw_ 29 (by decide +kernel) rfl, mw_ 556 (by decide +kernel) rfl, ⟨by decide +kernel, by decide +kernel, by decide +kernel⟩⟩
theorem lk_L_63 : LkV RL 63 yX5_playerOf cX5_playerOf 3 (some .int) 2 := ⟨mw_ 560 (by decide +kernel) rfl, mw_ 561 (by decide +kernel) rfl, mw_ 562 (by decide +kernel) rfl, mw_ 29 (by decide +kernel) rfl, mw_ 563 (by decide +kernel) rfl, ⟨by decide +kernel, by decide +kernel, by decide +kernel⟩⟩
theorem lk_L_66 : LkV RL 66 yX5_stock cX5_stock 2 (some .int) 1 := ⟨mw_ 576 (by decide +kernel) rfl, mw_ 577 (by decide +kernel) rfl, mw_ 578 (by decide +kernel) rfl, mw_ 29 (by decide +kernel) rfl, mw_ 579 (by decide +kernel) rfl, ⟨by decide +kernel, by decide +kernel, by decide +kernel⟩⟩
theorem lk_L_70 : LkV RL 70 yX5_rustShare cX5_rustShare 1 (some .double) 0 := ⟨mw_ 585 (by decide +kernel) rfl, mw_ 586 (by decide +kernel) rfl, mw_ 587 (by decide +kernel) rfl, mw_ 29 (by decide +kernel) rfl, mw_ 588 (by decide +kernel) rfl, ⟨by decide +kernel, by decide +kernel, by decide +kernel⟩⟩
theorem lk_L_76 : LkV RL 76 yX5_whyNot cX5_whyNot 4 (some .int) 3 := ⟨mw_ 598 (by decide +kernel) rfl, mw_ 599 (by decide +kernel) rfl, mw_ 600 (by decide +kernel) rfl, mw_ 29 (by decide +kernel) rfl, mw_ 601 (by decide +kernel) rfl, ⟨by decide +kernel, by decide +kernel, by decide +kernel⟩⟩
theorem lk_L_79 : LkV RL 79 yX5_longest cX5_longest 3 (some .int) 2 := ⟨mw_ 606 (by decide +kernel) rfl, mw_ 607 (by decide +kernel) rfl, mw_ 608 (by decide +kernel) rfl, mw_ 29 (by decide +kernel) rfl, mw_ 609 (by decide +kernel) rfl, ⟨by decide +kernel, by decide +kernel, by decide +kernel⟩⟩
theorem lk_L_82 : LkV RL 82 yX5_whole cX5_whole 4 (some .int) 3 := ⟨mw_ 648 (by decide +kernel) rfl, mw_ 649 (by decide +kernel) rfl, mw_ 650 (by decide +kernel) rfl, mw_ 29 (by decide +kernel) rfl, mw_ 651 (by decide +kernel) rfl, ⟨by decide +kernel, by decide +kernel, by decide +kernel⟩⟩
theorem lk_L_85 : LkI RL 85 yX5_init cX5_init 1 0 := ⟨mw_ 47 (by decide +kernel) rfl, mw_ 48 (by decide +kernel) rfl, mw_ 29 (by decide +kernel) rfl, mw_ 49 (by decide +kernel) rfl, rfl, ⟨by decide +kernel, by decide +kernel, by decide +kernel⟩⟩
theorem lk_L_98 : LkV RL 98 yX5_undo cX5_undo 1 (some .int) 0 := ⟨mw_ 240 (by decide +kernel) rfl, mw_ 241 (by decide +kernel) rfl, mw_ 242 (by decide +kernel) rfl, mw_ 29 (by decide +kernel) rfl, mw_ 243 (by decide +kernel) rfl, ⟨by decide +kernel, by decide +kernel, by decide +kernel⟩⟩
theorem cl_L_9 : Cond.classLink RL 9 RX5 ∈ TB := mw_ 45 (by decide +kernel) rfl
theorem iz_X5 : Cond.instantiable RX5 5 ∈ TB := mw_ 46 (by decide +kernel) rfl
theorem ii_X5 : Cond.initialized RX5 ∈ TB := mw_ 29 (by decide +kernel) rfl
theorem ac_int : Cond.arrayClass .int ∈ TB := mw_ 75 (by decide +kernel) rfl
theorem cl_X5_7 : Cond.classLink RX5 7 RX0 ∈ TB := mw_ 53 (by decide +kernel) rfl
theorem iz_X0 : Cond.instantiable RX0 13 ∈ TB := mw_ 54 (by decide +kernel) rfl
theorem ii_X0 : Cond.initialized RX0 ∈ TB := mw_ 30 (by decide +kernel) rfl
theorem cl_X5_16 : Cond.classLink RX5 16 RX4 ∈ TB := mw_ 123 (by decide +kernel) rfl
theorem iz_X4 : Cond.instantiable RX4 3 ∈ TB := mw_ 124 (by decide +kernel) rfl
theorem ii_X4 : Cond.initialized RX4 ∈ TB := mw_ 33 (by decide +kernel) rfl
theorem cl_X5_23 : Cond.classLink RX5 23 RX3 ∈ TB := mw_ 141 (by decide +kernel) rfl
theorem iz_X3 : Cond.instantiable RX3 2 ∈ TB := mw_ 142 (by decide +kernel) rfl
theorem ii_X3 : Cond.initialized RX3 ∈ TB := mw_ 34 (by decide +kernel) rfl
theorem cl_X5_30 : Cond.classLink RX5 30 RX1 ∈ TB := mw_ 154 (by decide +kernel) rfl
theorem iz_X1 : Cond.instantiable RX1 3 ∈ TB := mw_ 155 (by decide +kernel) rfl
theorem ii_X1 : Cond.initialized RX1 ∈ TB := mw_ 35 (by decide +kernel) rfl
theorem cl_X0_9 : Cond.classLink RX0 9 RX2 ∈ TB := mw_ 59 (by decide +kernel) rfl
theorem iz_X2 : Cond.instantiable RX2 2 ∈ TB := mw_ 60 (by decide +kernel) rfl
theorem ii_X2 : Cond.initialized RX2 ∈ TB := mw_ 31 (by decide +kernel) rfl
theorem cl_X4_9 : Cond.classLink RX4 9 RX2 ∈ TB := mw_ 129 (by decide +kernel) rfl
theorem ac_char : Cond.arrayClass .char ∈ TB := mw_ 153 (by decide +kernel) rfl
theorem cl_X1_9 : Cond.classLink RX1 9 RX0 ∈ TB := mw_ 160 (by decide +kernel) rfl
theorem ii_J7 : Cond.initialized RJ7 ∈ TB := mw_ 36 (by decide +kernel) rfl
theorem ii_L : Cond.initialized RL ∈ TB := mw_ 28 (by decide +kernel) rfl
theorem cl_X5_45 : Cond.classLink RX5 45 "java/lang/IllegalArgumentException" ∈ TB := mw_ 337 (by decide +kernel) rfl
theorem kc_L_7 : Cond.constant RL 7 (2147483647) ∈ TB := mw_ 391 (by decide +kernel) rfl
theorem cl_L_25 : Cond.classLink RL 25 "java/lang/IndexOutOfBoundsException" ∈ TB := mw_ 398 (by decide +kernel) rfl
theorem cl_L_27 : Cond.classLink RL 27 "java/lang/IllegalArgumentException" ∈ TB := mw_ 399 (by decide +kernel) rfl
theorem cl_X5_89 : Cond.classLink RX5 89 "java/lang/IndexOutOfBoundsException" ∈ TB := mw_ 419 (by decide +kernel) rfl
theorem cl_X5_108 : Cond.classLink RX5 108 "java/lang/IllegalStateException" ∈ TB := mw_ 244 (by decide +kernel) rfl
theorem kc_L_69 : Cond.constant RL 69 (268435455) ∈ TB := mw_ 584 (by decide +kernel) rfl
theorem kd_L_74 : Cond.constantDouble RL 74 (4640114991075164160) ∈ TB := mw_ 594 (by decide +kernel) rfl
theorem kd_X0_164 : Cond.constantDouble RX0 164 (4640114991075164160) ∈ TB := mw_ 593 (by decide +kernel) rfl
theorem ii_J6 : Cond.initialized RJ6 ∈ TB := mw_ 44 (by decide +kernel) rfl
theorem kc_J6_265 : Cond.constant RJ6 265 (1431655765) ∈ TB := mw_ 644 (by decide +kernel) rfl
theorem kc_J6_266 : Cond.constant RJ6 266 (858993459) ∈ TB := mw_ 645 (by decide +kernel) rfl
theorem kc_J6_267 : Cond.constant RJ6 267 (252645135) ∈ TB := mw_ 646 (by decide +kernel) rfl
theorem jl_X5_1 : Cond.methodLink RX5 1 objectInit ∈ TB := mw_ 50 (by decide +kernel) rfl
theorem jl_X0_3 : Cond.methodLink RX0 3 objectInit ∈ TB := mw_ 58 (by decide +kernel) rfl
theorem jl_X2_3 : Cond.methodLink RX2 3 objectInit ∈ TB := mw_ 64 (by decide +kernel) rfl
theorem jl_X2_15 : Cond.methodLink RX2 15 Lib.Math.max.name ∈ TB := mw_ 65 (by decide +kernel) rfl
theorem jl_X4_3 : Cond.methodLink RX4 3 objectInit ∈ TB := mw_ 128 (by decide +kernel) rfl
theorem jl_X3_3 : Cond.methodLink RX3 3 objectInit ∈ TB := mw_ 146 (by decide +kernel) rfl
theorem jl_X1_3 : Cond.methodLink RX1 3 objectInit ∈ TB := mw_ 159 (by decide +kernel) rfl
theorem jl_X2_25 : Cond.methodLink RX2 25 yJ7_fill_53178 ∈ TB := mw_ 181 (by decide +kernel) rfl
theorem jl_X1_29 : Cond.methodLink RX1 29 Lib.Math.min.name ∈ TB := mw_ 410 (by decide +kernel) rfl
theorem jl_X2_31 : Cond.methodLink RX2 31 Lib.Math.min.name ∈ TB := mw_ 324 (by decide +kernel) rfl
theorem jl_X2_34 : Cond.methodLink RX2 34 arraycopyName ∈ TB := mw_ 327 (by decide +kernel) rfl
theorem jl_X4_64 : Cond.methodLink RX4 64 Lib.Math.max.name ∈ TB := mw_ 647 (by decide +kernel) rfl
theorem jl_X4_59 : Cond.methodLink RX4 59 yJ6_bitCount_0f7a4 ∈ TB := mw_ 641 (by decide +kernel) rfl
theorem oi_inst : Cond.instanceMethod objectInit ∈ TB := mw_ 51 (by decide +kernel) rfl
theorem oi_code : Cond.code objectInit ⟨#[0xb1]⟩ 1 none ∈ TB := mw_ 52 (by decide +kernel) rfl
theorem mx_st : Cond.static Lib.Math.max.name ∈ TB := mw_ 66 (by decide +kernel) rfl
theorem mn_st : Cond.static Lib.Math.min.name ∈ TB := mw_ 325 (by decide +kernel) rfl
theorem ma_ii : Cond.initialized "java/lang/Math" ∈ TB := mw_ 32 (by decide +kernel) rfl
theorem mx_code : Cond.code Lib.Math.max.name Lib.Math.max.code 2 (some .int) ∈ TB := mw_ 67 (by decide +kernel) rfl
theorem mn_code : Cond.code Lib.Math.min.name Lib.Math.min.code 2 (some .int) ∈ TB := mw_ 326 (by decide +kernel) rfl
theorem sc_nat : Cond.native arraycopyName ∈ TB := mw_ 329 (by decide +kernel) rfl
theorem sc_st : Cond.static arraycopyName ∈ TB := mw_ 328 (by decide +kernel) rfl
theorem sc_ii : Cond.initialized "java/lang/System" ∈ TB := mw_ 41 (by decide +kernel) rfl
end
section
/-! LINKS of the law to its own methods -/
set_option maxRecDepth 100000 in
theorem lk_L_29 : LkS RL 29 yL_low cL_low 2 (some .int) 2 := ⟨mw_ 388 (by decide +kernel) rfl, mw_ 389 (by decide +kernel) rfl, mw_ 28 (by decide +kernel) rfl, mw_ 390 rfl rfl, ⟨by decide +kernel, by decide +kernel, by decide +kernel⟩⟩
set_option maxRecDepth 100000 in
theorem lk_L_86 : LkS RL 86 yL_cell cL_cell 2 (some .int) 2 := ⟨mw_ 385 (by decide +kernel) rfl, mw_ 386 (by decide +kernel) rfl, mw_ 28 (by decide +kernel) rfl, mw_ 387 rfl rfl, ⟨by decide +kernel, by decide +kernel, by decide +kernel⟩⟩
set_option maxRecDepth 100000 in
theorem lk_L_90 : LkS RL 90 yL_act cL_act 8 (some .int) 3 := ⟨mw_ 392 (by decide +kernel) rfl, mw_ 393 (by decide +kernel) rfl, mw_ 28 (by decide +kernel) rfl, mw_ 394 rfl rfl, ⟨by decide +kernel, by decide +kernel, by decide +kernel⟩⟩
set_option maxRecDepth 100000 in
theorem lk_L_94 : LkS RL 94 yL_areAlike cL_areAlike 4 (some .boolean) 2 := ⟨mw_ 523 (by decide +kernel) rfl, mw_ 524 (by decide +kernel) rfl, mw_ 28 (by decide +kernel) rfl, mw_ 525 rfl rfl, ⟨by decide +kernel, by decide +kernel, by decide +kernel⟩⟩
set_option maxRecDepth 100000 in
theorem lk_L_101 : LkS RL 101 yL_areSums cL_areSums 9 (some .boolean) 1 := ⟨mw_ 557 (by decide +kernel) rfl, mw_ 558 (by decide +kernel) rfl, mw_ 28 (by decide +kernel) rfl, mw_ 559 rfl rfl, ⟨by decide +kernel, by decide +kernel, by decide +kernel⟩⟩
set_option maxRecDepth 100000 in
theorem lk_L_105 : LkS RL 105 yL_isMoveSo cL_isMoveSo 12 (some .boolean) 1 := ⟨mw_ 595 (by decide +kernel) rfl, mw_ 596 (by decide +kernel) rfl, mw_ 28 (by decide +kernel) rfl, mw_ 597 rfl rfl, ⟨by decide +kernel, by decide +kernel, by decide +kernel⟩⟩
set_option maxRecDepth 100000 in
theorem lk_L_108 : LkS RL 108 yL_areTrainsSo cL_areTrainsSo 9 (some .boolean) 2 := ⟨mw_ 603 (by decide +kernel) rfl, mw_ 604 (by decide +kernel) rfl, mw_ 28 (by decide +kernel) rfl, mw_ 605 rfl rfl, ⟨by decide +kernel, by decide +kernel, by decide +kernel⟩⟩
end
