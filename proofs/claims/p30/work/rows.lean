section
-- ===== PART A: goes FIRST, ahead of the names: the tables' words, and 'selects' of the private methods out of them =====
/-- a private method of a class that the tables say can be made, by its rows of tables_1 -/
def lw_okq (q : MethodName × Nat) : Prop := (q.1.cls ≠ "java/lang/invoke/MethodHandle" ∧ q.1.cls ≠ "java/lang/invoke/VarHandle") ∧ Cond.instantiable q.1.cls q.2 ∈ tables_1 ∧ Cond.privateMethod q.1 ∈ tables_1 ∧ Cond.instanceMethod q.1 ∈ tables_1
theorem lw_p0 : lw_okq (⟨"RustTiles$Game", "makeTiles", "()V"⟩, 13) := ⟨⟨by decide +kernel, by decide +kernel⟩, List.mem_of_getElem? (i := 26) (by decide +kernel), List.mem_of_getElem? (i := 157) (by decide +kernel), List.mem_of_getElem? (i := 158) (by decide +kernel)⟩
theorem lw_p1 : lw_okq (⟨"RustTiles$Game", "makeRows", "()V"⟩, 13) := ⟨⟨by decide +kernel, by decide +kernel⟩, List.mem_of_getElem? (i := 26) (by decide +kernel), List.mem_of_getElem? (i := 165) (by decide +kernel), List.mem_of_getElem? (i := 166) (by decide +kernel)⟩
theorem lw_p2 : lw_okq (⟨"RustTiles$Game", "orderStock", "(I)V"⟩, 13) := ⟨⟨by decide +kernel, by decide +kernel⟩, List.mem_of_getElem? (i := 26) (by decide +kernel), List.mem_of_getElem? (i := 169) (by decide +kernel), List.mem_of_getElem? (i := 170) (by decide +kernel)⟩
theorem lw_p3 : lw_okq (⟨"RustTiles$Game", "insertInOrder", "(II)V"⟩, 13) := ⟨⟨by decide +kernel, by decide +kernel⟩, List.mem_of_getElem? (i := 26) (by decide +kernel), List.mem_of_getElem? (i := 173) (by decide +kernel), List.mem_of_getElem? (i := 174) (by decide +kernel)⟩
theorem lw_p4 : lw_okq (⟨"RustTiles$Game", "deal", "()V"⟩, 13) := ⟨⟨by decide +kernel, by decide +kernel⟩, List.mem_of_getElem? (i := 26) (by decide +kernel), List.mem_of_getElem? (i := 181) (by decide +kernel), List.mem_of_getElem? (i := 182) (by decide +kernel)⟩
theorem lw_p5 : lw_okq (⟨"RustTiles$Game", "takeFromStock", "(I)I"⟩, 13) := ⟨⟨by decide +kernel, by decide +kernel⟩, List.mem_of_getElem? (i := 26) (by decide +kernel), List.mem_of_getElem? (i := 185) (by decide +kernel), List.mem_of_getElem? (i := 186) (by decide +kernel)⟩
theorem lw_p6 : lw_okq (⟨"java/lang/Throwable", "fillInStackTrace", "(I)Ljava/lang/Throwable;"⟩, 6) := ⟨⟨by decide +kernel, by decide +kernel⟩, List.mem_of_getElem? (i := 255) (by decide +kernel), List.mem_of_getElem? (i := 253) (by decide +kernel), List.mem_of_getElem? (i := 254) (by decide +kernel)⟩
theorem lw_p7 : lw_okq (⟨"RustTiles$Game", "tallied", "(I)I"⟩, 13) := ⟨⟨by decide +kernel, by decide +kernel⟩, List.mem_of_getElem? (i := 26) (by decide +kernel), List.mem_of_getElem? (i := 334) (by decide +kernel), List.mem_of_getElem? (i := 335) (by decide +kernel)⟩
theorem lw_p8 : lw_okq (⟨"RustTiles$Game", "winner", "()I"⟩, 13) := ⟨⟨by decide +kernel, by decide +kernel⟩, List.mem_of_getElem? (i := 26) (by decide +kernel), List.mem_of_getElem? (i := 338) (by decide +kernel), List.mem_of_getElem? (i := 339) (by decide +kernel)⟩
theorem lw_p9 : lw_okq (⟨"RustTiles$Game", "sumOf", "(I)I"⟩, 13) := ⟨⟨by decide +kernel, by decide +kernel⟩, List.mem_of_getElem? (i := 26) (by decide +kernel), List.mem_of_getElem? (i := 346) (by decide +kernel), List.mem_of_getElem? (i := 347) (by decide +kernel)⟩
theorem lw_p10 : lw_okq (⟨"RustTiles$Game", "gradesHeld", "(I)I"⟩, 13) := ⟨⟨by decide +kernel, by decide +kernel⟩, List.mem_of_getElem? (i := 26) (by decide +kernel), List.mem_of_getElem? (i := 350) (by decide +kernel), List.mem_of_getElem? (i := 351) (by decide +kernel)⟩
theorem lw_p11 : lw_okq (⟨"RustTiles$Game", "gradesOf", "(I)I"⟩, 13) := ⟨⟨by decide +kernel, by decide +kernel⟩, List.mem_of_getElem? (i := 26) (by decide +kernel), List.mem_of_getElem? (i := 354) (by decide +kernel), List.mem_of_getElem? (i := 355) (by decide +kernel)⟩
theorem lw_p12 : lw_okq (⟨"RustTiles$Game", "fits", "(III)Z"⟩, 13) := ⟨⟨by decide +kernel, by decide +kernel⟩, List.mem_of_getElem? (i := 26) (by decide +kernel), List.mem_of_getElem? (i := 424) (by decide +kernel), List.mem_of_getElem? (i := 425) (by decide +kernel)⟩
theorem lw_p13 : lw_okq (⟨"RustTiles$Game", "takeFromHand", "(II)I"⟩, 13) := ⟨⟨by decide +kernel, by decide +kernel⟩, List.mem_of_getElem? (i := 26) (by decide +kernel), List.mem_of_getElem? (i := 428) (by decide +kernel), List.mem_of_getElem? (i := 429) (by decide +kernel)⟩
theorem lw_p14 : lw_okq (⟨"RustTiles$Game", "putAtEnd", "(III)V"⟩, 13) := ⟨⟨by decide +kernel, by decide +kernel⟩, List.mem_of_getElem? (i := 26) (by decide +kernel), List.mem_of_getElem? (i := 432) (by decide +kernel), List.mem_of_getElem? (i := 433) (by decide +kernel)⟩
theorem lw_p15 : lw_okq (⟨"RustTiles$Game", "endTurn", "()I"⟩, 13) := ⟨⟨by decide +kernel, by decide +kernel⟩, List.mem_of_getElem? (i := 26) (by decide +kernel), List.mem_of_getElem? (i := 436) (by decide +kernel), List.mem_of_getElem? (i := 437) (by decide +kernel)⟩
def lw_privs_1 : List (MethodName × Nat) := [(⟨"RustTiles$Game", "makeTiles", "()V"⟩, 13), (⟨"RustTiles$Game", "makeRows", "()V"⟩, 13), (⟨"RustTiles$Game", "orderStock", "(I)V"⟩, 13), (⟨"RustTiles$Game", "insertInOrder", "(II)V"⟩, 13), (⟨"RustTiles$Game", "deal", "()V"⟩, 13), (⟨"RustTiles$Game", "takeFromStock", "(I)I"⟩, 13), (⟨"java/lang/Throwable", "fillInStackTrace", "(I)Ljava/lang/Throwable;"⟩, 6), (⟨"RustTiles$Game", "tallied", "(I)I"⟩, 13), (⟨"RustTiles$Game", "winner", "()I"⟩, 13), (⟨"RustTiles$Game", "sumOf", "(I)I"⟩, 13), (⟨"RustTiles$Game", "gradesHeld", "(I)I"⟩, 13), (⟨"RustTiles$Game", "gradesOf", "(I)I"⟩, 13), (⟨"RustTiles$Game", "fits", "(III)Z"⟩, 13), (⟨"RustTiles$Game", "takeFromHand", "(II)I"⟩, 13), (⟨"RustTiles$Game", "putAtEnd", "(III)V"⟩, 13), (⟨"RustTiles$Game", "endTurn", "()I"⟩, 13)]
theorem lw_r1 : ∀ q ∈ lw_privs_1, lw_okq q := List.forall_mem_cons.mpr ⟨lw_p0, List.forall_mem_cons.mpr ⟨lw_p1, List.forall_mem_cons.mpr ⟨lw_p2, List.forall_mem_cons.mpr ⟨lw_p3, List.forall_mem_cons.mpr ⟨lw_p4, List.forall_mem_cons.mpr ⟨lw_p5, List.forall_mem_cons.mpr ⟨lw_p6, List.forall_mem_cons.mpr ⟨lw_p7, List.forall_mem_cons.mpr ⟨lw_p8, List.forall_mem_cons.mpr ⟨lw_p9, List.forall_mem_cons.mpr ⟨lw_p10, List.forall_mem_cons.mpr ⟨lw_p11, List.forall_mem_cons.mpr ⟨lw_p12, List.forall_mem_cons.mpr ⟨lw_p13, List.forall_mem_cons.mpr ⟨lw_p14, List.forall_mem_cons.mpr ⟨lw_p15, fun _ h => absurd h List.not_mem_nil⟩⟩⟩⟩⟩⟩⟩⟩⟩⟩⟩⟩⟩⟩⟩⟩
theorem lw_p16 : lw_okq (⟨"RustTiles$Game", "ageHand", "(I)V"⟩, 13) := ⟨⟨by decide +kernel, by decide +kernel⟩, List.mem_of_getElem? (i := 26) (by decide +kernel), List.mem_of_getElem? (i := 440) (by decide +kernel), List.mem_of_getElem? (i := 441) (by decide +kernel)⟩
theorem lw_p17 : lw_okq (⟨"RustTiles$Game", "rust", "(II)V"⟩, 13) := ⟨⟨by decide +kernel, by decide +kernel⟩, List.mem_of_getElem? (i := 26) (by decide +kernel), List.mem_of_getElem? (i := 444) (by decide +kernel), List.mem_of_getElem? (i := 445) (by decide +kernel)⟩
theorem lw_p18 : lw_okq (⟨"RustTiles$Game", "fitsSomewhere", "(I)Z"⟩, 13) := ⟨⟨by decide +kernel, by decide +kernel⟩, List.mem_of_getElem? (i := 26) (by decide +kernel), List.mem_of_getElem? (i := 488) (by decide +kernel), List.mem_of_getElem? (i := 489) (by decide +kernel)⟩
theorem lw_p19 : lw_okq (⟨"RustTiles$Game", "isBetter", "(II)Z"⟩, 13) := ⟨⟨by decide +kernel, by decide +kernel⟩, List.mem_of_getElem? (i := 26) (by decide +kernel), List.mem_of_getElem? (i := 492) (by decide +kernel), List.mem_of_getElem? (i := 493) (by decide +kernel)⟩
theorem lw_p20 : lw_okq (⟨"RustTiles", "requirePlayer", "(I)V"⟩, 5) := ⟨⟨by decide +kernel, by decide +kernel⟩, List.mem_of_getElem? (i := 18) (by decide +kernel), List.mem_of_getElem? (i := 513) (by decide +kernel), List.mem_of_getElem? (i := 514) (by decide +kernel)⟩
theorem lw_p21 : lw_okq (⟨"RustTiles$Game", "endsOpenTo", "(I)I"⟩, 13) := ⟨⟨by decide +kernel, by decide +kernel⟩, List.mem_of_getElem? (i := 26) (by decide +kernel), List.mem_of_getElem? (i := 541) (by decide +kernel), List.mem_of_getElem? (i := 542) (by decide +kernel)⟩
theorem lw_p22 : lw_okq (⟨"RustTiles$Game", "canLayAt", "(III)Z"⟩, 13) := ⟨⟨by decide +kernel, by decide +kernel⟩, List.mem_of_getElem? (i := 26) (by decide +kernel), List.mem_of_getElem? (i := 545) (by decide +kernel), List.mem_of_getElem? (i := 546) (by decide +kernel)⟩
theorem lw_p23 : lw_okq (⟨"RustTiles$Trains", "isTooLarge", "()Z"⟩, 3) := ⟨⟨by decide +kernel, by decide +kernel⟩, List.mem_of_getElem? (i := 96) (by decide +kernel), List.mem_of_getElem? (i := 598) (by decide +kernel), List.mem_of_getElem? (i := 599) (by decide +kernel)⟩
theorem lw_p24 : lw_okq (⟨"RustTiles$Trains", "goOnFrom", "(I)V"⟩, 3) := ⟨⟨by decide +kernel, by decide +kernel⟩, List.mem_of_getElem? (i := 96) (by decide +kernel), List.mem_of_getElem? (i := 602) (by decide +kernel), List.mem_of_getElem? (i := 603) (by decide +kernel)⟩
theorem lw_p25 : lw_okq (⟨"RustTiles$Trains", "openBehind", "(II)I"⟩, 3) := ⟨⟨by decide +kernel, by decide +kernel⟩, List.mem_of_getElem? (i := 96) (by decide +kernel), List.mem_of_getElem? (i := 606) (by decide +kernel), List.mem_of_getElem? (i := 607) (by decide +kernel)⟩
theorem lw_p26 : lw_okq (⟨"RustTiles$Trains", "hangsTogetherWith", "(I)Z"⟩, 3) := ⟨⟨by decide +kernel, by decide +kernel⟩, List.mem_of_getElem? (i := 96) (by decide +kernel), List.mem_of_getElem? (i := 629) (by decide +kernel), List.mem_of_getElem? (i := 630) (by decide +kernel)⟩
theorem lw_p27 : lw_okq (⟨"RustTiles$Trains", "oddGradesAllow", "(I)Z"⟩, 3) := ⟨⟨by decide +kernel, by decide +kernel⟩, List.mem_of_getElem? (i := 96) (by decide +kernel), List.mem_of_getElem? (i := 633) (by decide +kernel), List.mem_of_getElem? (i := 634) (by decide +kernel)⟩
def lw_privs_2 : List (MethodName × Nat) := [(⟨"RustTiles$Game", "ageHand", "(I)V"⟩, 13), (⟨"RustTiles$Game", "rust", "(II)V"⟩, 13), (⟨"RustTiles$Game", "fitsSomewhere", "(I)Z"⟩, 13), (⟨"RustTiles$Game", "isBetter", "(II)Z"⟩, 13), (⟨"RustTiles", "requirePlayer", "(I)V"⟩, 5), (⟨"RustTiles$Game", "endsOpenTo", "(I)I"⟩, 13), (⟨"RustTiles$Game", "canLayAt", "(III)Z"⟩, 13), (⟨"RustTiles$Trains", "isTooLarge", "()Z"⟩, 3), (⟨"RustTiles$Trains", "goOnFrom", "(I)V"⟩, 3), (⟨"RustTiles$Trains", "openBehind", "(II)I"⟩, 3), (⟨"RustTiles$Trains", "hangsTogetherWith", "(I)Z"⟩, 3), (⟨"RustTiles$Trains", "oddGradesAllow", "(I)Z"⟩, 3)]
theorem lw_r2 : ∀ q ∈ lw_privs_2, lw_okq q := List.forall_mem_cons.mpr ⟨lw_p16, List.forall_mem_cons.mpr ⟨lw_p17, List.forall_mem_cons.mpr ⟨lw_p18, List.forall_mem_cons.mpr ⟨lw_p19, List.forall_mem_cons.mpr ⟨lw_p20, List.forall_mem_cons.mpr ⟨lw_p21, List.forall_mem_cons.mpr ⟨lw_p22, List.forall_mem_cons.mpr ⟨lw_p23, List.forall_mem_cons.mpr ⟨lw_p24, List.forall_mem_cons.mpr ⟨lw_p25, List.forall_mem_cons.mpr ⟨lw_p26, List.forall_mem_cons.mpr ⟨lw_p27, fun _ h => absurd h List.not_mem_nil⟩⟩⟩⟩⟩⟩⟩⟩⟩⟩⟩⟩
def lw_privs : List (MethodName × Nat) := lw_privs_1 ++ (lw_privs_2)
def lw_tbl : List Cond := k2_sels lw_privs ++ tables_1
theorem lw_privs_ok : ∀ q ∈ lw_privs, lw_okq q := by
  show ∀ q ∈ lw_privs_1 ++ (lw_privs_2), lw_okq q
  exact List.forall_mem_append.mpr ⟨lw_r1, lw_r2⟩
/-- the streams that the claim lets the run draw from -/
abbrev lw_cs : List Choice := [Jvm.Choice.named "NaN.bits"]
theorem lw_bits : nanBits ∈ lw_cs := by first | decide | exact List.mem_cons_self | simp [lw_cs, nanBits]
-- ===== end of PART A; then your names; then what follows =====
/-! ===== BEGIN words of one list among another's, by their places ===== -/
theorem goodIn_r {big : List Cond} (ws : List Cond) (ps : List Nat) (hp : ws = ps.filterMap (fun i => big[i]?)) (h : ws.all goodWord = true) : GoodIn big ws := by
  intro w hw
  have h1 := List.all_eq_true.mp h w hw
  rw [hp] at hw
  obtain ⟨i, -, hi⟩ := List.mem_filterMap.mp hw
  have hm : w ∈ big := by first | exact List.mem_of_getElem? hi | exact List.getElem?_mem hi
  exact ⟨hm, good_of_word h1⟩
theorem goodIn_app {big a b : List Cond} (ha : GoodIn big a) (hb : GoodIn big b) : GoodIn big (a ++ b) := fun w h => (List.mem_append.mp h).elim (ha w) (hb w)
theorem goodIn_ca {big a b : List Cond} {c : Cond} (ha : GoodIn big (c :: a)) (hb : GoodIn big b) : GoodIn big (c :: (a ++ b)) := fun w h => (List.mem_cons.mp h).elim (fun e => ha w (List.mem_cons.mpr (Or.inl e))) (fun h => (List.mem_append.mp h).elim (fun h => ha w (List.mem_cons.mpr (Or.inr h))) (hb w))
theorem goodIn_sub {big ws : List Cond} (hm : ∀ w ∈ ws, w ∈ big) (h : ws.all goodWord = true) : GoodIn big ws := fun w hw => ⟨hm w hw, good_of_word (List.all_eq_true.mp h w hw)⟩
/-! ===== END ===== -/

/-! ===== BEGIN exceptions that leave a method, and their catching by the caller (launches without stack traces) ===== -/
section VXA
/-! The laws vx_back, vx_callV, vx_callS, vx_callSW, vx_throw0, vx_throwS follow proofs of the library, with one case more: JvmDerived/Free/Laws.lean (Back.of_free), Shelf42/LK1.lean (callV, callS), Shelf/KitTraced.lean (throwNew0V, throwNewS). -/
/-- where a method has thrown q: the class by its name, the cell, what was written, the world -/
def vx_T (XC : String → State → State → Prop) (st : State) (q : Addr) (t : State) (mc ms : Nat) (free : Addr → Prop) : Prop :=
  ∃ (E : String) (ce : Cell) (L : List Loc), XC E st t ∧ t.heap[q]? = some ce ∧ ce.vm = .none ∧ st.vm.findClass E = some ce.cls ∧ st.WarmedH t.vm ∧ st.sameButNew ({ t with vm := st.vm } : State) L mc ms ∧ ∀ z ∈ L, free z.base
def vx_Q (Qc : Array Value → State → Outcome → State → Prop) (XC : String → State → State → Prop) (mc ms : Nat) (free : Addr → Prop) : Array Value → State → Outcome → State → Prop := fun a st o t =>
  (Qc a st o t ∧ ∃ L, FrameEnd st o t L mc ms ∧ ∀ q ∈ L, free q.base) ∨ ∃ q, o = .threw q ∧ vx_T XC st q t mc ms free
/-- a callee that returns or throws -/
def vx_Met (l : Launch) (y : MethodName) (ws : List Cond) (rm : Room) (Pc : Array Value → State → Prop) (Qc : Array Value → State → Outcome → State → Prop) (XC : String → State → State → Prop) (mc ms : Nat) (free : Addr → Prop) : Prop :=
  MetFree l y (headSpec ws rm) Pc (fun _ _ _ _ _ => True) (vx_Q Qc XC mc ms free)
def vx_Post (XC : String → State → State → Prop) (mc ms : Nat) (free : Addr → Prop) : Pt → Array Value → Addr → Pt → Prop := fun A a q B =>
  ∃ (g : JFrame) (mk : MethodId) (t : State) (L : List Loc) (E : String) (ce : Cell), B.U.heap = t.heap ∧ B.U.vm = t.vm ∧ XC E (A.U.calling g mk a) t ∧ t.heap[q]? = some ce ∧ ce.vm = .none ∧ A.U.vm.findClass E = some ce.cls ∧ B.locs = A.locs ++ L ∧ (∀ z ∈ L, free z.base) ∧ B.cells = A.cells + mc ∧ B.slots = A.slots + ms
def vx_Back (l : Launch) (R : Room) (p : Program) (e : Env) (below : List Frame) (s : State) (sargs : Array Value) (y : MethodName) (len W9 : Nat)
    (Pre : Pt → Array Value → Prop) (Post : Pt → Array Value → Option Value → Pt → Prop) (PostX : Pt → Array Value → Addr → Pt → Prop) : Prop :=
  ∀ (m : MethodId) (meth : Method) (c : Code) (A : Pt) (g : JFrame) (ig : Instr) (mk : MethodId) (a : Array Value),
    Stand p l e R s m sargs below meth c A.U A.locs A.cells A.slots → g.method = m → g.locals.size = c.maxLocals → decode c.code g.pc = .ok (ig, len) →
    2 * g.monitorRoom + (g.stack.map fun v => v.category).sum ≤ W9 → A.U.methodNamed? y = some mk → Pre A a →
    (∃ (v : Option Value) (B : Pt), Stand p l e R s m sargs below meth c B.U B.locs B.cells B.slots ∧ Post A a v B ∧
      Steps p.tables e below (doInvoke e (A.U.setTop g) [] mk a).1 (B.U.setTop { g with pc := g.pc + len, stack := v.toList ++ g.stack })) ∨
    (∃ (q : Addr) (B : Pt), Stand p l e R s m sargs below meth c B.U B.locs B.cells B.slots ∧ PostX A a q B ∧
      Steps p.tables e below (doInvoke e (A.U.setTop g) [] mk a).1 ((B.U.setTop g).pushFrame (.throwing q)))
section Payer
variable {l : Launch} {R : Room} {p : Program} {e : Env} {below : List Frame} {s : State} {sargs : Array Value} {y : MethodName} {len W9 : Nat}
theorem vx_back {ws : List Cond} {rm : Room} {Pc : Array Value → State → Prop} {Qc : Array Value → State → Outcome → State → Prop} {XC : String → State → State → Prop} {mc ms : Nat} {free : Addr → Prop} {bytes : ByteArray} {maxL : Nat} {ret : Option FieldType}
    (hM : vx_Met l y ws rm Pc Qc XC mc ms free) (hblind : FrameBlind Pc) (hrc : rm.cells = mc) (hrs : rm.slots = ms)
    (hframes : rm.frames + 1 ≤ R.frames) (hlocals : W9 + (maxL + 11) + rm.locals ≤ R.locals)
    (hws : ∀ w ∈ ws, ∀ a' U, s.WarmedH U.vm → w.before a' U = true) (hcode : Cond.code y bytes maxL ret ∈ ws) (hinit : ∀ a' U, s.WarmedH U.vm → (Cond.initialized y.cls).before a' U = true) :
    vx_Back l R p e below s sargs y len W9 (PreOf R mc ms Pc) (PostOf Qc mc ms free) (vx_Post XC mc ms free) := by
  intro m meth c A g ig mk a X hg hsize hdg hW hn hp
  have h1 : (headSpec ws rm).pre.before a A.U = true := atoms_intro fun w hw => hws w hw _ _ X.warmed
  have h2 : (Cond.code y bytes maxL ret).before a A.U = true := hws _ hcode _ _ X.warmed
  have h3 : (Cond.initialized y.cls).before a A.U = true := hinit _ _ X.warmed
  have h4 : A.cells + (headSpec ws rm).room.cells ≤ R.cells := by rw [show (headSpec ws rm).room.cells = mc from hrc]; exact hp.1
  have h5 : A.slots + (headSpec ws rm).room.slots ≤ R.slots := by rw [show (headSpec ws rm).room.slots = ms from hrs]; exact hp.2.1
  have hPc : Pc a (A.U.calling g mk a) := hblind _ _ _ _ hp.2.2
  obtain ⟨U, Ls, c0, s0⟩ := A
  dsimp only [Pt.U, Pt.locs, Pt.cells, Pt.slots] at h1 h2 h3 h4 h5 X hn hPc ⊢
  obtain ⟨methY, cY, hmY, hcY, -, hlY, -, -, -, -⟩ := Cond.code_spec hn h2
  obtain ⟨kY, hkY, -⟩ := className_of_methodNamed hn
  have hinitY : kY.init = .initialized := Cond.initialized_spec (findClass_of_methodNamed hn) hkY h3
  have h : At U g.method c below := by rw [hg]; exact X.here
  have hlocals9 : W9 + (maxL + 11) + (headSpec ws rm).room.locals ≤ R.locals := hlocals
  have happ : (headSpec ws rm).appliesLoose y e.platform (U.calling g mk a) = true :=
    Spec.appliesLoose_calling (g := g) h hdg hn hkY hinitY
      (X.room_calling (g := g) (R' := (headSpec ws rm).room) hsize hmY hcY hframes (by rw [hlY]; omega) h4 h5) h1
  obtain ⟨mid, hmid⟩ := h.above
  have hfr : (U.setTop g).frames = (.java g :: mid) ++ below := by rw [State.frames_setTop' g h.top, hmid]; rfl
  obtain ⟨o, s₂, hsteps, -, hend, hq⟩ := Steps.callFree hM p X.admits X.cas X.clock (acts := []) hfr happ hPc trivial
  have hq' : vx_Q Qc XC mc ms free a (U.calling g mk a) o s₂ := hq
  rw [State.frames_setTop' g h.top] at hend
  obtain ⟨g₀, hg0⟩ := Option.isSome_iff_exists.mp h.top
  obtain ⟨r, hr⟩ := State.topJava?_eq_some.mp hg0
  have hr' : (({ U with heap := s₂.heap, slotsUsed := s₂.slotsUsed } : State).setVm s₂.vm).frames = .java g₀ :: r := hr
  rcases hq' with ⟨hqc, L, hfe, hL⟩ | ⟨q, rfl, E, ce, L, hx, hce, hcv, hcl, hW₂, hsm, hL⟩
  · obtain ⟨⟨v, rfl⟩, hW₂, e2, q2, q3, q4, q5, q6⟩ := id hfe
    have e3 : s₂ = ({ (U.calling g mk a).setFrames s₂.frames with heap := s₂.heap, slotsUsed := s₂.slotsUsed } : State).setVm s₂.vm := by
      have : s₂ = ({ s₂ with vm := (U.calling g mk a).vm } : State).setVm s₂.vm := rfl
      rw [e2] at this
      exact this
    obtain ⟨c₂, i₂, len₂, hc₂, hd₂, hf₂⟩ := hend
    have hW' : U.WarmedH s₂.vm := hW₂
    have hcc : c₂ = c := by
      have h1 : s₂.code? g.method = U.code? g.method := by
        rw [State.code?_eq, State.code?_eq, hW'.alike.method?]
      exact Option.some.inj (hc₂.symm.trans (h1.trans h.code))
    subst hcc
    have hlen : len₂ = len := by rw [hdg] at hd₂; cases hd₂; rfl
    subst hlen
    have hs₂ : s₂ = (({ U with heap := s₂.heap, slotsUsed := s₂.slotsUsed } : State).setVm s₂.vm).setTop { g with pc := g.pc + len₂, stack := v.toList ++ g.stack } := by
      refine e3.trans ?_
      rw [hf₂, State.calling_eq h.top, State.setFrames_setFrames, State.setTop_of_frames _ hr', hr]
      rfl
    have hsame : U.sameButNew ({ U with heap := s₂.heap, slotsUsed := s₂.slotsUsed } : State) L mc ms := by
      refine ⟨?_, q2, q3, q4, q5, q6⟩
      obtain ⟨t, ht, -⟩ := State.frames_cons hr
      show ({ U with heap := s₂.heap, slotsUsed := s₂.slotsUsed } : State) = { U.setFrames U.frames with heap := s₂.heap, slotsUsed := s₂.slotsUsed }
      rw [State.setFrames_self ht]
    subst hg
    refine Or.inl ⟨v, ⟨(({ U with heap := s₂.heap, slotsUsed := s₂.slotsUsed } : State).setVm s₂.vm), Ls ++ L, c0 + mc, s0 + ms⟩,
      ⟨X.admits, X.cas, X.clock, X.frames, X.room, X.hears, X.method, X.code, (X.here.setHeapUsed s₂.heap s₂.slotsUsed).setVm hW'.alike, X.tail, State.WarmedH.trans X.warmed hW', X.limits, X.bytes, X.same.trans (hsame.setVm s.vm)⟩,
      ⟨g, mk, s₂, L, rfl, rfl, hqc, rfl, hL, rfl, rfl⟩, ?_⟩
    show Steps p.tables e below _ ((({ U with heap := s₂.heap, slotsUsed := s₂.slotsUsed } : State).setVm s₂.vm).setTop { g with pc := g.pc + len₂, stack := v.toList ++ g.stack })
    rw [← hs₂]
    exact hsteps
  · obtain ⟨e2, q2, q3, q4, q5, q6⟩ := id hsm
    have e3 : s₂ = ({ (U.calling g mk a).setFrames s₂.frames with heap := s₂.heap, slotsUsed := s₂.slotsUsed } : State).setVm s₂.vm := by
      have : s₂ = ({ s₂ with vm := (U.calling g mk a).vm } : State).setVm s₂.vm := rfl
      rw [e2] at this
      exact this
    have hf₂ : s₂.frames = .throwing q :: .java g :: U.frames.tail := hend
    have hW' : U.WarmedH s₂.vm := hW₂
    have hs₂ : s₂ = ((({ U with heap := s₂.heap, slotsUsed := s₂.slotsUsed } : State).setVm s₂.vm).setTop g).pushFrame (.throwing q) := by
      refine e3.trans ?_
      rw [hf₂, State.calling_eq h.top, State.setFrames_setFrames, State.pushFrame, State.frames_setTop _ hr', State.setTop_of_frames _ hr', State.setFrames_setFrames, hr]
      rfl
    have hsame : U.sameButNew ({ U with heap := s₂.heap, slotsUsed := s₂.slotsUsed } : State) L mc ms := by
      refine ⟨?_, q2, q3, q4, q5, q6⟩
      obtain ⟨t, ht, -⟩ := State.frames_cons hr
      show ({ U with heap := s₂.heap, slotsUsed := s₂.slotsUsed } : State) = { U.setFrames U.frames with heap := s₂.heap, slotsUsed := s₂.slotsUsed }
      rw [State.setFrames_self ht]
    subst hg
    refine Or.inr ⟨q, ⟨(({ U with heap := s₂.heap, slotsUsed := s₂.slotsUsed } : State).setVm s₂.vm), Ls ++ L, c0 + mc, s0 + ms⟩,
      ⟨X.admits, X.cas, X.clock, X.frames, X.room, X.hears, X.method, X.code, (X.here.setHeapUsed s₂.heap s₂.slotsUsed).setVm hW'.alike, X.tail, State.WarmedH.trans X.warmed hW', X.limits, X.bytes, X.same.trans (hsame.setVm s.vm)⟩,
      ⟨g, mk, s₂, L, E, ce, rfl, rfl, hx, hce, hcv, hcl, rfl, hL, rfl, rfl⟩, ?_⟩
    show Steps p.tables e below _ (((({ U with heap := s₂.heap, slotsUsed := s₂.slotsUsed } : State).setVm s₂.vm).setTop g).pushFrame (.throwing q))
    rw [← hs₂]
    exact hsteps
end Payer
section Calls
variable {p : Program} {l : Launch} {e : Env} {R : Room} {s : State} {m : MethodId} {args : Array Value} {below : List Frame} {meth : Method} {c : Code} {T : State} {locs : List Loc} {cells slots : Nat}
theorem vx_callV (X : Stand p l e R s m args below meth c T locs cells slots) (hexec : p.tables.exec = Jvm.exec) {own C : String} {index : Nat} {y : MethodName} {bytes : ByteArray} {maxL : Nat} {ret : Option FieldType}
    (hown : s.vm.findClass own = some m.cls) (hlink : (Cond.methodLink own index y).before args s = true) (hinst : (Cond.instanceMethod y).before args s = true) (hsel : (Cond.selects C y y).before args s = true)
    (hcode : (Cond.code y bytes maxL ret).before args s = true) (hy : y.cls ≠ "java/lang/invoke/MethodHandle" ∧ y.cls ≠ "java/lang/invoke/VarHandle")
    {W9 : Nat} {Pre : Pt → Array Value → Prop} {Post : Pt → Array Value → Option Value → Pt → Prop} {PostX : Pt → Array Value → Addr → Pt → Prop} (hK : vx_Back l R p e below s args y 3 W9 Pre Post PostX)
    {b : Addr} {cellB : Cell} (hcell : T.heap[b]? = some cellB) (hobj : cellB.vm.isStatics = false) (hcls : s.vm.findClass C = some cellB.cls)
    {g : JFrame} (hg : g.method = m) (hsize : g.locals.size = c.maxLocals) {argsL rest : List Value} (hlen : ∀ sig, parseMethodDescriptor y.desc = some sig → argsL.length = sig.parameters.length)
    (hstack : g.stack = argsL.reverse ++ .ref b :: rest) (hW : 2 * g.monitorRoom + (rest.map fun v => v.category).sum ≤ W9) (hdg : decode c.code g.pc = .ok (.invokevirtual index, 3))
    (hpre : ∀ vm₁, s.WarmedH vm₁ → Pre ⟨T.setVm vm₁, locs, cells, slots⟩ (Value.ref b :: argsL).toArray) :
    (∃ (v : Option Value) (vm₁ : Vm) (B : Pt), s.WarmedH vm₁ ∧ Stand p l e R s m args below meth c B.U B.locs B.cells B.slots ∧ Post ⟨T.setVm vm₁, locs, cells, slots⟩ (Value.ref b :: argsL).toArray v B ∧
      ∀ target, Steps p.tables e below (B.U.setTop { g with pc := g.pc + 3, stack := v.toList ++ rest }) target → Steps p.tables e below (T.setTop g) target) ∨
    (∃ (q : Addr) (vm₁ : Vm) (B : Pt), s.WarmedH vm₁ ∧ Stand p l e R s m args below meth c B.U B.locs B.cells B.slots ∧ PostX ⟨T.setVm vm₁, locs, cells, slots⟩ (Value.ref b :: argsL).toArray q B ∧
      Steps p.tables e below (T.setTop g) ((B.U.setTop { g with stack := rest }).pushFrame (.throwing q))) := by
  obtain ⟨mk, methM, hnamed, hmethM, hstM, habM⟩ := Cond.instanceMethod_spec hinst
  obtain ⟨methM', cM, hmethM', -, -, -, -, -, -, hsigM⟩ := Cond.code_spec hnamed hcode
  cases hmethM.symm.trans hmethM'
  obtain ⟨c2, r2, m2, q1, q2, q3, q4, kP, hkP, hkPi⟩ := Cond.selects_spec hsel
  cases hcls.symm.trans q1
  cases (State.methodFound?_of_named hnamed hy).symm.trans q2
  cases hnamed.symm.trans q3
  have hselP : selectMethod e.platform s.vm cellB.cls mk = .method mk := by rw [Launch.admits_selectMethod X.admits]; exact q4
  obtain ⟨vm₁, X₁, hstep₁⟩ := X.invokevirtual hexec hown hlink hnamed hmethM hstM hkP hkPi hy (a := b) (cell := cellB) hcell
    (fun z h => by rw [h] at hobj; cases hobj) hselP hmethM habM hkP hkPi (g := g) hg (argsL := argsL) (rest := rest) (hlen _ hsigM) hstack hdg
  rcases hK m meth c ⟨T.setVm vm₁, locs, cells, slots⟩ { g with stack := rest } (.invokevirtual index) mk (Value.ref b :: argsL).toArray X₁ hg hsize hdg hW (X₁.named hnamed) (hpre vm₁ X₁.warmed) with ⟨v, B, X', hpost, hsteps⟩ | ⟨q, B, X', hpost, hsteps⟩
  · exact Or.inl ⟨v, vm₁, B, X₁.warmed, X', hpost, fun target h => hstep₁ _ fun acts => by rw [doInvoke_state]; exact hsteps.trans h⟩
  · exact Or.inr ⟨q, vm₁, B, X₁.warmed, X', hpost, hstep₁ _ fun acts => by rw [doInvoke_state]; exact hsteps⟩
theorem vx_callS (X : Stand p l e R s m args below meth c T locs cells slots) (hexec : p.tables.exec = Jvm.exec) {own : String} {index : Nat} {y : MethodName} {bytes : ByteArray} {maxL : Nat} {ret : Option FieldType}
    (hown : s.vm.findClass own = some m.cls) (hlink : (Cond.methodLink own index y).before args s = true) (hstat : (Cond.static y).before args s = true) (hinit : (Cond.initialized y.cls).before args s = true)
    (hcode : (Cond.code y bytes maxL ret).before args s = true) (hy : y.cls ≠ "java/lang/invoke/MethodHandle" ∧ y.cls ≠ "java/lang/invoke/VarHandle")
    {W9 : Nat} {Pre : Pt → Array Value → Prop} {Post : Pt → Array Value → Option Value → Pt → Prop} {PostX : Pt → Array Value → Addr → Pt → Prop} (hK : vx_Back l R p e below s args y 3 W9 Pre Post PostX)
    {g : JFrame} (hg : g.method = m) (hsize : g.locals.size = c.maxLocals) {argsL rest : List Value} (hlen : ∀ sig, parseMethodDescriptor y.desc = some sig → argsL.length = sig.parameters.length)
    (hstack : g.stack = argsL.reverse ++ rest) (hW : 2 * g.monitorRoom + (rest.map fun v => v.category).sum ≤ W9) (hdg : decode c.code g.pc = .ok (.invokestatic index, 3))
    (hpre : ∀ vm₁, s.WarmedH vm₁ → Pre ⟨T.setVm vm₁, locs, cells, slots⟩ argsL.toArray) :
    (∃ (v : Option Value) (vm₁ : Vm) (B : Pt), s.WarmedH vm₁ ∧ Stand p l e R s m args below meth c B.U B.locs B.cells B.slots ∧ Post ⟨T.setVm vm₁, locs, cells, slots⟩ argsL.toArray v B ∧
      ∀ target, Steps p.tables e below (B.U.setTop { g with pc := g.pc + 3, stack := v.toList ++ rest }) target → Steps p.tables e below (T.setTop g) target) ∨
    (∃ (q : Addr) (vm₁ : Vm) (B : Pt), s.WarmedH vm₁ ∧ Stand p l e R s m args below meth c B.U B.locs B.cells B.slots ∧ PostX ⟨T.setVm vm₁, locs, cells, slots⟩ argsL.toArray q B ∧
      Steps p.tables e below (T.setTop g) ((B.U.setTop { g with stack := rest }).pushFrame (.throwing q))) := by
  obtain ⟨mk, hnamed⟩ := Cond.code_named hcode
  obtain ⟨methM, cM, hmethM, -, -, -, -, -, -, hsigM⟩ := Cond.code_spec hnamed hcode
  have hstatic : methM.isStatic = true := Cond.static_spec hnamed hmethM hstat
  obtain ⟨kP, hkP, -⟩ := className_of_methodNamed hnamed
  have hinitP : kP.init = .initialized := Cond.initialized_spec (findClass_of_methodNamed hnamed) hkP hinit
  obtain ⟨vm₁, X₁, hstep₁⟩ := X.invokestatic hexec hown hlink hnamed hmethM hstatic hkP hinitP hy (g := g) hg (argsL := argsL) (rest := rest) (hlen _ hsigM) hstack hdg
  rcases hK m meth c ⟨T.setVm vm₁, locs, cells, slots⟩ { g with stack := rest } (.invokestatic index) mk argsL.toArray X₁ hg hsize hdg hW (X₁.named hnamed) (hpre vm₁ X₁.warmed) with ⟨v, B, X', hpost, hsteps⟩ | ⟨q, B, X', hpost, hsteps⟩
  · exact Or.inl ⟨v, vm₁, B, X₁.warmed, X', hpost, fun target h => hstep₁ _ fun acts => by rw [doInvoke_state]; exact hsteps.trans h⟩
  · exact Or.inr ⟨q, vm₁, B, X₁.warmed, X', hpost, hstep₁ _ fun acts => by rw [doInvoke_state]; exact hsteps⟩
end Calls
theorem vx_cls {s : State} {T : State} {vm₁ : Vm} {E : String} {k : ClassId} (hW : s.WarmedH vm₁) (h : (T.setVm vm₁).vm.findClass E = some k) : s.vm.findClass E = some k := by
  have h1 : vm₁.findClass E = some k := h
  rw [hW.alike.findClass] at h1
  exact h1
/-- the method's frame g, with q thrown over it -/
def vx_W (p : Program) (l : Launch) (e : Env) (R : Room) (s : State) (m : MethodId) (args : Array Value) (below : List Frame) (meth : Method) (c : Code) (H : Heap) (locs : List Loc) (cells slots : Nat) (Q : State → Prop) (g : JFrame) (q : Addr) : Prop :=
  ∀ T : State, T.heap = H → Stand p l e R s m args below meth c T locs cells slots → ∃ t, Steps p.tables e below ((T.setTop g).pushFrame (.throwing q)) t ∧ Q t
def vx_Run (p : Program) (l : Launch) (e : Env) (R : Room) (s : State) (m : MethodId) (args : Array Value) (below : List Frame) (meth : Method) (c : Code) (H : Heap) (locs : List Loc) (cells slots mc ms : Nat) (g : JFrame) (rest : List Value) (Qa : State → Outcome → State → Prop) (XC : String → State → State → Prop) (free : Addr → Prop) : Prop :=
  ∀ T : State, T.heap = H → Stand p l e R s m args below meth c T locs cells slots →
    (∃ (v : Option Value) (st₀ t T' : State) (L : List Loc), st₀.heap = H ∧ Stand p l e R s m args below meth c T' (locs ++ L) (cells + mc) (slots + ms) ∧ (∀ q ∈ L, free q.base) ∧ T'.heap = t.heap ∧ T'.vm = t.vm ∧ Qa st₀ (.returned v) t ∧
      Goes p e below T g T' { g with pc := g.pc + 3, stack := v.toList ++ rest }) ∨
    (∃ (q : Addr) (st₀ t T' : State) (L : List Loc) (E : String) (ce : Cell), st₀.heap = H ∧ Stand p l e R s m args below meth c T' (locs ++ L) (cells + mc) (slots + ms) ∧ (∀ z ∈ L, free z.base) ∧ T'.heap = t.heap ∧ T'.vm = t.vm ∧ XC E st₀ t ∧ t.heap[q]? = some ce ∧ ce.vm = .none ∧ s.vm.findClass E = some ce.cls ∧
      Steps p.tables e below (T.setTop g) ((T'.setTop { g with stack := rest }).pushFrame (.throwing q)))
def vx_X {S : Type} (px : S → Prop) (B : String → S → State → Prop) (A : Nat → Prop) : String → State → State → Prop := fun E st t => ∃ u : S, px u ∧ B E u t ∧ va_F A st t
section Runs
variable {p : Program} {l : Launch} {e : Env} {R : Room} {s : State} {m : MethodId} {args : Array Value} {below : List Frame} {meth : Method} {c : Code} {H : Heap} {locs : List Loc} {cells slots : Nat}
variable {y : MethodName} {bytes cc : ByteArray} {maxL nL mc ms n index : Nat} {ret : Option FieldType} {ws : List Cond} {rm : Room} {Pc : Array Value → State → Prop} {Qc : Array Value → State → Outcome → State → Prop} {XC : String → State → State → Prop} {free : Addr → Prop} {Ts : List Cond} {own C : String} {b : Addr} {As rest : List Value} {g : JFrame}
theorem vx_callBack (cb : CallB R s args own index y bytes maxL ret ws rm mc ms n) (hM : vx_Met l y ws rm Pc Qc XC mc ms free) (hbl : FrameBlind Pc) : vx_Back l R p e below s args y 3 8 (PreOf R mc ms Pc) (PostOf Qc mc ms free) (vx_Post XC mc ms free) := by
  obtain ⟨hrc, hrs, hfr, hlo, hws, hcw, -, hini, -⟩ := cb
  exact vx_back (bytes := bytes) (maxL := maxL) (ret := ret) hM hbl hrc hrs hfr hlo hws hcw (fun a' U hW => word_at hW (Or.inl (by first | rfl | simp [Cond.onTables, Cond.keeps, Cond.steady])) hini)
theorem vx_runV (S : CallFix p m c cc nL s args Ts own) (hM : vx_Met l y ws rm Pc Qc XC mc ms free) (cw : CallW R s args own C index y bytes maxL ret ws rm mc ms n) (hp : PreV s H C b Pc As)
    (hg : g.method = m) (hn : As.length = n) (hsize : g.locals.size = nL) (hstack : g.stack = As.reverse ++ .ref b :: rest) (hW : 2 * g.monitorRoom + (rest.map fun v => v.category).sum ≤ 8) (hdg : decode cc g.pc = .ok (.invokevirtual index, 3)) (hf : cells + mc ≤ R.cells ∧ slots + ms ≤ R.slots) :
    vx_Run p l e R s m args below meth c H locs cells slots mc ms g rest (Qc (Value.ref b :: As).toArray) XC free := by
  have hK : vx_Back l R p e below s args y 3 8 (PreOf R mc ms Pc) (PostOf Qc mc ms free) (vx_Post XC mc ms free) := vx_callBack cw.1 hM hp.1
  obtain ⟨⟨-, -, -, -, -, -, hcode, -, hy, hlen, hl⟩, hin, hse⟩ := cw
  obtain ⟨hx, hb, hml, ho, -⟩ := S
  obtain ⟨-, ⟨cellB, hcB, hoB, hclB⟩, hPc⟩ := hp
  intro T hT X
  rcases vx_callV X hx (C := C) (bytes := bytes) (maxL := maxL) (ret := ret) ho hl hin hse hcode hy hK (by rw [hT]; exact hcB) hoB hclB hg (hsize.trans hml.symm) (argsL := As) (rest := rest) (fun sig h => hn.trans (hlen sig h)) hstack hW (by rw [hb]; exact hdg)
    (fun vm₁ hW₁ => ⟨hf.1, hf.2, hPc (T.setVm vm₁) hT hW₁⟩) with ⟨v, vm₁, ⟨U', l2, c2, s2⟩, hW₁, X', ⟨g', mk, t, L, e1, e2, hq, h1, hL, h2, h3⟩, st⟩ | ⟨q, vm₁, ⟨U', l2, c2, s2⟩, hW₁, X', ⟨g', mk, t, L, E, ce, e1, e2, hq, hce, hcv, hcl, h1, hL, h2, h3⟩, st⟩
  · dsimp only [Pt.U, Pt.locs, Pt.cells, Pt.slots] at X' e1 e2 h1 h2 h3 st
    subst h1; subst h2; subst h3
    exact Or.inl ⟨v, (T.setVm vm₁).calling g' mk (Value.ref b :: As).toArray, t, U', L, hT, X', hL, e1, e2, hq, st⟩
  · dsimp only [Pt.U, Pt.locs, Pt.cells, Pt.slots] at X' e1 e2 h1 h2 h3 st hcl
    subst h1; subst h2; subst h3
    exact Or.inr ⟨q, (T.setVm vm₁).calling g' mk (Value.ref b :: As).toArray, t, U', L, E, ce, hT, X', hL, e1, e2, hq, hce, hcv, vx_cls hW₁ hcl, st⟩
theorem vx_runS (S : CallFix p m c cc nL s args Ts own) (hM : vx_Met l y ws rm Pc Qc XC mc ms free) (cw : CallB R s args own index y bytes maxL ret ws rm mc ms n ∧ (Cond.static y).before args s = true) (hp : PreS s H Pc As)
    (hg : g.method = m) (hn : As.length = n) (hsize : g.locals.size = nL) (hstack : g.stack = As.reverse ++ rest) (hW : 2 * g.monitorRoom + (rest.map fun v => v.category).sum ≤ 8) (hdg : decode cc g.pc = .ok (.invokestatic index, 3)) (hf : cells + mc ≤ R.cells ∧ slots + ms ≤ R.slots) :
    vx_Run p l e R s m args below meth c H locs cells slots mc ms g rest (Qc As.toArray) XC free := by
  have hK : vx_Back l R p e below s args y 3 8 (PreOf R mc ms Pc) (PostOf Qc mc ms free) (vx_Post XC mc ms free) := vx_callBack cw.1 hM hp.1
  obtain ⟨⟨-, -, -, -, -, -, hcode, hini, hy, hlen, hl⟩, hstt⟩ := cw
  obtain ⟨hx, hb, hml, ho, -⟩ := S
  intro T hT X
  rcases vx_callS X hx (bytes := bytes) (maxL := maxL) (ret := ret) ho hl hstt hini hcode hy hK hg (hsize.trans hml.symm) (argsL := As) (rest := rest) (fun sig h => hn.trans (hlen sig h)) hstack hW (by rw [hb]; exact hdg)
    (fun vm₁ hW₁ => ⟨hf.1, hf.2, hp.2 (T.setVm vm₁) hT hW₁⟩) with ⟨v, vm₁, ⟨U', l2, c2, s2⟩, hW₁, X', ⟨g', mk, t, L, e1, e2, hq, h1, hL, h2, h3⟩, st⟩ | ⟨q, vm₁, ⟨U', l2, c2, s2⟩, hW₁, X', ⟨g', mk, t, L, E, ce, e1, e2, hq, hce, hcv, hcl, h1, hL, h2, h3⟩, st⟩
  · dsimp only [Pt.U, Pt.locs, Pt.cells, Pt.slots] at X' e1 e2 h1 h2 h3 st
    subst h1; subst h2; subst h3
    exact Or.inl ⟨v, (T.setVm vm₁).calling g' mk As.toArray, t, U', L, hT, X', hL, e1, e2, hq, st⟩
  · dsimp only [Pt.U, Pt.locs, Pt.cells, Pt.slots] at X' e1 e2 h1 h2 h3 st hcl
    subst h1; subst h2; subst h3
    exact Or.inr ⟨q, (T.setVm vm₁).calling g' mk As.toArray, t, U', L, E, ce, hT, X', hL, e1, e2, hq, hce, hcv, vx_cls hW₁ hcl, st⟩
end Runs
section Rows
variable {p : Program} {l : Launch} {e : Env} {R : Room} {s : State} {m : MethodId} {args : Array Value} {below : List Frame} {meth : Method} {c : Code} {H : Heap} {locs : List Loc} {cells slots : Nat} {Q : State → Prop}
variable {mc ms : Nat} {free : Addr → Prop} {A0 A1 : Nat → Prop} {H0 : Heap} {a : Array Value} {pc : Nat} {ls : Array Slot} {st0 rest : List Value}
theorem vx_keep {st₀ t T' : State} {L : List Loc} (h0 : st₀.heap = H) (e1 : T'.heap = t.heap) (hS : va_S A0 H0 H locs) (hA : ∀ q, q < H.size → A1 q → A0 q) (hf : ∀ q, free q → A0 q) (hL : ∀ q ∈ L, free q.base) (hF : va_F A1 st₀ t) :
    H.size ≤ T'.heap.size ∧ (∀ q : Nat, q < H.size → ¬ A1 q → T'.heap[q]? = H[q]?) ∧ va_S A0 H0 T'.heap (locs ++ L) := by
  obtain ⟨hz, hk⟩ := hF
  rw [h0] at hz hk
  exact ⟨by rw [e1]; exact hz, fun q h1 h2 => by rw [e1]; exact hk q h1 h2,
    ⟨Nat.le_trans hS.1 (by rw [e1]; exact hz), fun q h1 h2 => by rw [e1, hk q (Nat.lt_of_lt_of_le h1 hS.1) (fun z => h2 (hA q (Nat.lt_of_lt_of_le h1 hS.1) z))]; exact hS.2.1 q h1 h2, fun q hq => by
      rcases List.mem_append.mp hq with h | h
      · exact hS.2.2 q h
      · exact hf _ (hL q h)⟩⟩
theorem vx_calli {S SX : Type} {post : Int32 → S → Prop} {px : SX → Prop} {B : S → State → Prop} {BX : String → SX → State → Prop} {AX : Nat → Prop} (hr : vx_Run p l e R s m args below meth c H locs cells slots mc ms (F0 m pc ls st0) rest (va_Qi post B A1 a) (vx_X px BX AX) free) (hS : va_S A0 H0 H locs) (hA : ∀ q, q < H.size → A1 q → A0 q) (hf : ∀ q, free q → A0 q) (hAX : ∀ q, q < H.size → AX q → A0 q)
    (kx : ∀ (E : String) (ce : Cell) (q9 : Addr) (u : SX) (t : State) (H1 : Heap) (locs1 : List Loc), t.heap = H1 → s.vm.Alike t.vm → px u → BX E u t → H.size ≤ H1.size → (∀ q : Nat, q < H.size → ¬ AX q → H1[q]? = H[q]?) → va_S A0 H0 H1 locs1 → H1[q9]? = some ce → ce.vm = .none → s.vm.findClass E = some ce.cls → vx_W p l e R s m args below meth c H1 locs1 (cells + mc) (slots + ms) Q (F0 m pc ls rest) q9)
    (kk : ∀ (r : Int32) (u : S) (t : State) (H1 : Heap) (locs1 : List Loc), t.heap = H1 → s.vm.Alike t.vm → post r u → B u t → H.size ≤ H1.size → (∀ q : Nat, q < H.size → ¬ A1 q → H1[q]? = H[q]?) → va_S A0 H0 H1 locs1 → W p l e R s m args below meth c H1 locs1 (cells + mc) (slots + ms) Q (F0 m (pc + 3) ls (.int r :: rest))) : W p l e R s m args below meth c H locs cells slots Q (F0 m pc ls st0) := by
  intro T hT X
  rcases hr T hT X with ⟨v, st₀, t, T', L, h0, X', hL, e1, e2, ⟨⟨r, u, hv, hp, hb⟩, hF⟩, st⟩ | ⟨q, st₀, t, T', L, E, ce, h0, X', hL, e1, e2, ⟨u, hp, hb, hF⟩, hce, hcv, hcl, st⟩
  · cases hv
    obtain ⟨k1, k2, k3⟩ := vx_keep h0 e1 hS hA hf hL hF
    obtain ⟨t2, a1, b1⟩ := kk r u t T'.heap (locs ++ L) e1.symm (by rw [← e2]; exact X'.warmed.alike) hp hb k1 k2 k3 T' rfl X'
    exact ⟨t2, st t2 a1, b1⟩
  · obtain ⟨k1, k2, k3⟩ := vx_keep h0 e1 hS hAX hf hL hF
    obtain ⟨t2, a1, b1⟩ := kx E ce q u t T'.heap (locs ++ L) e1.symm (by rw [← e2]; exact X'.warmed.alike) hp hb k1 k2 k3 (by rw [e1]; exact hce) hcv hcl T' rfl X'
    exact ⟨t2, st.trans a1, b1⟩
theorem vx_calll {S SX : Type} {post : Int64 → S → Prop} {px : SX → Prop} {B : S → State → Prop} {BX : String → SX → State → Prop} {AX : Nat → Prop} (hr : vx_Run p l e R s m args below meth c H locs cells slots mc ms (F0 m pc ls st0) rest (va_Ql post B A1 a) (vx_X px BX AX) free) (hS : va_S A0 H0 H locs) (hA : ∀ q, q < H.size → A1 q → A0 q) (hf : ∀ q, free q → A0 q) (hAX : ∀ q, q < H.size → AX q → A0 q)
    (kx : ∀ (E : String) (ce : Cell) (q9 : Addr) (u : SX) (t : State) (H1 : Heap) (locs1 : List Loc), t.heap = H1 → s.vm.Alike t.vm → px u → BX E u t → H.size ≤ H1.size → (∀ q : Nat, q < H.size → ¬ AX q → H1[q]? = H[q]?) → va_S A0 H0 H1 locs1 → H1[q9]? = some ce → ce.vm = .none → s.vm.findClass E = some ce.cls → vx_W p l e R s m args below meth c H1 locs1 (cells + mc) (slots + ms) Q (F0 m pc ls rest) q9)
    (kk : ∀ (r : Int64) (u : S) (t : State) (H1 : Heap) (locs1 : List Loc), t.heap = H1 → s.vm.Alike t.vm → post r u → B u t → H.size ≤ H1.size → (∀ q : Nat, q < H.size → ¬ A1 q → H1[q]? = H[q]?) → va_S A0 H0 H1 locs1 → W p l e R s m args below meth c H1 locs1 (cells + mc) (slots + ms) Q (F0 m (pc + 3) ls (.long r :: rest))) : W p l e R s m args below meth c H locs cells slots Q (F0 m pc ls st0) := by
  intro T hT X
  rcases hr T hT X with ⟨v, st₀, t, T', L, h0, X', hL, e1, e2, ⟨⟨r, u, hv, hp, hb⟩, hF⟩, st⟩ | ⟨q, st₀, t, T', L, E, ce, h0, X', hL, e1, e2, ⟨u, hp, hb, hF⟩, hce, hcv, hcl, st⟩
  · cases hv
    obtain ⟨k1, k2, k3⟩ := vx_keep h0 e1 hS hA hf hL hF
    obtain ⟨t2, a1, b1⟩ := kk r u t T'.heap (locs ++ L) e1.symm (by rw [← e2]; exact X'.warmed.alike) hp hb k1 k2 k3 T' rfl X'
    exact ⟨t2, st t2 a1, b1⟩
  · obtain ⟨k1, k2, k3⟩ := vx_keep h0 e1 hS hAX hf hL hF
    obtain ⟨t2, a1, b1⟩ := kx E ce q u t T'.heap (locs ++ L) e1.symm (by rw [← e2]; exact X'.warmed.alike) hp hb k1 k2 k3 (by rw [e1]; exact hce) hcv hcl T' rfl X'
    exact ⟨t2, st.trans a1, b1⟩
theorem vx_callf {S SX : Type} {post : UInt32 → S → Prop} {px : SX → Prop} {B : S → State → Prop} {BX : String → SX → State → Prop} {AX : Nat → Prop} (hr : vx_Run p l e R s m args below meth c H locs cells slots mc ms (F0 m pc ls st0) rest (va_Qf post B A1 a) (vx_X px BX AX) free) (hS : va_S A0 H0 H locs) (hA : ∀ q, q < H.size → A1 q → A0 q) (hf : ∀ q, free q → A0 q) (hAX : ∀ q, q < H.size → AX q → A0 q)
    (kx : ∀ (E : String) (ce : Cell) (q9 : Addr) (u : SX) (t : State) (H1 : Heap) (locs1 : List Loc), t.heap = H1 → s.vm.Alike t.vm → px u → BX E u t → H.size ≤ H1.size → (∀ q : Nat, q < H.size → ¬ AX q → H1[q]? = H[q]?) → va_S A0 H0 H1 locs1 → H1[q9]? = some ce → ce.vm = .none → s.vm.findClass E = some ce.cls → vx_W p l e R s m args below meth c H1 locs1 (cells + mc) (slots + ms) Q (F0 m pc ls rest) q9)
    (kk : ∀ (r : UInt32) (u : S) (t : State) (H1 : Heap) (locs1 : List Loc), t.heap = H1 → s.vm.Alike t.vm → post r u → B u t → H.size ≤ H1.size → (∀ q : Nat, q < H.size → ¬ A1 q → H1[q]? = H[q]?) → va_S A0 H0 H1 locs1 → W p l e R s m args below meth c H1 locs1 (cells + mc) (slots + ms) Q (F0 m (pc + 3) ls (.float r :: rest))) : W p l e R s m args below meth c H locs cells slots Q (F0 m pc ls st0) := by
  intro T hT X
  rcases hr T hT X with ⟨v, st₀, t, T', L, h0, X', hL, e1, e2, ⟨⟨r, u, hv, hp, hb⟩, hF⟩, st⟩ | ⟨q, st₀, t, T', L, E, ce, h0, X', hL, e1, e2, ⟨u, hp, hb, hF⟩, hce, hcv, hcl, st⟩
  · cases hv
    obtain ⟨k1, k2, k3⟩ := vx_keep h0 e1 hS hA hf hL hF
    obtain ⟨t2, a1, b1⟩ := kk r u t T'.heap (locs ++ L) e1.symm (by rw [← e2]; exact X'.warmed.alike) hp hb k1 k2 k3 T' rfl X'
    exact ⟨t2, st t2 a1, b1⟩
  · obtain ⟨k1, k2, k3⟩ := vx_keep h0 e1 hS hAX hf hL hF
    obtain ⟨t2, a1, b1⟩ := kx E ce q u t T'.heap (locs ++ L) e1.symm (by rw [← e2]; exact X'.warmed.alike) hp hb k1 k2 k3 (by rw [e1]; exact hce) hcv hcl T' rfl X'
    exact ⟨t2, st.trans a1, b1⟩
theorem vx_calld {S SX : Type} {post : UInt64 → S → Prop} {px : SX → Prop} {B : S → State → Prop} {BX : String → SX → State → Prop} {AX : Nat → Prop} (hr : vx_Run p l e R s m args below meth c H locs cells slots mc ms (F0 m pc ls st0) rest (va_Qd post B A1 a) (vx_X px BX AX) free) (hS : va_S A0 H0 H locs) (hA : ∀ q, q < H.size → A1 q → A0 q) (hf : ∀ q, free q → A0 q) (hAX : ∀ q, q < H.size → AX q → A0 q)
    (kx : ∀ (E : String) (ce : Cell) (q9 : Addr) (u : SX) (t : State) (H1 : Heap) (locs1 : List Loc), t.heap = H1 → s.vm.Alike t.vm → px u → BX E u t → H.size ≤ H1.size → (∀ q : Nat, q < H.size → ¬ AX q → H1[q]? = H[q]?) → va_S A0 H0 H1 locs1 → H1[q9]? = some ce → ce.vm = .none → s.vm.findClass E = some ce.cls → vx_W p l e R s m args below meth c H1 locs1 (cells + mc) (slots + ms) Q (F0 m pc ls rest) q9)
    (kk : ∀ (r : UInt64) (u : S) (t : State) (H1 : Heap) (locs1 : List Loc), t.heap = H1 → s.vm.Alike t.vm → post r u → B u t → H.size ≤ H1.size → (∀ q : Nat, q < H.size → ¬ A1 q → H1[q]? = H[q]?) → va_S A0 H0 H1 locs1 → W p l e R s m args below meth c H1 locs1 (cells + mc) (slots + ms) Q (F0 m (pc + 3) ls (.double r :: rest))) : W p l e R s m args below meth c H locs cells slots Q (F0 m pc ls st0) := by
  intro T hT X
  rcases hr T hT X with ⟨v, st₀, t, T', L, h0, X', hL, e1, e2, ⟨⟨r, u, hv, hp, hb⟩, hF⟩, st⟩ | ⟨q, st₀, t, T', L, E, ce, h0, X', hL, e1, e2, ⟨u, hp, hb, hF⟩, hce, hcv, hcl, st⟩
  · cases hv
    obtain ⟨k1, k2, k3⟩ := vx_keep h0 e1 hS hA hf hL hF
    obtain ⟨t2, a1, b1⟩ := kk r u t T'.heap (locs ++ L) e1.symm (by rw [← e2]; exact X'.warmed.alike) hp hb k1 k2 k3 T' rfl X'
    exact ⟨t2, st t2 a1, b1⟩
  · obtain ⟨k1, k2, k3⟩ := vx_keep h0 e1 hS hAX hf hL hF
    obtain ⟨t2, a1, b1⟩ := kx E ce q u t T'.heap (locs ++ L) e1.symm (by rw [← e2]; exact X'.warmed.alike) hp hb k1 k2 k3 (by rw [e1]; exact hce) hcv hcl T' rfl X'
    exact ⟨t2, st.trans a1, b1⟩
theorem vx_callv {S SX : Type} {post : S → Prop} {px : SX → Prop} {B : S → State → Prop} {BX : String → SX → State → Prop} {AX : Nat → Prop} (hr : vx_Run p l e R s m args below meth c H locs cells slots mc ms (F0 m pc ls st0) rest (va_Qv post B A1 a) (vx_X px BX AX) free) (hS : va_S A0 H0 H locs) (hA : ∀ q, q < H.size → A1 q → A0 q) (hf : ∀ q, free q → A0 q) (hAX : ∀ q, q < H.size → AX q → A0 q)
    (kx : ∀ (E : String) (ce : Cell) (q9 : Addr) (u : SX) (t : State) (H1 : Heap) (locs1 : List Loc), t.heap = H1 → s.vm.Alike t.vm → px u → BX E u t → H.size ≤ H1.size → (∀ q : Nat, q < H.size → ¬ AX q → H1[q]? = H[q]?) → va_S A0 H0 H1 locs1 → H1[q9]? = some ce → ce.vm = .none → s.vm.findClass E = some ce.cls → vx_W p l e R s m args below meth c H1 locs1 (cells + mc) (slots + ms) Q (F0 m pc ls rest) q9)
    (kk : ∀ (u : S) (t : State) (H1 : Heap) (locs1 : List Loc), t.heap = H1 → s.vm.Alike t.vm → post u → B u t → H.size ≤ H1.size → (∀ q : Nat, q < H.size → ¬ A1 q → H1[q]? = H[q]?) → va_S A0 H0 H1 locs1 → W p l e R s m args below meth c H1 locs1 (cells + mc) (slots + ms) Q (F0 m (pc + 3) ls (rest))) : W p l e R s m args below meth c H locs cells slots Q (F0 m pc ls st0) := by
  intro T hT X
  rcases hr T hT X with ⟨v, st₀, t, T', L, h0, X', hL, e1, e2, ⟨⟨u, hv, hp, hb⟩, hF⟩, st⟩ | ⟨q, st₀, t, T', L, E, ce, h0, X', hL, e1, e2, ⟨u, hp, hb, hF⟩, hce, hcv, hcl, st⟩
  · cases hv
    obtain ⟨k1, k2, k3⟩ := vx_keep h0 e1 hS hA hf hL hF
    obtain ⟨t2, a1, b1⟩ := kk u t T'.heap (locs ++ L) e1.symm (by rw [← e2]; exact X'.warmed.alike) hp hb k1 k2 k3 T' rfl X'
    exact ⟨t2, st t2 a1, b1⟩
  · obtain ⟨k1, k2, k3⟩ := vx_keep h0 e1 hS hAX hf hL hF
    obtain ⟨t2, a1, b1⟩ := kx E ce q u t T'.heap (locs ++ L) e1.symm (by rw [← e2]; exact X'.warmed.alike) hp hb k1 k2 k3 (by rw [e1]; exact hce) hcv hcl T' rfl X'
    exact ⟨t2, st.trans a1, b1⟩
/-- caught by the row x of this method's table; the rows ahead don't take it -/
theorem vx_catch {own name : String} {E : String} {ce : Cell} {q : Addr} (hown : s.vm.findClass own = some m.cls) (pre : List ExceptionTableEntry) (x : ExceptionTableEntry) (suf : List ExceptionTableEntry) (hsplit : c.exceptionTable.toList = pre ++ x :: suf)
    (hpass : ∀ z ∈ pre, covers z pc = false ∨ (z.catchType ≠ 0 ∧ ∃ nm : String, (Cond.classLink own z.catchType nm).before args s = true ∧ va_Nc E nm s)) (hx : covers x pc = true) (h0 : x.catchType ≠ 0)
    (hlink : (Cond.classLink own x.catchType name).before args s = true) (hcast : (Cond.castable E name).before args s = true) (hcell : H[q]? = some ce) (hv : ce.vm = .none) (hcl : s.vm.findClass E = some ce.cls)
    (kk : W p l e R s m args below meth c H locs cells slots Q (F0 m x.handlerPc ls [.ref q])) : vx_W p l e R s m args below meth c H locs cells slots Q (F0 m pc ls rest) q := by
  intro T hT X
  have hpl : e.platform.magicAccessors = ({} : Platform).magicAccessors := by rw [X.admits.platform]
  obtain ⟨c3, c4, hc3, hc4, hasg⟩ := Cond.castable_spec hcast
  cases Option.some.inj (hc3.symm.trans hcl)
  obtain ⟨c5, hc5, hcl5⟩ := Cond.classLink_spec hown hlink e.platform hpl
  cases Option.some.inj (hc4.symm.trans hc5)
  obtain ⟨vm', X', st⟩ := X.thenCaughtThrough q (g := F0 m pc ls rest) rfl (Steps.refl _) (by rw [hT]; exact hcell) (by rw [hv]; rfl) (by obtain ⟨k9, h9, -⟩ := Vm.findClass_spec hcl; exact ⟨k9, h9⟩) pre x suf hsplit
    (fun z hz => by
      rcases hpass z hz with h | ⟨hz0, nm, hl1, hn1⟩
      · exact Or.inl h
      · obtain ⟨c6, hc6, hcl6⟩ := Cond.classLink_spec hown hl1 e.platform hpl
        obtain ⟨a8, b8, h1, h2, h3⟩ := hn1
        cases Option.some.inj (h1.symm.trans hcl)
        cases Option.some.inj (h2.symm.trans hc6)
        exact Or.inr ⟨hz0, _, hcl6, h3⟩) hx (Or.inr ⟨h0, c4, hcl5, hasg⟩)
  obtain ⟨t, a1, b1⟩ := kk (T.setVm vm') hT X'
  exact ⟨t, st.trans a1, b1⟩
end Rows
section Ends
variable {p : Program} {l : Launch} {e : Env} {R : Room} {s : State} {m : MethodId} {args : Array Value} {below : List Frame} {meth : Method} {c : Code} {H : Heap} {locs : List Loc} {cells slots : Nat} {Q : State → Prop}
variable {mc ms : Nat} {free : Addr → Prop} {A0 A1 : Nat → Prop} {H0 : Heap} {a : Array Value} {ls : Array Slot} {st0 rest : List Value}
variable {Qc : Array Value → State → Outcome → State → Prop} {XC : String → State → State → Prop}
/-- what a body that may throw owes at its end -/
def vx_MQ (below : List Frame) (Qc : Array Value → State → Outcome → State → Prop) (XC : String → State → State → Prop) (a : Array Value) (s : State) (mc ms : Nat) (free : Addr → Prop) : State → Prop := fun t =>
  ∃ o, t.status = .running ∧ Ended t below o ∧ vx_Q Qc XC mc ms free a s o t
theorem vx_ret {g : JFrame} {mc ms : Nat} (k : W p l e R s m args below meth c H locs cells slots (MQ below Qc args s mc ms free) g) : W p l e R s m args below meth c H locs cells slots (vx_MQ below Qc XC args s mc ms free) g := by
  intro T hT X
  obtain ⟨t, a1, o, b1, b2, b3, b4⟩ := k T hT X
  exact ⟨t, a1, o, b1, b2, Or.inl ⟨b3, b4⟩⟩
/-- not caught here: it goes on to the caller -/
theorem vx_widen {g : JFrame} {q : Addr} {k n : Nat} (h1 : cells ≤ k) (h2 : slots ≤ n) (kk : vx_W p l e R s m args below meth c H locs k n Q g q) : vx_W p l e R s m args below meth c H locs cells slots Q g q := fun T hT X => kk T hT (stand_widen X h1 h2)
theorem vx_out {pc : Nat} {E : String} {ce : Cell} {q : Addr} {mc ms : Nat} (hout : ∀ x ∈ c.exceptionTable.toList, covers x pc = false) (hlocks : meth.locks = false) (hcell : H[q]? = some ce) (hv : ce.vm = .none) (hcl : s.vm.findClass E = some ce.cls)
    (hx : ∀ t : State, t.heap = H → s.vm.Alike t.vm → XC E s t) (hf : ∀ z ∈ locs, free z.base) (hc : cells ≤ mc) (hs : slots ≤ ms) :
    vx_W p l e R s m args below meth c H locs cells slots (vx_MQ below Qc XC args s mc ms free) (F0 m pc ls rest) q := by
  intro T hT X
  obtain ⟨st1, hrun, hend, hW, hsm⟩ := X.leaveThrown q (g := F0 m pc ls rest) rfl rfl rfl hout hlocks
  have hcell9 : (T.setFrames (.throwing q :: below)).heap[q]? = some ce := by
    show T.heap[q]? = some ce
    rw [hT]; exact hcell
  exact ⟨_, st1, .threw q, hrun, hend, Or.inr ⟨q, rfl, E, ce, locs, hx _ hT hW.alike, hcell9, hv, hcl, hW, hsm.mono hc hs, hf⟩⟩
theorem vx_frame {U : State} {k n : Nat} (h : s.sameButNew ({ U with vm := s.vm } : State) locs k n) : s.heap.size ≤ U.heap.size ∧ ∀ q : Nat, q < s.heap.size → (∀ z ∈ locs, z.base ≠ q) → U.heap[q]? = s.heap[q]? := by
  obtain ⟨-, h2, -, -, -, h6⟩ := h
  refine ⟨h2, fun q hq hz => ?_⟩
  obtain ⟨c9, e1, e2, e3, e4⟩ := h6 q _ (Array.getElem?_eq_getElem hq)
  have hs : c9.slots = (s.heap[q]).slots := Array.ext_getElem? fun i => e4 i fun hm => hz _ hm rfl
  have h9 : c9 = s.heap[q] := by
    rw [hs] at e2
    exact e2
  have e5 : U.heap[q]? = some c9 := e1
  rw [e5, h9, Array.getElem?_eq_getElem hq]
/-- the words of a throw but the four that speak of the heap -/
def vx_no (w : Cond) : Bool := decide (w ≠ .isRef (.static Bundle.tN "UNASSIGNED_STACK" Bundle.steD)) && decide (w ≠ .isRef (.static Bundle.tN "SUPPRESSED_SENTINEL" Bundle.listD)) && decide (w ≠ .laysStatic Bundle.tN "UNASSIGNED_STACK" Bundle.steD) && decide (w ≠ .laysStatic Bundle.tN "SUPPRESSED_SENTINEL" Bundle.listD)
def vx_at0 (own : String) (ic : Nat) (X : String) (names : List String) : List Cond := (Bundle.ownAtoms0 own ic X names).filter vx_no
def vx_atS (own : String) (ic : Nat) (X : String) (names : List String) : List Cond := (Bundle.ownAtoms own ic X names).filter vx_no
/-- a word that the tables alone decide, or a good one -/
def vx_ot (w : Cond) : Bool := w.onTables || goodWord w
theorem vx_ot_at {args a' : Array Value} {s U : State} {w : Cond} (hW : s.WarmedH U.vm) (hvm : s.vm = U.vm) (hg : vx_ot w = true) (h : w.before args s = true) : w.before a' U = true := by
  simp only [vx_ot, Bool.or_eq_true] at hg
  rcases hg with hg | hg
  · exact va_tabs hg hvm h
  · exact word_at hW (good_of_word hg) h
/-- a list's words: the good ones out of the method's own list, the others by premises of their own -/
theorem vx_hat {args : Array Value} {s : State} {L B : List Cond} (h1 : ∀ w ∈ L.filter goodWord, w.before args s = true) (h2 : ∀ w ∈ L.filter (fun w => !goodWord w), w ∈ B) (h3 : ∀ w ∈ B, w.before args s = true) : ∀ w ∈ L, w.before args s = true := by
  intro w hw
  by_cases g : goodWord w = true
  · exact h1 w (List.mem_filter.mpr ⟨hw, g⟩)
  · refine h3 w (h2 w (List.mem_filter.mpr ⟨hw, ?_⟩))
    show (!goodWord w) = true
    cases hgw : goodWord w
    · rfl
    · exact absurd hgw g
theorem vx_c {args : Array Value} {s : State} {w : Cond} {B : List Cond} (h : w.before args s = true) (t : ∀ w ∈ B, w.before args s = true) : ∀ w' ∈ w :: B, w'.before args s = true := fun w' h' => (List.mem_cons.mp h').elim (fun e => by rw [e]; exact h) (t w')
theorem vx_n {args : Array Value} {s : State} : ∀ w ∈ ([] : List Cond), w.before args s = true := fun _ h => nomatch h
theorem vx_own {args : Array Value} {s : State} {L : List Cond} (h1 : ∀ w ∈ L.filter vx_no, w.before args s = true)
    (hU : (Cond.isRef (.static Bundle.tN "UNASSIGNED_STACK" Bundle.steD)).before args s = true) (hN : (Cond.isRef (.static Bundle.tN "SUPPRESSED_SENTINEL" Bundle.listD)).before args s = true)
    (lU : (Cond.laysStatic Bundle.tN "UNASSIGNED_STACK" Bundle.steD).before args s = true) (lN : (Cond.laysStatic Bundle.tN "SUPPRESSED_SENTINEL" Bundle.listD).before args s = true) : ∀ w ∈ L, w.before args s = true := by
  intro w hw
  by_cases e1 : w = .isRef (.static Bundle.tN "UNASSIGNED_STACK" Bundle.steD)
  · rw [e1]; exact hU
  · by_cases e2 : w = .isRef (.static Bundle.tN "SUPPRESSED_SENTINEL" Bundle.listD)
    · rw [e2]; exact hN
    · by_cases e3 : w = .laysStatic Bundle.tN "UNASSIGNED_STACK" Bundle.steD
      · rw [e3]; exact lU
      · by_cases e4 : w = .laysStatic Bundle.tN "SUPPRESSED_SENTINEL" Bundle.listD
        · rw [e4]; exact lN
        · exact h1 w (List.mem_filter.mpr ⟨hw, by unfold vx_no; rw [decide_eq_true e1, decide_eq_true e2, decide_eq_true e3, decide_eq_true e4]; rfl⟩)
/-- where a static field lies, its class's statics cell in H -/
def vx_L (C n d : String) (A : Nat → Prop) (U : State) (H : Heap) : Prop := ∃ (c : ClassId) (k : Class) (i : Nat) (f : Field) (a : Nat) (cell : Cell), U.vm.findClass C = some c ∧ U.fieldFound? C n d = some (c, k, i, f) ∧ f.isStatic = true ∧ k.statics = some a ∧ H[a]? = some cell ∧ cell.vm.isStatics = true ∧ cell.cls = c ∧ f.slot < cell.slots.size ∧ k.staticTypes[f.slot]? = some f.type ∧ ¬ A a
theorem vx_L.moved {C n d : String} {A : Nat → Prop} {u U : State} {H : Heap} (hvm : u.vm.Alike U.vm) (h : vx_L C n d A u H) : vx_L C n d A U H := by
  obtain ⟨c, k, i, f, a, cell, h1, h2, h3, h4, h5, h6, h7, h8, h9, h10⟩ := h
  obtain ⟨k', hi', he⟩ := State.fieldFound?_setVm hvm h2
  exact ⟨c, k', i, f, a, cell, by rw [hvm.findClass]; exact h1, hi', h3, by rw [he]; exact h4, h5, h6, h7, h8, by rw [he]; exact h9, h10⟩
theorem vx_L.kept {C n d : String} {A : Nat → Prop} {U : State} {H H1 : Heap} (h : vx_L C n d A U H) (hq : ∀ a : Nat, a < H.size → ¬ A a → H1[a]? = H[a]?) : vx_L C n d A U H1 := by
  obtain ⟨c, k, i, f, a, cell, h1, h2, h3, h4, h5, h6, h7, h8, h9, h10⟩ := h
  exact ⟨c, k, i, f, a, cell, h1, h2, h3, h4, by rw [hq a (Array.getElem?_eq_some_iff.mp h5).1 h10]; exact h5, h6, h7, h8, h9, h10⟩
theorem vx_L.narrow {C n d : String} {A B : Nat → Prop} {U : State} {H : Heap} (h : vx_L C n d A U H) (hAB : ∀ q, B q → A q) : vx_L C n d B U H := by
  obtain ⟨c, k, i, f, a, cell, h1, h2, h3, h4, h5, h6, h7, h8, h9, h10⟩ := h
  exact ⟨c, k, i, f, a, cell, h1, h2, h3, h4, h5, h6, h7, h8, h9, fun z => h10 (hAB _ z)⟩
theorem vx_L.word {C n d : String} {A : Nat → Prop} {s : State} {args : Array Value} (h : vx_L C n d A s s.heap) : (Cond.laysStatic C n d).before args s = true := by
  obtain ⟨c, k, i, f, a, cell, h1, h2, h3, h4, h5, h6, h7, h8, h9, -⟩ := h
  show (Cond.laysStatic C n d).holds args s none s [] = true
  exact Cond.laysStatic_of h1 h2 h3 h4 h5 h6 h7 h8 h9
/-- .. and what it holds: null or some reference -/
def vx_Zq (C n d : String) (A : Nat → Prop) (U : State) (H : Heap) : Prop := va_Zq C n d A U H ∧ vx_L C n d A U H
theorem vx_Zq.moved {C n d : String} {A : Nat → Prop} {u U : State} {H : Heap} (hvm : u.vm.Alike U.vm) (h : vx_Zq C n d A u H) : vx_Zq C n d A U H := ⟨va_Zq.moved hvm h.1, vx_L.moved hvm h.2⟩
theorem vx_Zq.kept {C n d : String} {A : Nat → Prop} {U : State} {H H1 : Heap} (h : vx_Zq C n d A U H) (hq : ∀ a : Nat, a < H.size → ¬ A a → H1[a]? = H[a]?) : vx_Zq C n d A U H1 := ⟨va_Zq.kept h.1 hq, vx_L.kept h.2 hq⟩
theorem vx_Zq.narrow {C n d : String} {A B : Nat → Prop} {U : State} {H : Heap} (h : vx_Zq C n d A U H) (hAB : ∀ q, B q → A q) : vx_Zq C n d B U H := ⟨va_Zq.narrow h.1 hAB, vx_L.narrow h.2 hAB⟩
theorem vx_Zqof {args : Array Value} {s : State} {C n d : String} {A : Nat → Prop} (hl : (Cond.laysStatic C n d).before args s = true) (hini : (Cond.initialized C).before args s = true) (h : (Cond.isRef (.static C n d)).before args s = true) (hA : ∀ a : Nat, a < s.heap.size → ¬ A a) : vx_Zq C n d A s s.heap := by
  refine ⟨va_Zqof hl hini h hA, ?_⟩
  obtain ⟨c, k, i, f, a, cell, h1, h2, h3, h4, h5, h6, h7, h8, h9⟩ := Cond.laysStatic_spec hl
  exact ⟨c, k, i, f, a, cell, h1, h2, h3, h4, h5, h6, h7, h8, h9, hA a (Array.getElem?_eq_some_iff.mp h5).1⟩
theorem vx_isRef {C n d : String} {v : Value} {A : Nat → Prop} {s : State} {args : Array Value} (h : va_Z C n d v A s s.heap) (hv : v.isRef = true) : (Cond.isRef (.static C n d)).before args s = true := by
  obtain ⟨cf, kf, fi, f, a, cell, h1, h2, h3, h4, h5, h6, h7, -⟩ := h
  have he : (Term.static C n d).eval args s none [] s = some v := by
    simp [Term.eval, State.fieldNamed?, h1, h2, h4, h5, h6, h7]
  simp only [Cond.before, Cond.holds, Cond.value, he]
  cases v <;> simp_all [Value.isRef]
theorem vx_isRefq {C n d : String} {A : Nat → Prop} {s : State} {args : Array Value} (h : va_Zq C n d A s s.heap) : (Cond.isRef (.static C n d)).before args s = true := by
  rcases h with h | ⟨t, h⟩
  · exact vx_isRef h rfl
  · exact vx_isRef h rfl
/-- the same frame, seen from here: as if the method were called anew in this heap -/
theorem vx_rebase {T : State} (X : Stand p l e R s m args below meth c T locs cells slots) {R' : Room} (hf : R'.frames ≤ R.frames) (hl : R'.locals ≤ R.locals) (hc : cells + R'.cells ≤ R.cells) (hs : slots + R'.slots ≤ R.slots) :
    Stand p l e R' ((T.setVm s.vm).setFrames (.invoking m args :: below)) m args below meth c T [] 0 0 := by
  have htop : (T.setVm s.vm).topJava?.isSome := X.here.top
  have hF : ((T.setVm s.vm).setFrames (.invoking m args :: below)).frames = .invoking m args :: below := State.frames_setFrames _ (State.cur_lt_of_top htop)
  obtain ⟨g₀, hg0⟩ := Option.isSome_iff_exists.mp htop
  obtain ⟨r, hr⟩ := State.topJava?_eq_some.mp hg0
  have hl9 : e.platform.stackLimits (T.setVm s.vm).me = e.platform.stackLimits s.me := X.limits
  have hb9 : (T.setVm s.vm).me.stackBytes = s.me.stackBytes := X.bytes
  refine ⟨X.admits, X.cas, X.clock, hF, ?_, X.hears, X.method, X.code, X.here, X.tail, X.warmed, ?_, ?_, ?_⟩
  · have h := X.room
    have hU : ((T.setVm s.vm).setFrames (.invoking m args :: below)).localsInUse = s.localsInUse := by
      rw [State.localsInUse_invoking hF (meth := meth) (c := c) X.method X.code, State.localsInUse_invoking X.frames X.method X.code]
    simp only [State.hasRoom, Bool.and_eq_true, decide_eq_true_eq] at h ⊢
    obtain ⟨⟨⟨⟨h1, h2, h3, h4, h5, h6⟩, h7⟩, h8⟩, h9⟩ := h
    rw [X.frames, List.length_cons] at h2 h3
    have q1 := X.heapSize
    have q2 := X.used
    simp only [hF, hU, List.length_cons, State.stackLimits_setFrames, State.stackBytes_setFrames, hl9, hb9]
    refine ⟨⟨⟨⟨by omega, by omega, by omega, by omega, by omega, h6⟩, ?_⟩, ?_⟩, X.book⟩
    · show T.heap.size + R'.cells ≤ e.platform.maxCells
      omega
    · show T.slotsUsed + R'.slots ≤ e.platform.maxSlots
      omega
  · rw [State.stackLimits_setFrames]; rfl
  · rw [State.stackBytes_setFrames]; rfl
  · refine ⟨?_, Nat.le_refl _, Nat.le_refl _, ?_, ?_, fun a c9 h9 => ⟨c9, h9, rfl, rfl, fun _ _ => rfl⟩⟩
    · obtain ⟨t, ht, -⟩ := State.frames_cons hr
      show T.setVm s.vm = { ((T.setVm s.vm).setFrames (.invoking m args :: below)).setFrames (T.setVm s.vm).frames with heap := T.heap, slotsUsed := T.slotsUsed }
      rw [State.setFrames_setFrames, State.setFrames_self ht]
      rfl
    · show T.slotsUsed = T.slotsUsed + ((T.heap.toList.drop T.heap.size).map (·.slots.size)).sum
      rw [List.drop_eq_nil_of_le (Nat.le_of_eq Array.length_toList)]
      rfl
    · show ((T.heap.toList.drop T.heap.size).map (·.slots.size)).sum ≤ 0
      rw [List.drop_eq_nil_of_le (Nat.le_of_eq Array.length_toList)]
      exact Nat.le_refl _
/-- 'throw new E()': new; dup; invokespecial; athrow -/
theorem vx_throw0 {cc : ByteArray} {pc : Nat} (hexec : p.tables.exec = Jvm.exec) (hb : c.code = cc) (hl : l.stackTraces = false) {own cls : String} {names : List String} {ik ic mc ms : Nat} {A : Nat → Prop}
    (hown : s.vm.findClass own = some m.cls) (hcls : Bundle.fit cls = true) (hnames : ∀ n ∈ names, Bundle.fit n = true)
    (hk : (Cond.classLink own ik cls).before args s = true) (hini : (Cond.initialized cls).before args s = true) (hat : ∀ w ∈ vx_at0 own ic cls names, w.before args s = true)
    (hgood : ∀ w ∈ Cond.classLink own ik cls :: Cond.initialized cls :: vx_at0 own ic cls names, vx_ot w = true)
    (hU : vx_Zq Bundle.tN "UNASSIGNED_STACK" Bundle.steD A s s.heap) (hN : vx_Zq Bundle.tN "SUPPRESSED_SENTINEL" Bundle.listD A s s.heap) (hS : va_S A s.heap H locs) (hsize : ls.size = c.maxLocals)
    (d0 : decode cc pc = .ok (.new ik, 3)) (d3 : decode cc (pc + 3) = .ok (.dup, 1)) (d4 : decode cc (pc + 4) = .ok (.invokespecial ic, 3)) (d7 : decode cc (pc + 7) = .ok (.athrow, 1))
    (hout : ∀ x ∈ c.exceptionTable.toList, covers x (pc + 7) = false)
    (hRframes : names.length + 3 < R.frames) (hRlocals : (rest.map fun v => v.category).sum + (13 * (names.length + 1) + 42) ≤ R.locals) (hRcells : cells + 1 ≤ R.cells) (hRslots : slots + 6 ≤ R.slots) (hlocks : meth.locks = false)
    (hx : ∀ t : State, s.vm.Alike t.vm → H.size ≤ t.heap.size → (∀ q : Nat, q < H.size → t.heap[q]? = H[q]?) → XC cls s t)
    (hf : ∀ z ∈ locs, free z.base) (hc : cells + 1 ≤ mc) (hs : slots + 6 ≤ ms) :
    W p l e R s m args below meth c H locs cells slots (vx_MQ below Qc XC args s mc ms free) (F0 m pc ls rest) := by
  intro T hT X
  have htr : e.platform.stackTraces = false := (show e.platform.stackTraces = l.stackTraces by rw [X.admits.platform]).trans hl
  have Y := vx_rebase X (R' := { frames := R.frames, locals := R.locals, cells := 1, slots := 6 }) (Nat.le_refl _) (Nat.le_refl _) hRcells hRslots
  obtain ⟨s', hA⟩ : ∃ z, z = (T.setVm s.vm).setFrames (.invoking m args :: below) := ⟨_, rfl⟩
  rw [← hA] at Y
  have hvm : s'.vm = s.vm := by rw [hA]; rfl
  have hhp : s'.heap = H := by rw [hA]; exact hT
  have hW0 : s.WarmedH s'.vm := by rw [hvm]; exact State.WarmedH.refl s
  have hat' : ∀ w ∈ vx_at0 own ic cls names, w.before args s' = true := fun w hw => vx_ot_at hW0 hvm.symm (hgood w (List.mem_cons_of_mem _ (List.mem_cons_of_mem _ hw))) (hat w hw)
  have hk' : (Cond.classLink own ik cls).before args s' = true := vx_ot_at hW0 hvm.symm (hgood _ List.mem_cons_self) hk
  have hini' : (Cond.initialized cls).before args s' = true := vx_ot_at hW0 hvm.symm (hgood _ (List.mem_cons_of_mem _ List.mem_cons_self)) hini
  have hU' : vx_Zq Bundle.tN "UNASSIGNED_STACK" Bundle.steD A s' s'.heap := by rw [hhp]; exact vx_Zq.moved hW0.alike (hU.kept hS.2.1)
  have hN' : vx_Zq Bundle.tN "SUPPRESSED_SENTINEL" Bundle.listD A s' s'.heap := by rw [hhp]; exact vx_Zq.moved hW0.alike (hN.kept hS.2.1)
  have h : ∀ w ∈ Bundle.ownAtoms0 own ic cls names, w.before args s' = true := vx_own hat' (vx_isRefq hU'.1) (vx_isRefq hN'.1) hU'.2.word hN'.2.word
  have hown' : s'.vm.findClass own = some m.cls := by rw [hvm]; exact hown
  have hins : (Cond.instantiable cls 6).before args s' = true := h _ (by simp [Bundle.ownAtoms0])
  obtain ⟨vm₁, cX, kX, hfX, hkX, -, -, X₁, st1⟩ := Y.newCold hexec (own := own) (C := cls) (index := ik) (n := 6) hown' hk' hins hini'
    (g := F0 m pc ls rest) rfl (by rw [hb]; exact d0) (Nat.le_refl _) (Nat.le_refl _)
  generalize hT1 : (T.setVm vm₁).pushCell { cls := cX, slots := kX.instanceTypes.map defaultValue, vm := .none } = T1 at X₁ st1
  have hcat : (Value.ref T.heap.size).category = 1 := rfl
  have hcellA : T1.heap[T.heap.size]? = some (freshCell cX kX) := by rw [← hT1]; exact State.heap_pushCell_size _ _
  have d3' : decode c.code (pc + 3) = .ok (.dup, 1) := by rw [hb]; exact d3
  obtain ⟨U, hsteps, hrun, hend, hW, hsame, ce, hce, hO⟩ := X₁.ctorThrow0 hexec htr (own := own) (cls := cls) (names := names) (ic := ic) hown' hcls hnames h (fun x hx => nomatch hx) hfX hkX hcellA (by rw [hhp, hT]; exact Nat.le_refl _)
    (g := { method := m, pc := pc + 4, locals := ls, stack := .ref T.heap.size :: .ref T.heap.size :: rest, locked := none }) rfl hsize rfl rfl (rest := rest) rfl
    (by rw [hb]; exact d4) (by rw [hb]; exact d7) hout hRframes (by simp only [List.map_cons, List.sum_cons, hcat]; omega) hlocks
  obtain ⟨f1, f2⟩ := vx_frame hsame
  rw [hhp] at f1 f2
  have hWs : s.WarmedH U.vm := State.WarmedH.trans hW0 hW
  have hcl : s.vm.findClass cls = some ce.cls := by
    have h9 := hO.cls
    rw [hvm] at h9
    exact h9
  have hall : s.sameButNew ({ U with vm := s.vm } : State) locs mc ms := by
    subst hA
    obtain ⟨e1, e2⟩ := hsame
    rw [State.setFrames_setFrames] at e1
    have h2 : (T.setVm s.vm).sameButNew ({ U with vm := s.vm } : State) [] (0 + 1) (0 + 6) := ⟨e1, e2⟩
    have h3 := X.same.trans h2
    rw [List.append_nil] at h3
    exact h3.mono hc hs
  refine ⟨U, ?_, .threw T.heap.size, hrun, hend, Or.inr ⟨T.heap.size, rfl, cls, ce, locs, hx U hWs.alike f1 (fun q hq => f2 q hq (fun z hz => nomatch hz)), hce, hO.vm, hcl, hWs, hall, hf⟩⟩
  refine st1 _ ?_
  show Steps p.tables e below (T1.setTop { method := m, pc := pc + 3, locals := ls, stack := .ref T.heap.size :: rest, locked := none }) _
  jvm_step X₁.here [X₁.here.top, hexec, d3', Value.category]
  exact hsteps
/-- 'throw new E("text")': new; dup; ldc; invokespecial; athrow -/
theorem vx_throwS {cc : ByteArray} {pc : Nat} (hexec : p.tables.exec = Jvm.exec) (hb : c.code = cc) (hl : l.stackTraces = false) {own cls text : String} {names : List String} {ik is ic mc ms sa : Nat} {A : Nat → Prop}
    (hown : s.vm.findClass own = some m.cls) (hcls : Bundle.fit cls = true) (hnames : ∀ n ∈ names, Bundle.fit n = true)
    (hk : (Cond.classLink own ik cls).before args s = true) (hini : (Cond.initialized cls).before args s = true) (hstr : vk_R own is text sa s) (hat : ∀ w ∈ vx_atS own ic cls names, w.before args s = true)
    (hgood : ∀ w ∈ Cond.classLink own ik cls :: Cond.initialized cls :: vx_atS own ic cls names, vx_ot w = true)
    (hU : vx_Zq Bundle.tN "UNASSIGNED_STACK" Bundle.steD A s s.heap) (hN : vx_Zq Bundle.tN "SUPPRESSED_SENTINEL" Bundle.listD A s s.heap) (hS : va_S A s.heap H locs) (hsize : ls.size = c.maxLocals)
    (d0 : decode cc pc = .ok (.new ik, 3)) (d3 : decode cc (pc + 3) = .ok (.dup, 1)) (d4 : decode cc (pc + 4) = .ok (.ldc is, 2)) (d6 : decode cc (pc + 6) = .ok (.invokespecial ic, 3)) (d9 : decode cc (pc + 9) = .ok (.athrow, 1))
    (hout : ∀ x ∈ c.exceptionTable.toList, covers x (pc + 9) = false)
    (hRframes : names.length + 3 < R.frames) (hRlocals : (rest.map fun v => v.category).sum + (13 * (names.length + 1) + 43) ≤ R.locals) (hRcells : cells + 1 ≤ R.cells) (hRslots : slots + 6 ≤ R.slots) (hlocks : meth.locks = false)
    (hx : ∀ t : State, s.vm.Alike t.vm → H.size ≤ t.heap.size → (∀ q : Nat, q < H.size → t.heap[q]? = H[q]?) → XC cls s t)
    (hf : ∀ z ∈ locs, free z.base) (hc : cells + 1 ≤ mc) (hs : slots + 6 ≤ ms) :
    W p l e R s m args below meth c H locs cells slots (vx_MQ below Qc XC args s mc ms free) (F0 m pc ls rest) := by
  intro T hT X
  have htr : e.platform.stackTraces = false := (show e.platform.stackTraces = l.stackTraces by rw [X.admits.platform]).trans hl
  have Y := vx_rebase X (R' := { frames := R.frames, locals := R.locals, cells := 1, slots := 6 }) (Nat.le_refl _) (Nat.le_refl _) hRcells hRslots
  obtain ⟨s', hA⟩ : ∃ z, z = (T.setVm s.vm).setFrames (.invoking m args :: below) := ⟨_, rfl⟩
  rw [← hA] at Y
  have hvm : s'.vm = s.vm := by rw [hA]; rfl
  have hhp : s'.heap = H := by rw [hA]; exact hT
  have hW0 : s.WarmedH s'.vm := by rw [hvm]; exact State.WarmedH.refl s
  have hat' : ∀ w ∈ vx_atS own ic cls names, w.before args s' = true := fun w hw => vx_ot_at hW0 hvm.symm (hgood w (List.mem_cons_of_mem _ (List.mem_cons_of_mem _ hw))) (hat w hw)
  have hk' : (Cond.classLink own ik cls).before args s' = true := vx_ot_at hW0 hvm.symm (hgood _ List.mem_cons_self) hk
  have hini' : (Cond.initialized cls).before args s' = true := vx_ot_at hW0 hvm.symm (hgood _ (List.mem_cons_of_mem _ List.mem_cons_self)) hini
  have hU' : vx_Zq Bundle.tN "UNASSIGNED_STACK" Bundle.steD A s' s'.heap := by rw [hhp]; exact vx_Zq.moved hW0.alike (hU.kept hS.2.1)
  have hN' : vx_Zq Bundle.tN "SUPPRESSED_SENTINEL" Bundle.listD A s' s'.heap := by rw [hhp]; exact vx_Zq.moved hW0.alike (hN.kept hS.2.1)
  have h : ∀ w ∈ Bundle.ownAtoms own ic cls names, w.before args s' = true := vx_own hat' (vx_isRefq hU'.1) (vx_isRefq hN'.1) hU'.2.word hN'.2.word
  have hown' : s'.vm.findClass own = some m.cls := by rw [hvm]; exact hown
  have hins : (Cond.instantiable cls 6).before args s' = true := h _ (by simp [Bundle.ownAtoms])
  obtain ⟨vm₁, cX, kX, hfX, hkX, -, -, X₁, st1⟩ := Y.newCold hexec (own := own) (C := cls) (index := ik) (n := 6) hown' hk' hins hini'
    (g := F0 m pc ls rest) rfl (by rw [hb]; exact d0) (Nat.le_refl _) (Nat.le_refl _)
  generalize hT1 : (T.setVm vm₁).pushCell { cls := cX, slots := kX.instanceTypes.map defaultValue, vm := .none } = T1 at X₁ st1
  have hcat : (Value.ref T.heap.size).category = 1 := rfl
  have hcellA : T1.heap[T.heap.size]? = some (freshCell cX kX) := by rw [← hT1]; exact State.heap_pushCell_size _ _
  have d3' : decode c.code (pc + 3) = .ok (.dup, 1) := by rw [hb]; exact d3
  have d4' : decode c.code (pc + 4) = .ok (.ldc is, 2) := by rw [hb]; exact d4
  have hstr' : vk_R own is text sa s' := vk_R.warm hW0 hstr
  obtain ⟨U, hsteps, hrun, hend, hW, hsame, ce, hce, hO⟩ := X₁.ctorThrowS hexec htr (own := own) (cls := cls) (names := names) (ic := ic) hown' hcls hnames h (fun x hx => nomatch hx) hfX hkX hcellA (by rw [hhp, hT]; exact Nat.le_refl _) (msg := .ref sa) rfl
    (g := { method := m, pc := pc + 6, locals := ls, stack := .ref sa :: .ref T.heap.size :: .ref T.heap.size :: rest, locked := none }) rfl hsize rfl rfl (rest := rest) rfl
    (by rw [hb]; exact d6) (by rw [hb]; exact d9) hout hRframes (by simp only [List.map_cons, List.sum_cons, hcat]; omega) hlocks
  obtain ⟨f1, f2⟩ := vx_frame hsame
  rw [hhp] at f1 f2
  have hWs : s.WarmedH U.vm := State.WarmedH.trans hW0 hW
  have hcl : s.vm.findClass cls = some ce.cls := by
    have h9 := hO.cls
    rw [hvm] at h9
    exact h9
  have hall : s.sameButNew ({ U with vm := s.vm } : State) locs mc ms := by
    subst hA
    obtain ⟨e1, e2⟩ := hsame
    rw [State.setFrames_setFrames] at e1
    have h2 : (T.setVm s.vm).sameButNew ({ U with vm := s.vm } : State) [] (0 + 1) (0 + 6) := ⟨e1, e2⟩
    have h3 := X.same.trans h2
    rw [List.append_nil] at h3
    exact h3.mono hc hs
  refine ⟨U, ?_, .threw T.heap.size, hrun, hend, Or.inr ⟨T.heap.size, rfl, cls, ce, locs, hx U hWs.alike f1 (fun q hq => f2 q hq (fun z hz => nomatch hz)), hce, hO.vm, hcl, hWs, hall, hf⟩⟩
  refine st1 _ ?_
  show Steps p.tables e below (T1.setTop { method := m, pc := pc + 3, locals := ls, stack := .ref T.heap.size :: rest, locked := none }) _
  jvm_step X₁.here [X₁.here.top, hexec, d3', Value.category]
  exact X₁.ldcString hexec (own := own) (text := text) (index := is) (a := sa) hown' hstr'.1 hstr'.2
    (g := { method := m, pc := pc + 4, locals := ls, stack := .ref T.heap.size :: .ref T.heap.size :: rest, locked := none }) rfl d4' _ hsteps
/-- 'throw new E("text")', the text by a wide index -/
theorem vx_throwSW {cc : ByteArray} {pc : Nat} (hexec : p.tables.exec = Jvm.exec) (hb : c.code = cc) (hl : l.stackTraces = false) {own cls text : String} {names : List String} {ik is ic mc ms sa : Nat} {A : Nat → Prop}
    (hown : s.vm.findClass own = some m.cls) (hcls : Bundle.fit cls = true) (hnames : ∀ n ∈ names, Bundle.fit n = true)
    (hk : (Cond.classLink own ik cls).before args s = true) (hini : (Cond.initialized cls).before args s = true) (hstr : vk_R own is text sa s) (hat : ∀ w ∈ vx_atS own ic cls names, w.before args s = true)
    (hgood : ∀ w ∈ Cond.classLink own ik cls :: Cond.initialized cls :: vx_atS own ic cls names, vx_ot w = true)
    (hU : vx_Zq Bundle.tN "UNASSIGNED_STACK" Bundle.steD A s s.heap) (hN : vx_Zq Bundle.tN "SUPPRESSED_SENTINEL" Bundle.listD A s s.heap) (hS : va_S A s.heap H locs) (hsize : ls.size = c.maxLocals)
    (d0 : decode cc pc = .ok (.new ik, 3)) (d3 : decode cc (pc + 3) = .ok (.dup, 1)) (d4 : decode cc (pc + 4) = .ok (.ldc_w is, 3)) (d7 : decode cc (pc + 7) = .ok (.invokespecial ic, 3)) (d10 : decode cc (pc + 10) = .ok (.athrow, 1))
    (hout : ∀ x ∈ c.exceptionTable.toList, covers x (pc + 10) = false)
    (hRframes : names.length + 3 < R.frames) (hRlocals : (rest.map fun v => v.category).sum + (13 * (names.length + 1) + 43) ≤ R.locals) (hRcells : cells + 1 ≤ R.cells) (hRslots : slots + 6 ≤ R.slots) (hlocks : meth.locks = false)
    (hx : ∀ t : State, s.vm.Alike t.vm → H.size ≤ t.heap.size → (∀ q : Nat, q < H.size → t.heap[q]? = H[q]?) → XC cls s t)
    (hf : ∀ z ∈ locs, free z.base) (hc : cells + 1 ≤ mc) (hs : slots + 6 ≤ ms) :
    W p l e R s m args below meth c H locs cells slots (vx_MQ below Qc XC args s mc ms free) (F0 m pc ls rest) := by
  intro T hT X
  have htr : e.platform.stackTraces = false := (show e.platform.stackTraces = l.stackTraces by rw [X.admits.platform]).trans hl
  have Y := vx_rebase X (R' := { frames := R.frames, locals := R.locals, cells := 1, slots := 6 }) (Nat.le_refl _) (Nat.le_refl _) hRcells hRslots
  obtain ⟨s', hA⟩ : ∃ z, z = (T.setVm s.vm).setFrames (.invoking m args :: below) := ⟨_, rfl⟩
  rw [← hA] at Y
  have hvm : s'.vm = s.vm := by rw [hA]; rfl
  have hhp : s'.heap = H := by rw [hA]; exact hT
  have hW0 : s.WarmedH s'.vm := by rw [hvm]; exact State.WarmedH.refl s
  have hat' : ∀ w ∈ vx_atS own ic cls names, w.before args s' = true := fun w hw => vx_ot_at hW0 hvm.symm (hgood w (List.mem_cons_of_mem _ (List.mem_cons_of_mem _ hw))) (hat w hw)
  have hk' : (Cond.classLink own ik cls).before args s' = true := vx_ot_at hW0 hvm.symm (hgood _ List.mem_cons_self) hk
  have hini' : (Cond.initialized cls).before args s' = true := vx_ot_at hW0 hvm.symm (hgood _ (List.mem_cons_of_mem _ List.mem_cons_self)) hini
  have hU' : vx_Zq Bundle.tN "UNASSIGNED_STACK" Bundle.steD A s' s'.heap := by rw [hhp]; exact vx_Zq.moved hW0.alike (hU.kept hS.2.1)
  have hN' : vx_Zq Bundle.tN "SUPPRESSED_SENTINEL" Bundle.listD A s' s'.heap := by rw [hhp]; exact vx_Zq.moved hW0.alike (hN.kept hS.2.1)
  have h : ∀ w ∈ Bundle.ownAtoms own ic cls names, w.before args s' = true := vx_own hat' (vx_isRefq hU'.1) (vx_isRefq hN'.1) hU'.2.word hN'.2.word
  have hown' : s'.vm.findClass own = some m.cls := by rw [hvm]; exact hown
  have hins : (Cond.instantiable cls 6).before args s' = true := h _ (by simp [Bundle.ownAtoms])
  obtain ⟨vm₁, cX, kX, hfX, hkX, -, -, X₁, st1⟩ := Y.newCold hexec (own := own) (C := cls) (index := ik) (n := 6) hown' hk' hins hini'
    (g := F0 m pc ls rest) rfl (by rw [hb]; exact d0) (Nat.le_refl _) (Nat.le_refl _)
  generalize hT1 : (T.setVm vm₁).pushCell { cls := cX, slots := kX.instanceTypes.map defaultValue, vm := .none } = T1 at X₁ st1
  have hcat : (Value.ref T.heap.size).category = 1 := rfl
  have hcellA : T1.heap[T.heap.size]? = some (freshCell cX kX) := by rw [← hT1]; exact State.heap_pushCell_size _ _
  have d3' : decode c.code (pc + 3) = .ok (.dup, 1) := by rw [hb]; exact d3
  have d4' : decode c.code (pc + 4) = .ok (.ldc_w is, 3) := by rw [hb]; exact d4
  have hstr' : vk_R own is text sa s' := vk_R.warm hW0 hstr
  obtain ⟨U, hsteps, hrun, hend, hW, hsame, ce, hce, hO⟩ := X₁.ctorThrowS hexec htr (own := own) (cls := cls) (names := names) (ic := ic) hown' hcls hnames h (fun x hx => nomatch hx) hfX hkX hcellA (by rw [hhp, hT]; exact Nat.le_refl _) (msg := .ref sa) rfl
    (g := { method := m, pc := pc + 7, locals := ls, stack := .ref sa :: .ref T.heap.size :: .ref T.heap.size :: rest, locked := none }) rfl hsize rfl rfl (rest := rest) rfl
    (by rw [hb]; exact d7) (by rw [hb]; exact d10) hout hRframes (by simp only [List.map_cons, List.sum_cons, hcat]; omega) hlocks
  obtain ⟨f1, f2⟩ := vx_frame hsame
  rw [hhp] at f1 f2
  have hWs : s.WarmedH U.vm := State.WarmedH.trans hW0 hW
  have hcl : s.vm.findClass cls = some ce.cls := by
    have h9 := hO.cls
    rw [hvm] at h9
    exact h9
  have hall : s.sameButNew ({ U with vm := s.vm } : State) locs mc ms := by
    subst hA
    obtain ⟨e1, e2⟩ := hsame
    rw [State.setFrames_setFrames] at e1
    have h2 : (T.setVm s.vm).sameButNew ({ U with vm := s.vm } : State) [] (0 + 1) (0 + 6) := ⟨e1, e2⟩
    have h3 := X.same.trans h2
    rw [List.append_nil] at h3
    exact h3.mono hc hs
  refine ⟨U, ?_, .threw T.heap.size, hrun, hend, Or.inr ⟨T.heap.size, rfl, cls, ce, locs, hx U hWs.alike f1 (fun q hq => f2 q hq (fun z hz => nomatch hz)), hce, hO.vm, hcl, hWs, hall, hf⟩⟩
  refine st1 _ ?_
  show Steps p.tables e below (T1.setTop { method := m, pc := pc + 3, locals := ls, stack := .ref T.heap.size :: rest, locked := none }) _
  jvm_step X₁.here [X₁.here.top, hexec, d3', Value.category]
  exact X₁.ldcStringW hexec (own := own) (text := text) (index := is) (a := sa) hown' hstr'.1 hstr'.2
    (g := { method := m, pc := pc + 4, locals := ls, stack := .ref T.heap.size :: .ref T.heap.size :: rest, locked := none }) rfl d4' _ hsteps
end Ends
section Bodies
variable {l : Launch}
theorem vx_ofW {y : MethodName} {ws ws' : List Cond} {rm : Room} {Pc : Array Value → State → Prop} {Qc : Array Value → State → Outcome → State → Prop} {XC : String → State → State → Prop} {mc ms : Nat} {free : Addr → Prop} {cc : ByteArray} {maxL : Nat} {ret : Option FieldType}
    (hy : plainName y.cls = true) (hw : ws = Cond.code y cc maxL ret :: ws')
    (body : ∀ p e s m args below meth c s₁, BodyLoose p l y (headSpec ws rm) cc maxL ret e s m args below meth c s₁ → c.maxLocals = maxL → (∀ x ∈ c.exceptionTable.toList, False) → Pc args s →
      W p l e (headSpec ws rm).room s m args below meth c s.heap [] 0 0 (vx_MQ below Qc XC args s mc ms free) (entryFrame m args maxL)) : vx_Met l y ws rm Pc Qc XC mc ms free := by
  refine MetFree.of_bodyS (code := cc) (maxLocals := maxL) (ret := ret) hy ?_ ?_
  · intro args s m h hn
    obtain ⟨meth, c, h1, h2, h3, h4, h5, h6, -, -⟩ := Cond.code_spec hn (atoms_spec (ws := ws) h _ (by rw [hw]; exact List.mem_cons_self))
    exact ⟨meth, c, h1, h2, h3, h4, h5, h6⟩
  · intro p e s m args below meth c s₁ B hml hP _
    have hh0 : s₁.heap = s.heap := by rw [B.state]; rfl
    have ht : ∀ x ∈ c.exceptionTable.toList, False := by
      obtain ⟨meth9, c9, h1, h2, -, -, -, -, h7, -⟩ := Cond.code_spec B.named (atoms_spec (ws := ws) B.pre _ (by rw [hw]; exact List.mem_cons_self))
      cases Option.some.inj (h1.symm.trans B.method)
      cases Option.some.inj (h2.symm.trans (Stand.of_body B).code)
      intro x hx
      rw [Array.isEmpty_iff.mp h7] at hx
      cases hx
    obtain ⟨t, a1, o, b1, b2, b3⟩ := body p e s m args below meth c s₁ B hml ht hP s₁ hh0 (Stand.of_body B)
    exact ⟨t, o, a1, b1, b2, b3⟩
/-- the table of a body with handlers -/
theorem vx_table {p : Program} {x y : MethodName} {S : Spec} {cc bytes : ByteArray} {maxL maxL' : Nat} {ret ret' : Option FieldType} {e : Env} {s s₁ : State} {m : MethodId} {args : Array Value} {below : List Frame} {meth : Method} {c : Code} {hh : List (Nat × Nat × Nat × Nat)}
    (B : BodyLoose p l y S cc maxL ret e s m args below meth c s₁) (h : (Cond.codeWith y bytes maxL' ret' hh).before args s = true) : c.exceptionTable.toList = tableOf hh := by
  obtain ⟨m9, meth9, c9, hn9, h1, h2, -, -, h6, -⟩ := Cond.codeWith_spec h
  cases Option.some.inj (hn9.symm.trans B.named)
  cases Option.some.inj (h1.symm.trans B.method)
  cases Option.some.inj (h2.symm.trans (Stand.of_body B).code)
  rw [← h6, table_eq]
end Bodies
end VXA
/-! ===== END ===== -/
/-! ===== BEGIN a static call of a method with an exception table ===== -/
section VXS
variable {p : Program} {l : Launch} {e : Env} {R : Room} {s : State} {m : MethodId} {args : Array Value} {below : List Frame} {meth : Method} {c : Code} {T : State} {H : Heap} {locs : List Loc} {cells slots : Nat}
abbrev vx_CSW (R : Room) (s : State) (args : Array Value) (own : String) (index : Nat) (y : MethodName) (bytes : ByteArray) (maxL : Nat) (ret : Option FieldType) (hh : List (Nat × Nat × Nat × Nat)) (ws : List Cond) (rm : Room) (mc ms n : Nat) : Prop :=
  (rm.cells = mc ∧ rm.slots = ms ∧ rm.frames + 1 ≤ R.frames ∧ 8 + (maxL + 11) + rm.locals ≤ R.locals ∧ (∀ w ∈ ws, ∀ (a' : Array Value) (U : State), s.WarmedH U.vm → w.before a' U = true) ∧ Cond.codeWith y bytes maxL ret hh ∈ ws) ∧
  (Cond.codeWith y bytes maxL ret hh).before args s = true ∧ (Cond.initialized y.cls).before args s = true ∧ (y.cls ≠ "java/lang/invoke/MethodHandle" ∧ y.cls ≠ "java/lang/invoke/VarHandle") ∧
  (∀ sig, parseMethodDescriptor y.desc = some sig → n = sig.parameters.length) ∧ (Cond.methodLink own index y).before args s = true ∧ (Cond.static y).before args s = true
theorem vx_cwSW {own : String} {index maxL mc ms : Nat} {y : MethodName} {bytes : ByteArray} {ret : Option FieldType} {hh : List (Nat × Nat × Nat × Nat)} {Ts ws ws' : List Cond} {rm : Room} (n : Nat) (ht : ∀ w ∈ Ts, w.before args s = true) (hT : GoodIn Ts (va_wsS own index y ws)) (hw : ws = Cond.codeWith y bytes maxL ret hh :: ws') (hrc : rm.cells = mc) (hrs : rm.slots = ms)
    (hd : y.cls ≠ "java/lang/invoke/MethodHandle" ∧ y.cls ≠ "java/lang/invoke/VarHandle" ∧ (parseMethodDescriptor y.desc).map (fun d => d.parameters.length) = some n) (hR : rm.frames + 1 ≤ R.frames ∧ 8 + (maxL + 11) + rm.locals ≤ R.locals) :
    vx_CSW R s args own index y bytes maxL ret hh ws rm mc ms n := by
  have ok : ∀ w ∈ va_wsS own index y ws, w.before args s = true := fun w h => ht w (hT w h).1
  have hG : GoodIn Ts ws := fun w h => hT w (by unfold va_wsS; exact List.mem_append_right _ h)
  have hc : Cond.codeWith y bytes maxL ret hh ∈ ws := by rw [hw]; exact List.mem_cons_self
  refine ⟨⟨hrc, hrs, hR.1, hR.2, pay_in ht hG, hc⟩, ht _ (hG _ hc).1, ok _ (by simp [va_wsS]), ⟨hd.1, hd.2.1⟩, fun sig h => ?_, ok _ (by simp [va_wsS]), ok _ (by simp [va_wsS])⟩
  have h2 := hd.2.2
  rw [h] at h2
  exact (Option.some.inj h2).symm
theorem vx_callSW (X : Stand p l e R s m args below meth c T locs cells slots) (hexec : p.tables.exec = Jvm.exec) {own : String} {index : Nat} {y : MethodName} {bytes : ByteArray} {maxL : Nat} {ret : Option FieldType} {hh : List (Nat × Nat × Nat × Nat)}
    (hown : s.vm.findClass own = some m.cls) (hlink : (Cond.methodLink own index y).before args s = true) (hstat : (Cond.static y).before args s = true) (hinit : (Cond.initialized y.cls).before args s = true)
    (hcode : (Cond.codeWith y bytes maxL ret hh).before args s = true) (hy : y.cls ≠ "java/lang/invoke/MethodHandle" ∧ y.cls ≠ "java/lang/invoke/VarHandle")
    {W9 : Nat} {Pre : Pt → Array Value → Prop} {Post : Pt → Array Value → Option Value → Pt → Prop} (hK : Back l R p e below s args y 3 W9 Pre Post)
    {g : JFrame} (hg : g.method = m) (hsize : g.locals.size = c.maxLocals) {argsL rest : List Value} (hlen : ∀ sig, parseMethodDescriptor y.desc = some sig → argsL.length = sig.parameters.length)
    (hstack : g.stack = argsL.reverse ++ rest) (hW : 2 * g.monitorRoom + (rest.map fun v => v.category).sum ≤ W9) (hdg : decode c.code g.pc = .ok (.invokestatic index, 3))
    (hpre : ∀ vm₁, s.WarmedH vm₁ → Pre ⟨T.setVm vm₁, locs, cells, slots⟩ argsL.toArray) :
    ∃ (v : Option Value) (vm₁ : Vm) (B : Pt), s.WarmedH vm₁ ∧ Stand p l e R s m args below meth c B.U B.locs B.cells B.slots ∧ Post ⟨T.setVm vm₁, locs, cells, slots⟩ argsL.toArray v B ∧
      ∀ target, Steps p.tables e below (B.U.setTop { g with pc := g.pc + 3, stack := v.toList ++ rest }) target → Steps p.tables e below (T.setTop g) target := by
  obtain ⟨mk, methM, cM, hnamed, hmethM, -, -, -, -, -, -, hsigM⟩ := Cond.codeWith_spec hcode
  have hstatic : methM.isStatic = true := Cond.static_spec hnamed hmethM hstat
  obtain ⟨kP, hkP, -⟩ := className_of_methodNamed hnamed
  have hinitP : kP.init = .initialized := Cond.initialized_spec (findClass_of_methodNamed hnamed) hkP hinit
  obtain ⟨vm₁, X₁, hstep₁⟩ := X.invokestatic hexec hown hlink hnamed hmethM hstatic hkP hinitP hy (g := g) hg (argsL := argsL) (rest := rest) (hlen _ hsigM) hstack hdg
  obtain ⟨v, B, X', hpost, hsteps⟩ := hK m meth c ⟨T.setVm vm₁, locs, cells, slots⟩ { g with stack := rest } (.invokestatic index) mk argsL.toArray X₁ hg hsize hdg hW (X₁.named hnamed) (hpre vm₁ X₁.warmed)
  exact ⟨v, vm₁, B, X₁.warmed, X', hpost, fun target h => hstep₁ _ fun acts => by rw [doInvoke_state]; exact hsteps.trans h⟩
theorem vx_runSW {y : MethodName} {bytes cc : ByteArray} {maxL nL mc ms n index : Nat} {ret : Option FieldType} {hh : List (Nat × Nat × Nat × Nat)} {ws : List Cond} {rm : Room} {Pc : Array Value → State → Prop} {Qc : Array Value → State → Outcome → State → Prop} {free : Addr → Prop} {Ts : List Cond} {own : String} {As rest : List Value} {g : JFrame}
    (S : CallFix p m c cc nL s args Ts own) (hM : Met l y ws rm Pc Qc mc ms free) (cw : vx_CSW R s args own index y bytes maxL ret hh ws rm mc ms n) (hp : PreS s H Pc As)
    (hg : g.method = m) (hn : As.length = n) (hsize : g.locals.size = nL) (hstack : g.stack = As.reverse ++ rest) (hW : 2 * g.monitorRoom + (rest.map fun v => v.category).sum ≤ 8) (hdg : decode cc g.pc = .ok (.invokestatic index, 3)) (hf : cells + mc ≤ R.cells ∧ slots + ms ≤ R.slots) :
    va_Run p l e R s m args below meth c H locs cells slots mc ms g rest (Qc As.toArray) (free) := by
  obtain ⟨⟨hrc, hrs, hfr, hlo, hws, hcw⟩, hcode, hini, hy, hlen, hl, hstt⟩ := cw
  have hK : Back l R p e below s args y 3 8 (PreOf R mc ms Pc) (PostOf Qc mc ms free) := va_backW (hh := hh) (bytes := bytes) (maxL := maxL) (ret := ret) hM hp.1 hrc hrs hfr hlo hws hcw (fun a' U hW => word_at hW (Or.inl (by first | rfl | simp [Cond.onTables, Cond.keeps, Cond.steady])) hini)
  obtain ⟨hx, hb, hml, ho, -⟩ := S
  intro T hT X
  obtain ⟨v, vm₁, ⟨U', l2, c2, s2⟩, hW₁, X', ⟨g', mk, t, L, e1, e2, hq, h1, hL, h2, h3⟩, st⟩ := vx_callSW X hx (hh := hh) (bytes := bytes) (maxL := maxL) (ret := ret) ho hl hstt hini hcode hy hK hg (hsize.trans hml.symm) (argsL := As) (rest := rest) (fun sig h => hn.trans (hlen sig h)) hstack hW (by rw [hb]; exact hdg)
    (fun vm₁ hW₁ => ⟨hf.1, hf.2, hp.2 (T.setVm vm₁) hT hW₁⟩)
  dsimp only [Pt.U, Pt.locs, Pt.cells, Pt.slots] at X' e1 e2 h1 h2 h3 st
  subst h1; subst h2; subst h3
  exact ⟨v, (T.setVm vm₁).calling g' mk As.toArray, t, U', L, hT, X', hL, e1, e2, hq, st⟩
/-- not caught here, past rows that name other classes: it goes on to the caller -/
theorem vx_outP {p : Program} {l : Launch} {e : Env} {R : Room} {s : State} {m : MethodId} {args : Array Value} {below : List Frame} {meth : Method} {c : Code} {H : Heap} {locs : List Loc} {cells slots : Nat} {free : Addr → Prop} {ls : Array Slot} {rest : List Value} {Qc : Array Value → State → Outcome → State → Prop} {XC : String → State → State → Prop}
    {pc : Nat} {own E : String} {ce : Cell} {q : Addr} {mc ms : Nat} (hown : s.vm.findClass own = some m.cls) (hlocks : meth.locks = false)
    (hpass : ∀ z ∈ c.exceptionTable.toList, covers z pc = false ∨ (z.catchType ≠ 0 ∧ ∃ nm : String, (Cond.classLink own z.catchType nm).before args s = true ∧ va_Nc E nm s)) (hcell : H[q]? = some ce) (hv : ce.vm = .none) (hcl : s.vm.findClass E = some ce.cls)
    (hx : ∀ t : State, t.heap = H → s.vm.Alike t.vm → XC E s t) (hf : ∀ z ∈ locs, free z.base) (hc : cells ≤ mc) (hs : slots ≤ ms) :
    vx_W p l e R s m args below meth c H locs cells slots (vx_MQ below Qc XC args s mc ms free) (F0 m pc ls rest) q := by
  intro T hT X
  have hpl : e.platform.magicAccessors = ({} : Platform).magicAccessors := by rw [X.admits.platform]
  obtain ⟨vm', hW', X', st⟩ := X.outThrough hlocks q (g := F0 m pc ls rest) rfl rfl rfl (cell := ce) (by rw [hT]; exact hcell) (by rw [hv]; rfl)
    (by obtain ⟨k9, h9, -⟩ := Vm.findClass_spec hcl; exact ⟨k9, h9⟩) (fun z hz => by
      rcases hpass z hz with h | ⟨hz0, nm, hl1, hn1⟩
      · exact Or.inl h
      · obtain ⟨c6, hc6, hcl6⟩ := Cond.classLink_spec hown hl1 e.platform hpl
        obtain ⟨a8, b8, h1, h2, h3⟩ := hn1
        cases Option.some.inj (h1.symm.trans hcl)
        cases Option.some.inj (h2.symm.trans hc6)
        exact Or.inr ⟨hz0, _, hcl6, h3⟩)
  obtain ⟨g₀, hfr⟩ := X'.frames_eq
  have hcell9 : ((T.setVm vm').setFrames (.throwing q :: below)).heap[q]? = some ce := by
    show T.heap[q]? = some ce
    rw [hT]; exact hcell
  have hend : Ended ((T.setVm vm').setFrames (.throwing q :: below)) below (.threw q) := State.frames_setFrames _ (State.cur_lt_of_frames hfr)
  refine ⟨(T.setVm vm').setFrames (.throwing q :: below), ?_, .threw q, X'.here.running, hend, Or.inr ⟨q, rfl, E, ce, locs, hx _ hT (X'.ends _).1.alike, hcell9, hv, hcl, (X'.ends _).1, (X'.ends _).2.mono hc hs, hf⟩⟩
  rw [X.pushThrowing_eq]
  exact st
/-- a thing of a world lies in the heap -/
theorem vx_lt {D : va_G} {cl : List vw_C} {ws : va_W} {H1 : Heap} (h : va_P D cl ws H1) {k : Nat} {q : Nat × va_E} (hk : ws[k]? = some q) : q.1 < H1.size := (h k q hk).lt
end VXS
/-! ===== END ===== -/
/-! ===== BEGIN methods with a table of their own: called by a name, returning or throwing ===== -/
section VXH
/-! vx_backW, vx_callVX, vx_callSX, vx_callVW, vx_runVW, vx_runVX, vx_runSX, vx_ofWH follow the same proofs as their sisters above (Free/Laws.lean, Shelf42/LK1.lean); vx_outP calls Shelf42/NT130.lean (outThrough). -/
section
variable {l : Launch} {R : Room} {p : Program} {e : Env} {below : List Frame} {s : State} {sargs : Array Value} {y : MethodName} {len W9 : Nat}
theorem vx_backW {ws : List Cond} {rm : Room} {Pc : Array Value → State → Prop} {Qc : Array Value → State → Outcome → State → Prop} {XC : String → State → State → Prop} {mc ms : Nat} {free : Addr → Prop} {bytes : ByteArray} {maxL : Nat} {ret : Option FieldType} {hh : List (Nat × Nat × Nat × Nat)}
    (hM : vx_Met l y ws rm Pc Qc XC mc ms free) (hblind : FrameBlind Pc) (hrc : rm.cells = mc) (hrs : rm.slots = ms)
    (hframes : rm.frames + 1 ≤ R.frames) (hlocals : W9 + (maxL + 11) + rm.locals ≤ R.locals)
    (hws : ∀ w ∈ ws, ∀ a' U, s.WarmedH U.vm → w.before a' U = true) (hcode : Cond.codeWith y bytes maxL ret hh ∈ ws) (hinit : ∀ a' U, s.WarmedH U.vm → (Cond.initialized y.cls).before a' U = true) :
    vx_Back l R p e below s sargs y len W9 (PreOf R mc ms Pc) (PostOf Qc mc ms free) (vx_Post XC mc ms free) := by
  intro m meth c A g ig mk a X hg hsize hdg hW hn hp
  have h1 : (headSpec ws rm).pre.before a A.U = true := atoms_intro fun w hw => hws w hw _ _ X.warmed
  have h2 : (Cond.codeWith y bytes maxL ret hh).before a A.U = true := hws _ hcode _ _ X.warmed
  have h3 : (Cond.initialized y.cls).before a A.U = true := hinit _ _ X.warmed
  have h4 : A.cells + (headSpec ws rm).room.cells ≤ R.cells := by rw [show (headSpec ws rm).room.cells = mc from hrc]; exact hp.1
  have h5 : A.slots + (headSpec ws rm).room.slots ≤ R.slots := by rw [show (headSpec ws rm).room.slots = ms from hrs]; exact hp.2.1
  have hPc : Pc a (A.U.calling g mk a) := hblind _ _ _ _ hp.2.2
  obtain ⟨U, Ls, c0, s0⟩ := A
  dsimp only [Pt.U, Pt.locs, Pt.cells, Pt.slots] at h1 h2 h3 h4 h5 X hn hPc ⊢
  obtain ⟨m9, methY, cY, hn9, hmY, hcY, -, hlY, -⟩ := Cond.codeWith_spec h2
  cases Option.some.inj (hn9.symm.trans hn)
  obtain ⟨kY, hkY, -⟩ := className_of_methodNamed hn
  have hinitY : kY.init = .initialized := Cond.initialized_spec (findClass_of_methodNamed hn) hkY h3
  have h : At U g.method c below := by rw [hg]; exact X.here
  have hlocals9 : W9 + (maxL + 11) + (headSpec ws rm).room.locals ≤ R.locals := hlocals
  have happ : (headSpec ws rm).appliesLoose y e.platform (U.calling g mk a) = true :=
    Spec.appliesLoose_calling (g := g) h hdg hn hkY hinitY
      (X.room_calling (g := g) (R' := (headSpec ws rm).room) hsize hmY hcY hframes (by rw [hlY]; omega) h4 h5) h1
  obtain ⟨mid, hmid⟩ := h.above
  have hfr : (U.setTop g).frames = (.java g :: mid) ++ below := by rw [State.frames_setTop' g h.top, hmid]; rfl
  obtain ⟨o, s₂, hsteps, -, hend, hq⟩ := Steps.callFree hM p X.admits X.cas X.clock (acts := []) hfr happ hPc trivial
  have hq' : vx_Q Qc XC mc ms free a (U.calling g mk a) o s₂ := hq
  rw [State.frames_setTop' g h.top] at hend
  obtain ⟨g₀, hg0⟩ := Option.isSome_iff_exists.mp h.top
  obtain ⟨r, hr⟩ := State.topJava?_eq_some.mp hg0
  have hr' : (({ U with heap := s₂.heap, slotsUsed := s₂.slotsUsed } : State).setVm s₂.vm).frames = .java g₀ :: r := hr
  rcases hq' with ⟨hqc, L, hfe, hL⟩ | ⟨q, rfl, E, ce, L, hx, hce, hcv, hcl, hW₂, hsm, hL⟩
  · obtain ⟨⟨v, rfl⟩, hW₂, e2, q2, q3, q4, q5, q6⟩ := id hfe
    have e3 : s₂ = ({ (U.calling g mk a).setFrames s₂.frames with heap := s₂.heap, slotsUsed := s₂.slotsUsed } : State).setVm s₂.vm := by
      have : s₂ = ({ s₂ with vm := (U.calling g mk a).vm } : State).setVm s₂.vm := rfl
      rw [e2] at this
      exact this
    obtain ⟨c₂, i₂, len₂, hc₂, hd₂, hf₂⟩ := hend
    have hW' : U.WarmedH s₂.vm := hW₂
    have hcc : c₂ = c := by
      have h1 : s₂.code? g.method = U.code? g.method := by
        rw [State.code?_eq, State.code?_eq, hW'.alike.method?]
      exact Option.some.inj (hc₂.symm.trans (h1.trans h.code))
    subst hcc
    have hlen : len₂ = len := by rw [hdg] at hd₂; cases hd₂; rfl
    subst hlen
    have hs₂ : s₂ = (({ U with heap := s₂.heap, slotsUsed := s₂.slotsUsed } : State).setVm s₂.vm).setTop { g with pc := g.pc + len₂, stack := v.toList ++ g.stack } := by
      refine e3.trans ?_
      rw [hf₂, State.calling_eq h.top, State.setFrames_setFrames, State.setTop_of_frames _ hr', hr]
      rfl
    have hsame : U.sameButNew ({ U with heap := s₂.heap, slotsUsed := s₂.slotsUsed } : State) L mc ms := by
      refine ⟨?_, q2, q3, q4, q5, q6⟩
      obtain ⟨t, ht, -⟩ := State.frames_cons hr
      show ({ U with heap := s₂.heap, slotsUsed := s₂.slotsUsed } : State) = { U.setFrames U.frames with heap := s₂.heap, slotsUsed := s₂.slotsUsed }
      rw [State.setFrames_self ht]
    subst hg
    refine Or.inl ⟨v, ⟨(({ U with heap := s₂.heap, slotsUsed := s₂.slotsUsed } : State).setVm s₂.vm), Ls ++ L, c0 + mc, s0 + ms⟩,
      ⟨X.admits, X.cas, X.clock, X.frames, X.room, X.hears, X.method, X.code, (X.here.setHeapUsed s₂.heap s₂.slotsUsed).setVm hW'.alike, X.tail, State.WarmedH.trans X.warmed hW', X.limits, X.bytes, X.same.trans (hsame.setVm s.vm)⟩,
      ⟨g, mk, s₂, L, rfl, rfl, hqc, rfl, hL, rfl, rfl⟩, ?_⟩
    show Steps p.tables e below _ ((({ U with heap := s₂.heap, slotsUsed := s₂.slotsUsed } : State).setVm s₂.vm).setTop { g with pc := g.pc + len₂, stack := v.toList ++ g.stack })
    rw [← hs₂]
    exact hsteps
  · obtain ⟨e2, q2, q3, q4, q5, q6⟩ := id hsm
    have e3 : s₂ = ({ (U.calling g mk a).setFrames s₂.frames with heap := s₂.heap, slotsUsed := s₂.slotsUsed } : State).setVm s₂.vm := by
      have : s₂ = ({ s₂ with vm := (U.calling g mk a).vm } : State).setVm s₂.vm := rfl
      rw [e2] at this
      exact this
    have hf₂ : s₂.frames = .throwing q :: .java g :: U.frames.tail := hend
    have hW' : U.WarmedH s₂.vm := hW₂
    have hs₂ : s₂ = ((({ U with heap := s₂.heap, slotsUsed := s₂.slotsUsed } : State).setVm s₂.vm).setTop g).pushFrame (.throwing q) := by
      refine e3.trans ?_
      rw [hf₂, State.calling_eq h.top, State.setFrames_setFrames, State.pushFrame, State.frames_setTop _ hr', State.setTop_of_frames _ hr', State.setFrames_setFrames, hr]
      rfl
    have hsame : U.sameButNew ({ U with heap := s₂.heap, slotsUsed := s₂.slotsUsed } : State) L mc ms := by
      refine ⟨?_, q2, q3, q4, q5, q6⟩
      obtain ⟨t, ht, -⟩ := State.frames_cons hr
      show ({ U with heap := s₂.heap, slotsUsed := s₂.slotsUsed } : State) = { U.setFrames U.frames with heap := s₂.heap, slotsUsed := s₂.slotsUsed }
      rw [State.setFrames_self ht]
    subst hg
    refine Or.inr ⟨q, ⟨(({ U with heap := s₂.heap, slotsUsed := s₂.slotsUsed } : State).setVm s₂.vm), Ls ++ L, c0 + mc, s0 + ms⟩,
      ⟨X.admits, X.cas, X.clock, X.frames, X.room, X.hears, X.method, X.code, (X.here.setHeapUsed s₂.heap s₂.slotsUsed).setVm hW'.alike, X.tail, State.WarmedH.trans X.warmed hW', X.limits, X.bytes, X.same.trans (hsame.setVm s.vm)⟩,
      ⟨g, mk, s₂, L, E, ce, rfl, rfl, hx, hce, hcv, hcl, rfl, hL, rfl, rfl⟩, ?_⟩
    show Steps p.tables e below _ (((({ U with heap := s₂.heap, slotsUsed := s₂.slotsUsed } : State).setVm s₂.vm).setTop g).pushFrame (.throwing q))
    rw [← hs₂]
    exact hsteps
end
variable {p : Program} {l : Launch} {e : Env} {R : Room} {s : State} {m : MethodId} {args : Array Value} {below : List Frame} {meth : Method} {c : Code} {T : State} {H : Heap} {locs : List Loc} {cells slots : Nat}
theorem vx_callVX (X : Stand p l e R s m args below meth c T locs cells slots) (hexec : p.tables.exec = Jvm.exec) {own C : String} {index : Nat} {y : MethodName} {bytes : ByteArray} {maxL : Nat} {ret : Option FieldType} {hh : List (Nat × Nat × Nat × Nat)}
    (hown : s.vm.findClass own = some m.cls) (hlink : (Cond.methodLink own index y).before args s = true) (hinst : (Cond.instanceMethod y).before args s = true) (hsel : (Cond.selects C y y).before args s = true)
    (hcode : (Cond.codeWith y bytes maxL ret hh).before args s = true) (hy : y.cls ≠ "java/lang/invoke/MethodHandle" ∧ y.cls ≠ "java/lang/invoke/VarHandle")
    {W9 : Nat} {Pre : Pt → Array Value → Prop} {Post : Pt → Array Value → Option Value → Pt → Prop} {PostX : Pt → Array Value → Addr → Pt → Prop} (hK : vx_Back l R p e below s args y 3 W9 Pre Post PostX)
    {b : Addr} {cellB : Cell} (hcell : T.heap[b]? = some cellB) (hobj : cellB.vm.isStatics = false) (hcls : s.vm.findClass C = some cellB.cls)
    {g : JFrame} (hg : g.method = m) (hsize : g.locals.size = c.maxLocals) {argsL rest : List Value} (hlen : ∀ sig, parseMethodDescriptor y.desc = some sig → argsL.length = sig.parameters.length)
    (hstack : g.stack = argsL.reverse ++ .ref b :: rest) (hW : 2 * g.monitorRoom + (rest.map fun v => v.category).sum ≤ W9) (hdg : decode c.code g.pc = .ok (.invokevirtual index, 3))
    (hpre : ∀ vm₁, s.WarmedH vm₁ → Pre ⟨T.setVm vm₁, locs, cells, slots⟩ (Value.ref b :: argsL).toArray) :
    (∃ (v : Option Value) (vm₁ : Vm) (B : Pt), s.WarmedH vm₁ ∧ Stand p l e R s m args below meth c B.U B.locs B.cells B.slots ∧ Post ⟨T.setVm vm₁, locs, cells, slots⟩ (Value.ref b :: argsL).toArray v B ∧
      ∀ target, Steps p.tables e below (B.U.setTop { g with pc := g.pc + 3, stack := v.toList ++ rest }) target → Steps p.tables e below (T.setTop g) target) ∨
    (∃ (q : Addr) (vm₁ : Vm) (B : Pt), s.WarmedH vm₁ ∧ Stand p l e R s m args below meth c B.U B.locs B.cells B.slots ∧ PostX ⟨T.setVm vm₁, locs, cells, slots⟩ (Value.ref b :: argsL).toArray q B ∧
      Steps p.tables e below (T.setTop g) ((B.U.setTop { g with stack := rest }).pushFrame (.throwing q))) := by
  obtain ⟨mk, methM, hnamed, hmethM, hstM, habM⟩ := Cond.instanceMethod_spec hinst
  obtain ⟨m8, methM', cM, hn8, hmethM', -, -, -, -, -, -, hsigM⟩ := Cond.codeWith_spec hcode
  cases Option.some.inj (hn8.symm.trans hnamed)
  cases hmethM.symm.trans hmethM'
  obtain ⟨c2, r2, m2, q1, q2, q3, q4, kP, hkP, hkPi⟩ := Cond.selects_spec hsel
  cases hcls.symm.trans q1
  cases (State.methodFound?_of_named hnamed hy).symm.trans q2
  cases hnamed.symm.trans q3
  have hselP : selectMethod e.platform s.vm cellB.cls mk = .method mk := by rw [Launch.admits_selectMethod X.admits]; exact q4
  obtain ⟨vm₁, X₁, hstep₁⟩ := X.invokevirtual hexec hown hlink hnamed hmethM hstM hkP hkPi hy (a := b) (cell := cellB) hcell
    (fun z h => by rw [h] at hobj; cases hobj) hselP hmethM habM hkP hkPi (g := g) hg (argsL := argsL) (rest := rest) (hlen _ hsigM) hstack hdg
  rcases hK m meth c ⟨T.setVm vm₁, locs, cells, slots⟩ { g with stack := rest } (.invokevirtual index) mk (Value.ref b :: argsL).toArray X₁ hg hsize hdg hW (X₁.named hnamed) (hpre vm₁ X₁.warmed) with ⟨v, B, X', hpost, hsteps⟩ | ⟨q, B, X', hpost, hsteps⟩
  · exact Or.inl ⟨v, vm₁, B, X₁.warmed, X', hpost, fun target h => hstep₁ _ fun acts => by rw [doInvoke_state]; exact hsteps.trans h⟩
  · exact Or.inr ⟨q, vm₁, B, X₁.warmed, X', hpost, hstep₁ _ fun acts => by rw [doInvoke_state]; exact hsteps⟩
theorem vx_callSX (X : Stand p l e R s m args below meth c T locs cells slots) (hexec : p.tables.exec = Jvm.exec) {own : String} {index : Nat} {y : MethodName} {bytes : ByteArray} {maxL : Nat} {ret : Option FieldType} {hh : List (Nat × Nat × Nat × Nat)}
    (hown : s.vm.findClass own = some m.cls) (hlink : (Cond.methodLink own index y).before args s = true) (hstat : (Cond.static y).before args s = true) (hinit : (Cond.initialized y.cls).before args s = true)
    (hcode : (Cond.codeWith y bytes maxL ret hh).before args s = true) (hy : y.cls ≠ "java/lang/invoke/MethodHandle" ∧ y.cls ≠ "java/lang/invoke/VarHandle")
    {W9 : Nat} {Pre : Pt → Array Value → Prop} {Post : Pt → Array Value → Option Value → Pt → Prop} {PostX : Pt → Array Value → Addr → Pt → Prop} (hK : vx_Back l R p e below s args y 3 W9 Pre Post PostX)
    {g : JFrame} (hg : g.method = m) (hsize : g.locals.size = c.maxLocals) {argsL rest : List Value} (hlen : ∀ sig, parseMethodDescriptor y.desc = some sig → argsL.length = sig.parameters.length)
    (hstack : g.stack = argsL.reverse ++ rest) (hW : 2 * g.monitorRoom + (rest.map fun v => v.category).sum ≤ W9) (hdg : decode c.code g.pc = .ok (.invokestatic index, 3))
    (hpre : ∀ vm₁, s.WarmedH vm₁ → Pre ⟨T.setVm vm₁, locs, cells, slots⟩ argsL.toArray) :
    (∃ (v : Option Value) (vm₁ : Vm) (B : Pt), s.WarmedH vm₁ ∧ Stand p l e R s m args below meth c B.U B.locs B.cells B.slots ∧ Post ⟨T.setVm vm₁, locs, cells, slots⟩ argsL.toArray v B ∧
      ∀ target, Steps p.tables e below (B.U.setTop { g with pc := g.pc + 3, stack := v.toList ++ rest }) target → Steps p.tables e below (T.setTop g) target) ∨
    (∃ (q : Addr) (vm₁ : Vm) (B : Pt), s.WarmedH vm₁ ∧ Stand p l e R s m args below meth c B.U B.locs B.cells B.slots ∧ PostX ⟨T.setVm vm₁, locs, cells, slots⟩ argsL.toArray q B ∧
      Steps p.tables e below (T.setTop g) ((B.U.setTop { g with stack := rest }).pushFrame (.throwing q))) := by
  obtain ⟨mk, methM, cM, hnamed, hmethM, -, -, -, -, -, -, hsigM⟩ := Cond.codeWith_spec hcode
  have hstatic : methM.isStatic = true := Cond.static_spec hnamed hmethM hstat
  obtain ⟨kP, hkP, -⟩ := className_of_methodNamed hnamed
  have hinitP : kP.init = .initialized := Cond.initialized_spec (findClass_of_methodNamed hnamed) hkP hinit
  obtain ⟨vm₁, X₁, hstep₁⟩ := X.invokestatic hexec hown hlink hnamed hmethM hstatic hkP hinitP hy (g := g) hg (argsL := argsL) (rest := rest) (hlen _ hsigM) hstack hdg
  rcases hK m meth c ⟨T.setVm vm₁, locs, cells, slots⟩ { g with stack := rest } (.invokestatic index) mk argsL.toArray X₁ hg hsize hdg hW (X₁.named hnamed) (hpre vm₁ X₁.warmed) with ⟨v, B, X', hpost, hsteps⟩ | ⟨q, B, X', hpost, hsteps⟩
  · exact Or.inl ⟨v, vm₁, B, X₁.warmed, X', hpost, fun target h => hstep₁ _ fun acts => by rw [doInvoke_state]; exact hsteps.trans h⟩
  · exact Or.inr ⟨q, vm₁, B, X₁.warmed, X', hpost, hstep₁ _ fun acts => by rw [doInvoke_state]; exact hsteps⟩
theorem vx_callVW (X : Stand p l e R s m args below meth c T locs cells slots) (hexec : p.tables.exec = Jvm.exec) {own C : String} {index : Nat} {y : MethodName} {bytes : ByteArray} {maxL : Nat} {ret : Option FieldType} {hh : List (Nat × Nat × Nat × Nat)}
    (hown : s.vm.findClass own = some m.cls) (hlink : (Cond.methodLink own index y).before args s = true) (hinst : (Cond.instanceMethod y).before args s = true) (hsel : (Cond.selects C y y).before args s = true)
    (hcode : (Cond.codeWith y bytes maxL ret hh).before args s = true) (hy : y.cls ≠ "java/lang/invoke/MethodHandle" ∧ y.cls ≠ "java/lang/invoke/VarHandle")
    {W9 : Nat} {Pre : Pt → Array Value → Prop} {Post : Pt → Array Value → Option Value → Pt → Prop} (hK : Back l R p e below s args y 3 W9 Pre Post)
    {b : Addr} {cellB : Cell} (hcell : T.heap[b]? = some cellB) (hobj : cellB.vm.isStatics = false) (hcls : s.vm.findClass C = some cellB.cls)
    {g : JFrame} (hg : g.method = m) (hsize : g.locals.size = c.maxLocals) {argsL rest : List Value} (hlen : ∀ sig, parseMethodDescriptor y.desc = some sig → argsL.length = sig.parameters.length)
    (hstack : g.stack = argsL.reverse ++ .ref b :: rest) (hW : 2 * g.monitorRoom + (rest.map fun v => v.category).sum ≤ W9) (hdg : decode c.code g.pc = .ok (.invokevirtual index, 3))
    (hpre : ∀ vm₁, s.WarmedH vm₁ → Pre ⟨T.setVm vm₁, locs, cells, slots⟩ (Value.ref b :: argsL).toArray) :
    ∃ (v : Option Value) (vm₁ : Vm) (B : Pt), s.WarmedH vm₁ ∧ Stand p l e R s m args below meth c B.U B.locs B.cells B.slots ∧ Post ⟨T.setVm vm₁, locs, cells, slots⟩ (Value.ref b :: argsL).toArray v B ∧
      ∀ target, Steps p.tables e below (B.U.setTop { g with pc := g.pc + 3, stack := v.toList ++ rest }) target → Steps p.tables e below (T.setTop g) target := by
  obtain ⟨mk, methM, hnamed, hmethM, hstM, habM⟩ := Cond.instanceMethod_spec hinst
  obtain ⟨m8, methM', cM, hn8, hmethM', -, -, -, -, -, -, hsigM⟩ := Cond.codeWith_spec hcode
  cases Option.some.inj (hn8.symm.trans hnamed)
  cases hmethM.symm.trans hmethM'
  obtain ⟨c2, r2, m2, q1, q2, q3, q4, kP, hkP, hkPi⟩ := Cond.selects_spec hsel
  cases hcls.symm.trans q1
  cases (State.methodFound?_of_named hnamed hy).symm.trans q2
  cases hnamed.symm.trans q3
  have hselP : selectMethod e.platform s.vm cellB.cls mk = .method mk := by rw [Launch.admits_selectMethod X.admits]; exact q4
  obtain ⟨vm₁, X₁, hstep₁⟩ := X.invokevirtual hexec hown hlink hnamed hmethM hstM hkP hkPi hy (a := b) (cell := cellB) hcell
    (fun z h => by rw [h] at hobj; cases hobj) hselP hmethM habM hkP hkPi (g := g) hg (argsL := argsL) (rest := rest) (hlen _ hsigM) hstack hdg
  obtain ⟨v, B, X', hpost, hsteps⟩ := hK m meth c ⟨T.setVm vm₁, locs, cells, slots⟩ { g with stack := rest } (.invokevirtual index) mk (Value.ref b :: argsL).toArray X₁ hg hsize hdg hW (X₁.named hnamed) (hpre vm₁ X₁.warmed)
  exact ⟨v, vm₁, B, X₁.warmed, X', hpost, fun target h => hstep₁ _ fun acts => by rw [doInvoke_state]; exact hsteps.trans h⟩
abbrev vx_CVW (R : Room) (s : State) (args : Array Value) (own C : String) (index : Nat) (y : MethodName) (bytes : ByteArray) (maxL : Nat) (ret : Option FieldType) (hh : List (Nat × Nat × Nat × Nat)) (ws : List Cond) (rm : Room) (mc ms n : Nat) : Prop :=
  (rm.cells = mc ∧ rm.slots = ms ∧ rm.frames + 1 ≤ R.frames ∧ 8 + (maxL + 11) + rm.locals ≤ R.locals ∧ (∀ w ∈ ws, ∀ (a' : Array Value) (U : State), s.WarmedH U.vm → w.before a' U = true) ∧ Cond.codeWith y bytes maxL ret hh ∈ ws) ∧
  (Cond.codeWith y bytes maxL ret hh).before args s = true ∧ (Cond.initialized y.cls).before args s = true ∧ (y.cls ≠ "java/lang/invoke/MethodHandle" ∧ y.cls ≠ "java/lang/invoke/VarHandle") ∧
  (∀ sig, parseMethodDescriptor y.desc = some sig → n = sig.parameters.length) ∧ (Cond.methodLink own index y).before args s = true ∧ (Cond.instanceMethod y).before args s = true ∧ (Cond.selects C y y).before args s = true
theorem vx_cwVW {own C : String} {index maxL mc ms : Nat} {y : MethodName} {bytes : ByteArray} {ret : Option FieldType} {hh : List (Nat × Nat × Nat × Nat)} {Ts ws ws' : List Cond} {rm : Room} (n : Nat) (ht : ∀ w ∈ Ts, w.before args s = true) (hT : GoodIn Ts (wsV own index C y ws)) (hw : ws = Cond.codeWith y bytes maxL ret hh :: ws') (hrc : rm.cells = mc) (hrs : rm.slots = ms)
    (hd : y.cls = C ∧ y.cls ≠ "java/lang/invoke/MethodHandle" ∧ y.cls ≠ "java/lang/invoke/VarHandle" ∧ (parseMethodDescriptor y.desc).map (fun d => d.parameters.length) = some n) (hR : rm.frames + 1 ≤ R.frames ∧ 8 + (maxL + 11) + rm.locals ≤ R.locals) :
    vx_CVW R s args own C index y bytes maxL ret hh ws rm mc ms n := by
  obtain ⟨hC, hd⟩ := hd
  subst hC
  have ok : ∀ w ∈ wsV own index y.cls y ws, w.before args s = true := fun w h => ht w (hT w h).1
  have hG : GoodIn Ts ws := fun w h => hT w (by unfold wsV; exact List.mem_append_right _ h)
  have hc : Cond.codeWith y bytes maxL ret hh ∈ ws := by rw [hw]; exact List.mem_cons_self
  refine ⟨⟨hrc, hrs, hR.1, hR.2, pay_in ht hG, hc⟩, ht _ (hG _ hc).1, ok _ (by simp [wsV]), ⟨hd.1, hd.2.1⟩, fun sig h => ?_, ok _ (by simp [wsV]), ok _ (by simp [wsV]), ok _ (by simp [wsV])⟩
  have h2 := hd.2.2
  rw [h] at h2
  exact (Option.some.inj h2).symm
theorem vx_runVW {y : MethodName} {bytes cc : ByteArray} {maxL nL mc ms n index : Nat} {ret : Option FieldType} {hh : List (Nat × Nat × Nat × Nat)} {ws : List Cond} {rm : Room} {Pc : Array Value → State → Prop} {Qc : Array Value → State → Outcome → State → Prop} {free : Addr → Prop} {Ts : List Cond} {own C : String} {b : Addr} {As rest : List Value} {g : JFrame}
    (S : CallFix p m c cc nL s args Ts own) (hM : Met l y ws rm Pc Qc mc ms free) (cw : vx_CVW R s args own C index y bytes maxL ret hh ws rm mc ms n) (hp : PreV s H C b Pc As)
    (hg : g.method = m) (hn : As.length = n) (hsize : g.locals.size = nL) (hstack : g.stack = As.reverse ++ .ref b :: rest) (hW : 2 * g.monitorRoom + (rest.map fun v => v.category).sum ≤ 8) (hdg : decode cc g.pc = .ok (.invokevirtual index, 3)) (hf : cells + mc ≤ R.cells ∧ slots + ms ≤ R.slots) :
    va_Run p l e R s m args below meth c H locs cells slots mc ms g rest (Qc (Value.ref b :: As).toArray) free := by
  obtain ⟨⟨hrc, hrs, hfr, hlo, hws, hcw⟩, hcode, hini, hy, hlen, hl, hin, hse⟩ := cw
  have hK : Back l R p e below s args y 3 8 (PreOf R mc ms Pc) (PostOf Qc mc ms free) := va_backW (hh := hh) (bytes := bytes) (maxL := maxL) (ret := ret) hM hp.1 hrc hrs hfr hlo hws hcw (fun a' U hW => word_at hW (Or.inl (by first | rfl | simp [Cond.onTables, Cond.keeps, Cond.steady])) hini)
  obtain ⟨hx, hb, hml, ho, -⟩ := S
  obtain ⟨-, ⟨cellB, hcB, hoB, hclB⟩, hPc⟩ := hp
  intro T hT X
  obtain ⟨v, vm₁, ⟨U', l2, c2, s2⟩, hW₁, X', ⟨g', mk, t, L, e1, e2, hq, h1, hL, h2, h3⟩, st⟩ := vx_callVW X hx (C := C) (hh := hh) (bytes := bytes) (maxL := maxL) (ret := ret) ho hl hin hse hcode hy hK (by rw [hT]; exact hcB) hoB hclB hg (hsize.trans hml.symm) (argsL := As) (rest := rest) (fun sig h => hn.trans (hlen sig h)) hstack hW (by rw [hb]; exact hdg)
    (fun vm₁ hW₁ => ⟨hf.1, hf.2, hPc (T.setVm vm₁) hT hW₁⟩)
  dsimp only [Pt.U, Pt.locs, Pt.cells, Pt.slots] at X' e1 e2 h1 h2 h3 st
  subst h1; subst h2; subst h3
  exact ⟨v, (T.setVm vm₁).calling g' mk (Value.ref b :: As).toArray, t, U', L, hT, X', hL, e1, e2, hq, st⟩
section
variable {y : MethodName} {bytes cc : ByteArray} {maxL nL mc ms n index : Nat} {ret : Option FieldType} {ws : List Cond} {rm : Room} {Pc : Array Value → State → Prop} {Qc : Array Value → State → Outcome → State → Prop} {XC : String → State → State → Prop} {free : Addr → Prop} {Ts : List Cond} {own C : String} {b : Addr} {As rest : List Value} {g : JFrame}
theorem vx_runVX {hh : List (Nat × Nat × Nat × Nat)} (S : CallFix p m c cc nL s args Ts own) (hM : vx_Met l y ws rm Pc Qc XC mc ms free) (cw : vx_CVW R s args own C index y bytes maxL ret hh ws rm mc ms n) (hp : PreV s H C b Pc As)
    (hg : g.method = m) (hn : As.length = n) (hsize : g.locals.size = nL) (hstack : g.stack = As.reverse ++ .ref b :: rest) (hW : 2 * g.monitorRoom + (rest.map fun v => v.category).sum ≤ 8) (hdg : decode cc g.pc = .ok (.invokevirtual index, 3)) (hf : cells + mc ≤ R.cells ∧ slots + ms ≤ R.slots) :
    vx_Run p l e R s m args below meth c H locs cells slots mc ms g rest (Qc (Value.ref b :: As).toArray) XC free := by
  obtain ⟨⟨hrc, hrs, hfr, hlo, hws, hcw⟩, hcode, hini, hy, hlen, hl, hin, hse⟩ := cw
  have hK : vx_Back l R p e below s args y 3 8 (PreOf R mc ms Pc) (PostOf Qc mc ms free) (vx_Post XC mc ms free) := vx_backW (hh := hh) (bytes := bytes) (maxL := maxL) (ret := ret) hM hp.1 hrc hrs hfr hlo hws hcw (fun a' U hW => word_at hW (Or.inl (by first | rfl | simp [Cond.onTables, Cond.keeps, Cond.steady])) hini)
  obtain ⟨hx, hb, hml, ho, -⟩ := S
  obtain ⟨-, ⟨cellB, hcB, hoB, hclB⟩, hPc⟩ := hp
  intro T hT X
  rcases vx_callVX X hx (C := C) (hh := hh) (bytes := bytes) (maxL := maxL) (ret := ret) ho hl hin hse hcode hy hK (by rw [hT]; exact hcB) hoB hclB hg (hsize.trans hml.symm) (argsL := As) (rest := rest) (fun sig h => hn.trans (hlen sig h)) hstack hW (by rw [hb]; exact hdg)
    (fun vm₁ hW₁ => ⟨hf.1, hf.2, hPc (T.setVm vm₁) hT hW₁⟩) with ⟨v, vm₁, ⟨U', l2, c2, s2⟩, hW₁, X', ⟨g', mk, t, L, e1, e2, hq, h1, hL, h2, h3⟩, st⟩ | ⟨q, vm₁, ⟨U', l2, c2, s2⟩, hW₁, X', ⟨g', mk, t, L, E, ce, e1, e2, hq, hce, hcv, hcl, h1, hL, h2, h3⟩, st⟩
  · dsimp only [Pt.U, Pt.locs, Pt.cells, Pt.slots] at X' e1 e2 h1 h2 h3 st
    subst h1; subst h2; subst h3
    exact Or.inl ⟨v, (T.setVm vm₁).calling g' mk (Value.ref b :: As).toArray, t, U', L, hT, X', hL, e1, e2, hq, st⟩
  · dsimp only [Pt.U, Pt.locs, Pt.cells, Pt.slots] at X' e1 e2 h1 h2 h3 st hcl
    subst h1; subst h2; subst h3
    exact Or.inr ⟨q, (T.setVm vm₁).calling g' mk (Value.ref b :: As).toArray, t, U', L, E, ce, hT, X', hL, e1, e2, hq, hce, hcv, vx_cls hW₁ hcl, st⟩
theorem vx_runSX {hh : List (Nat × Nat × Nat × Nat)} (S : CallFix p m c cc nL s args Ts own) (hM : vx_Met l y ws rm Pc Qc XC mc ms free) (cw : vx_CSW R s args own index y bytes maxL ret hh ws rm mc ms n) (hp : PreS s H Pc As)
    (hg : g.method = m) (hn : As.length = n) (hsize : g.locals.size = nL) (hstack : g.stack = As.reverse ++ rest) (hW : 2 * g.monitorRoom + (rest.map fun v => v.category).sum ≤ 8) (hdg : decode cc g.pc = .ok (.invokestatic index, 3)) (hf : cells + mc ≤ R.cells ∧ slots + ms ≤ R.slots) :
    vx_Run p l e R s m args below meth c H locs cells slots mc ms g rest (Qc As.toArray) XC free := by
  obtain ⟨⟨hrc, hrs, hfr, hlo, hws, hcw⟩, hcode, hini, hy, hlen, hl, hstt⟩ := cw
  have hK : vx_Back l R p e below s args y 3 8 (PreOf R mc ms Pc) (PostOf Qc mc ms free) (vx_Post XC mc ms free) := vx_backW (hh := hh) (bytes := bytes) (maxL := maxL) (ret := ret) hM hp.1 hrc hrs hfr hlo hws hcw (fun a' U hW => word_at hW (Or.inl (by first | rfl | simp [Cond.onTables, Cond.keeps, Cond.steady])) hini)
  obtain ⟨hx, hb, hml, ho, -⟩ := S
  intro T hT X
  rcases vx_callSX X hx (hh := hh) (bytes := bytes) (maxL := maxL) (ret := ret) ho hl hstt hini hcode hy hK hg (hsize.trans hml.symm) (argsL := As) (rest := rest) (fun sig h => hn.trans (hlen sig h)) hstack hW (by rw [hb]; exact hdg)
    (fun vm₁ hW₁ => ⟨hf.1, hf.2, hp.2 (T.setVm vm₁) hT hW₁⟩) with ⟨v, vm₁, ⟨U', l2, c2, s2⟩, hW₁, X', ⟨g', mk, t, L, e1, e2, hq, h1, hL, h2, h3⟩, st⟩ | ⟨q, vm₁, ⟨U', l2, c2, s2⟩, hW₁, X', ⟨g', mk, t, L, E, ce, e1, e2, hq, hce, hcv, hcl, h1, hL, h2, h3⟩, st⟩
  · dsimp only [Pt.U, Pt.locs, Pt.cells, Pt.slots] at X' e1 e2 h1 h2 h3 st
    subst h1; subst h2; subst h3
    exact Or.inl ⟨v, (T.setVm vm₁).calling g' mk As.toArray, t, U', L, hT, X', hL, e1, e2, hq, st⟩
  · dsimp only [Pt.U, Pt.locs, Pt.cells, Pt.slots] at X' e1 e2 h1 h2 h3 st hcl
    subst h1; subst h2; subst h3
    exact Or.inr ⟨q, (T.setVm vm₁).calling g' mk As.toArray, t, U', L, E, ce, hT, X', hL, e1, e2, hq, hce, hcv, vx_cls hW₁ hcl, st⟩
end
end VXH
theorem vx_ofWH {l : Launch} {y : MethodName} {ws ws' : List Cond} {rm : Room} {Pc : Array Value → State → Prop} {Qc : Array Value → State → Outcome → State → Prop} {XC : String → State → State → Prop} {mc ms : Nat} {free : Addr → Prop} {cc : ByteArray} {maxL : Nat} {ret : Option FieldType} {hh : List (Nat × Nat × Nat × Nat)}
    (hy : plainName y.cls = true) (hw : ws = Cond.codeWith y cc maxL ret hh :: ws')
    (body : ∀ p e s m args below meth c s₁, BodyLoose p l y (headSpec ws rm) cc maxL ret e s m args below meth c s₁ → c.maxLocals = maxL → Pc args s →
      W p l e (headSpec ws rm).room s m args below meth c s.heap [] 0 0 (vx_MQ below Qc XC args s mc ms free) (entryFrame m args maxL)) : vx_Met l y ws rm Pc Qc XC mc ms free := by
  refine MetFree.of_bodyS (code := cc) (maxLocals := maxL) (ret := ret) hy ?_ ?_
  · intro args s m h hn
    obtain ⟨m9, meth, c, hn9, h1, h2, h3, h4, -, h5, h6, -⟩ := Cond.codeWith_spec (atoms_spec (ws := ws) h _ (by rw [hw]; exact List.mem_cons_self))
    cases hn.symm.trans hn9
    exact ⟨meth, c, h1, h2, h3, h4, h5, h6⟩
  · intro p e s m args below meth c s₁ B hml hP _
    have hh0 : s₁.heap = s.heap := by rw [B.state]; rfl
    obtain ⟨t, a1, o, b1, b2, b3⟩ := body p e s m args below meth c s₁ B hml hP s₁ hh0 (Stand.of_body B)
    exact ⟨t, o, a1, b1, b2, b3⟩
/-! ===== END ===== -/

/-! ===== BEGIN printed: names, fields, word lists, decode rows ===== -/
def RX0 : String := "RustTiles$Game"
def TX0 : u_T := fun k => match k with
  | 0 => ("RustTiles$Game", "tiles", "LRustTiles$Table;", true)
  | 1 => ("RustTiles$Game", "hands", "LRustTiles$Table;", true)
  | 2 => ("RustTiles$Game", "tallies", "LRustTiles$Table;", true)
  | 3 => ("RustTiles$Game", "rows", "LRustTiles$Table;", true)
  | 4 => ("RustTiles$Game", "order", "LRustTiles$Table;", true)
  | 5 => ("RustTiles$Game", "playerCount", "I", false)
  | 6 => ("RustTiles$Game", "onMove", "I", false)
  | 7 => ("RustTiles$Game", "taken", "I", false)
  | 8 => ("RustTiles$Game", "turnsMade", "I", false)
  | 9 => ("RustTiles$Game", "passesInRow", "I", false)
  | 10 => ("RustTiles$Game", "refusals", "I", false)
  | 11 => ("RustTiles$Game", "lot", "I", false)
  | _ => ("RustTiles$Game", "interval", "I", false)
def tyX0 : Nat → FieldType := fun k => match k with
  | 0 => .object "RustTiles$Table"
  | 1 => .object "RustTiles$Table"
  | 2 => .object "RustTiles$Table"
  | 3 => .object "RustTiles$Table"
  | 4 => .object "RustTiles$Table"
  | 5 => .int
  | 6 => .int
  | 7 => .int
  | 8 => .int
  | 9 => .int
  | 10 => .int
  | 11 => .int
  | _ => .int
abbrev wsX00 : List Cond := u_ws RX0 TX0 13
theorem nmX0 : ∀ a, a < 13 → ∀ b, b < 13 → a ≠ b → (TX0 a).2.1 ≠ (TX0 b).2.1 := by decide +kernel
theorem tyX0_ok : ∀ k, k < 13 → parseFieldDescriptor (TX0 k).2.2.1 = some (tyX0 k) := by decide +kernel
abbrev cX0_init : ByteArray := prog_2_method_1_code
def yX0_init : MethodName := ⟨RX0, "<init>", "()V"⟩
abbrev cX0_become : ByteArray := prog_2_method_2_code
def yX0_become : MethodName := ⟨RX0, "become", "(LRustTiles$Game;)V"⟩
abbrev cX0_start : ByteArray := prog_2_method_3_code
def yX0_start : MethodName := ⟨RX0, "start", "(II)V"⟩
abbrev cX0_makeTiles : ByteArray := prog_2_method_4_code
def yX0_makeTiles : MethodName := ⟨RX0, "makeTiles", "()V"⟩
abbrev cX0_makeRows : ByteArray := prog_2_method_5_code
def yX0_makeRows : MethodName := ⟨RX0, "makeRows", "()V"⟩
abbrev cX0_orderStock : ByteArray := prog_2_method_6_code
def yX0_orderStock : MethodName := ⟨RX0, "orderStock", "(I)V"⟩
abbrev cX0_insertInOrder : ByteArray := prog_2_method_7_code
def yX0_insertInOrder : MethodName := ⟨RX0, "insertInOrder", "(II)V"⟩
abbrev cX0_deal : ByteArray := prog_2_method_8_code
def yX0_deal : MethodName := ⟨RX0, "deal", "()V"⟩
abbrev cX0_takeFromStock : ByteArray := prog_2_method_9_code
def yX0_takeFromStock : MethodName := ⟨RX0, "takeFromStock", "(I)I"⟩
abbrev cX0_turnToLay : ByteArray := prog_2_method_10_code
def yX0_turnToLay : MethodName := ⟨RX0, "turnToLay", "(III)I"⟩
abbrev cX0_turnToDraw : ByteArray := prog_2_method_11_code
def yX0_turnToDraw : MethodName := ⟨RX0, "turnToDraw", "()I"⟩
abbrev cX0_turnToPass : ByteArray := prog_2_method_12_code
def yX0_turnToPass : MethodName := ⟨RX0, "turnToPass", "()I"⟩
abbrev cX0_oilTile : ByteArray := prog_2_method_13_code
def yX0_oilTile : MethodName := ⟨RX0, "oilTile", "(I)I"⟩
abbrev cX0_reasonAgainst : ByteArray := prog_2_method_14_code
def yX0_reasonAgainst : MethodName := ⟨RX0, "reasonAgainst", "(III)I"⟩
abbrev cX0_fits : ByteArray := prog_2_method_15_code
def yX0_fits : MethodName := ⟨RX0, "fits", "(III)Z"⟩
abbrev cX0_takeFromHand : ByteArray := prog_2_method_16_code
def yX0_takeFromHand : MethodName := ⟨RX0, "takeFromHand", "(II)I"⟩
abbrev cX0_putAtEnd : ByteArray := prog_2_method_17_code
def yX0_putAtEnd : MethodName := ⟨RX0, "putAtEnd", "(III)V"⟩
abbrev cX0_endTurn : ByteArray := prog_2_method_18_code
def yX0_endTurn : MethodName := ⟨RX0, "endTurn", "()I"⟩
abbrev cX0_ageHand : ByteArray := prog_2_method_19_code
def yX0_ageHand : MethodName := ⟨RX0, "ageHand", "(I)V"⟩
abbrev cX0_rust : ByteArray := prog_2_method_20_code
def yX0_rust : MethodName := ⟨RX0, "rust", "(II)V"⟩
abbrev cX0_isOver : ByteArray := prog_2_method_21_code
def yX0_isOver : MethodName := ⟨RX0, "isOver", "()Z"⟩
abbrev cX0_hasPlayer : ByteArray := prog_2_method_22_code
def yX0_hasPlayer : MethodName := ⟨RX0, "hasPlayer", "(I)Z"⟩
abbrev cX0_heldBy : ByteArray := prog_2_method_23_code
def yX0_heldBy : MethodName := ⟨RX0, "heldBy", "(I)I"⟩
abbrev cX0_holdsPlace : ByteArray := prog_2_method_24_code
def yX0_holdsPlace : MethodName := ⟨RX0, "holdsPlace", "(II)Z"⟩
abbrev cX0_stockSize : ByteArray := prog_2_method_25_code
def yX0_stockSize : MethodName := ⟨RX0, "stockSize", "()I"⟩
abbrev cX0_stockTile : ByteArray := prog_2_method_26_code
def yX0_stockTile : MethodName := ⟨RX0, "stockTile", "(I)I"⟩
abbrev cX0_numberOf : ByteArray := prog_2_method_27_code
def yX0_numberOf : MethodName := ⟨RX0, "numberOf", "(II)I"⟩
abbrev cX0_playerProperty : ByteArray := prog_2_method_28_code
def yX0_playerProperty : MethodName := ⟨RX0, "playerProperty", "(II)I"⟩
abbrev cX0_tallied : ByteArray := prog_2_method_29_code
def yX0_tallied : MethodName := ⟨RX0, "tallied", "(I)I"⟩
abbrev cX0_gradesOf : ByteArray := prog_2_method_30_code
def yX0_gradesOf : MethodName := ⟨RX0, "gradesOf", "(I)I"⟩
abbrev cX0_gradesHeld : ByteArray := prog_2_method_31_code
def yX0_gradesHeld : MethodName := ⟨RX0, "gradesHeld", "(I)I"⟩
abbrev cX0_sumOf : ByteArray := prog_2_method_32_code
def yX0_sumOf : MethodName := ⟨RX0, "sumOf", "(I)I"⟩
abbrev cX0_winner : ByteArray := prog_2_method_33_code
def yX0_winner : MethodName := ⟨RX0, "winner", "()I"⟩
abbrev cX0_endsOpenTo : ByteArray := prog_2_method_34_code
def yX0_endsOpenTo : MethodName := ⟨RX0, "endsOpenTo", "(I)I"⟩
abbrev cX0_canLayAt : ByteArray := prog_2_method_35_code
def yX0_canLayAt : MethodName := ⟨RX0, "canLayAt", "(III)Z"⟩
abbrev cX0_fitsSomewhere : ByteArray := prog_2_method_36_code
def yX0_fitsSomewhere : MethodName := ⟨RX0, "fitsSomewhere", "(I)Z"⟩
abbrev cX0_bestPlace : ByteArray := prog_2_method_37_code
def yX0_bestPlace : MethodName := ⟨RX0, "bestPlace", "()I"⟩
abbrev cX0_isBetter : ByteArray := prog_2_method_38_code
def yX0_isBetter : MethodName := ⟨RX0, "isBetter", "(II)Z"⟩
abbrev cX0_shareOfRust : ByteArray := prog_2_method_41_code
def yX0_shareOfRust : MethodName := ⟨RX0, "shareOfRust", "()D"⟩
def RX1 : String := "RustTiles$Past"
def TX1 : u_T := fun k => match k with
  | 0 => ("RustTiles$Past", "states", "[LRustTiles$Game;", true)
  | 1 => ("RustTiles$Past", "next", "I", false)
  | _ => ("RustTiles$Past", "size", "I", false)
def tyX1 : Nat → FieldType := fun k => match k with
  | 0 => .array (.object "RustTiles$Game")
  | 1 => .int
  | _ => .int
abbrev wsX10 : List Cond := u_ws RX1 TX1 3
theorem nmX1 : ∀ a, a < 3 → ∀ b, b < 3 → a ≠ b → (TX1 a).2.1 ≠ (TX1 b).2.1 := by decide +kernel
theorem tyX1_ok : ∀ k, k < 3 → parseFieldDescriptor (TX1 k).2.2.1 = some (tyX1 k) := by decide +kernel
abbrev cX1_init : ByteArray := prog_3_method_1_code
def yX1_init : MethodName := ⟨RX1, "<init>", "()V"⟩
abbrev cX1_remember : ByteArray := prog_3_method_2_code
def yX1_remember : MethodName := ⟨RX1, "remember", "(LRustTiles$Game;)V"⟩
abbrev cX1_restore : ByteArray := prog_3_method_3_code
def yX1_restore : MethodName := ⟨RX1, "restore", "(LRustTiles$Game;)V"⟩
def RX2 : String := "RustTiles$Table"
def TX2 : u_T := fun k => match k with
  | 0 => ("RustTiles$Table", "columns", "I", true)
  | _ => ("RustTiles$Table", "cells", "[I", true)
def tyX2 : Nat → FieldType := fun k => match k with
  | 0 => .int
  | _ => .array .int
abbrev wsX20 : List Cond := u_ws RX2 TX2 2
theorem nmX2 : ∀ a, a < 2 → ∀ b, b < 2 → a ≠ b → (TX2 a).2.1 ≠ (TX2 b).2.1 := by decide +kernel
theorem tyX2_ok : ∀ k, k < 2 → parseFieldDescriptor (TX2 k).2.2.1 = some (tyX2 k) := by decide +kernel
abbrev cX2_init : ByteArray := prog_4_method_1_code
def yX2_init : MethodName := ⟨RX2, "<init>", "(II)V"⟩
abbrev cX2_at : ByteArray := prog_4_method_2_code
def yX2_at : MethodName := ⟨RX2, "at", "(II)I"⟩
abbrev cX2_put : ByteArray := prog_4_method_3_code
def yX2_put : MethodName := ⟨RX2, "put", "(III)V"⟩
abbrev cX2_increase : ByteArray := prog_4_method_4_code
def yX2_increase : MethodName := ⟨RX2, "increase", "(III)V"⟩
abbrev cX2_clear : ByteArray := prog_4_method_5_code
def yX2_clear : MethodName := ⟨RX2, "clear", "()V"⟩
abbrev cX2_become : ByteArray := prog_4_method_6_code
def yX2_become : MethodName := ⟨RX2, "become", "(LRustTiles$Table;)V"⟩
def RX3 : String := "RustTiles$Text"
def TX3 : u_T := fun k => match k with
  | 0 => ("RustTiles$Text", "codes", "[C", true)
  | _ => ("RustTiles$Text", "length", "I", false)
def tyX3 : Nat → FieldType := fun k => match k with
  | 0 => .array .char
  | _ => .int
abbrev wsX30 : List Cond := u_ws RX3 TX3 2
theorem nmX3 : ∀ a, a < 2 → ∀ b, b < 2 → a ≠ b → (TX3 a).2.1 ≠ (TX3 b).2.1 := by decide +kernel
theorem tyX3_ok : ∀ k, k < 2 → parseFieldDescriptor (TX3 k).2.2.1 = some (tyX3 k) := by decide +kernel
abbrev cX3_init : ByteArray := prog_5_method_1_code
def yX3_init : MethodName := ⟨RX3, "<init>", "()V"⟩
def RX4 : String := "RustTiles$Trains"
def TX4 : u_T := fun k => match k with
  | 0 => ("RustTiles$Trains", "halves", "LRustTiles$Table;", true)
  | 1 => ("RustTiles$Trains", "open", "[I", true)
  | _ => ("RustTiles$Trains", "size", "I", false)
def tyX4 : Nat → FieldType := fun k => match k with
  | 0 => .object "RustTiles$Table"
  | 1 => .array .int
  | _ => .int
abbrev wsX40 : List Cond := u_ws RX4 TX4 3
theorem nmX4 : ∀ a, a < 3 → ∀ b, b < 3 → a ≠ b → (TX4 a).2.1 ≠ (TX4 b).2.1 := by decide +kernel
theorem tyX4_ok : ∀ k, k < 3 → parseFieldDescriptor (TX4 k).2.2.1 = some (tyX4 k) := by decide +kernel
abbrev cX4_init : ByteArray := prog_6_method_1_code
def yX4_init : MethodName := ⟨RX4, "<init>", "()V"⟩
abbrev cX4_take : ByteArray := prog_6_method_2_code
def yX4_take : MethodName := ⟨RX4, "take", "(LRustTiles$Game;I)V"⟩
abbrev cX4_isTooLarge : ByteArray := prog_6_method_3_code
def yX4_isTooLarge : MethodName := ⟨RX4, "isTooLarge", "()Z"⟩
abbrev cX4_tryFrom : ByteArray := prog_6_method_4_code
def yX4_tryFrom : MethodName := ⟨RX4, "tryFrom", "(I)V"⟩
abbrev cX4_goOnFrom : ByteArray := prog_6_method_5_code
def yX4_goOnFrom : MethodName := ⟨RX4, "goOnFrom", "(I)V"⟩
abbrev cX4_openBehind : ByteArray := prog_6_method_6_code
def yX4_openBehind : MethodName := ⟨RX4, "openBehind", "(II)I"⟩
abbrev cX4_mostTiles : ByteArray := prog_6_method_7_code
def yX4_mostTiles : MethodName := ⟨RX4, "mostTiles", "()I"⟩
abbrev cX4_wholeByTrying : ByteArray := prog_6_method_8_code
def yX4_wholeByTrying : MethodName := ⟨RX4, "wholeByTrying", "()I"⟩
abbrev cX4_wholeByCounting : ByteArray := prog_6_method_9_code
def yX4_wholeByCounting : MethodName := ⟨RX4, "wholeByCounting", "(I)I"⟩
abbrev cX4_hangsTogetherWith : ByteArray := prog_6_method_10_code
def yX4_hangsTogetherWith : MethodName := ⟨RX4, "hangsTogetherWith", "(I)Z"⟩
abbrev cX4_oddGradesAllow : ByteArray := prog_6_method_11_code
def yX4_oddGradesAllow : MethodName := ⟨RX4, "oddGradesAllow", "(I)Z"⟩
def RX5 : String := "RustTiles"
def TX5 : u_T := fun k => match k with
  | 0 => ("RustTiles", "game", "LRustTiles$Game;", true)
  | 1 => ("RustTiles", "trains", "LRustTiles$Trains;", true)
  | 2 => ("RustTiles", "text", "LRustTiles$Text;", true)
  | 3 => ("RustTiles", "past", "LRustTiles$Past;", true)
  | _ => ("RustTiles", "slots", "[LRustTiles$Game;", true)
def tyX5 : Nat → FieldType := fun k => match k with
  | 0 => .object "RustTiles$Game"
  | 1 => .object "RustTiles$Trains"
  | 2 => .object "RustTiles$Text"
  | 3 => .object "RustTiles$Past"
  | _ => .array (.object "RustTiles$Game")
abbrev wsX50 : List Cond := u_ws RX5 TX5 5
theorem nmX5 : ∀ a, a < 5 → ∀ b, b < 5 → a ≠ b → (TX5 a).2.1 ≠ (TX5 b).2.1 := by decide +kernel
theorem tyX5_ok : ∀ k, k < 5 → parseFieldDescriptor (TX5 k).2.2.1 = some (tyX5 k) := by decide +kernel
abbrev cX5_init : ByteArray := prog_1_method_1_code
def yX5_init : MethodName := ⟨RX5, "<init>", "()V"⟩
abbrev cX5_begin : ByteArray := prog_1_method_2_code
def yX5_begin : MethodName := ⟨RX5, "begin", "(II)I"⟩
abbrev cX5_lay : ByteArray := prog_1_method_3_code
def yX5_lay : MethodName := ⟨RX5, "lay", "(III)I"⟩
abbrev cX5_draw : ByteArray := prog_1_method_4_code
def yX5_draw : MethodName := ⟨RX5, "draw", "()I"⟩
abbrev cX5_pass : ByteArray := prog_1_method_5_code
def yX5_pass : MethodName := ⟨RX5, "pass", "()I"⟩
abbrev cX5_oil : ByteArray := prog_1_method_6_code
def yX5_oil : MethodName := ⟨RX5, "oil", "(I)I"⟩
abbrev cX5_set : ByteArray := prog_1_method_7_code
def yX5_set : MethodName := ⟨RX5, "set", "(I)I"⟩
abbrev cX5_undo : ByteArray := prog_1_method_14_code
def yX5_undo : MethodName := ⟨RX5, "undo", "()I"⟩
abbrev cX5_tileOf : ByteArray := prog_1_method_15_code
def yX5_tileOf : MethodName := ⟨RX5, "tileOf", "(II)I"⟩
abbrev cX5_hand : ByteArray := prog_1_method_16_code
def yX5_hand : MethodName := ⟨RX5, "hand", "(II)I"⟩
abbrev cX5_stock : ByteArray := prog_1_method_17_code
def yX5_stock : MethodName := ⟨RX5, "stock", "(I)I"⟩
abbrev cX5_playerOf : ByteArray := prog_1_method_18_code
def yX5_playerOf : MethodName := ⟨RX5, "playerOf", "(II)I"⟩
abbrev cX5_rowOf : ByteArray := prog_1_method_19_code
def yX5_rowOf : MethodName := ⟨RX5, "rowOf", "(II)I"⟩
abbrev cX5_count : ByteArray := prog_1_method_20_code
def yX5_count : MethodName := ⟨RX5, "count", "(I)I"⟩
abbrev cX5_setting : ByteArray := prog_1_method_21_code
def yX5_setting : MethodName := ⟨RX5, "setting", "()I"⟩
abbrev cX5_whyNot : ByteArray := prog_1_method_22_code
def yX5_whyNot : MethodName := ⟨RX5, "whyNot", "(III)I"⟩
abbrev cX5_longest : ByteArray := prog_1_method_23_code
def yX5_longest : MethodName := ⟨RX5, "longest", "(II)I"⟩
abbrev cX5_whole : ByteArray := prog_1_method_24_code
def yX5_whole : MethodName := ⟨RX5, "whole", "(III)I"⟩
abbrev cX5_advice : ByteArray := prog_1_method_25_code
def yX5_advice : MethodName := ⟨RX5, "advice", "()I"⟩
abbrev cX5_rustShare : ByteArray := prog_1_method_27_code
def yX5_rustShare : MethodName := ⟨RX5, "rustShare", "()D"⟩
abbrev cX5_requireRow : ByteArray := prog_1_method_29_code
def yX5_requireRow : MethodName := ⟨RX5, "requireRow", "(I)V"⟩
abbrev cX5_requireEnd : ByteArray := prog_1_method_30_code
def yX5_requireEnd : MethodName := ⟨RX5, "requireEnd", "(I)V"⟩
abbrev cX5_requirePlayer : ByteArray := prog_1_method_31_code
def yX5_requirePlayer : MethodName := ⟨RX5, "requirePlayer", "(I)V"⟩
abbrev cX5_requirePlace : ByteArray := prog_1_method_32_code
def yX5_requirePlace : MethodName := ⟨RX5, "requirePlace", "(I)V"⟩
abbrev cX5_requireWhat : ByteArray := prog_1_method_33_code
def yX5_requireWhat : MethodName := ⟨RX5, "requireWhat", "(II)V"⟩
abbrev cX5_requireGrade : ByteArray := prog_1_method_34_code
def yX5_requireGrade : MethodName := ⟨RX5, "requireGrade", "(I)V"⟩
def RX6 : String := "RustTilesModel"
def TX6 : u_T := fun k => match k with
  | _ => ("", "", "", false)
def tyX6 : Nat → FieldType := fun k => match k with
  | _ => .int
abbrev wsX60 : List Cond := u_ws RX6 TX6 0
theorem nmX6 : ∀ a, a < 0 → ∀ b, b < 0 → a ≠ b → (TX6 a).2.1 ≠ (TX6 b).2.1 := by decide +kernel
theorem tyX6_ok : ∀ k, k < 0 → parseFieldDescriptor (TX6 k).2.2.1 = some (tyX6 k) := by decide +kernel
def RJx145de : String := "java/io/Serializable"
def TJx145de : u_T := fun k => match k with
  | _ => ("", "", "", false)
def tyJx145de : Nat → FieldType := fun k => match k with
  | _ => .int
abbrev wsJx145de0 : List Cond := u_ws RJx145de TJx145de 0
theorem nmJx145de : ∀ a, a < 0 → ∀ b, b < 0 → a ≠ b → (TJx145de a).2.1 ≠ (TJx145de b).2.1 := by decide +kernel
theorem tyJx145de_ok : ∀ k, k < 0 → parseFieldDescriptor (TJx145de k).2.2.1 = some (tyJx145de k) := by decide +kernel
def RJ6 : String := "java/lang/Integer"
def TJ6 : u_T := fun k => match k with
  | _ => ("", "", "", false)
def tyJ6 : Nat → FieldType := fun k => match k with
  | _ => .int
abbrev wsJ60 : List Cond := u_ws RJ6 TJ6 0
theorem nmJ6 : ∀ a, a < 0 → ∀ b, b < 0 → a ≠ b → (TJ6 a).2.1 ≠ (TJ6 b).2.1 := by decide +kernel
theorem tyJ6_ok : ∀ k, k < 0 → parseFieldDescriptor (TJ6 k).2.2.1 = some (tyJ6 k) := by decide +kernel
abbrev cJ6_bitCount_0f7a4 : ByteArray := prog_13_method_49_code
def yJ6_bitCount_0f7a4 : MethodName := ⟨RJ6, "bitCount", "(I)I"⟩
def RJ9 : String := "java/lang/Math"
def TJ9 : u_T := fun k => match k with
  | _ => ("", "", "", false)
def tyJ9 : Nat → FieldType := fun k => match k with
  | _ => .int
abbrev wsJ90 : List Cond := u_ws RJ9 TJ9 0
theorem nmJ9 : ∀ a, a < 0 → ∀ b, b < 0 → a ≠ b → (TJ9 a).2.1 ≠ (TJ9 b).2.1 := by decide +kernel
theorem tyJ9_ok : ∀ k, k < 0 → parseFieldDescriptor (TJ9 k).2.2.1 = some (tyJ9 k) := by decide +kernel
abbrev cJ9_max_7cf53 : ByteArray := prog_14_method_65_code
def yJ9_max_7cf53 : MethodName := ⟨RJ9, "max", "(II)I"⟩
abbrev cJ9_min_7cf53 : ByteArray := prog_14_method_69_code
def yJ9_min_7cf53 : MethodName := ⟨RJ9, "min", "(II)I"⟩
def RJ0 : String := "java/lang/String"
def TJ0 : u_T := fun k => match k with
  | _ => ("", "", "", false)
def tyJ0 : Nat → FieldType := fun k => match k with
  | _ => .int
abbrev wsJ00 : List Cond := u_ws RJ0 TJ0 0
theorem nmJ0 : ∀ a, a < 0 → ∀ b, b < 0 → a ≠ b → (TJ0 a).2.1 ≠ (TJ0 b).2.1 := by decide +kernel
theorem tyJ0_ok : ∀ k, k < 0 → parseFieldDescriptor (TJ0 k).2.2.1 = some (tyJ0 k) := by decide +kernel
def RJ10 : String := "java/lang/System"
def TJ10 : u_T := fun k => match k with
  | _ => ("", "", "", false)
def tyJ10 : Nat → FieldType := fun k => match k with
  | _ => .int
abbrev wsJ100 : List Cond := u_ws RJ10 TJ10 0
theorem nmJ10 : ∀ a, a < 0 → ∀ b, b < 0 → a ≠ b → (TJ10 a).2.1 ≠ (TJ10 b).2.1 := by decide +kernel
theorem tyJ10_ok : ∀ k, k < 0 → parseFieldDescriptor (TJ10 k).2.2.1 = some (tyJ10 k) := by decide +kernel
def RJ7 : String := "java/util/Arrays"
def TJ7 : u_T := fun k => match k with
  | _ => ("", "", "", false)
def tyJ7 : Nat → FieldType := fun k => match k with
  | _ => .int
abbrev wsJ70 : List Cond := u_ws RJ7 TJ7 0
theorem nmJ7 : ∀ a, a < 0 → ∀ b, b < 0 → a ≠ b → (TJ7 a).2.1 ≠ (TJ7 b).2.1 := by decide +kernel
theorem tyJ7_ok : ∀ k, k < 0 → parseFieldDescriptor (TJ7 k).2.2.1 = some (tyJ7 k) := by decide +kernel
abbrev cJ7_fill_53178 : ByteArray := prog_19_method_103_code
def yJ7_fill_53178 : MethodName := ⟨RJ7, "fill", "([II)V"⟩
def RL : String := "RustTilesLaw"
abbrev cL_cell : ByteArray := method_2_code
def yL_cell : MethodName := ⟨RL, "cell", "([II)I"⟩
abbrev cL_low : ByteArray := method_3_code
def yL_low : MethodName := ⟨RL, "low", "(II)I"⟩
abbrev cL_changes : ByteArray := method_4_code
def yL_changes : MethodName := ⟨RL, "changes", "(LRustTiles;IIII[I)I"⟩
abbrev cL_act : ByteArray := method_5_code
def yL_act : MethodName := ⟨RL, "act", "(LRustTiles;I[I)I"⟩
abbrev cL_areAlike : ByteArray := method_6_code
def yL_areAlike : MethodName := ⟨RL, "areAlike", "(LRustTiles;LRustTiles;)Z"⟩
abbrev cL_areSums : ByteArray := method_7_code
def yL_areSums : MethodName := ⟨RL, "areSums", "(LRustTiles;)Z"⟩
abbrev cL_isMoveSo : ByteArray := method_8_code
def yL_isMoveSo : MethodName := ⟨RL, "isMoveSo", "(LRustTiles;)Z"⟩
abbrev cL_areTrainsSo : ByteArray := method_9_code
def yL_areTrainsSo : MethodName := ⟨RL, "areTrainsSo", "(LRustTiles;I)Z"⟩
abbrev cL_law : ByteArray := code
def yL_law : MethodName := ⟨RL, "law", "([I)Z"⟩
abbrev vwCl : List vw_C := [(RX0, TX0, 13), (RX1, TX1, 3), (RX2, TX2, 2), (RX3, TX3, 2), (RX4, TX4, 3), (RX5, TX5, 5)]
/-- the words that a method may be told: those of the tables that keep -/
def TB : List Cond := lw_tbl.filter goodWord
end
section
/-! decode rows, as printed -/
theorem dX2_init_0 : decode cX2_init 0 = .ok (.aload_n 0, 1) := by decide +kernel
theorem dX2_init_1 : decode cX2_init 1 = .ok (.invokespecial 3, 3) := by decide +kernel
theorem dX2_init_4 : decode cX2_init 4 = .ok (.aload_n 0, 1) := by decide +kernel
theorem dX2_init_5 : decode cX2_init 5 = .ok (.iload_n 2, 1) := by decide +kernel
theorem dX2_init_6 : decode cX2_init 6 = .ok (.putfield 9, 3) := by decide +kernel
theorem dX2_init_9 : decode cX2_init 9 = .ok (.aload_n 0, 1) := by decide +kernel
theorem dX2_init_10 : decode cX2_init 10 = .ok (.iload_n 1, 1) := by decide +kernel
theorem dX2_init_11 : decode cX2_init 11 = .ok (.iload_n 2, 1) := by decide +kernel
theorem dX2_init_12 : decode cX2_init 12 = .ok (.imul, 1) := by decide +kernel
theorem dX2_init_13 : decode cX2_init 13 = .ok (.iconst 0, 1) := by decide +kernel
theorem dX2_init_14 : decode cX2_init 14 = .ok (.invokestatic 15, 3) := by decide +kernel
theorem dX2_init_17 : decode cX2_init 17 = .ok (.newarray .int, 2) := by decide +kernel
theorem dX2_init_19 : decode cX2_init 19 = .ok (.putfield 21, 3) := by decide +kernel
theorem dX2_init_22 : decode cX2_init 22 = .ok (.return_, 1) := by decide +kernel
theorem dX2_at_0 : decode cX2_at 0 = .ok (.iload_n 1, 1) := by decide +kernel
theorem dX2_at_1 : decode cX2_at 1 = .ok (.aload_n 0, 1) := by decide +kernel
theorem dX2_at_2 : decode cX2_at 2 = .ok (.getfield 9, 3) := by decide +kernel
theorem dX2_at_5 : decode cX2_at 5 = .ok (.imul, 1) := by decide +kernel
theorem dX2_at_6 : decode cX2_at 6 = .ok (.iload_n 2, 1) := by decide +kernel
theorem dX2_at_7 : decode cX2_at 7 = .ok (.iadd, 1) := by decide +kernel
theorem dX2_at_8 : decode cX2_at 8 = .ok (.istore_n 3, 1) := by decide +kernel
theorem dX2_at_9 : decode cX2_at 9 = .ok (.iload_n 3, 1) := by decide +kernel
theorem dX2_at_10 : decode cX2_at 10 = .ok (.ifCond .lt 21, 3) := by decide +kernel
theorem dX2_at_13 : decode cX2_at 13 = .ok (.iload_n 3, 1) := by decide +kernel
theorem dX2_at_14 : decode cX2_at 14 = .ok (.aload_n 0, 1) := by decide +kernel
theorem dX2_at_15 : decode cX2_at 15 = .ok (.getfield 21, 3) := by decide +kernel
theorem dX2_at_18 : decode cX2_at 18 = .ok (.arraylength, 1) := by decide +kernel
theorem dX2_at_19 : decode cX2_at 19 = .ok (.if_icmp .ge 12, 3) := by decide +kernel
theorem dX2_at_22 : decode cX2_at 22 = .ok (.aload_n 0, 1) := by decide +kernel
theorem dX2_at_23 : decode cX2_at 23 = .ok (.getfield 21, 3) := by decide +kernel
theorem dX2_at_26 : decode cX2_at 26 = .ok (.iload_n 3, 1) := by decide +kernel
theorem dX2_at_27 : decode cX2_at 27 = .ok (.iaload, 1) := by decide +kernel
theorem dX2_at_28 : decode cX2_at 28 = .ok (.goto 4, 3) := by decide +kernel
theorem dX2_at_31 : decode cX2_at 31 = .ok (.iconst (-1), 1) := by decide +kernel
theorem dX2_at_32 : decode cX2_at 32 = .ok (.ireturn, 1) := by decide +kernel
theorem dX2_put_0 : decode cX2_put 0 = .ok (.iload_n 1, 1) := by decide +kernel
theorem dX2_put_1 : decode cX2_put 1 = .ok (.aload_n 0, 1) := by decide +kernel
theorem dX2_put_2 : decode cX2_put 2 = .ok (.getfield 9, 3) := by decide +kernel
theorem dX2_put_5 : decode cX2_put 5 = .ok (.imul, 1) := by decide +kernel
theorem dX2_put_6 : decode cX2_put 6 = .ok (.iload_n 2, 1) := by decide +kernel
theorem dX2_put_7 : decode cX2_put 7 = .ok (.iadd, 1) := by decide +kernel
theorem dX2_put_8 : decode cX2_put 8 = .ok (.istore 4, 2) := by decide +kernel
theorem dX2_put_10 : decode cX2_put 10 = .ok (.iload 4, 2) := by decide +kernel
theorem dX2_put_12 : decode cX2_put 12 = .ok (.ifCond .lt 21, 3) := by decide +kernel
theorem dX2_put_15 : decode cX2_put 15 = .ok (.iload 4, 2) := by decide +kernel
theorem dX2_put_17 : decode cX2_put 17 = .ok (.aload_n 0, 1) := by decide +kernel
theorem dX2_put_18 : decode cX2_put 18 = .ok (.getfield 21, 3) := by decide +kernel
theorem dX2_put_21 : decode cX2_put 21 = .ok (.arraylength, 1) := by decide +kernel
theorem dX2_put_22 : decode cX2_put 22 = .ok (.if_icmp .ge 11, 3) := by decide +kernel
theorem dX2_put_25 : decode cX2_put 25 = .ok (.aload_n 0, 1) := by decide +kernel
theorem dX2_put_26 : decode cX2_put 26 = .ok (.getfield 21, 3) := by decide +kernel
theorem dX2_put_29 : decode cX2_put 29 = .ok (.iload 4, 2) := by decide +kernel
theorem dX2_put_31 : decode cX2_put 31 = .ok (.iload_n 3, 1) := by decide +kernel
theorem dX2_put_32 : decode cX2_put 32 = .ok (.iastore, 1) := by decide +kernel
theorem dX2_put_33 : decode cX2_put 33 = .ok (.return_, 1) := by decide +kernel
theorem dX2_increase_0 : decode cX2_increase 0 = .ok (.iload_n 1, 1) := by decide +kernel
theorem dX2_increase_1 : decode cX2_increase 1 = .ok (.aload_n 0, 1) := by decide +kernel
theorem dX2_increase_2 : decode cX2_increase 2 = .ok (.getfield 9, 3) := by decide +kernel
theorem dX2_increase_5 : decode cX2_increase 5 = .ok (.imul, 1) := by decide +kernel
theorem dX2_increase_6 : decode cX2_increase 6 = .ok (.iload_n 2, 1) := by decide +kernel
theorem dX2_increase_7 : decode cX2_increase 7 = .ok (.iadd, 1) := by decide +kernel
theorem dX2_increase_8 : decode cX2_increase 8 = .ok (.istore 4, 2) := by decide +kernel
theorem dX2_increase_10 : decode cX2_increase 10 = .ok (.iload 4, 2) := by decide +kernel
theorem dX2_increase_12 : decode cX2_increase 12 = .ok (.ifCond .lt 24, 3) := by decide +kernel
theorem dX2_increase_15 : decode cX2_increase 15 = .ok (.iload 4, 2) := by decide +kernel
theorem dX2_increase_17 : decode cX2_increase 17 = .ok (.aload_n 0, 1) := by decide +kernel
theorem dX2_increase_18 : decode cX2_increase 18 = .ok (.getfield 21, 3) := by decide +kernel
theorem dX2_increase_21 : decode cX2_increase 21 = .ok (.arraylength, 1) := by decide +kernel
theorem dX2_increase_22 : decode cX2_increase 22 = .ok (.if_icmp .ge 14, 3) := by decide +kernel
theorem dX2_increase_25 : decode cX2_increase 25 = .ok (.aload_n 0, 1) := by decide +kernel
theorem dX2_increase_26 : decode cX2_increase 26 = .ok (.getfield 21, 3) := by decide +kernel
theorem dX2_increase_29 : decode cX2_increase 29 = .ok (.iload 4, 2) := by decide +kernel
theorem dX2_increase_31 : decode cX2_increase 31 = .ok (.dup2, 1) := by decide +kernel
theorem dX2_increase_32 : decode cX2_increase 32 = .ok (.iaload, 1) := by decide +kernel
theorem dX2_increase_33 : decode cX2_increase 33 = .ok (.iload_n 3, 1) := by decide +kernel
theorem dX2_increase_34 : decode cX2_increase 34 = .ok (.iadd, 1) := by decide +kernel
theorem dX2_increase_35 : decode cX2_increase 35 = .ok (.iastore, 1) := by decide +kernel
theorem dX2_increase_36 : decode cX2_increase 36 = .ok (.return_, 1) := by decide +kernel
theorem dX2_clear_0 : decode cX2_clear 0 = .ok (.aload_n 0, 1) := by decide +kernel
theorem dX2_clear_1 : decode cX2_clear 1 = .ok (.getfield 21, 3) := by decide +kernel
theorem dX2_clear_4 : decode cX2_clear 4 = .ok (.iconst 0, 1) := by decide +kernel
theorem dX2_clear_5 : decode cX2_clear 5 = .ok (.invokestatic 25, 3) := by decide +kernel
theorem dX2_clear_8 : decode cX2_clear 8 = .ok (.return_, 1) := by decide +kernel
theorem dX2_become_0 : decode cX2_become 0 = .ok (.aload_n 1, 1) := by decide +kernel
theorem dX2_become_1 : decode cX2_become 1 = .ok (.ifnull 29, 3) := by decide +kernel
theorem dX2_become_4 : decode cX2_become 4 = .ok (.aload_n 1, 1) := by decide +kernel
theorem dX2_become_5 : decode cX2_become 5 = .ok (.getfield 21, 3) := by decide +kernel
theorem dX2_become_8 : decode cX2_become 8 = .ok (.iconst 0, 1) := by decide +kernel
theorem dX2_become_9 : decode cX2_become 9 = .ok (.aload_n 0, 1) := by decide +kernel
theorem dX2_become_10 : decode cX2_become 10 = .ok (.getfield 21, 3) := by decide +kernel
theorem dX2_become_13 : decode cX2_become 13 = .ok (.iconst 0, 1) := by decide +kernel
theorem dX2_become_14 : decode cX2_become 14 = .ok (.aload_n 1, 1) := by decide +kernel
theorem dX2_become_15 : decode cX2_become 15 = .ok (.getfield 21, 3) := by decide +kernel
theorem dX2_become_18 : decode cX2_become 18 = .ok (.arraylength, 1) := by decide +kernel
theorem dX2_become_19 : decode cX2_become 19 = .ok (.aload_n 0, 1) := by decide +kernel
theorem dX2_become_20 : decode cX2_become 20 = .ok (.getfield 21, 3) := by decide +kernel
theorem dX2_become_23 : decode cX2_become 23 = .ok (.arraylength, 1) := by decide +kernel
theorem dX2_become_24 : decode cX2_become 24 = .ok (.invokestatic 31, 3) := by decide +kernel
theorem dX2_become_27 : decode cX2_become 27 = .ok (.invokestatic 34, 3) := by decide +kernel
theorem dX2_become_30 : decode cX2_become 30 = .ok (.return_, 1) := by decide +kernel
theorem dJ6_bitCount_0f7a4_0 : decode cJ6_bitCount_0f7a4 0 = .ok (.iload_n 0, 1) := by decide +kernel
theorem dJ6_bitCount_0f7a4_1 : decode cJ6_bitCount_0f7a4 1 = .ok (.iload_n 0, 1) := by decide +kernel
theorem dJ6_bitCount_0f7a4_2 : decode cJ6_bitCount_0f7a4 2 = .ok (.iconst 1, 1) := by decide +kernel
theorem dJ6_bitCount_0f7a4_3 : decode cJ6_bitCount_0f7a4 3 = .ok (.iushr, 1) := by decide +kernel
theorem dJ6_bitCount_0f7a4_4 : decode cJ6_bitCount_0f7a4 4 = .ok (.ldc_w 265, 3) := by decide +kernel
theorem dJ6_bitCount_0f7a4_7 : decode cJ6_bitCount_0f7a4 7 = .ok (.iand, 1) := by decide +kernel
theorem dJ6_bitCount_0f7a4_8 : decode cJ6_bitCount_0f7a4 8 = .ok (.isub, 1) := by decide +kernel
theorem dJ6_bitCount_0f7a4_9 : decode cJ6_bitCount_0f7a4 9 = .ok (.istore_n 0, 1) := by decide +kernel
theorem dJ6_bitCount_0f7a4_10 : decode cJ6_bitCount_0f7a4 10 = .ok (.iload_n 0, 1) := by decide +kernel
theorem dJ6_bitCount_0f7a4_11 : decode cJ6_bitCount_0f7a4 11 = .ok (.ldc_w 266, 3) := by decide +kernel
theorem dJ6_bitCount_0f7a4_14 : decode cJ6_bitCount_0f7a4 14 = .ok (.iand, 1) := by decide +kernel
theorem dJ6_bitCount_0f7a4_15 : decode cJ6_bitCount_0f7a4 15 = .ok (.iload_n 0, 1) := by decide +kernel
theorem dJ6_bitCount_0f7a4_16 : decode cJ6_bitCount_0f7a4 16 = .ok (.iconst 2, 1) := by decide +kernel
theorem dJ6_bitCount_0f7a4_17 : decode cJ6_bitCount_0f7a4 17 = .ok (.iushr, 1) := by decide +kernel
theorem dJ6_bitCount_0f7a4_18 : decode cJ6_bitCount_0f7a4 18 = .ok (.ldc_w 266, 3) := by decide +kernel
theorem dJ6_bitCount_0f7a4_21 : decode cJ6_bitCount_0f7a4 21 = .ok (.iand, 1) := by decide +kernel
theorem dJ6_bitCount_0f7a4_22 : decode cJ6_bitCount_0f7a4 22 = .ok (.iadd, 1) := by decide +kernel
theorem dJ6_bitCount_0f7a4_23 : decode cJ6_bitCount_0f7a4 23 = .ok (.istore_n 0, 1) := by decide +kernel
theorem dJ6_bitCount_0f7a4_24 : decode cJ6_bitCount_0f7a4 24 = .ok (.iload_n 0, 1) := by decide +kernel
theorem dJ6_bitCount_0f7a4_25 : decode cJ6_bitCount_0f7a4 25 = .ok (.iload_n 0, 1) := by decide +kernel
theorem dJ6_bitCount_0f7a4_26 : decode cJ6_bitCount_0f7a4 26 = .ok (.iconst 4, 1) := by decide +kernel
theorem dJ6_bitCount_0f7a4_27 : decode cJ6_bitCount_0f7a4 27 = .ok (.iushr, 1) := by decide +kernel
theorem dJ6_bitCount_0f7a4_28 : decode cJ6_bitCount_0f7a4 28 = .ok (.iadd, 1) := by decide +kernel
theorem dJ6_bitCount_0f7a4_29 : decode cJ6_bitCount_0f7a4 29 = .ok (.ldc_w 267, 3) := by decide +kernel
theorem dJ6_bitCount_0f7a4_32 : decode cJ6_bitCount_0f7a4 32 = .ok (.iand, 1) := by decide +kernel
theorem dJ6_bitCount_0f7a4_33 : decode cJ6_bitCount_0f7a4 33 = .ok (.istore_n 0, 1) := by decide +kernel
theorem dJ6_bitCount_0f7a4_34 : decode cJ6_bitCount_0f7a4 34 = .ok (.iload_n 0, 1) := by decide +kernel
theorem dJ6_bitCount_0f7a4_35 : decode cJ6_bitCount_0f7a4 35 = .ok (.iload_n 0, 1) := by decide +kernel
theorem dJ6_bitCount_0f7a4_36 : decode cJ6_bitCount_0f7a4 36 = .ok (.bipush 8, 2) := by decide +kernel
theorem dJ6_bitCount_0f7a4_38 : decode cJ6_bitCount_0f7a4 38 = .ok (.iushr, 1) := by decide +kernel
theorem dJ6_bitCount_0f7a4_39 : decode cJ6_bitCount_0f7a4 39 = .ok (.iadd, 1) := by decide +kernel
theorem dJ6_bitCount_0f7a4_40 : decode cJ6_bitCount_0f7a4 40 = .ok (.istore_n 0, 1) := by decide +kernel
theorem dJ6_bitCount_0f7a4_41 : decode cJ6_bitCount_0f7a4 41 = .ok (.iload_n 0, 1) := by decide +kernel
theorem dJ6_bitCount_0f7a4_42 : decode cJ6_bitCount_0f7a4 42 = .ok (.iload_n 0, 1) := by decide +kernel
theorem dJ6_bitCount_0f7a4_43 : decode cJ6_bitCount_0f7a4 43 = .ok (.bipush 16, 2) := by decide +kernel
theorem dJ6_bitCount_0f7a4_45 : decode cJ6_bitCount_0f7a4 45 = .ok (.iushr, 1) := by decide +kernel
theorem dJ6_bitCount_0f7a4_46 : decode cJ6_bitCount_0f7a4 46 = .ok (.iadd, 1) := by decide +kernel
theorem dJ6_bitCount_0f7a4_47 : decode cJ6_bitCount_0f7a4 47 = .ok (.istore_n 0, 1) := by decide +kernel
theorem dJ6_bitCount_0f7a4_48 : decode cJ6_bitCount_0f7a4 48 = .ok (.iload_n 0, 1) := by decide +kernel
theorem dJ6_bitCount_0f7a4_49 : decode cJ6_bitCount_0f7a4 49 = .ok (.bipush 63, 2) := by decide +kernel
theorem dJ6_bitCount_0f7a4_51 : decode cJ6_bitCount_0f7a4 51 = .ok (.iand, 1) := by decide +kernel
theorem dJ6_bitCount_0f7a4_52 : decode cJ6_bitCount_0f7a4 52 = .ok (.ireturn, 1) := by decide +kernel
theorem dJ9_max_7cf53_0 : decode cJ9_max_7cf53 0 = .ok (.iload_n 0, 1) := by decide +kernel
theorem dJ9_max_7cf53_1 : decode cJ9_max_7cf53 1 = .ok (.iload_n 1, 1) := by decide +kernel
theorem dJ9_max_7cf53_2 : decode cJ9_max_7cf53 2 = .ok (.if_icmp .lt 7, 3) := by decide +kernel
theorem dJ9_max_7cf53_5 : decode cJ9_max_7cf53 5 = .ok (.iload_n 0, 1) := by decide +kernel
theorem dJ9_max_7cf53_6 : decode cJ9_max_7cf53 6 = .ok (.goto 4, 3) := by decide +kernel
theorem dJ9_max_7cf53_9 : decode cJ9_max_7cf53 9 = .ok (.iload_n 1, 1) := by decide +kernel
theorem dJ9_max_7cf53_10 : decode cJ9_max_7cf53 10 = .ok (.ireturn, 1) := by decide +kernel
theorem dJ9_min_7cf53_0 : decode cJ9_min_7cf53 0 = .ok (.iload_n 0, 1) := by decide +kernel
theorem dJ9_min_7cf53_1 : decode cJ9_min_7cf53 1 = .ok (.iload_n 1, 1) := by decide +kernel
theorem dJ9_min_7cf53_2 : decode cJ9_min_7cf53 2 = .ok (.if_icmp .gt 7, 3) := by decide +kernel
theorem dJ9_min_7cf53_5 : decode cJ9_min_7cf53 5 = .ok (.iload_n 0, 1) := by decide +kernel
theorem dJ9_min_7cf53_6 : decode cJ9_min_7cf53 6 = .ok (.goto 4, 3) := by decide +kernel
theorem dJ9_min_7cf53_9 : decode cJ9_min_7cf53 9 = .ok (.iload_n 1, 1) := by decide +kernel
theorem dJ9_min_7cf53_10 : decode cJ9_min_7cf53 10 = .ok (.ireturn, 1) := by decide +kernel
theorem dJ7_fill_53178_0 : decode cJ7_fill_53178 0 = .ok (.iconst 0, 1) := by decide +kernel
theorem dJ7_fill_53178_1 : decode cJ7_fill_53178 1 = .ok (.istore_n 2, 1) := by decide +kernel
theorem dJ7_fill_53178_2 : decode cJ7_fill_53178 2 = .ok (.aload_n 0, 1) := by decide +kernel
theorem dJ7_fill_53178_3 : decode cJ7_fill_53178 3 = .ok (.arraylength, 1) := by decide +kernel
theorem dJ7_fill_53178_4 : decode cJ7_fill_53178 4 = .ok (.istore_n 3, 1) := by decide +kernel
theorem dJ7_fill_53178_5 : decode cJ7_fill_53178 5 = .ok (.iload_n 2, 1) := by decide +kernel
theorem dJ7_fill_53178_6 : decode cJ7_fill_53178 6 = .ok (.iload_n 3, 1) := by decide +kernel
theorem dJ7_fill_53178_7 : decode cJ7_fill_53178 7 = .ok (.if_icmp .ge 13, 3) := by decide +kernel
theorem dJ7_fill_53178_10 : decode cJ7_fill_53178 10 = .ok (.aload_n 0, 1) := by decide +kernel
theorem dJ7_fill_53178_11 : decode cJ7_fill_53178 11 = .ok (.iload_n 2, 1) := by decide +kernel
theorem dJ7_fill_53178_12 : decode cJ7_fill_53178 12 = .ok (.iload_n 1, 1) := by decide +kernel
theorem dJ7_fill_53178_13 : decode cJ7_fill_53178 13 = .ok (.iastore, 1) := by decide +kernel
theorem dJ7_fill_53178_14 : decode cJ7_fill_53178 14 = .ok (.iinc 2 1, 3) := by decide +kernel
theorem dJ7_fill_53178_17 : decode cJ7_fill_53178 17 = .ok (.goto (-12), 3) := by decide +kernel
theorem dJ7_fill_53178_20 : decode cJ7_fill_53178 20 = .ok (.return_, 1) := by decide +kernel
end
section
/-! THE LAYER: a heap is a function HP of addresses (what is known of it); V: the walk at a pc over such a heap; Mg: a method's contract over such heaps. Rows r_..: one an instruction. -/
abbrev HP : Type := Nat → Option va_E
abbrev ga_ : Type := va_G × (Nat → ClassId) × Nat × (Nat → Option Cell)
def up_ (h : HP) (a : Nat) (e : va_E) : HP := fun q => if q = a then some e else h q
theorem up_s (h : HP) (a : Nat) (e : va_E) : up_ h a e a = some e := by simp [up_]
theorem up_n {h : HP} {a b : Nat} {e : va_E} (hb : b ≠ a) : up_ h a e b = h b := by simp [up_, hb]
theorem up_up (h : HP) (a : Nat) (e e2 : va_E) : up_ (up_ h a e) a e2 = up_ h a e2 := by funext q; by_cases c : q = a <;> simp [up_, c]
def tys_ (cy : Nat → ClassId) : List (ClassId × FieldType) := [(cy 0, .int), (cy 1, .char), (cy 2, .int), (cy 3, .int), (cy 4, .object RX0)]
abbrev aI_ (G : ga_) (n : Nat) (f : Nat → Int32) : va_E := .inl (G.2.1 0, n, .inl f)
abbrev aC_ (G : ga_) (n : Nat) (f : Nat → Int32) : va_E := .inl (G.2.1 1, n, .inl f)
abbrev aG_ (G : ga_) (n : Nat) (f : Nat → Option Nat) : va_E := .inl (G.2.1 4, n, .inr (.inr (.inr (.inr f))))
abbrev ob_ (ci : Nat) (fs : List Value) : va_E := .inr (ci, fs)
def NB : List Cond := [(Jvm.Cond.methodLinkNest "RustTiles" (9 : Nat) ({ cls := "RustTiles$Game", name := "<init>", desc := "()V" } : Jvm.MethodName) "RustTiles"), (Jvm.Cond.methodLinkNest "RustTiles" (18 : Nat) ({ cls := "RustTiles$Trains", name := "<init>", desc := "()V" } : Jvm.MethodName) "RustTiles"), (Jvm.Cond.methodLinkNest "RustTiles" (25 : Nat) ({ cls := "RustTiles$Text", name := "<init>", desc := "()V" } : Jvm.MethodName) "RustTiles"), (Jvm.Cond.methodLinkNest "RustTiles" (32 : Nat) ({ cls := "RustTiles$Past", name := "<init>", desc := "()V" } : Jvm.MethodName) "RustTiles"), (Jvm.Cond.methodLinkNest "RustTiles$Past" (21 : Nat) ({ cls := "RustTiles$Game", name := "<init>", desc := "()V" } : Jvm.MethodName) "RustTiles"), (Jvm.Cond.fieldLinkNest "RustTiles$Trains" (41 : Nat) "RustTiles$Game" "tiles" "LRustTiles$Table;" "RustTiles"), (Jvm.Cond.fieldLinkNest "RustTiles" (148 : Nat) "RustTiles$Game" "tiles" "LRustTiles$Table;" "RustTiles"), (Jvm.Cond.fieldLinkNest "RustTiles$Trains" (34 : Nat) "RustTiles$Game" "hands" "LRustTiles$Table;" "RustTiles"), (Jvm.Cond.fieldLinkNest "RustTiles" (164 : Nat) "RustTiles$Game" "hands" "LRustTiles$Table;" "RustTiles"), (Jvm.Cond.fieldLinkNest "RustTiles" (173 : Nat) "RustTiles$Game" "rows" "LRustTiles$Table;" "RustTiles"), (Jvm.Cond.fieldLinkNest "RustTiles" (81 : Nat) "RustTiles$Game" "onMove" "I" "RustTiles"), (Jvm.Cond.fieldLinkNest "RustTiles" (100 : Nat) "RustTiles$Game" "interval" "I" "RustTiles"), (Jvm.Cond.fieldLinkNest "RustTiles" (135 : Nat) "RustTiles$Past" "size" "I" "RustTiles")]
def nbk_ : Cond → Bool
  | .fieldLinkNest _ _ _ _ _ _ => true
  | .methodLinkNest _ _ _ _ => true
  | _ => false
theorem nb_moved {w : Cond} (hw : nbk_ w = true) {s U : State} (hW : s.WarmedH U.vm) (h : va_Nw w s) : va_Nw w U := by
  cases w <;> first | exact va_Nw.warmF hW h | exact va_Nw.warmM hW h | exact absurd hw (by simp [nbk_])
theorem nb_same {w : Cond} (hw : nbk_ w = true) {s U : State} (hW : s.vm = U.vm) (h : va_Nw w s) : va_Nw w U := by
  cases w <;> first | exact va_Nw.same rfl hW h | exact absurd hw (by simp [nbk_])
theorem NB_ok : ∀ w ∈ NB, nbk_ w = true := List.all_eq_true.mp rfl
/-- what every method is told of the machine's tables -/
def XB : List String := ["java/lang/IllegalArgumentException", "java/lang/IllegalStateException", "java/lang/IndexOutOfBoundsException"]
/-- the classes that the law catches -/
def YB : List String := ["java/lang/IllegalArgumentException", "java/lang/IndexOutOfBoundsException"]
def DB : List MethodName := [Bundle.initS "java/lang/RuntimeException", Bundle.initS "java/lang/Exception", Bundle.initS Bundle.tN]
def SR : List (Nat × String) := [(47, "no such players or lot"), (91, "no such place in the hand"), (98, "no such setting"), (138, "no saved state"), (143, "no such tile"), (231, "no such row"), (233, "no such end"), (239, "no such player in this game"), (241, "a place below 0"), (243, "nothing of this number to tell"), (245, "no such grade")]
/-- what a throw and a catch want of the tables, and of the statics below lo -/
def ex_ (G : ga_) (U : State) : Prop := (∀ X ∈ XB, va_Nw (.castable X X) U) ∧ (∀ X ∈ XB, ∀ Y ∈ YB, X ≠ Y → va_Nc X Y U) ∧ (∀ q ∈ SR, ∃ sa, vk_R RX5 q.1 q.2 sa U) ∧ (∀ y ∈ DB, va_Nw (.declares y) U) ∧ ∃ H0 : Heap, (∀ q, q < G.2.2.1 → H0[q]? = G.2.2.2 q) ∧ vx_Zq Bundle.tN "UNASSIGNED_STACK" Bundle.steD (fun q => G.2.2.1 ≤ q) U H0 ∧ vx_Zq Bundle.tN "SUPPRESSED_SENTINEL" Bundle.listD (fun q => G.2.2.1 ≤ q) U H0
theorem ex_.moved {G : ga_} {s U : State} (hW : s.WarmedH U.vm) (h : ex_ G s) : ex_ G U := by
  obtain ⟨h1, h2, h3, hd, H0, h4, h5, h6⟩ := h
  refine ⟨fun X hX => va_Nw.warmC hW (h1 X hX), fun X hX Y hY n => (h2 X hX Y hY n).moved hW.alike, fun q hq => ?_, fun y hy => va_Nw.warmD hW (hd y hy), H0, h4, h5.moved hW.alike, h6.moved hW.alike⟩
  obtain ⟨sa, h⟩ := h3 q hq
  exact ⟨sa, h.warm hW⟩
theorem ex_.same {G : ga_} {s U : State} (hW : s.vm = U.vm) (h : ex_ G s) : ex_ G U := by
  obtain ⟨h1, h2, h3, hd, H0, h4, h5, h6⟩ := h
  have hA : s.vm.Alike U.vm := by rw [hW]; exact Vm.Alike.refl U.vm
  refine ⟨fun X hX => va_Nw.same rfl hW (h1 X hX), fun X hX Y hY n => (h2 X hX Y hY n).moved hA, fun q hq => ?_, fun y hy => va_Nw.same rfl hW (hd y hy), H0, h4, h5.moved hA, h6.moved hA⟩
  obtain ⟨sa, h⟩ := h3 q hq
  exact ⟨sa, h.same hW.symm⟩
def ev_ (G : ga_) (U : State) : Prop := va_K G.1 vwCl (tys_ G.2.1) U ∧ (∀ w ∈ NB, va_Nw w U) ∧ va_AO RX0 U ∧ ex_ G U
theorem ev_.moved {G : ga_} {s U : State} (hW : s.WarmedH U.vm) (h : ev_ G s) : ev_ G U := ⟨va_K.moved hW.alike h.1, fun w hw => nb_moved (NB_ok w hw) hW (h.2.1 w hw), va_AO.moved hW.alike h.2.2.1, ex_.moved hW h.2.2.2⟩
theorem ev_.same {G : ga_} {s U : State} (hW : s.vm = U.vm) (h : ev_ G s) : ev_ G U := ⟨va_K.moved (by rw [hW]; exact Vm.Alike.refl U.vm) h.1, fun w hw => nb_same (NB_ok w hw) hW (h.2.1 w hw), va_AO.moved (by rw [hW]; exact Vm.Alike.refl U.vm) h.2.2.1, ex_.same hW h.2.2.2⟩
/-- the heap H holds h, has sz cells, and is below lo as it was -/
def hr_ (G : ga_) (h : HP) (sz : Nat) (H : Heap) : Prop := H.size = sz ∧ G.2.2.1 ≤ sz ∧ (∀ q, q < G.2.2.1 → H[q]? = G.2.2.2 q) ∧ ∀ (a : Nat) (e : va_E), h a = some e → G.2.2.1 ≤ a ∧ va_at G.1 vwCl (a, e) H
theorem hr_.lt {G : ga_} {h : HP} {sz : Nat} {H : Heap} (w : hr_ G h sz H) {a : Nat} {e : va_E} (ha : h a = some e) : a < sz := by
  have := (w.2.2.2 a e ha).2.lt
  rw [w.1] at this
  exact this
theorem hr_.put {G : ga_} {h : HP} {sz : Nat} {H H1 : Heap} {a : Nat} {e : va_E} (w : hr_ G h sz H) (hl : G.2.2.1 ≤ a) (h1 : va_at G.1 vwCl (a, e) H1) (z : H1.size = H.size) (oq : ∀ q, q ≠ a → H1[q]? = H[q]?) : hr_ G (up_ h a e) sz H1 := by
  refine ⟨z.trans w.1, w.2.1, fun q hq => ?_, fun b e2 hb => ?_⟩
  · rw [oq q (by omega)]; exact w.2.2.1 q hq
  · by_cases c : b = a
    · subst c; rw [up_s] at hb; cases hb; exact ⟨hl, h1⟩
    · rw [up_n c] at hb
      exact ⟨(w.2.2.2 b e2 hb).1, (w.2.2.2 b e2 hb).2.kept (oq b c)⟩
theorem hr_.new {G : ga_} {h : HP} {sz : Nat} {H H1 : Heap} {e : va_E} (w : hr_ G h sz H) (h1 : va_at G.1 vwCl (sz, e) H1) (z : H1.size = sz + 1) (oq : ∀ q, q < sz → H1[q]? = H[q]?) : hr_ G (up_ h sz e) (sz + 1) H1 := by
  refine ⟨z, by have := w.2.1; omega, fun q hq => ?_, fun b e2 hb => ?_⟩
  · rw [oq q (by have := w.2.1; omega)]; exact w.2.2.1 q hq
  · by_cases c : b = sz
    · subst c; rw [up_s] at hb; cases hb; exact ⟨w.2.1, h1⟩
    · rw [up_n c] at hb
      exact ⟨(w.2.2.2 b e2 hb).1, (w.2.2.2 b e2 hb).2.kept (oq b (w.lt hb))⟩
/-- fewer cells are told -/
theorem hr_.less {G : ga_} {h h2 : HP} {sz : Nat} {H : Heap} (w : hr_ G h sz H) (hs : ∀ a e, h2 a = some e → h a = some e) : hr_ G h2 sz H := ⟨w.1, w.2.1, w.2.2.1, fun a e he => w.2.2.2 a e (hs a e he)⟩
-- locals
def gl_ : List (Nat × Value) → Nat → Option Value
  | [], _ => none
  | (j, v) :: t, i => cond (Nat.beq j i) (some v) (gl_ t i)
theorem gl_in {L : List (Nat × Value)} {i : Nat} {v : Value} (h : gl_ L i = some v) : (i, v) ∈ L := by
  induction L with
  | nil => cases h
  | cons q t ih =>
    obtain ⟨j, w⟩ := q
    unfold gl_ at h
    cases hb : Nat.beq j i with
    | true =>
      rw [hb] at h
      have e := Nat.eq_of_beq_eq_true hb
      subst e
      cases h
      exact List.mem_cons_self
    | false =>
      rw [hb] at h
      exact List.mem_cons_of_mem _ (ih h)
theorem gl_at {ls : Array Slot} {nL : Nat} {L : List (Nat × Value)} (h : lv_has ls nL L) {i : Nat} {v : Value} (hg : gl_ L i = some v) : ls[i]? = some (.val v) := h.2.2 (i, v) (gl_in hg)
abbrev st1_ (L : List (Nat × Value)) (i : Nat) (v : Value) : List (Nat × Value) := (i, v) :: L.filter (fun q => !(q.1 == i) && !(q.1 + 1 == i && q.2.category == 2))
abbrev st2_ (L : List (Nat × Value)) (i : Nat) (v : Value) : List (Nat × Value) := (i, v) :: L.filter (fun q => !(q.1 == i) && (!(q.1 == i + 1) && !(q.1 + 1 == i && q.2.category == 2)))
/-- the places of L2 hold in L what L2 says -/
def sub_ (L : List (Nat × Value)) : List (Nat × Value) → Prop
  | [] => True
  | (i, v) :: t => gl_ L i = some v ∧ sub_ L t
theorem sub_.has {ls : Array Slot} {nL : Nat} {L : List (Nat × Value)} (h : lv_has ls nL L) : ∀ {L2 : List (Nat × Value)}, sub_ L L2 → lv_has ls nL L2 := by
  intro L2 hs
  refine ⟨h.1, h.2.1, ?_⟩
  induction L2 with
  | nil => intro q hq; cases hq
  | cons x t ih =>
    intro q hq
    obtain ⟨i, v⟩ := x
    rcases List.mem_cons.mp hq with rfl | hq
    · exact gl_at h hs.1
    · exact ih hs.2 q hq
section LY
variable {p : Program} {l : Launch} {e : Env} {R : Room} {s : State} {m : MethodId} {args : Array Value} {below : List Frame} {meth : Method} {c : Code} {Q : State → Prop}
variable {G : ga_} {own : String} {cc : ByteArray} {nL : Nat} {ret : Option FieldType} {nm : String}
/-- what a method's body knows all along -/
def Cx (p : Program) (l : Launch) (R : Room) (s : State) (m : MethodId) (args : Array Value) (meth : Method) (c : Code) (G : ga_) (own : String) (cc : ByteArray) (nL : Nat) (ret : Option FieldType) (nm : String) : Prop :=
  p.tables.exec = Jvm.exec ∧ c.code = cc ∧ c.maxLocals = nL ∧ s.vm.findClass own = some m.cls ∧ (∀ w ∈ TB, w.before args s = true) ∧ ev_ G s ∧ meth.sig.returnType = ret ∧ meth.locks = false ∧ meth.name = nm
def V (p : Program) (l : Launch) (e : Env) (R : Room) (s : State) (m : MethodId) (args : Array Value) (below : List Frame) (meth : Method) (c : Code) (G : ga_) (nL : Nat) (Q : State → Prop) (h : HP) (sz k n pc : Nat) (L : List (Nat × Value)) (st : List Value) : Prop :=
  ∀ (H : Heap) (locs : List Loc) (ls : Array Slot), hr_ G h sz H → (∀ q ∈ locs, G.2.2.1 ≤ q.base) → lv_has ls nL L → W p l e R s m args below meth c H locs k n Q (F0 m pc ls st)
def Qg (G : ga_) (below : List Frame) (args : Array Value) (s : State) (mc ms : Nat) (Post : Option Value → HP → Nat → Prop) : State → Prop := MQ below (fun _ _ oc t => ∃ v h1 s1, oc = .returned v ∧ Post v h1 s1 ∧ hr_ G h1 s1 t.heap) args s mc ms (fun q => G.2.2.1 ≤ q)
/-- a method's contract: from a heap h of sz cells it returns, with Post of its answer and of the heap then -/
def Mg (G : ga_) (l : Launch) (y : MethodName) (cc : ByteArray) (nL : Nat) (ret : Option FieldType) (fr lo mc ms : Nat) (av : List Value) (h : HP) (sz : Nat) (Post : Option Value → HP → Nat → Prop) : Prop :=
  Met l y (.code y cc nL ret :: TB) { frames := fr, cells := mc, slots := ms, locals := lo } (va_Pc av (fun U => hr_ G h sz U.heap ∧ ev_ G U)) (fun _ _ oc t => ∃ v h1 s1, oc = .returned v ∧ Post v h1 s1 ∧ hr_ G h1 s1 t.heap) mc ms (fun q => G.2.2.1 ≤ q)
/-- what it answers and leaves is told -/
def Mf (G : ga_) (l : Launch) (y : MethodName) (cc : ByteArray) (nL : Nat) (ret : Option FieldType) (fr lo mc ms : Nat) (av : List Value) (h : HP) (sz : Nat) (v : Option Value) (h' : HP) (sz' : Nat) : Prop := Mg G l y cc nL ret fr lo mc ms av h sz (fun v1 h1 s1 => v1 = v ∧ h1 = h' ∧ s1 = sz')
theorem Mg.ofV {y : MethodName} {fr lo mc ms : Nat} {av : List Value} {h : HP} {sz : Nat} {Post : Option Value → HP → Nat → Prop} (L0 : List (Nat × Value)) (hy : plainName y.cls = true) (hn : (lg_sl av).length ≤ nL) (hL : lv_args 0 av = L0)
    (body : ∀ (p : Program) (e : Env) (s : State) (m : MethodId) (args : Array Value) (below : List Frame) (meth : Method) (c : Code), Cx p l { frames := fr, cells := mc, slots := ms, locals := lo } s m args meth c G y.cls cc nL ret y.name →
      V p l e { frames := fr, cells := mc, slots := ms, locals := lo } s m args below meth c G nL (Qg G below args s mc ms Post) h sz 0 0 0 L0 []) : Mg G l y cc nL ret fr lo mc ms av h sz Post := by
  refine Met.ofW hy rfl ?_
  intro p e s m args below meth c s₁ B hml hv
  obtain ⟨rfl, hh, hev⟩ := hv
  have hts := atoms_spec (ws := .code y cc nL ret :: TB) B.pre
  have hC : Cx p l { frames := fr, cells := mc, slots := ms, locals := lo } s m av.toArray meth c G y.cls cc nL ret y.name :=
    ⟨B.exec, B.bytes, hml, findClass_of_methodNamed B.named, fun w hw => hts w (List.mem_cons_of_mem _ hw), hev, B.returns, B.notSynchronized, (name_of_methodNamed B.named B.method).1⟩
  have hl := lv_entry av (n := nL) hn
  rw [lg_entry_eq]
  rw [hL] at hl
  exact body p e s m av.toArray below meth c hC s.heap [] _ hh (fun q hq => by cases hq) hl
theorem V.sub {h : HP} {sz k n pc : Nat} {L : List (Nat × Value)} {st : List Value} (L2 : List (Nat × Value)) (hs : sub_ L L2) (kk : V p l e R s m args below meth c G nL Q h sz k n pc L2 st) : V p l e R s m args below meth c G nL Q h sz k n pc L st :=
  fun H locs ls a b d => kk H locs ls a b (hs.has d)
theorem V.widen {h : HP} {sz k n k2 n2 pc : Nat} {L : List (Nat × Value)} {st : List Value} (h1 : k ≤ k2) (h2 : n ≤ n2) (kk : V p l e R s m args below meth c G nL Q h sz k2 n2 pc L st) : V p l e R s m args below meth c G nL Q h sz k n pc L st :=
  fun H locs ls a b d => W.widen h1 h2 (kk H locs ls a b d)
theorem V.less {h h2 : HP} {sz k n pc : Nat} {L : List (Nat × Value)} {st : List Value} (hs : ∀ a e, h2 a = some e → h a = some e) (kk : V p l e R s m args below meth c G nL Q h2 sz k n pc L st) : V p l e R s m args below meth c G nL Q h sz k n pc L st :=
  fun H locs ls a b d => kk H locs ls (a.less hs) b d
theorem V.heap {h h2 : HP} {sz k n pc : Nat} {L : List (Nat × Value)} {st : List Value} (hs : h = h2) (kk : V p l e R s m args below meth c G nL Q h2 sz k n pc L st) : V p l e R s m args below meth c G nL Q h sz k n pc L st := hs ▸ kk
theorem V.stack {h : HP} {sz k n pc : Nat} {L : List (Nat × Value)} {st st2 : List Value} (hs : st = st2) (kk : V p l e R s m args below meth c G nL Q h sz k n pc L st2) : V p l e R s m args below meth c G nL Q h sz k n pc L st := hs ▸ kk
variable {h : HP} {sz k n pc : Nat} {L : List (Nat × Value)} {st : List Value}

theorem r_iconst (C : Cx p l R s m args meth c G own cc nL ret nm) {i : Int} {v : Int32} (hd : decode cc pc = .ok (.iconst i, 1)) (hv : Int32.ofInt i = v) (kk : V p l e R s m args below meth c G nL Q h sz k n (pc + 1) L (.int v :: st)) : V p l e R s m args below meth c G nL Q h sz k n pc L (st) := fun H locs ls a b d => lv_iconst C.1 C.2.1 hd hv (kk H locs ls a b d)
theorem r_bipush (C : Cx p l R s m args meth c G own cc nL ret nm) {i : Int} {v : Int32} (hd : decode cc pc = .ok (.bipush i, 2)) (hv : (Int8.ofInt i).toInt32 = v) (kk : V p l e R s m args below meth c G nL Q h sz k n (pc + 2) L (.int v :: st)) : V p l e R s m args below meth c G nL Q h sz k n pc L (st) := fun H locs ls a b d => lv_bipush C.1 C.2.1 hd hv (kk H locs ls a b d)
theorem r_sipush (C : Cx p l R s m args meth c G own cc nL ret nm) {i : Int} {v : Int32} (hd : decode cc pc = .ok (.sipush i, 3)) (hv : (Int16.ofInt i).toInt32 = v) (kk : V p l e R s m args below meth c G nL Q h sz k n (pc + 3) L (.int v :: st)) : V p l e R s m args below meth c G nL Q h sz k n pc L (st) := fun H locs ls a b d => lv_sipush C.1 C.2.1 hd hv (kk H locs ls a b d)
theorem r_null (C : Cx p l R s m args meth c G own cc nL ret nm)  (hd : decode cc pc = .ok (.aconst_null, 1))  (kk : V p l e R s m args below meth c G nL Q h sz k n (pc + 1) L (.null :: st)) : V p l e R s m args below meth c G nL Q h sz k n pc L (st) := fun H locs ls a b d => lv_null C.1 C.2.1 hd  (kk H locs ls a b d)
theorem r_iload_n (C : Cx p l R s m args meth c G own cc nL ret nm) {j : Fin 4} {i : Nat} {x : Int32} (hd : decode cc pc = .ok (.iload_n j, 1)) (hi : (j : Nat) = i) (hg : gl_ L i = some (.int x)) (kk : V p l e R s m args below meth c G nL Q h sz k n (pc + 1) L (.int x :: st)) : V p l e R s m args below meth c G nL Q h sz k n pc L (st) := fun H locs ls a b d => lv_iload_n C.1 C.2.1 hd hi (gl_at d hg) (kk H locs ls a b d)
theorem r_iload (C : Cx p l R s m args meth c G own cc nL ret nm) {i : Nat} {x : Int32} (hd : decode cc pc = .ok (.iload i, 2)) (hg : gl_ L i = some (.int x)) (kk : V p l e R s m args below meth c G nL Q h sz k n (pc + 2) L (.int x :: st)) : V p l e R s m args below meth c G nL Q h sz k n pc L (st) := fun H locs ls a b d => lv_iload C.1 C.2.1 hd (gl_at d hg) (kk H locs ls a b d)
theorem r_istore_n (C : Cx p l R s m args meth c G own cc nL ret nm) {j : Fin 4} {i : Nat} {x : Int32} (hd : decode cc pc = .ok (.istore_n j, 1)) (hi : (j : Nat) = i) (hn : i < nL) (kk : V p l e R s m args below meth c G nL Q h sz k n (pc + 1) (st1_ L i (.int x)) st) : V p l e R s m args below meth c G nL Q h sz k n pc L (.int x :: st) := fun H locs ls a b d => lv_istore_n C.1 C.2.1 hd hi d hn rfl (fun ls2 d2 => kk H locs ls2 a b d2)
theorem r_istore (C : Cx p l R s m args meth c G own cc nL ret nm) {i : Nat} {x : Int32} (hd : decode cc pc = .ok (.istore i, 2)) (hn : i < nL) (kk : V p l e R s m args below meth c G nL Q h sz k n (pc + 2) (st1_ L i (.int x)) st) : V p l e R s m args below meth c G nL Q h sz k n pc L (.int x :: st) := fun H locs ls a b d => lv_istore C.1 C.2.1 hd d hn rfl (fun ls2 d2 => kk H locs ls2 a b d2)
theorem r_lload_n (C : Cx p l R s m args meth c G own cc nL ret nm) {j : Fin 4} {i : Nat} {x : Int64} (hd : decode cc pc = .ok (.lload_n j, 1)) (hi : (j : Nat) = i) (hg : gl_ L i = some (.long x)) (kk : V p l e R s m args below meth c G nL Q h sz k n (pc + 1) L (.long x :: st)) : V p l e R s m args below meth c G nL Q h sz k n pc L (st) := fun H locs ls a b d => lv_lload_n C.1 C.2.1 hd hi (gl_at d hg) (kk H locs ls a b d)
theorem r_lload (C : Cx p l R s m args meth c G own cc nL ret nm) {i : Nat} {x : Int64} (hd : decode cc pc = .ok (.lload i, 2)) (hg : gl_ L i = some (.long x)) (kk : V p l e R s m args below meth c G nL Q h sz k n (pc + 2) L (.long x :: st)) : V p l e R s m args below meth c G nL Q h sz k n pc L (st) := fun H locs ls a b d => lv_lload C.1 C.2.1 hd (gl_at d hg) (kk H locs ls a b d)
theorem r_lstore_n (C : Cx p l R s m args meth c G own cc nL ret nm) {j : Fin 4} {i : Nat} {x : Int64} (hd : decode cc pc = .ok (.lstore_n j, 1)) (hi : (j : Nat) = i) (hn : i + 1 < nL) (kk : V p l e R s m args below meth c G nL Q h sz k n (pc + 1) (st2_ L i (.long x)) st) : V p l e R s m args below meth c G nL Q h sz k n pc L (.long x :: st) := fun H locs ls a b d => lv_lstore_n C.1 C.2.1 hd hi d hn rfl (fun ls2 d2 => kk H locs ls2 a b d2)
theorem r_lstore (C : Cx p l R s m args meth c G own cc nL ret nm) {i : Nat} {x : Int64} (hd : decode cc pc = .ok (.lstore i, 2)) (hn : i + 1 < nL) (kk : V p l e R s m args below meth c G nL Q h sz k n (pc + 2) (st2_ L i (.long x)) st) : V p l e R s m args below meth c G nL Q h sz k n pc L (.long x :: st) := fun H locs ls a b d => lv_lstore C.1 C.2.1 hd d hn rfl (fun ls2 d2 => kk H locs ls2 a b d2)
theorem r_dload_n (C : Cx p l R s m args meth c G own cc nL ret nm) {j : Fin 4} {i : Nat} {x : UInt64} (hd : decode cc pc = .ok (.dload_n j, 1)) (hi : (j : Nat) = i) (hg : gl_ L i = some (.double x)) (kk : V p l e R s m args below meth c G nL Q h sz k n (pc + 1) L (.double x :: st)) : V p l e R s m args below meth c G nL Q h sz k n pc L (st) := fun H locs ls a b d => lv_dload_n C.1 C.2.1 hd hi (gl_at d hg) (kk H locs ls a b d)
theorem r_dload (C : Cx p l R s m args meth c G own cc nL ret nm) {i : Nat} {x : UInt64} (hd : decode cc pc = .ok (.dload i, 2)) (hg : gl_ L i = some (.double x)) (kk : V p l e R s m args below meth c G nL Q h sz k n (pc + 2) L (.double x :: st)) : V p l e R s m args below meth c G nL Q h sz k n pc L (st) := fun H locs ls a b d => lv_dload C.1 C.2.1 hd (gl_at d hg) (kk H locs ls a b d)
theorem r_dstore_n (C : Cx p l R s m args meth c G own cc nL ret nm) {j : Fin 4} {i : Nat} {x : UInt64} (hd : decode cc pc = .ok (.dstore_n j, 1)) (hi : (j : Nat) = i) (hn : i + 1 < nL) (kk : V p l e R s m args below meth c G nL Q h sz k n (pc + 1) (st2_ L i (.double x)) st) : V p l e R s m args below meth c G nL Q h sz k n pc L (.double x :: st) := fun H locs ls a b d => lv_dstore_n C.1 C.2.1 hd hi d hn rfl (fun ls2 d2 => kk H locs ls2 a b d2)
theorem r_dstore (C : Cx p l R s m args meth c G own cc nL ret nm) {i : Nat} {x : UInt64} (hd : decode cc pc = .ok (.dstore i, 2)) (hn : i + 1 < nL) (kk : V p l e R s m args below meth c G nL Q h sz k n (pc + 2) (st2_ L i (.double x)) st) : V p l e R s m args below meth c G nL Q h sz k n pc L (.double x :: st) := fun H locs ls a b d => lv_dstore C.1 C.2.1 hd d hn rfl (fun ls2 d2 => kk H locs ls2 a b d2)
theorem r_aload_n (C : Cx p l R s m args meth c G own cc nL ret nm) {j : Fin 4} {i x : Nat} (hd : decode cc pc = .ok (.aload_n j, 1)) (hi : (j : Nat) = i) (hg : gl_ L i = some (.ref x)) (kk : V p l e R s m args below meth c G nL Q h sz k n (pc + 1) L (.ref x :: st)) : V p l e R s m args below meth c G nL Q h sz k n pc L (st) := fun H locs ls a b d => lv_aload_n C.1 C.2.1 hd hi (gl_at d hg) (kk H locs ls a b d)
theorem r_aload (C : Cx p l R s m args meth c G own cc nL ret nm) {i x : Nat} (hd : decode cc pc = .ok (.aload i, 2)) (hg : gl_ L i = some (.ref x)) (kk : V p l e R s m args below meth c G nL Q h sz k n (pc + 2) L (.ref x :: st)) : V p l e R s m args below meth c G nL Q h sz k n pc L (st) := fun H locs ls a b d => lv_aload C.1 C.2.1 hd (gl_at d hg) (kk H locs ls a b d)
theorem r_astore_n (C : Cx p l R s m args meth c G own cc nL ret nm) {j : Fin 4} {i x : Nat} (hd : decode cc pc = .ok (.astore_n j, 1)) (hi : (j : Nat) = i) (hn : i < nL) (kk : V p l e R s m args below meth c G nL Q h sz k n (pc + 1) (st1_ L i (.ref x)) st) : V p l e R s m args below meth c G nL Q h sz k n pc L (.ref x :: st) := fun H locs ls a b d => lv_astore_n C.1 C.2.1 hd hi d hn rfl (fun ls2 d2 => kk H locs ls2 a b d2)
theorem r_astore (C : Cx p l R s m args meth c G own cc nL ret nm) {i x : Nat} (hd : decode cc pc = .ok (.astore i, 2)) (hn : i < nL) (kk : V p l e R s m args below meth c G nL Q h sz k n (pc + 2) (st1_ L i (.ref x)) st) : V p l e R s m args below meth c G nL Q h sz k n pc L (.ref x :: st) := fun H locs ls a b d => lv_astore C.1 C.2.1 hd d hn rfl (fun ls2 d2 => kk H locs ls2 a b d2)
theorem r_iinc (C : Cx p l R s m args meth c G own cc nL ret nm) {i : Nat} {z : Int} {x v : Int32} (hd : decode cc pc = .ok (.iinc i z, 3)) (hg : gl_ L i = some (.int x)) (hv : Int32.ofInt z = v) (hn : i < nL) (kk : V p l e R s m args below meth c G nL Q h sz k n (pc + 3) (st1_ L i (.int (x + v))) st) : V p l e R s m args below meth c G nL Q h sz k n pc L st := fun H locs ls a b d => by
  obtain ⟨q, hq⟩ := List.getElem?_of_mem (gl_in hg)
  exact lv_iinc C.1 C.2.1 hd d hq (by rw [hv]) hn rfl (fun ls2 d2 => kk H locs ls2 a b d2)
theorem r_iadd (C : Cx p l R s m args meth c G own cc nL ret nm) {x y : Int32} (hd : decode cc pc = .ok (.iadd, 1))  (kk : V p l e R s m args below meth c G nL Q h sz k n (pc + 1) L (.int (x + y) :: st)) : V p l e R s m args below meth c G nL Q h sz k n pc L (.int y :: .int x :: st) := fun H locs ls a b d => lv_iadd C.1 C.2.1 hd  (kk H locs ls a b d)
theorem r_isub (C : Cx p l R s m args meth c G own cc nL ret nm) {x y : Int32} (hd : decode cc pc = .ok (.isub, 1))  (kk : V p l e R s m args below meth c G nL Q h sz k n (pc + 1) L (.int (x - y) :: st)) : V p l e R s m args below meth c G nL Q h sz k n pc L (.int y :: .int x :: st) := fun H locs ls a b d => lv_isub C.1 C.2.1 hd  (kk H locs ls a b d)
theorem r_imul (C : Cx p l R s m args meth c G own cc nL ret nm) {x y : Int32} (hd : decode cc pc = .ok (.imul, 1))  (kk : V p l e R s m args below meth c G nL Q h sz k n (pc + 1) L (.int (x * y) :: st)) : V p l e R s m args below meth c G nL Q h sz k n pc L (.int y :: .int x :: st) := fun H locs ls a b d => lv_imul C.1 C.2.1 hd  (kk H locs ls a b d)
theorem r_iand (C : Cx p l R s m args meth c G own cc nL ret nm) {x y : Int32} (hd : decode cc pc = .ok (.iand, 1))  (kk : V p l e R s m args below meth c G nL Q h sz k n (pc + 1) L (.int (x &&& y) :: st)) : V p l e R s m args below meth c G nL Q h sz k n pc L (.int y :: .int x :: st) := fun H locs ls a b d => lv_iand C.1 C.2.1 hd  (kk H locs ls a b d)
theorem r_ior (C : Cx p l R s m args meth c G own cc nL ret nm) {x y : Int32} (hd : decode cc pc = .ok (.ior, 1))  (kk : V p l e R s m args below meth c G nL Q h sz k n (pc + 1) L (.int (x ||| y) :: st)) : V p l e R s m args below meth c G nL Q h sz k n pc L (.int y :: .int x :: st) := fun H locs ls a b d => lv_ior C.1 C.2.1 hd  (kk H locs ls a b d)
theorem r_ixor (C : Cx p l R s m args meth c G own cc nL ret nm) {x y : Int32} (hd : decode cc pc = .ok (.ixor, 1))  (kk : V p l e R s m args below meth c G nL Q h sz k n (pc + 1) L (.int (x ^^^ y) :: st)) : V p l e R s m args below meth c G nL Q h sz k n pc L (.int y :: .int x :: st) := fun H locs ls a b d => lv_ixor C.1 C.2.1 hd  (kk H locs ls a b d)
theorem r_ladd (C : Cx p l R s m args meth c G own cc nL ret nm) {x y : Int64} (hd : decode cc pc = .ok (.ladd, 1))  (kk : V p l e R s m args below meth c G nL Q h sz k n (pc + 1) L (.long (x + y) :: st)) : V p l e R s m args below meth c G nL Q h sz k n pc L (.long y :: .long x :: st) := fun H locs ls a b d => lv_ladd C.1 C.2.1 hd  (kk H locs ls a b d)
theorem r_lsub (C : Cx p l R s m args meth c G own cc nL ret nm) {x y : Int64} (hd : decode cc pc = .ok (.lsub, 1))  (kk : V p l e R s m args below meth c G nL Q h sz k n (pc + 1) L (.long (x - y) :: st)) : V p l e R s m args below meth c G nL Q h sz k n pc L (.long y :: .long x :: st) := fun H locs ls a b d => lv_lsub C.1 C.2.1 hd  (kk H locs ls a b d)
theorem r_lmul (C : Cx p l R s m args meth c G own cc nL ret nm) {x y : Int64} (hd : decode cc pc = .ok (.lmul, 1))  (kk : V p l e R s m args below meth c G nL Q h sz k n (pc + 1) L (.long (x * y) :: st)) : V p l e R s m args below meth c G nL Q h sz k n pc L (.long y :: .long x :: st) := fun H locs ls a b d => lv_lmul C.1 C.2.1 hd  (kk H locs ls a b d)
theorem r_idiv (C : Cx p l R s m args meth c G own cc nL ret nm) {x y : Int32} (hd : decode cc pc = .ok (.idiv, 1)) (hz : ¬ y = 0) (kk : V p l e R s m args below meth c G nL Q h sz k n (pc + 1) L (.int (x / y) :: st)) : V p l e R s m args below meth c G nL Q h sz k n pc L (.int y :: .int x :: st) := fun H locs ls a b d => lv_idiv C.1 C.2.1 hd hz (kk H locs ls a b d)
theorem r_irem (C : Cx p l R s m args meth c G own cc nL ret nm) {x y : Int32} (hd : decode cc pc = .ok (.irem, 1)) (hz : ¬ y = 0) (kk : V p l e R s m args below meth c G nL Q h sz k n (pc + 1) L (.int (x - x / y * y) :: st)) : V p l e R s m args below meth c G nL Q h sz k n pc L (.int y :: .int x :: st) := fun H locs ls a b d => lv_irem C.1 C.2.1 hd hz (kk H locs ls a b d)
theorem r_i2l (C : Cx p l R s m args meth c G own cc nL ret nm) {x : Int32} (hd : decode cc pc = .ok (.i2l, 1))  (kk : V p l e R s m args below meth c G nL Q h sz k n (pc + 1) L (.long x.toInt64 :: st)) : V p l e R s m args below meth c G nL Q h sz k n pc L (.int x :: st) := fun H locs ls a b d => lv_i2l C.1 C.2.1 hd rfl (kk H locs ls a b d)
theorem r_i2c (C : Cx p l R s m args meth c G own cc nL ret nm) {x : Int32} (hd : decode cc pc = .ok (.i2c, 1))  (kk : V p l e R s m args below meth c G nL Q h sz k n (pc + 1) L (.int (x.toUInt32 % 65536).toInt32 :: st)) : V p l e R s m args below meth c G nL Q h sz k n pc L (.int x :: st) := fun H locs ls a b d => lv_i2c C.1 C.2.1 hd rfl (kk H locs ls a b d)
theorem r_dup (C : Cx p l R s m args meth c G own cc nL ret nm) {v : Value} (hd : decode cc pc = .ok (.dup, 1)) (hv : v.category = 1) (kk : V p l e R s m args below meth c G nL Q h sz k n (pc + 1) L (v :: v :: st)) : V p l e R s m args below meth c G nL Q h sz k n pc L (v :: st) := fun H locs ls a b d => lv_dup C.1 C.2.1 hd hv (kk H locs ls a b d)
theorem r_pop (C : Cx p l R s m args meth c G own cc nL ret nm) {v : Value} (hd : decode cc pc = .ok (.pop, 1)) (hv : v.category = 1) (kk : V p l e R s m args below meth c G nL Q h sz k n (pc + 1) L (st)) : V p l e R s m args below meth c G nL Q h sz k n pc L (v :: st) := fun H locs ls a b d => lv_pop C.1 C.2.1 hd hv (kk H locs ls a b d)
theorem r_dup2 (C : Cx p l R s m args meth c G own cc nL ret nm) {v w : Value} (hd : decode cc pc = .ok (.dup2, 1)) (hv : v.category = 1) (hw : w.category = 1) (kk : V p l e R s m args below meth c G nL Q h sz k n (pc + 1) L (v :: w :: v :: w :: st)) : V p l e R s m args below meth c G nL Q h sz k n pc L (v :: w :: st) := fun H locs ls a b d => lv_dup2_11 C.1 C.2.1 hd hv hw (kk H locs ls a b d)
theorem r_icmp_eq (C : Cx p l R s m args meth c G own cc nL ret nm) {x y : Int32} {off : Int} (tgt : Nat) (hd : decode cc pc = .ok (.if_icmp .eq off, 3)) (ht : (pc : Int) + off = (tgt : Int)) (kt : x = y → V p l e R s m args below meth c G nL Q h sz k n tgt L st) (kf : ¬ x = y → V p l e R s m args below meth c G nL Q h sz k n (pc + 3) L st) : V p l e R s m args below meth c G nL Q h sz k n pc L (.int y :: .int x :: st) := fun H locs ls a b d => lv_icmp_eq C.1 C.2.1 hd ht (fun z => kt z H locs ls a b d) (fun z => kf z H locs ls a b d)
theorem r_icmp_ne (C : Cx p l R s m args meth c G own cc nL ret nm) {x y : Int32} {off : Int} (tgt : Nat) (hd : decode cc pc = .ok (.if_icmp .ne off, 3)) (ht : (pc : Int) + off = (tgt : Int)) (kt : x ≠ y → V p l e R s m args below meth c G nL Q h sz k n tgt L st) (kf : x = y → V p l e R s m args below meth c G nL Q h sz k n (pc + 3) L st) : V p l e R s m args below meth c G nL Q h sz k n pc L (.int y :: .int x :: st) := fun H locs ls a b d => lv_icmp_ne C.1 C.2.1 hd ht (fun z => kt z H locs ls a b d) (fun z => kf z H locs ls a b d)
theorem r_icmp_lt (C : Cx p l R s m args meth c G own cc nL ret nm) {x y : Int32} {off : Int} (tgt : Nat) (hd : decode cc pc = .ok (.if_icmp .lt off, 3)) (ht : (pc : Int) + off = (tgt : Int)) (kt : x < y → V p l e R s m args below meth c G nL Q h sz k n tgt L st) (kf : ¬ x < y → V p l e R s m args below meth c G nL Q h sz k n (pc + 3) L st) : V p l e R s m args below meth c G nL Q h sz k n pc L (.int y :: .int x :: st) := fun H locs ls a b d => lv_icmp_lt C.1 C.2.1 hd ht (fun z => kt z H locs ls a b d) (fun z => kf z H locs ls a b d)
theorem r_icmp_ge (C : Cx p l R s m args meth c G own cc nL ret nm) {x y : Int32} {off : Int} (tgt : Nat) (hd : decode cc pc = .ok (.if_icmp .ge off, 3)) (ht : (pc : Int) + off = (tgt : Int)) (kt : y ≤ x → V p l e R s m args below meth c G nL Q h sz k n tgt L st) (kf : ¬ y ≤ x → V p l e R s m args below meth c G nL Q h sz k n (pc + 3) L st) : V p l e R s m args below meth c G nL Q h sz k n pc L (.int y :: .int x :: st) := fun H locs ls a b d => lv_icmp_ge C.1 C.2.1 hd ht (fun z => kt z H locs ls a b d) (fun z => kf z H locs ls a b d)
theorem r_icmp_gt (C : Cx p l R s m args meth c G own cc nL ret nm) {x y : Int32} {off : Int} (tgt : Nat) (hd : decode cc pc = .ok (.if_icmp .gt off, 3)) (ht : (pc : Int) + off = (tgt : Int)) (kt : y < x → V p l e R s m args below meth c G nL Q h sz k n tgt L st) (kf : ¬ y < x → V p l e R s m args below meth c G nL Q h sz k n (pc + 3) L st) : V p l e R s m args below meth c G nL Q h sz k n pc L (.int y :: .int x :: st) := fun H locs ls a b d => lv_icmp_gt C.1 C.2.1 hd ht (fun z => kt z H locs ls a b d) (fun z => kf z H locs ls a b d)
theorem r_icmp_le (C : Cx p l R s m args meth c G own cc nL ret nm) {x y : Int32} {off : Int} (tgt : Nat) (hd : decode cc pc = .ok (.if_icmp .le off, 3)) (ht : (pc : Int) + off = (tgt : Int)) (kt : x ≤ y → V p l e R s m args below meth c G nL Q h sz k n tgt L st) (kf : ¬ x ≤ y → V p l e R s m args below meth c G nL Q h sz k n (pc + 3) L st) : V p l e R s m args below meth c G nL Q h sz k n pc L (.int y :: .int x :: st) := fun H locs ls a b d => lv_icmp_le C.1 C.2.1 hd ht (fun z => kt z H locs ls a b d) (fun z => kf z H locs ls a b d)
theorem r_if_eq (C : Cx p l R s m args meth c G own cc nL ret nm) {x : Int32} {off : Int} (tgt : Nat) (hd : decode cc pc = .ok (.ifCond .eq off, 3)) (ht : (pc : Int) + off = (tgt : Int)) (kt : x = 0 → V p l e R s m args below meth c G nL Q h sz k n tgt L st) (kf : ¬ x = 0 → V p l e R s m args below meth c G nL Q h sz k n (pc + 3) L st) : V p l e R s m args below meth c G nL Q h sz k n pc L (.int x :: st) := fun H locs ls a b d => lv_if_eq C.1 C.2.1 hd ht (fun z => kt z H locs ls a b d) (fun z => kf z H locs ls a b d)
theorem r_if_ne (C : Cx p l R s m args meth c G own cc nL ret nm) {x : Int32} {off : Int} (tgt : Nat) (hd : decode cc pc = .ok (.ifCond .ne off, 3)) (ht : (pc : Int) + off = (tgt : Int)) (kt : x ≠ 0 → V p l e R s m args below meth c G nL Q h sz k n tgt L st) (kf : x = 0 → V p l e R s m args below meth c G nL Q h sz k n (pc + 3) L st) : V p l e R s m args below meth c G nL Q h sz k n pc L (.int x :: st) := fun H locs ls a b d => lv_if_ne C.1 C.2.1 hd ht (fun z => kt z H locs ls a b d) (fun z => kf z H locs ls a b d)
theorem r_if_lt (C : Cx p l R s m args meth c G own cc nL ret nm) {x : Int32} {off : Int} (tgt : Nat) (hd : decode cc pc = .ok (.ifCond .lt off, 3)) (ht : (pc : Int) + off = (tgt : Int)) (kt : x < 0 → V p l e R s m args below meth c G nL Q h sz k n tgt L st) (kf : ¬ x < 0 → V p l e R s m args below meth c G nL Q h sz k n (pc + 3) L st) : V p l e R s m args below meth c G nL Q h sz k n pc L (.int x :: st) := fun H locs ls a b d => lv_if_lt C.1 C.2.1 hd ht (fun z => kt z H locs ls a b d) (fun z => kf z H locs ls a b d)
theorem r_if_ge (C : Cx p l R s m args meth c G own cc nL ret nm) {x : Int32} {off : Int} (tgt : Nat) (hd : decode cc pc = .ok (.ifCond .ge off, 3)) (ht : (pc : Int) + off = (tgt : Int)) (kt : 0 ≤ x → V p l e R s m args below meth c G nL Q h sz k n tgt L st) (kf : ¬ 0 ≤ x → V p l e R s m args below meth c G nL Q h sz k n (pc + 3) L st) : V p l e R s m args below meth c G nL Q h sz k n pc L (.int x :: st) := fun H locs ls a b d => lv_if_ge C.1 C.2.1 hd ht (fun z => kt z H locs ls a b d) (fun z => kf z H locs ls a b d)
theorem r_if_gt (C : Cx p l R s m args meth c G own cc nL ret nm) {x : Int32} {off : Int} (tgt : Nat) (hd : decode cc pc = .ok (.ifCond .gt off, 3)) (ht : (pc : Int) + off = (tgt : Int)) (kt : 0 < x → V p l e R s m args below meth c G nL Q h sz k n tgt L st) (kf : ¬ 0 < x → V p l e R s m args below meth c G nL Q h sz k n (pc + 3) L st) : V p l e R s m args below meth c G nL Q h sz k n pc L (.int x :: st) := fun H locs ls a b d => lv_if_gt C.1 C.2.1 hd ht (fun z => kt z H locs ls a b d) (fun z => kf z H locs ls a b d)
theorem r_if_le (C : Cx p l R s m args meth c G own cc nL ret nm) {x : Int32} {off : Int} (tgt : Nat) (hd : decode cc pc = .ok (.ifCond .le off, 3)) (ht : (pc : Int) + off = (tgt : Int)) (kt : x ≤ 0 → V p l e R s m args below meth c G nL Q h sz k n tgt L st) (kf : ¬ x ≤ 0 → V p l e R s m args below meth c G nL Q h sz k n (pc + 3) L st) : V p l e R s m args below meth c G nL Q h sz k n pc L (.int x :: st) := fun H locs ls a b d => lv_if_le C.1 C.2.1 hd ht (fun z => kt z H locs ls a b d) (fun z => kf z H locs ls a b d)
theorem r_goto (C : Cx p l R s m args meth c G own cc nL ret nm) {off : Int} (tgt : Nat) (hd : decode cc pc = .ok (.goto off, 3)) (ht : (pc : Int) + off = (tgt : Int)) (kk : V p l e R s m args below meth c G nL Q h sz k n tgt L st) : V p l e R s m args below meth c G nL Q h sz k n pc L st := fun H locs ls a b d => lv_goto C.1 C.2.1 hd ht (kk H locs ls a b d)
theorem r_ldc (C : Cx p l R s m args meth c G own cc nL ret nm) {i : Nat} {v : Int32} (hw : Cond.constant own i v ∈ TB) (hd : decode cc pc = .ok (.ldc i, 2)) (kk : V p l e R s m args below meth c G nL Q h sz k n (pc + 2) L (.int v :: st)) : V p l e R s m args below meth c G nL Q h sz k n pc L st := fun H locs ls a b d => lv_ldc C.1 C.2.1 C.2.2.2.1 (C.2.2.2.2.1 _ hw) hd (kk H locs ls a b d)
theorem r_ldc2 (C : Cx p l R s m args meth c G own cc nL ret nm) {i : Nat} {v : Int64} (hw : Cond.constantLong own i v ∈ TB) (hd : decode cc pc = .ok (.ldc2_w i, 3)) (kk : V p l e R s m args below meth c G nL Q h sz k n (pc + 3) L (.long v :: st)) : V p l e R s m args below meth c G nL Q h sz k n pc L st := fun H locs ls a b d => lv_ldc2 C.1 C.2.1 C.2.2.2.1 (C.2.2.2.2.1 _ hw) hd (kk H locs ls a b d)
theorem r_get (C : Cx p l R s m args meth c G own cc nL ret nm) {ref Cn : String} {T : u_T} {N ci index a0 j : Nat} {fs : List Value} {v : Value} (hc : vwCl[ci]? = some (Cn, T, N)) (hin : ∀ w ∈ u_ws Cn T N, w ∈ TB) (he : h a0 = some (ob_ ci fs)) (hj : j < N) (hw : Cond.fieldLink own index ref (T j).2.1 (T j).2.2.1 ∈ TB) (hr : (T j).1 = ref) (hv : fs[j]? = some v) (hd : decode cc pc = .ok (.getfield index, 3)) (kk : V p l e R s m args below meth c G nL Q h sz k n (pc + 3) L (v :: st)) : V p l e R s m args below meth c G nL Q h sz k n pc L (.ref a0 :: st) := by
  intro H locs ls a b d
  exact va_get (ws := [(a0, ob_ ci fs)]) C.1 C.2.1 C.2.2.2.2.1 hin C.2.2.2.1 C.2.2.2.2.2.1.1 (fun q x hx => by cases q with
    | zero => cases hx; exact (a.2.2.2 _ _ he).2
    | succ q => simp at hx) 0 rfl hc j hj (C.2.2.2.2.1 _ hw) (by rw [hr]; exact fun _ z => z) hv hd (kk H locs ls a b d)
theorem r_getN (C : Cx p l R s m args meth c G own cc nL ret nm) {ref Cn host : String} {T : u_T} {N ci index a0 j : Nat} {fs : List Value} {v : Value} (hc : vwCl[ci]? = some (Cn, T, N)) (hin : ∀ w ∈ u_ws Cn T N, w ∈ TB) (he : h a0 = some (ob_ ci fs)) (hj : j < N) (hw : Cond.fieldLinkNest own index ref (T j).2.1 (T j).2.2.1 host ∈ NB) (hr : (T j).1 = ref) (hv : fs[j]? = some v) (hd : decode cc pc = .ok (.getfield index, 3)) (kk : V p l e R s m args below meth c G nL Q h sz k n (pc + 3) L (v :: st)) : V p l e R s m args below meth c G nL Q h sz k n pc L (.ref a0 :: st) := by
  intro H locs ls a b d
  exact va_getN (ws := [(a0, ob_ ci fs)]) C.1 C.2.1 C.2.2.2.2.1 hin C.2.2.2.1 C.2.2.2.2.2.1.1 (fun q x hx => by cases q with
    | zero => cases hx; exact (a.2.2.2 _ _ he).2
    | succ q => simp at hx) 0 rfl hc j hj (va_Nw.use rfl (C.2.2.2.2.2.1.2.1 _ hw)) (by rw [hr]; exact fun _ z => z) hv hd (kk H locs ls a b d)
theorem r_put (C : Cx p l R s m args meth c G own cc nL ret nm) {ref Cn : String} {T : u_T} {N ci index a0 j : Nat} {fs : List Value} {v : Value} {ty : FieldType} (ty0 : Nat → FieldType) (hty : ∀ k, k < N → parseFieldDescriptor (T k).2.2.1 = some (ty0 k)) (hnm : ∀ a, a < N → ∀ b, b < N → a ≠ b → (T a).2.1 ≠ (T b).2.1) (hc : vwCl[ci]? = some (Cn, T, N)) (hin : ∀ w ∈ u_ws Cn T N, w ∈ TB) (he : h a0 = some (ob_ ci fs)) (hj : j < N) (hw : Cond.fieldLink own index ref (T j).2.1 (T j).2.2.1 ∈ TB) (hr : (T j).1 = ref) (hfin : (T j).2.2.2 = false) (hd0 : parseFieldDescriptor (T j).2.2.1 = some ty) (hn : narrow ty v = v) (hfit : fits ty v = true) (hl : j < fs.length) (hd : decode cc pc = .ok (.putfield index, 3)) (kk : V p l e R s m args below meth c G nL Q (up_ h a0 (ob_ ci (fs.set j v))) sz k n (pc + 3) L st) : V p l e R s m args below meth c G nL Q h sz k n pc L (v :: .ref a0 :: st) := by
  intro H locs ls a b d
  have hap := va_apart (own := own) C.2.2.2.2.1 hin ty0 hty hnm C.2.2.2.2.2.1.1 hc
  obtain ⟨r, h1, cell, q1, q2, q3, q4⟩ := (a.2.2.2 _ _ he).2
  have hr2 : r = (Cn, T, N) := Option.some.inj (h1.symm.trans hc)
  subst hr2
  obtain ⟨hS, hfc, kC, hkC, hkind⟩ := C.2.2.2.2.2.1.1.1 ci _ hc
  obtain ⟨cf, kf, fi, f, hi, hsl⟩ := hS j hj
  have hlay := C.2.2.2.2.1 _ (hin _ (u_in_lay hj))
  unfold u_lay at hlay
  rw [if_neg (by rw [hfin]; decide)] at hlay
  have hst := (u_facts hfc hkC (u_lays C.2.2.2.2.1 hin hj) hi).1
  have h6 := u_store hfc hkC hkind hlay hi hd0 hn hfit
  subst hr
  refine W.putK C.1 C.2.1 (f := f) ⟨C.2.2.2.1, C.2.2.2.2.1 _ hw, ⟨_, _, _, hi⟩, hst⟩ (by rw [q2]; exact h6) q1 q3 (by rw [hsl]; exact k2_hasslot (q4 j hj)) rfl rfl hd fun H' e1 e2 e3 => ?_
  rw [hsl] at e1 ⊢
  exact kk H' _ ls (a.put (a.2.2.2 _ _ he).1 ⟨_, hc, t_OB.to (V := updV (vp_V fs) j v) ⟨_, e1, q2, q3, t_set q4 hap hj v⟩ (fun i _ => vp_updV_set hl v i)⟩ e2 e3) (fun q hq => by
    rcases List.mem_append.mp hq with z | z
    · exact b q z
    · have := List.mem_singleton.mp z
      subst this
      exact (a.2.2.2 _ _ he).1) d
theorem r_putN (C : Cx p l R s m args meth c G own cc nL ret nm) {ref Cn host : String} {T : u_T} {N ci index a0 j : Nat} {fs : List Value} {v : Value} {ty : FieldType} (ty0 : Nat → FieldType) (hty : ∀ k, k < N → parseFieldDescriptor (T k).2.2.1 = some (ty0 k)) (hnm : ∀ a, a < N → ∀ b, b < N → a ≠ b → (T a).2.1 ≠ (T b).2.1) (hc : vwCl[ci]? = some (Cn, T, N)) (hin : ∀ w ∈ u_ws Cn T N, w ∈ TB) (he : h a0 = some (ob_ ci fs)) (hj : j < N) (hw : Cond.fieldLinkNest own index ref (T j).2.1 (T j).2.2.1 host ∈ NB) (hr : (T j).1 = ref) (hfin : (T j).2.2.2 = false) (hd0 : parseFieldDescriptor (T j).2.2.1 = some ty) (hn : narrow ty v = v) (hfit : fits ty v = true) (hl : j < fs.length) (hd : decode cc pc = .ok (.putfield index, 3)) (kk : V p l e R s m args below meth c G nL Q (up_ h a0 (ob_ ci (fs.set j v))) sz k n (pc + 3) L st) : V p l e R s m args below meth c G nL Q h sz k n pc L (v :: .ref a0 :: st) := by
  intro H locs ls a b d
  have hap := va_apart (own := own) C.2.2.2.2.1 hin ty0 hty hnm C.2.2.2.2.2.1.1 hc
  obtain ⟨r, h1, cell, q1, q2, q3, q4⟩ := (a.2.2.2 _ _ he).2
  have hr2 : r = (Cn, T, N) := Option.some.inj (h1.symm.trans hc)
  subst hr2
  obtain ⟨hS, hfc, kC, hkC, hkind⟩ := C.2.2.2.2.2.1.1.1 ci _ hc
  obtain ⟨cf, kf, fi, f, hi, hsl⟩ := hS j hj
  have hlay := C.2.2.2.2.1 _ (hin _ (u_in_lay hj))
  unfold u_lay at hlay
  rw [if_neg (by rw [hfin]; decide)] at hlay
  have hst := (u_facts hfc hkC (u_lays C.2.2.2.2.1 hin hj) hi).1
  have h6 := u_store hfc hkC hkind hlay hi hd0 hn hfit
  subst hr
  refine va_WputK C.1 C.2.1 (f := f) C.2.2.2.1 (va_Nw.use rfl (C.2.2.2.2.2.1.2.1 _ hw)) hi hst (by rw [q2]; exact h6) q1 q3 (by rw [hsl]; exact k2_hasslot (q4 j hj)) rfl rfl hd fun H' e1 e2 e3 => ?_
  rw [hsl] at e1 ⊢
  exact kk H' _ ls (a.put (a.2.2.2 _ _ he).1 ⟨_, hc, t_OB.to (V := updV (vp_V fs) j v) ⟨_, e1, q2, q3, t_set q4 hap hj v⟩ (fun i _ => vp_updV_set hl v i)⟩ e2 e3) (fun q hq => by
    rcases List.mem_append.mp hq with z | z
    · exact b q z
    · have := List.mem_singleton.mp z
      subst this
      exact (a.2.2.2 _ _ he).1) d
theorem r_putF (C : Cx p l R s m args meth c G own cc nL ret nm) {ref Cn : String} {T : u_T} {N ci index a0 j : Nat} {fs : List Value} {v : Value} {ty : FieldType} (ty0 : Nat → FieldType) (hty : ∀ k, k < N → parseFieldDescriptor (T k).2.2.1 = some (ty0 k)) (hnm : ∀ a, a < N → ∀ b, b < N → a ≠ b → (T a).2.1 ≠ (T b).2.1) (hc : vwCl[ci]? = some (Cn, T, N)) (hin : ∀ w ∈ u_ws Cn T N, w ∈ TB) (he : h a0 = some (ob_ ci fs)) (hj : j < N) (hw : Cond.fieldLink own index ref (T j).2.1 (T j).2.2.1 ∈ TB) (hr : (T j).1 = ref) (hfin : (T j).2.2.2 = true) (hin2 : nm = "<init>") (hdecl : (T j).1 = own) (hd0 : parseFieldDescriptor (T j).2.2.1 = some ty) (hn : narrow ty v = v) (hfit : fits ty v = true) (hl : j < fs.length) (hd : decode cc pc = .ok (.putfield index, 3)) (kk : V p l e R s m args below meth c G nL Q (up_ h a0 (ob_ ci (fs.set j v))) sz k n (pc + 3) L st) : V p l e R s m args below meth c G nL Q h sz k n pc L (v :: .ref a0 :: st) := by
  intro H locs ls a b d
  have hap := va_apart (own := own) C.2.2.2.2.1 hin ty0 hty hnm C.2.2.2.2.2.1.1 hc
  obtain ⟨r, h1, cell, q1, q2, q3, q4⟩ := (a.2.2.2 _ _ he).2
  have hr2 : r = (Cn, T, N) := Option.some.inj (h1.symm.trans hc)
  subst hr2
  obtain ⟨hS, hfc, kC, hkC, hkind⟩ := C.2.2.2.2.2.1.1.1 ci _ hc
  obtain ⟨cf, kf, fi, f, hi, hsl⟩ := hS j hj
  have hlay := C.2.2.2.2.1 _ (hin _ (u_in_lay hj))
  unfold u_lay at hlay
  rw [if_pos hfin] at hlay
  have hst := (u_facts hfc hkC (u_lays C.2.2.2.2.1 hin hj) hi).1
  have hcf : m.cls = cf := by
    obtain ⟨_, _, c', _, _, _, -, -, hf', -, -, -, hown2, -⟩ := Cond.laysFinal_spec hlay
    have e1 : c' = cf := by have := hi.symm.trans hf'; simp at this; exact this.1.symm
    rw [hdecl] at hown2
    rw [← e1]; exact Option.some.inj (C.2.2.2.1.symm.trans hown2)
  have h6 := u_fits hfc hkC hkind (Or.inr hlay) hi hd0 hn hfit
  subst hr
  refine W.putFinK C.1 C.2.1 C.2.2.2.1 (C.2.2.2.2.1 _ hw) hi hst hcf (C.2.2.2.2.2.2.2.2.trans hin2) (by rw [q2]; exact h6) q1 q3 (by rw [hsl]; exact k2_hasslot (q4 j hj)) rfl rfl hd fun H' e1 e2 e3 => ?_
  rw [hsl] at e1 ⊢
  exact kk H' _ ls (a.put (a.2.2.2 _ _ he).1 ⟨_, hc, t_OB.to (V := updV (vp_V fs) j v) ⟨_, e1, q2, q3, t_set q4 hap hj v⟩ (fun i _ => vp_updV_set hl v i)⟩ e2 e3) (fun q hq => by
    rcases List.mem_append.mp hq with z | z
    · exact b q z
    · have := List.mem_singleton.mp z
      subst this
      exact (a.2.2.2 _ _ he).1) d
theorem r_iald (C : Cx p l R s m args meth c G own cc nL ret nm) {a0 N : Nat} {f : Nat → Int32} {i : Int32} (he : h a0 = some (aI_ G N f)) (hi : vp_in i N) (hd : decode cc pc = .ok (.iaload, 1)) (kk : V p l e R s m args below meth c G nL Q h sz k n (pc + 1) L (.int (f i.toNatClampNeg) :: st)) : V p l e R s m args below meth c G nL Q h sz k n pc L (.int i :: .ref a0 :: st) := by
  intro H locs ls a b d
  exact va_iald (ws := [(a0, aI_ G N f)]) C.1 C.2.1 C.2.2.2.2.2.1.1 (fun q x hx => by cases q with
    | zero => cases hx; exact (a.2.2.2 _ _ he).2
    | succ q => simp at hx) 0 0 rfl rfl hi hd (kk H locs ls a b d)
theorem r_cald (C : Cx p l R s m args meth c G own cc nL ret nm) {a0 N : Nat} {f : Nat → Int32} {i : Int32} (he : h a0 = some (aC_ G N f)) (hi : vp_in i N) (hd : decode cc pc = .ok (.caload, 1)) (kk : V p l e R s m args below meth c G nL Q h sz k n (pc + 1) L (.int (f i.toNatClampNeg) :: st)) : V p l e R s m args below meth c G nL Q h sz k n pc L (.int i :: .ref a0 :: st) := by
  intro H locs ls a b d
  exact va_cald (ws := [(a0, aC_ G N f)]) C.1 C.2.1 C.2.2.2.2.2.1.1 (fun q x hx => by cases q with
    | zero => cases hx; exact (a.2.2.2 _ _ he).2
    | succ q => simp at hx) 0 1 rfl rfl hi hd (kk H locs ls a b d)
theorem r_aald (C : Cx p l R s m args meth c G own cc nL ret nm) {a0 N : Nat} {f : Nat → Option Nat} {i : Int32} (he : h a0 = some (aG_ G N f)) (hi : vp_in i N) (hd : decode cc pc = .ok (.aaload, 1)) (kk : V p l e R s m args below meth c G nL Q h sz k n (pc + 1) L (va_rf (f i.toNatClampNeg) :: st)) : V p l e R s m args below meth c G nL Q h sz k n pc L (.int i :: .ref a0 :: st) := by
  intro H locs ls a b d
  exact va_aldq (ws := [(a0, aG_ G N f)]) C.1 C.2.1 C.2.2.2.2.2.1.1 (fun q x hx => by cases q with
    | zero => cases hx; exact (a.2.2.2 _ _ he).2
    | succ q => simp at hx) 0 4 rfl rfl hi hd (kk H locs ls a b d)
theorem r_alenI (C : Cx p l R s m args meth c G own cc nL ret nm) {a0 N : Nat} {f : Nat → Int32} (he : h a0 = some (aI_ G N f)) (hd : decode cc pc = .ok (.arraylength, 1)) (kk : V p l e R s m args below meth c G nL Q h sz k n (pc + 1) L (.int (nI N) :: st)) : V p l e R s m args below meth c G nL Q h sz k n pc L (.ref a0 :: st) := by
  intro H locs ls a b d
  exact va_alen (ws := [(a0, aI_ G N f)]) C.1 C.2.1 C.2.2.2.2.2.1.1 (fun q x hx => by cases q with
    | zero => cases hx; exact (a.2.2.2 _ _ he).2
    | succ q => simp at hx) 0 0 rfl rfl rfl hd (kk H locs ls a b d)
theorem r_alenC (C : Cx p l R s m args meth c G own cc nL ret nm) {a0 N : Nat} {f : Nat → Int32} (he : h a0 = some (aC_ G N f)) (hd : decode cc pc = .ok (.arraylength, 1)) (kk : V p l e R s m args below meth c G nL Q h sz k n (pc + 1) L (.int (nI N) :: st)) : V p l e R s m args below meth c G nL Q h sz k n pc L (.ref a0 :: st) := by
  intro H locs ls a b d
  exact va_alen (ws := [(a0, aC_ G N f)]) C.1 C.2.1 C.2.2.2.2.2.1.1 (fun q x hx => by cases q with
    | zero => cases hx; exact (a.2.2.2 _ _ he).2
    | succ q => simp at hx) 0 1 rfl rfl rfl hd (kk H locs ls a b d)
theorem r_alenG (C : Cx p l R s m args meth c G own cc nL ret nm) {a0 N : Nat} {f : Nat → Option Nat} (he : h a0 = some (aG_ G N f)) (hd : decode cc pc = .ok (.arraylength, 1)) (kk : V p l e R s m args below meth c G nL Q h sz k n (pc + 1) L (.int (nI N) :: st)) : V p l e R s m args below meth c G nL Q h sz k n pc L (.ref a0 :: st) := by
  intro H locs ls a b d
  exact va_alen (ws := [(a0, aG_ G N f)]) C.1 C.2.1 C.2.2.2.2.2.1.1 (fun q x hx => by cases q with
    | zero => cases hx; exact (a.2.2.2 _ _ he).2
    | succ q => simp at hx) 0 4 rfl rfl rfl hd (kk H locs ls a b d)
theorem r_ishl (C : Cx p l R s m args meth c G own cc nL ret nm) {x y : Int32} (hd : decode cc pc = .ok (.ishl, 1))  (kk : V p l e R s m args below meth c G nL Q h sz k n (pc + 1) L (.int (x <<< (y &&& 31)) :: st)) : V p l e R s m args below meth c G nL Q h sz k n pc L (.int y :: .int x :: st) := fun H locs ls a b d => lv_ishl C.1 C.2.1 hd  (kk H locs ls a b d)
theorem r_ishr (C : Cx p l R s m args meth c G own cc nL ret nm) {x y : Int32} (hd : decode cc pc = .ok (.ishr, 1))  (kk : V p l e R s m args below meth c G nL Q h sz k n (pc + 1) L (.int (x >>> (y &&& 31)) :: st)) : V p l e R s m args below meth c G nL Q h sz k n pc L (.int y :: .int x :: st) := fun H locs ls a b d => lv_ishr C.1 C.2.1 hd  (kk H locs ls a b d)
theorem r_iushr (C : Cx p l R s m args meth c G own cc nL ret nm) {x y : Int32} (hd : decode cc pc = .ok (.iushr, 1))  (kk : V p l e R s m args below meth c G nL Q h sz k n (pc + 1) L (.int ((x.toUInt32 >>> (y.toUInt32 &&& Int32.toUInt32 31)).toInt32) :: st)) : V p l e R s m args below meth c G nL Q h sz k n pc L (.int y :: .int x :: st) := fun H locs ls a b d => lv_iushr C.1 C.2.1 hd rfl (kk H locs ls a b d)
theorem r_lshl (C : Cx p l R s m args meth c G own cc nL ret nm) {x : Int64} {y : Int32} (hd : decode cc pc = .ok (.lshl, 1))  (kk : V p l e R s m args below meth c G nL Q h sz k n (pc + 1) L (.long (x <<< (y.toInt64 &&& 63)) :: st)) : V p l e R s m args below meth c G nL Q h sz k n pc L (.int y :: .long x :: st) := fun H locs ls a b d => lv_lshl C.1 C.2.1 hd rfl (kk H locs ls a b d)
theorem r_lcmp (C : Cx p l R s m args meth c G own cc nL ret nm) {x y : Int64} (hd : decode cc pc = .ok (.lcmp, 1))  (kk : V p l e R s m args below meth c G nL Q h sz k n (pc + 1) L (.int (lg_cmp x y) :: st)) : V p l e R s m args below meth c G nL Q h sz k n pc L (.long y :: .long x :: st) := fun H locs ls a b d => W.lcmp C.1 C.2.1 hd  (kk H locs ls a b d)
theorem r_lconst (C : Cx p l R s m args meth c G own cc nL ret nm) {i : Fin 2} {v : Int64} (hd : decode cc pc = .ok (.lconst i, 1)) (hv : Int64.ofNat (i : Nat) = v) (kk : V p l e R s m args below meth c G nL Q h sz k n (pc + 1) L (.long v :: st)) : V p l e R s m args below meth c G nL Q h sz k n pc L (st) := fun H locs ls a b d => lv_lconst C.1 C.2.1 hd hv (kk H locs ls a b d)
theorem r_dconst0 (C : Cx p l R s m args meth c G own cc nL ret nm)  (hd : decode cc pc = .ok (.dconst 0, 1))  (kk : V p l e R s m args below meth c G nL Q h sz k n (pc + 1) L (.double FP.dconst0 :: st)) : V p l e R s m args below meth c G nL Q h sz k n pc L (st) := fun H locs ls a b d => lv_dconst0 C.1 C.2.1 hd  (kk H locs ls a b d)
theorem r_dconst1 (C : Cx p l R s m args meth c G own cc nL ret nm)  (hd : decode cc pc = .ok (.dconst 1, 1))  (kk : V p l e R s m args below meth c G nL Q h sz k n (pc + 1) L (.double FP.dconst1 :: st)) : V p l e R s m args below meth c G nL Q h sz k n pc L (st) := fun H locs ls a b d => lv_dconst1 C.1 C.2.1 hd  (kk H locs ls a b d)
theorem r_i2d (C : Cx p l R s m args meth c G own cc nL ret nm) {x : Int32} (hd : decode cc pc = .ok (.i2d, 1))  (kk : V p l e R s m args below meth c G nL Q h sz k n (pc + 1) L (.double (FP.i2d x) :: st)) : V p l e R s m args below meth c G nL Q h sz k n pc L (.int x :: st) := fun H locs ls a b d => lv_i2d C.1 C.2.1 hd  (kk H locs ls a b d)
theorem r_d2l (C : Cx p l R s m args meth c G own cc nL ret nm) {x : UInt64} (hd : decode cc pc = .ok (.d2l, 1))  (kk : V p l e R s m args below meth c G nL Q h sz k n (pc + 1) L (.long (FP.d2l x) :: st)) : V p l e R s m args below meth c G nL Q h sz k n pc L (.double x :: st) := fun H locs ls a b d => lv_d2l C.1 C.2.1 hd  (kk H locs ls a b d)
theorem r_dcmp (C : Cx p l R s m args meth c G own cc nL ret nm) {x y : UInt64} {op : CmpOp} (hd : decode cc pc = .ok (.dcmp op, 1))  (kk : V p l e R s m args below meth c G nL Q h sz k n (pc + 1) L (.int (Op.cmpValue (FP.dcmp x y) op) :: st)) : V p l e R s m args below meth c G nL Q h sz k n pc L (.double y :: .double x :: st) := fun H locs ls a b d => lv_dcmp C.1 C.2.1 hd  (kk H locs ls a b d)
theorem r_dmul (C : Cx p l R s m args meth c G own cc nL ret nm) {x y : UInt64} (hd : decode cc pc = .ok (.dmul, 1)) (hz : vf_n64 (FP.dmul x y)) (kk : V p l e R s m args below meth c G nL Q h sz k n (pc + 1) L (.double (FP.dmul x y) :: st)) : V p l e R s m args below meth c G nL Q h sz k n pc L (.double y :: .double x :: st) := fun H locs ls a b d => lv_dmul C.1 C.2.1 hd hz (kk H locs ls a b d)
theorem r_ddiv (C : Cx p l R s m args meth c G own cc nL ret nm) {x y : UInt64} (hd : decode cc pc = .ok (.ddiv, 1)) (hz : vf_n64 (FP.ddiv x y)) (kk : V p l e R s m args below meth c G nL Q h sz k n (pc + 1) L (.double (FP.ddiv x y) :: st)) : V p l e R s m args below meth c G nL Q h sz k n pc L (.double y :: .double x :: st) := fun H locs ls a b d => lv_ddiv C.1 C.2.1 hd hz (kk H locs ls a b d)
theorem r_dsub (C : Cx p l R s m args meth c G own cc nL ret nm) {x y : UInt64} (hd : decode cc pc = .ok (.dsub, 1)) (hz : vf_n64 (FP.dsub x y)) (kk : V p l e R s m args below meth c G nL Q h sz k n (pc + 1) L (.double (FP.dsub x y) :: st)) : V p l e R s m args below meth c G nL Q h sz k n pc L (.double y :: .double x :: st) := fun H locs ls a b d => lv_dsub C.1 C.2.1 hd hz (kk H locs ls a b d)
theorem r_ldc_w (C : Cx p l R s m args meth c G own cc nL ret nm) {i : Nat} {v : Int32} (hw : Cond.constant own i v ∈ TB) (hd : decode cc pc = .ok (.ldc_w i, 3)) (kk : V p l e R s m args below meth c G nL Q h sz k n (pc + 3) L (.int v :: st)) : V p l e R s m args below meth c G nL Q h sz k n pc L st := fun H locs ls a b d => lv_ldcw C.1 C.2.1 C.2.2.2.1 (C.2.2.2.2.1 _ hw) hd (kk H locs ls a b d)
theorem r_ldcd (C : Cx p l R s m args meth c G own cc nL ret nm) {i : Nat} {v : UInt64} (hw : Cond.constantDouble own i v ∈ TB) (hd : decode cc pc = .ok (.ldc2_w i, 3)) (kk : V p l e R s m args below meth c G nL Q h sz k n (pc + 3) L (.double v :: st)) : V p l e R s m args below meth c G nL Q h sz k n pc L st := fun H locs ls a b d => lv_ldc2d C.1 C.2.1 C.2.2.2.1 (C.2.2.2.2.1 _ hw) hd (kk H locs ls a b d)
theorem r_ifnull (C : Cx p l R s m args meth c G own cc nL ret nm) {x : Nat} {off : Int} (hd : decode cc pc = .ok (.ifnull off, 3)) (kk : V p l e R s m args below meth c G nL Q h sz k n (pc + 3) L st) : V p l e R s m args below meth c G nL Q h sz k n pc L (.ref x :: st) := fun H locs ls a b d => lv_ifnull C.1 C.2.1 hd (kk H locs ls a b d)
theorem r_ifnonnull (C : Cx p l R s m args meth c G own cc nL ret nm) {x : Nat} {off : Int} (tgt : Nat) (hd : decode cc pc = .ok (.ifnonnull off, 3)) (ht : (pc : Int) + off = (tgt : Int)) (kk : V p l e R s m args below meth c G nL Q h sz k n tgt L st) : V p l e R s m args below meth c G nL Q h sz k n pc L (.ref x :: st) := fun H locs ls a b d => lv_ifnonnull C.1 C.2.1 hd ht (kk H locs ls a b d)
theorem r_ifnullN (C : Cx p l R s m args meth c G own cc nL ret nm) {off : Int} (tgt : Nat) (hd : decode cc pc = .ok (.ifnull off, 3)) (ht : (pc : Int) + off = (tgt : Int)) (kk : V p l e R s m args below meth c G nL Q h sz k n tgt L st) : V p l e R s m args below meth c G nL Q h sz k n pc L (.null :: st) := fun H locs ls a b d => lv_ifnullN C.1 C.2.1 hd ht (kk H locs ls a b d)
theorem r_ifnonnullN (C : Cx p l R s m args meth c G own cc nL ret nm) {off : Int} (hd : decode cc pc = .ok (.ifnonnull off, 3)) (kk : V p l e R s m args below meth c G nL Q h sz k n (pc + 3) L st) : V p l e R s m args below meth c G nL Q h sz k n pc L (.null :: st) := fun H locs ls a b d => lv_ifnonnullN C.1 C.2.1 hd (kk H locs ls a b d)
theorem r_astore_nN (C : Cx p l R s m args meth c G own cc nL ret nm) {j : Fin 4} {i : Nat} (hd : decode cc pc = .ok (.astore_n j, 1)) (hi : (j : Nat) = i) (hn : i < nL) (kk : V p l e R s m args below meth c G nL Q h sz k n (pc + 1) (st1_ L i .null) st) : V p l e R s m args below meth c G nL Q h sz k n pc L (.null :: st) := fun H locs ls a b d => lv_astore_nN C.1 C.2.1 hd hi d hn rfl (fun ls2 d2 => kk H locs ls2 a b d2)
theorem r_aload_nN (C : Cx p l R s m args meth c G own cc nL ret nm) {j : Fin 4} {i : Nat} (hd : decode cc pc = .ok (.aload_n j, 1)) (hi : (j : Nat) = i) (hg : gl_ L i = some .null) (kk : V p l e R s m args below meth c G nL Q h sz k n (pc + 1) L (.null :: st)) : V p l e R s m args below meth c G nL Q h sz k n pc L (st) := fun H locs ls a b d => lv_aload_nN C.1 C.2.1 hd hi (gl_at d hg) (kk H locs ls a b d)
theorem r_tsw (C : Cx p l R s m args meth c G own cc nL ret nm) {dflt lo hi off : Int} {offs : Array Int} {len : Nat} {x : Int32} (tgt : Nat) (hd : decode cc pc = .ok (.tableswitch dflt lo hi offs, len)) (h1 : ¬ x.toInt < lo) (h2 : ¬ hi < x.toInt) (ho : offs[(x.toInt - lo).toNat]? = some off) (ht : (pc : Int) + off = (tgt : Int)) (kk : V p l e R s m args below meth c G nL Q h sz k n tgt L st) : V p l e R s m args below meth c G nL Q h sz k n pc L (.int x :: st) := fun H locs ls a b d => lv_tableIn C.1 C.2.1 hd h1 h2 ho ht (kk H locs ls a b d)
theorem r_tswO (C : Cx p l R s m args meth c G own cc nL ret nm) {dflt lo hi : Int} {offs : Array Int} {len : Nat} {x : Int32} (tgt : Nat) (hd : decode cc pc = .ok (.tableswitch dflt lo hi offs, len)) (h1 : x.toInt < lo ∨ hi < x.toInt) (ht : (pc : Int) + dflt = (tgt : Int)) (kk : V p l e R s m args below meth c G nL Q h sz k n tgt L st) : V p l e R s m args below meth c G nL Q h sz k n pc L (.int x :: st) := fun H locs ls a b d => lv_tableOut C.1 C.2.1 hd h1 ht (kk H locs ls a b d)
theorem r_iast (C : Cx p l R s m args meth c G own cc nL ret nm) {a0 N : Nat} {f : Nat → Int32} {i x : Int32} (he : h a0 = some (aI_ G N f)) (hi : vp_in i N) (hd : decode cc pc = .ok (.iastore, 1)) (kk : V p l e R s m args below meth c G nL Q (up_ h a0 (aI_ G N (upd f i.toNatClampNeg x))) sz k n (pc + 1) L st) : V p l e R s m args below meth c G nL Q h sz k n pc L (.int x :: .int i :: .ref a0 :: st) := by
  intro H locs ls a b d
  refine W.iast C.1 C.2.1 (a.2.2.2 _ _ he).2 ((C.2.2.2.2.2.1.1.2 0 _ rfl).1 N (fun j => .int (f j))) (fun q => by cases q) (by show ¬ (i < 0 ∨ (arrV _ _ _).slots.size ≤ _); rw [arrV_size]; exact hi) rfl rfl hd fun H1 e1 z oq => ?_
  refine kk H1 _ ls (a.put (a.2.2.2 _ _ he).1 ?_ z oq) (fun q hq => by
    rcases List.mem_append.mp hq with z | z
    · exact b q z
    · have := List.mem_singleton.mp z
      subst this
      exact (a.2.2.2 _ _ he).1) d
  show H1[a0]? = some (vp_cell _ _)
  rw [e1]
  rw [vp_cell_i, vp_cell_i, arrV_store]
  congr 2
  funext q
  by_cases hq : q = i.toNatClampNeg
  · subst hq
    simp [updV, upd, vp_nar]
    try rfl
  · simp [updV, upd, hq]
theorem r_cast (C : Cx p l R s m args meth c G own cc nL ret nm) {a0 N : Nat} {f : Nat → Int32} {i x : Int32} (he : h a0 = some (aC_ G N f)) (hi : vp_in i N) (hd : decode cc pc = .ok (.castore, 1)) (kk : V p l e R s m args below meth c G nL Q (up_ h a0 (aC_ G N (upd f i.toNatClampNeg (vp_nar .char x)))) sz k n (pc + 1) L st) : V p l e R s m args below meth c G nL Q h sz k n pc L (.int x :: .int i :: .ref a0 :: st) := by
  intro H locs ls a b d
  refine W.cast C.1 C.2.1 (a.2.2.2 _ _ he).2 ((C.2.2.2.2.2.1.1.2 1 _ rfl).1 N (fun j => .int (f j))) (fun q => by cases q) (by show ¬ (i < 0 ∨ (arrV _ _ _).slots.size ≤ _); rw [arrV_size]; exact hi) rfl rfl hd fun H1 e1 z oq => ?_
  refine kk H1 _ ls (a.put (a.2.2.2 _ _ he).1 ?_ z oq) (fun q hq => by
    rcases List.mem_append.mp hq with z | z
    · exact b q z
    · have := List.mem_singleton.mp z
      subst this
      exact (a.2.2.2 _ _ he).1) d
  show H1[a0]? = some (vp_cell _ _)
  rw [e1]
  rw [vp_cell_i, vp_cell_i, arrV_store]
  congr 2
  funext q
  by_cases hq : q = i.toNatClampNeg
  · subst hq
    simp [updV, upd, vp_nar]
    try rfl
  · simp [updV, upd, hq]
theorem r_aast (C : Cx p l R s m args meth c G own cc nL ret nm) {a0 N v0 : Nat} {f : Nat → Option Nat} {i : Int32} {fs : List Value} (he : h a0 = some (aG_ G N f)) (hv0 : h v0 = some (ob_ 0 fs)) (hi : vp_in i N) (hd : decode cc pc = .ok (.aastore, 1)) (kk : V p l e R s m args below meth c G nL Q (up_ h a0 (aG_ G N (va_up f i.toNatClampNeg (some v0)))) sz k n (pc + 1) L st) : V p l e R s m args below meth c G nL Q h sz k n pc L (.ref v0 :: .int i :: .ref a0 :: st) := by
  intro H locs ls a b d
  have hlt : i.toNatClampNeg < N := Nat.not_le.mp fun q => hi (Or.inr q)
  have h0 : ¬ i < 0 := fun q => hi (Or.inl q)
  obtain ⟨r', hr', cellV, g1, g2, g3, -⟩ := (a.2.2.2 _ _ hv0).2
  have hcls := (C.2.2.2.2.2.1.1.1 0 (RX0, TX0, 13) rfl).2
  obtain ⟨kA, comp, k1, k2, k3, -⟩ := (C.2.2.2.2.2.1.1.2 4 _ rfl).2
  have hcomp : comp = G.1.1 0 := Option.some.inj (k3.symm.trans hcls.1)
  subst hcomp
  obtain ⟨kC, hkC, -⟩ := hcls.2
  refine W.aast C.1 C.2.1 (a.2.2.2 _ _ he).2 (fun q h => by cases h) (fun h => by cases h) k1 k2 rfl hkC ⟨h0, by show _ < (arrV _ _ _).slots.size; rw [arrV_size]; exact hlt⟩ g1 (fun q h => by rw [g3] at h; cases h) (by rw [g2]; exact hkC) (by rw [g2]; exact va_assign hcls) rfl rfl hd fun H1 e1 z oq => ?_
  refine kk H1 _ ls (a.put (a.2.2.2 _ _ he).1 ?_ z oq) (fun q hq => by
    rcases List.mem_append.mp hq with z | z
    · exact b q z
    · have := List.mem_singleton.mp z
      subst this
      exact (a.2.2.2 _ _ he).1) d
  show H1[a0]? = some (vp_cell _ _)
  rw [e1]
  rw [vp_cell_q, vp_cell_q, arrV_store]
  congr 2
  funext q
  by_cases hq : q = i.toNatClampNeg
  · subst hq
    simp [updV, va_up, va_rf]
  · simp [updV, va_up, hq]
theorem r_new (C : Cx p l R s m args meth c G own cc nL ret nm) {Cn : String} {T : u_T} {N ci index : Nat} {fs : List Value} (ty : Nat → FieldType) (hty : ∀ k, k < N → parseFieldDescriptor (T k).2.2.1 = some (ty k)) (hc : vwCl[ci]? = some (Cn, T, N)) (hin : ∀ w ∈ u_ws Cn T N, w ∈ TB) (hcl : Cond.classLink own index Cn ∈ TB) (hinst : Cond.instantiable Cn N ∈ TB) (hini : Cond.initialized Cn ∈ TB) (hfs : ∀ j, j < N → defaultValue (ty j) = vp_V fs j) (hk : k + 1 ≤ R.cells) (hn : n + N ≤ R.slots) (hd : decode cc pc = .ok (.new index, 3)) (kk : V p l e R s m args below meth c G nL Q (up_ h sz (ob_ ci fs)) (sz + 1) (k + 1) (n + N) (pc + 3) L (.ref sz :: st)) : V p l e R s m args below meth c G nL Q h sz k n pc L st := by
  intro H locs ls a b d
  have hts := C.2.2.2.2.1
  have hKn := C.2.2.2.2.2.1.1.1 ci _ hc
  refine W.newcK C.1 C.2.1 C.2.2.2.1 (hts _ hcl) (hts _ hinst) (hts _ hini) rfl hd hk hn hKn.2.1 a.1 fun H1 kC hkC e1 z1 o1 => ?_
  exact kk H1 locs ls (a.new ⟨_, hc, (u_born ty hts hin hKn hkC e1 hty).to hfs⟩ z1 o1) b d
theorem r_newaI (C : Cx p l R s m args meth c G own cc nL ret nm) {i : Int32} {N : Nat} (hw : Cond.arrayClass .int ∈ TB) (h0 : ¬ i < 0) (hN : i.toNatClampNeg = N) (hb : N * 8 ≤ 536870912) (hk : k + 1 ≤ R.cells) (hn : n + N ≤ R.slots) (hd : decode cc pc = .ok (.newarray .int, 2)) (kk : V p l e R s m args below meth c G nL Q (up_ h sz (aI_ G N (fun _ => 0))) (sz + 1) (k + 1) (n + N) (pc + 2) L (.ref sz :: st)) : V p l e R s m args below meth c G nL Q h sz k n pc L (.int i :: st) := by
  intro H locs ls a b d
  refine va_newaK (atype := .int) C.1 C.2.1 (C.2.2.2.2.1 _ hw) rfl hd rfl h0 hN (Nat.le_trans (Nat.mul_le_mul_left N (by decide)) hb) hk hn a.1 fun H1 cA e1 z1 o1 _ hNm => ?_
  have hcA : cA = G.2.1 0 := Option.some.inj (hNm.symm.trans (C.2.2.2.2.2.1.1.2 0 _ rfl).2)
  subst hcA
  exact kk H1 locs ls (a.new e1 z1 o1) b d
theorem r_newaC (C : Cx p l R s m args meth c G own cc nL ret nm) {i : Int32} {N : Nat} (hw : Cond.arrayClass .char ∈ TB) (h0 : ¬ i < 0) (hN : i.toNatClampNeg = N) (hb : N * 8 ≤ 536870912) (hk : k + 1 ≤ R.cells) (hn : n + N ≤ R.slots) (hd : decode cc pc = .ok (.newarray .char, 2)) (kk : V p l e R s m args below meth c G nL Q (up_ h sz (aC_ G N (fun _ => 0))) (sz + 1) (k + 1) (n + N) (pc + 2) L (.ref sz :: st)) : V p l e R s m args below meth c G nL Q h sz k n pc L (.int i :: st) := by
  intro H locs ls a b d
  refine va_newaK (atype := .char) C.1 C.2.1 (C.2.2.2.2.1 _ hw) rfl hd rfl h0 hN (Nat.le_trans (Nat.mul_le_mul_left N (by decide)) hb) hk hn a.1 fun H1 cA e1 z1 o1 _ hNm => ?_
  have hcA : cA = G.2.1 1 := Option.some.inj (hNm.symm.trans (C.2.2.2.2.2.1.1.2 1 _ rfl).2)
  subst hcA
  exact kk H1 locs ls (a.new e1 z1 o1) b d
theorem r_newG (C : Cx p l R s m args meth c G own cc nL ret nm) {i : Int32} {N index : Nat} (hcl : Cond.classLink own index RX0 ∈ TB) (h0 : ¬ i < 0) (hN : i.toNatClampNeg = N) (hb : N * 4 ≤ 536870912) (hk : k + 1 ≤ R.cells) (hn : n + N ≤ R.slots) (hd : decode cc pc = .ok (.anewarray index, 3)) (kk : V p l e R s m args below meth c G nL Q (up_ h sz (aG_ G N (fun _ => none))) (sz + 1) (k + 1) (n + N) (pc + 3) L (.ref sz :: st)) : V p l e R s m args below meth c G nL Q h sz k n pc L (.int i :: st) := by
  intro H locs ls a b d
  subst hN
  refine W.anew C.1 C.2.1 C.2.2.2.1 (C.2.2.2.2.1 _ hcl) (va_AO.use C.2.2.2.2.2.1.2.2.1) rfl hd rfl h0 hb hk hn fun cA kA comp f1 f2 f3 f4 => ?_
  obtain ⟨kB, comp2, -, -, -, k4⟩ := (C.2.2.2.2.2.1.1.2 4 _ rfl).2
  have hcA : cA = G.2.1 4 := Option.some.inj (f1.symm.trans k4)
  subst hcA
  have hz := a.1
  subst hz
  refine kk _ locs ls (a.new (show _ = some (arrV _ _ (fun _ => .null)) from ?_) (by rw [Array.size_push]) (fun q hq => by rw [Array.getElem?_push, if_neg (Nat.ne_of_lt hq)])) b d
  rw [Array.getElem?_push_size]
  exact congrArg some (arrV_new _ _ _)
theorem r_iret (C : Cx p l R s m args meth c G own cc nL ret nm) {x : Int32} {mc ms : Nat} {Post : Option Value → HP → Nat → Prop} (hr : ret = some .int) (hk : k ≤ mc) (hn : n ≤ ms) (hp : Post (some (.int x)) h sz) (hd : decode cc pc = .ok (.ireturn, 1)) : V p l e R s m args below meth c G nL (Qg G below args s mc ms Post) h sz k n pc L [.int x] := by
  intro H locs ls a b d
  refine W.widen hk hn ?_
  exact W.iret (v := x) C.1 C.2.1 (C.2.2.2.2.2.2.1.trans hr) (fun t ht hW => ⟨_, _, _, rfl, hp, by rw [ht]; exact a⟩) b hd (hlocks := C.2.2.2.2.2.2.2.1)
theorem r_lret (C : Cx p l R s m args meth c G own cc nL ret nm) {x : Int64} {mc ms : Nat} {Post : Option Value → HP → Nat → Prop} (hr : ret = some .long) (hk : k ≤ mc) (hn : n ≤ ms) (hp : Post (some (.long x)) h sz) (hd : decode cc pc = .ok (.lreturn, 1)) : V p l e R s m args below meth c G nL (Qg G below args s mc ms Post) h sz k n pc L [.long x] := by
  intro H locs ls a b d
  refine W.widen hk hn ?_
  exact W.lret (v := x) C.1 C.2.1 (C.2.2.2.2.2.2.1.trans hr) (fun t ht hW => ⟨_, _, _, rfl, hp, by rw [ht]; exact a⟩) b hd (hlocks := C.2.2.2.2.2.2.2.1)
theorem r_dret (C : Cx p l R s m args meth c G own cc nL ret nm) {x : UInt64} {mc ms : Nat} {Post : Option Value → HP → Nat → Prop} (hr : ret = some .double) (hk : k ≤ mc) (hn : n ≤ ms) (hp : Post (some (.double x)) h sz) (hd : decode cc pc = .ok (.dreturn, 1)) : V p l e R s m args below meth c G nL (Qg G below args s mc ms Post) h sz k n pc L [.double x] := by
  intro H locs ls a b d
  refine W.widen hk hn ?_
  exact W.dret (v := x) C.1 C.2.1 (C.2.2.2.2.2.2.1.trans hr) (fun t ht hW => ⟨_, _, _, rfl, hp, by rw [ht]; exact a⟩) b hd (hlocks := C.2.2.2.2.2.2.2.1)
theorem r_zret (C : Cx p l R s m args meth c G own cc nL ret nm) {x : Int32} {mc ms : Nat} {Post : Option Value → HP → Nat → Prop} (hr : ret = some .boolean) (hx : x = 0 ∨ x = 1) (hk : k ≤ mc) (hn : n ≤ ms) (hp : Post (some (.int x)) h sz) (hd : decode cc pc = .ok (.ireturn, 1)) : V p l e R s m args below meth c G nL (Qg G below args s mc ms Post) h sz k n pc L [.int x] := by
  intro H locs ls a b d
  refine W.widen hk hn ?_
  exact W.zret (v := x) C.1 C.2.1 (C.2.2.2.2.2.2.1.trans hr) (by rcases hx with rfl | rfl <;> rfl) (fun t ht hW => ⟨_, _, _, rfl, hp, by rw [ht]; exact a⟩) b hd (hlocks := C.2.2.2.2.2.2.2.1)
theorem r_vret (C : Cx p l R s m args meth c G own cc nL ret nm) {mc ms : Nat} {Post : Option Value → HP → Nat → Prop} (hr : ret = none) (hk : k ≤ mc) (hn : n ≤ ms) (hp : Post none h sz) (hd : decode cc pc = .ok (.return_, 1)) : V p l e R s m args below meth c G nL (Qg G below args s mc ms Post) h sz k n pc L [] := by
  intro H locs ls a b d
  refine W.widen hk hn ?_
  exact W.vret C.1 C.2.1 (C.2.2.2.2.2.2.1.trans hr) (fun t ht hW => ⟨_, _, _, rfl, hp, by rw [ht]; exact a⟩) b hd (hlocks := C.2.2.2.2.2.2.2.1)
theorem r_objInit (C : Cx p l R s m args meth c G own cc nL ret nm) {a0 idx : Nat} (hl : Cond.methodLink own idx Lib.objectInit ∈ TB) (hi : Cond.instanceMethod Lib.objectInit ∈ TB) (hcd : Cond.code Lib.objectInit ⟨#[0xb1]⟩ 1 none ∈ TB) (hf : 1 ≤ R.frames) (hlo : (st.map fun v => v.category).sum + 12 ≤ R.locals) (hd : decode cc pc = .ok (.invokespecial idx, 3)) (kk : V p l e R s m args below meth c G nL Q h sz k n (pc + 3) L st) : V p l e R s m args below meth c G nL Q h sz k n pc L (.ref a0 :: st) := by
  intro H locs ls a b d
  exact W.objInit C.1 C.2.1 C.2.2.2.1 (C.2.2.2.2.1 _ hl) (C.2.2.2.2.1 _ hi) (C.2.2.2.2.1 _ hcd) rfl (by rw [C.2.2.1]; exact d.1) rfl hd hf (by show 2 * 0 + _ + 12 ≤ _; omega) (kk H locs ls a b d)
theorem r_mmax (C : Cx p l R s m args meth c G own cc nL ret nm) {x y : Int32} {idx : Nat} (hl : Cond.methodLink own idx Lib.Math.max.name ∈ TB) (h2 : Cond.static Lib.Math.max.name ∈ TB) (h3 : Cond.initialized "java/lang/Math" ∈ TB) (h4 : Cond.code Lib.Math.max.name Lib.Math.max.code 2 (some .int) ∈ TB) (hf : 1 ≤ R.frames) (hlo : (st.map fun v => v.category).sum + 13 ≤ R.locals) (hk : k ≤ R.cells) (hn : n ≤ R.slots) (hd : decode cc pc = .ok (.invokestatic idx, 3)) (kk : V p l e R s m args below meth c G nL Q h sz k n (pc + 3) L (.int (if x < y then y else x) :: st)) : V p l e R s m args below meth c G nL Q h sz k n pc L (.int y :: .int x :: st) := by
  intro H locs ls a b d
  exact va_mmax C.1 C.2.1 (C.2.2.1.trans d.1.symm) C.2.2.2.1 (C.2.2.2.2.1 _ hl) (C.2.2.2.2.1 _ h2) (C.2.2.2.2.1 _ h3) (C.2.2.2.2.1 _ h4) hf hlo hk hn hd (kk H locs ls a b d)
theorem r_mmin (C : Cx p l R s m args meth c G own cc nL ret nm) {x y : Int32} {idx : Nat} (hl : Cond.methodLink own idx Lib.Math.min.name ∈ TB) (h2 : Cond.static Lib.Math.min.name ∈ TB) (h3 : Cond.initialized "java/lang/Math" ∈ TB) (h4 : Cond.code Lib.Math.min.name Lib.Math.min.code 2 (some .int) ∈ TB) (hf : 1 ≤ R.frames) (hlo : (st.map fun v => v.category).sum + 13 ≤ R.locals) (hk : k ≤ R.cells) (hn : n ≤ R.slots) (hd : decode cc pc = .ok (.invokestatic idx, 3)) (kk : V p l e R s m args below meth c G nL Q h sz k n (pc + 3) L (.int (if y < x then y else x) :: st)) : V p l e R s m args below meth c G nL Q h sz k n pc L (.int y :: .int x :: st) := by
  intro H locs ls a b d
  exact va_mmin C.1 C.2.1 (C.2.2.1.trans d.1.symm) C.2.2.2.1 (C.2.2.2.2.1 _ hl) (C.2.2.2.2.1 _ h2) (C.2.2.2.2.1 _ h3) (C.2.2.2.2.1 _ h4) hf hlo hk hn hd (kk H locs ls a b d)
/-- the words of a virtual call, of a static one, of a constructor's -/
def LkV (own : String) (index : Nat) (y : MethodName) (bytes : ByteArray) (maxL : Nat) (rt : Option FieldType) (q : Nat) : Prop := Cond.methodLink own index y ∈ TB ∧ Cond.instanceMethod y ∈ TB ∧ Cond.selects y.cls y y ∈ TB ∧ Cond.initialized y.cls ∈ TB ∧ Cond.code y bytes maxL rt ∈ TB ∧ (y.cls ≠ "java/lang/invoke/MethodHandle" ∧ y.cls ≠ "java/lang/invoke/VarHandle" ∧ (parseMethodDescriptor y.desc).map (fun d => d.parameters.length) = some q)
def LkS (own : String) (index : Nat) (y : MethodName) (bytes : ByteArray) (maxL : Nat) (rt : Option FieldType) (q : Nat) : Prop := Cond.methodLink own index y ∈ TB ∧ Cond.static y ∈ TB ∧ Cond.initialized y.cls ∈ TB ∧ Cond.code y bytes maxL rt ∈ TB ∧ (y.cls ≠ "java/lang/invoke/MethodHandle" ∧ y.cls ≠ "java/lang/invoke/VarHandle" ∧ (parseMethodDescriptor y.desc).map (fun d => d.parameters.length) = some q)
def LkI (own : String) (index : Nat) (y : MethodName) (bytes : ByteArray) (maxL : Nat) (q : Nat) : Prop := Cond.methodLink own index y ∈ TB ∧ Cond.instanceMethod y ∈ TB ∧ Cond.initialized y.cls ∈ TB ∧ Cond.code y bytes maxL none ∈ TB ∧ y.name = "<init>" ∧ (y.cls ≠ "java/lang/invoke/MethodHandle" ∧ y.cls ≠ "java/lang/invoke/VarHandle" ∧ (parseMethodDescriptor y.desc).map (fun d => d.parameters.length) = some q)
def LkN (own : String) (index : Nat) (host : String) (y : MethodName) (bytes : ByteArray) (maxL : Nat) (q : Nat) : Prop := Cond.methodLinkNest own index y host ∈ NB ∧ Cond.instanceMethod y ∈ TB ∧ Cond.initialized y.cls ∈ TB ∧ Cond.code y bytes maxL none ∈ TB ∧ y.name = "<init>" ∧ (y.cls ≠ "java/lang/invoke/MethodHandle" ∧ y.cls ≠ "java/lang/invoke/VarHandle" ∧ (parseMethodDescriptor y.desc).map (fun d => d.parameters.length) = some q)
theorem law_good : ∀ w ∈ TB, goodWord w = true := fun _ h => (List.mem_filter.mp h).2
theorem law_in {y : MethodName} {cc : ByteArray} {nL : Nat} {rt : Option FieldType} (hc : Cond.code y cc nL rt ∈ TB) : GoodIn TB (.code y cc nL rt :: TB) := by
  intro w hw
  have hm : w ∈ TB := by
    rcases List.mem_cons.mp hw with rfl | hw
    · exact hc
    · exact hw
  exact ⟨hm, good_of_word (law_good w hm)⟩
/-- the room that a call needs, here: frames, locals, cells, slots, and what lies below on the stack -/
def Rm (R : Room) (k n fr maxL lo mc ms : Nat) (rest : List Value) : Prop := fr + 1 ≤ R.frames ∧ 8 + (maxL + 11) + lo ≤ R.locals ∧ k + mc ≤ R.cells ∧ n + ms ≤ R.slots ∧ (rest.map fun v => v.category).sum ≤ 8
theorem pc_blind {G : ga_} {av : List Value} {h : HP} {sz : Nat} : FrameBlind (va_Pc av (fun U => hr_ G h sz U.heap ∧ ev_ G U)) := fun a U g mk q => ⟨q.1, q.2.1, ev_.same (s := U) (U := U.calling g mk a) rfl q.2.2⟩
theorem r_callV (C : Cx p l R s m args meth c G own cc nL ret nm) {y : MethodName} {bytes : ByteArray} {maxL fr lo mc ms index q : Nat} {rt : Option FieldType} {As rest : List Value} {Post : Option Value → HP → Nat → Prop} {b0 ci N : Nat} {T : u_T} {fs : List Value} (hM : Mg G l y bytes maxL rt fr lo mc ms (.ref b0 :: As) h sz Post) (lk : LkV own index y bytes maxL rt q) (hc : vwCl[ci]? = some (y.cls, T, N)) (he : h b0 = some (ob_ ci fs)) (hq : As.length = q) (hs : st = As.reverse ++ .ref b0 :: rest) (rm : Rm R k n fr maxL lo mc ms rest) (hd : decode cc pc = .ok (.invokevirtual index, 3)) (kk : ∀ v h1 s1, Post v h1 s1 → V p l e R s m args below meth c G nL Q h1 s1 (k + mc) (n + ms) (pc + 3) L (v.toList ++ rest)) : V p l e R s m args below meth c G nL Q h sz k n pc L st := by
  intro H locs ls a b d T0 hT X
  subst hs
  obtain ⟨l1, l2, l3, l4, l5, l6, l7, l8⟩ := lk
  obtain ⟨g1, g2, g3, g4, g5⟩ := rm
  have hts := C.2.2.2.2.1
  have ok : ∀ w ∈ (wsV own index y.cls y (.code y bytes maxL rt :: TB)), w ∈ TB := by
    intro w hw
    simp only [wsV, List.cons_append, List.nil_append, List.mem_cons] at hw
    rcases hw with rfl | rfl | rfl | rfl | rfl | hw
    · exact l1
    · exact l2
    · exact l3
    · exact l4
    · exact l5
    · exact hw
  have HR := va_runV (p := p) (l := l) (e := e) (s := s) (m := m) (meth := meth) (c := c) (R := R) (args := args) (below := below) (locs := locs) (cells := k) (slots := n) (As := As) (rest := rest) (g := F0 m pc ls (As.reverse ++ .ref b0 :: rest)) ⟨C.1, C.2.1, C.2.2.1, C.2.2.2.1, hts⟩ hM (cwV q hts (fun w hw => ⟨ok w hw, good_of_word (law_good w (ok w hw))⟩) rfl rfl rfl ⟨rfl, l6, l7, l8⟩ ⟨g1, g2⟩)
    ⟨pc_blind, by
      obtain ⟨r', h1', cell, k1, k2, k3, -⟩ := (a.2.2.2 _ _ he).2
      exact ⟨cell, k1, by rw [k3]; rfl, by rw [k2]; exact (C.2.2.2.2.2.1.1.1 ci _ hc).2.1⟩, fun U hU hW => ⟨rfl, by rw [hU]; exact a, ev_.moved hW C.2.2.2.2.2.1⟩⟩ rfl hq d.1 rfl (by show 2 * 0 + _ ≤ 8; omega) hd ⟨g3, g4⟩
  obtain ⟨v, st₀, t, T', L1, h0, X', hL, e1, e2, ⟨v1, h1, s1, hv, hp, hh⟩, stp⟩ := HR T0 hT X
  cases hv
  obtain ⟨t2, a1, b1⟩ := kk _ h1 s1 hp T'.heap (locs ++ L1) ls (by rw [e1]; exact hh) (fun q hq => by
    rcases List.mem_append.mp hq with z | z
    · exact b q z
    · exact hL q z) d T' rfl X'
  exact ⟨t2, stp t2 a1, b1⟩
theorem r_callS (C : Cx p l R s m args meth c G own cc nL ret nm) {y : MethodName} {bytes : ByteArray} {maxL fr lo mc ms index q : Nat} {rt : Option FieldType} {As rest : List Value} {Post : Option Value → HP → Nat → Prop} (hM : Mg G l y bytes maxL rt fr lo mc ms As h sz Post) (lk : LkS own index y bytes maxL rt q) (hq : As.length = q) (hs : st = As.reverse ++ rest) (rm : Rm R k n fr maxL lo mc ms rest) (hd : decode cc pc = .ok (.invokestatic index, 3)) (kk : ∀ v h1 s1, Post v h1 s1 → V p l e R s m args below meth c G nL Q h1 s1 (k + mc) (n + ms) (pc + 3) L (v.toList ++ rest)) : V p l e R s m args below meth c G nL Q h sz k n pc L st := by
  intro H locs ls a b d T0 hT X
  subst hs
  obtain ⟨l1, l2, l4, l5, l6, l7, l8⟩ := lk
  obtain ⟨g1, g2, g3, g4, g5⟩ := rm
  have hts := C.2.2.2.2.1
  have ok : ∀ w ∈ (va_wsS own index y (.code y bytes maxL rt :: TB)), w ∈ TB := by
    intro w hw
    simp only [va_wsS, List.cons_append, List.nil_append, List.mem_cons] at hw
    rcases hw with rfl | rfl | rfl | rfl | hw
    · exact l1
    · exact l2
    · exact l4
    · exact l5
    · exact hw
  have HR := va_runS (p := p) (l := l) (e := e) (s := s) (m := m) (meth := meth) (c := c) (R := R) (args := args) (below := below) (locs := locs) (cells := k) (slots := n) (As := As) (rest := rest) (g := F0 m pc ls (As.reverse ++ rest)) ⟨C.1, C.2.1, C.2.2.1, C.2.2.2.1, hts⟩ hM (va_cwS q hts (fun w hw => ⟨ok w hw, good_of_word (law_good w (ok w hw))⟩) rfl rfl rfl ⟨l6, l7, l8⟩ ⟨g1, g2⟩)
    ⟨pc_blind, fun U hU hW => ⟨rfl, by rw [hU]; exact a, ev_.moved hW C.2.2.2.2.2.1⟩⟩ rfl hq d.1 rfl (by show 2 * 0 + _ ≤ 8; omega) hd ⟨g3, g4⟩
  obtain ⟨v, st₀, t, T', L1, h0, X', hL, e1, e2, ⟨v1, h1, s1, hv, hp, hh⟩, stp⟩ := HR T0 hT X
  cases hv
  obtain ⟨t2, a1, b1⟩ := kk _ h1 s1 hp T'.heap (locs ++ L1) ls (by rw [e1]; exact hh) (fun q hq => by
    rcases List.mem_append.mp hq with z | z
    · exact b q z
    · exact hL q z) d T' rfl X'
  exact ⟨t2, stp t2 a1, b1⟩
theorem r_callI (C : Cx p l R s m args meth c G own cc nL ret nm) {y : MethodName} {bytes : ByteArray} {maxL fr lo mc ms index q b0 : Nat} {As rest : List Value} {Post : Option Value → HP → Nat → Prop} (hM : Mg G l y bytes maxL none fr lo mc ms (.ref b0 :: As) h sz Post) (lk : LkI own index y bytes maxL q) (hq : As.length = q) (hs : st = As.reverse ++ .ref b0 :: rest) (rm : Rm R k n fr maxL lo mc ms rest) (hd : decode cc pc = .ok (.invokespecial index, 3)) (kk : ∀ v h1 s1, Post v h1 s1 → V p l e R s m args below meth c G nL Q h1 s1 (k + mc) (n + ms) (pc + 3) L (v.toList ++ rest)) : V p l e R s m args below meth c G nL Q h sz k n pc L st := by
  intro H locs ls a b d T0 hT X
  subst hs
  obtain ⟨l1, l2, l4, l5, ln, l6, l7, l8⟩ := lk
  obtain ⟨g1, g2, g3, g4, g5⟩ := rm
  have hts := C.2.2.2.2.1
  have HR := va_runI (p := p) (l := l) (e := e) (s := s) (m := m) (meth := meth) (c := c) (R := R) (args := args) (below := below) (locs := locs) (cells := k) (slots := n) (As := As) (rest := rest) (g := F0 m pc ls (As.reverse ++ .ref b0 :: rest)) ⟨C.1, C.2.1, C.2.2.1, C.2.2.2.1, hts⟩ hM (cwI q hts (law_in l5) rfl rfl rfl (hts _ l4) (hts _ l1) (hts _ l2) ln ⟨l6, l7, l8⟩ ⟨g1, g2⟩)
    ⟨pc_blind, fun U hU hW => ⟨rfl, by rw [hU]; exact a, ev_.moved hW C.2.2.2.2.2.1⟩⟩ rfl hq d.1 rfl (by show 2 * 0 + _ ≤ 8; omega) hd ⟨g3, g4⟩
  obtain ⟨v, st₀, t, T', L1, h0, X', hL, e1, e2, ⟨v1, h1, s1, hv, hp, hh⟩, stp⟩ := HR T0 hT X
  cases hv
  obtain ⟨t2, a1, b1⟩ := kk _ h1 s1 hp T'.heap (locs ++ L1) ls (by rw [e1]; exact hh) (fun q hq => by
    rcases List.mem_append.mp hq with z | z
    · exact b q z
    · exact hL q z) d T' rfl X'
  exact ⟨t2, stp t2 a1, b1⟩
theorem r_callN (C : Cx p l R s m args meth c G own cc nL ret nm) {y : MethodName} {host : String} {bytes : ByteArray} {maxL fr lo mc ms index q b0 : Nat} {As rest : List Value} {Post : Option Value → HP → Nat → Prop} (hM : Mg G l y bytes maxL none fr lo mc ms (.ref b0 :: As) h sz Post) (lk : LkN own index host y bytes maxL q) (hq : As.length = q) (hs : st = As.reverse ++ .ref b0 :: rest) (rm : Rm R k n fr maxL lo mc ms rest) (hd : decode cc pc = .ok (.invokespecial index, 3)) (kk : ∀ v h1 s1, Post v h1 s1 → V p l e R s m args below meth c G nL Q h1 s1 (k + mc) (n + ms) (pc + 3) L (v.toList ++ rest)) : V p l e R s m args below meth c G nL Q h sz k n pc L st := by
  intro H locs ls a b d T0 hT X
  subst hs
  obtain ⟨l1, l2, l4, l5, ln, l6, l7, l8⟩ := lk
  obtain ⟨g1, g2, g3, g4, g5⟩ := rm
  have hts := C.2.2.2.2.1
  have HR := va_runIN (p := p) (l := l) (e := e) (s := s) (m := m) (meth := meth) (c := c) (R := R) (args := args) (below := below) (locs := locs) (cells := k) (slots := n) (As := As) (rest := rest) (g := F0 m pc ls (As.reverse ++ .ref b0 :: rest)) ⟨C.1, C.2.1, C.2.2.1, C.2.2.2.1, hts⟩ hM ⟨va_cnB q hts (law_in l5) rfl rfl rfl (C.2.2.2.2.2.1.2.1 _ l1) (hts _ l4) ⟨l6, l7, l8⟩ ⟨g1, g2⟩, ln, hts _ l2⟩
    ⟨pc_blind, fun U hU hW => ⟨rfl, by rw [hU]; exact a, ev_.moved hW C.2.2.2.2.2.1⟩⟩ rfl hq d.1 rfl (by show 2 * 0 + _ ≤ 8; omega) hd ⟨g3, g4⟩
  obtain ⟨v, st₀, t, T', L1, h0, X', hL, e1, e2, ⟨v1, h1, s1, hv, hp, hh⟩, stp⟩ := HR T0 hT X
  cases hv
  obtain ⟨t2, a1, b1⟩ := kk _ h1 s1 hp T'.heap (locs ++ L1) ls (by rw [e1]; exact hh) (fun q hq => by
    rcases List.mem_append.mp hq with z | z
    · exact b q z
    · exact hL q z) d T' rfl X'
  exact ⟨t2, stp t2 a1, b1⟩
theorem r_cVv (C : Cx p l R s m args meth c G own cc nL ret nm) {y : MethodName} {bytes : ByteArray} {maxL fr lo mc ms index q : Nat} {rt : Option FieldType} {As rest : List Value} {h1 : HP} {s1 : Nat} {b0 ci N : Nat} {T : u_T} {fs : List Value} (hM : Mf G l y bytes maxL rt fr lo mc ms (.ref b0 :: As) h sz none h1 s1) (lk : LkV own index y bytes maxL rt q) (hc : vwCl[ci]? = some (y.cls, T, N)) (he : h b0 = some (ob_ ci fs)) (hq : As.length = q) (hs : st = As.reverse ++ .ref b0 :: rest) (rm : Rm R k n fr maxL lo mc ms rest) (hd : decode cc pc = .ok (.invokevirtual index, 3)) (kk : V p l e R s m args below meth c G nL Q h1 s1 (k + mc) (n + ms) (pc + 3) L (rest)) : V p l e R s m args below meth c G nL Q h sz k n pc L st := r_callV C hM lk hc he hq hs rm hd (fun v h2 s2 hp => by obtain ⟨rfl, rfl, rfl⟩ := hp; exact kk)
theorem r_cSv (C : Cx p l R s m args meth c G own cc nL ret nm) {y : MethodName} {bytes : ByteArray} {maxL fr lo mc ms index q : Nat} {rt : Option FieldType} {As rest : List Value} {h1 : HP} {s1 : Nat} (hM : Mf G l y bytes maxL rt fr lo mc ms As h sz none h1 s1) (lk : LkS own index y bytes maxL rt q) (hq : As.length = q) (hs : st = As.reverse ++ rest) (rm : Rm R k n fr maxL lo mc ms rest) (hd : decode cc pc = .ok (.invokestatic index, 3)) (kk : V p l e R s m args below meth c G nL Q h1 s1 (k + mc) (n + ms) (pc + 3) L (rest)) : V p l e R s m args below meth c G nL Q h sz k n pc L st := r_callS C hM lk hq hs rm hd (fun v h2 s2 hp => by obtain ⟨rfl, rfl, rfl⟩ := hp; exact kk)
theorem r_cVi (C : Cx p l R s m args meth c G own cc nL ret nm) {y : MethodName} {bytes : ByteArray} {maxL fr lo mc ms index q : Nat} {rt : Option FieldType} {As rest : List Value} {h1 : HP} {s1 : Nat} {r : Int32} {b0 ci N : Nat} {T : u_T} {fs : List Value} (hM : Mf G l y bytes maxL rt fr lo mc ms (.ref b0 :: As) h sz (some (.int r)) h1 s1) (lk : LkV own index y bytes maxL rt q) (hc : vwCl[ci]? = some (y.cls, T, N)) (he : h b0 = some (ob_ ci fs)) (hq : As.length = q) (hs : st = As.reverse ++ .ref b0 :: rest) (rm : Rm R k n fr maxL lo mc ms rest) (hd : decode cc pc = .ok (.invokevirtual index, 3)) (kk : V p l e R s m args below meth c G nL Q h1 s1 (k + mc) (n + ms) (pc + 3) L (.int r :: rest)) : V p l e R s m args below meth c G nL Q h sz k n pc L st := r_callV C hM lk hc he hq hs rm hd (fun v h2 s2 hp => by obtain ⟨rfl, rfl, rfl⟩ := hp; exact kk)
theorem r_cSi (C : Cx p l R s m args meth c G own cc nL ret nm) {y : MethodName} {bytes : ByteArray} {maxL fr lo mc ms index q : Nat} {rt : Option FieldType} {As rest : List Value} {h1 : HP} {s1 : Nat} {r : Int32} (hM : Mf G l y bytes maxL rt fr lo mc ms As h sz (some (.int r)) h1 s1) (lk : LkS own index y bytes maxL rt q) (hq : As.length = q) (hs : st = As.reverse ++ rest) (rm : Rm R k n fr maxL lo mc ms rest) (hd : decode cc pc = .ok (.invokestatic index, 3)) (kk : V p l e R s m args below meth c G nL Q h1 s1 (k + mc) (n + ms) (pc + 3) L (.int r :: rest)) : V p l e R s m args below meth c G nL Q h sz k n pc L st := r_callS C hM lk hq hs rm hd (fun v h2 s2 hp => by obtain ⟨rfl, rfl, rfl⟩ := hp; exact kk)
theorem r_cVl (C : Cx p l R s m args meth c G own cc nL ret nm) {y : MethodName} {bytes : ByteArray} {maxL fr lo mc ms index q : Nat} {rt : Option FieldType} {As rest : List Value} {h1 : HP} {s1 : Nat} {r : Int64} {b0 ci N : Nat} {T : u_T} {fs : List Value} (hM : Mf G l y bytes maxL rt fr lo mc ms (.ref b0 :: As) h sz (some (.long r)) h1 s1) (lk : LkV own index y bytes maxL rt q) (hc : vwCl[ci]? = some (y.cls, T, N)) (he : h b0 = some (ob_ ci fs)) (hq : As.length = q) (hs : st = As.reverse ++ .ref b0 :: rest) (rm : Rm R k n fr maxL lo mc ms rest) (hd : decode cc pc = .ok (.invokevirtual index, 3)) (kk : V p l e R s m args below meth c G nL Q h1 s1 (k + mc) (n + ms) (pc + 3) L (.long r :: rest)) : V p l e R s m args below meth c G nL Q h sz k n pc L st := r_callV C hM lk hc he hq hs rm hd (fun v h2 s2 hp => by obtain ⟨rfl, rfl, rfl⟩ := hp; exact kk)
theorem r_cSl (C : Cx p l R s m args meth c G own cc nL ret nm) {y : MethodName} {bytes : ByteArray} {maxL fr lo mc ms index q : Nat} {rt : Option FieldType} {As rest : List Value} {h1 : HP} {s1 : Nat} {r : Int64} (hM : Mf G l y bytes maxL rt fr lo mc ms As h sz (some (.long r)) h1 s1) (lk : LkS own index y bytes maxL rt q) (hq : As.length = q) (hs : st = As.reverse ++ rest) (rm : Rm R k n fr maxL lo mc ms rest) (hd : decode cc pc = .ok (.invokestatic index, 3)) (kk : V p l e R s m args below meth c G nL Q h1 s1 (k + mc) (n + ms) (pc + 3) L (.long r :: rest)) : V p l e R s m args below meth c G nL Q h sz k n pc L st := r_callS C hM lk hq hs rm hd (fun v h2 s2 hp => by obtain ⟨rfl, rfl, rfl⟩ := hp; exact kk)
theorem r_cVd (C : Cx p l R s m args meth c G own cc nL ret nm) {y : MethodName} {bytes : ByteArray} {maxL fr lo mc ms index q : Nat} {rt : Option FieldType} {As rest : List Value} {h1 : HP} {s1 : Nat} {r : UInt64} {b0 ci N : Nat} {T : u_T} {fs : List Value} (hM : Mf G l y bytes maxL rt fr lo mc ms (.ref b0 :: As) h sz (some (.double r)) h1 s1) (lk : LkV own index y bytes maxL rt q) (hc : vwCl[ci]? = some (y.cls, T, N)) (he : h b0 = some (ob_ ci fs)) (hq : As.length = q) (hs : st = As.reverse ++ .ref b0 :: rest) (rm : Rm R k n fr maxL lo mc ms rest) (hd : decode cc pc = .ok (.invokevirtual index, 3)) (kk : V p l e R s m args below meth c G nL Q h1 s1 (k + mc) (n + ms) (pc + 3) L (.double r :: rest)) : V p l e R s m args below meth c G nL Q h sz k n pc L st := r_callV C hM lk hc he hq hs rm hd (fun v h2 s2 hp => by obtain ⟨rfl, rfl, rfl⟩ := hp; exact kk)
theorem r_cSd (C : Cx p l R s m args meth c G own cc nL ret nm) {y : MethodName} {bytes : ByteArray} {maxL fr lo mc ms index q : Nat} {rt : Option FieldType} {As rest : List Value} {h1 : HP} {s1 : Nat} {r : UInt64} (hM : Mf G l y bytes maxL rt fr lo mc ms As h sz (some (.double r)) h1 s1) (lk : LkS own index y bytes maxL rt q) (hq : As.length = q) (hs : st = As.reverse ++ rest) (rm : Rm R k n fr maxL lo mc ms rest) (hd : decode cc pc = .ok (.invokestatic index, 3)) (kk : V p l e R s m args below meth c G nL Q h1 s1 (k + mc) (n + ms) (pc + 3) L (.double r :: rest)) : V p l e R s m args below meth c G nL Q h sz k n pc L st := r_callS C hM lk hq hs rm hd (fun v h2 s2 hp => by obtain ⟨rfl, rfl, rfl⟩ := hp; exact kk)
theorem r_cIv (C : Cx p l R s m args meth c G own cc nL ret nm) {y : MethodName} {bytes : ByteArray} {maxL fr lo mc ms index q b0 : Nat} {As rest : List Value} {h1 : HP} {s1 : Nat}  (hM : Mf G l y bytes maxL none fr lo mc ms (.ref b0 :: As) h sz none h1 s1) (lk : LkI own index y bytes maxL q) (hq : As.length = q) (hs : st = As.reverse ++ .ref b0 :: rest) (rm : Rm R k n fr maxL lo mc ms rest) (hd : decode cc pc = .ok (.invokespecial index, 3)) (kk : V p l e R s m args below meth c G nL Q h1 s1 (k + mc) (n + ms) (pc + 3) L rest) : V p l e R s m args below meth c G nL Q h sz k n pc L st := r_callI C hM lk hq hs rm hd (fun v h2 s2 hp => by obtain ⟨rfl, rfl, rfl⟩ := hp; exact kk)
theorem r_cNv (C : Cx p l R s m args meth c G own cc nL ret nm) {y : MethodName} {bytes : ByteArray} {maxL fr lo mc ms index q b0 : Nat} {As rest : List Value} {h1 : HP} {s1 : Nat}  {host : String} (hM : Mf G l y bytes maxL none fr lo mc ms (.ref b0 :: As) h sz none h1 s1) (lk : LkN own index host y bytes maxL q) (hq : As.length = q) (hs : st = As.reverse ++ .ref b0 :: rest) (rm : Rm R k n fr maxL lo mc ms rest) (hd : decode cc pc = .ok (.invokespecial index, 3)) (kk : V p l e R s m args below meth c G nL Q h1 s1 (k + mc) (n + ms) (pc + 3) L rest) : V p l e R s m args below meth c G nL Q h sz k n pc L st := r_callN C hM lk hq hs rm hd (fun v h2 s2 hp => by obtain ⟨rfl, rfl, rfl⟩ := hp; exact kk)
theorem r_acopy (C : Cx p l R s m args meth c G own cc nL ret nm) {a0 a1 n0 n1 : Nat} {f g : Nat → Int32} {N : Int32} {idx : Nat} (hl : Cond.methodLink own idx arraycopyName ∈ TB) (h2 : Cond.native arraycopyName ∈ TB) (h3 : Cond.static arraycopyName ∈ TB) (h4 : Cond.initialized "java/lang/System" ∈ TB) (he0 : h a0 = some (aI_ G n0 f)) (he : h a1 = some (aI_ G n1 g)) (g3 : ¬ N < 0) (g4 : N.toNatClampNeg ≤ n0) (g5 : N.toNatClampNeg ≤ n1) (hf : 1 ≤ R.frames) (hlo : (st.map fun v => v.category).sum + (nativeFrameWords "java/lang/System" "arraycopy" 5 + 11) ≤ R.locals) (hd : decode cc pc = .ok (.invokestatic idx, 3)) (kk : V p l e R s m args below meth c G nL Q (up_ h a1 (aI_ G n1 (va_cpy f g 0 0 N.toNatClampNeg))) sz k n (pc + 3) L st) : V p l e R s m args below meth c G nL Q h sz k n pc L (.int N :: .int 0 :: .ref a1 :: .int 0 :: .ref a0 :: st) := by
  intro H locs ls a b d
  have nn : N.toInt = (N.toNatClampNeg : Int) := by
    have hz0 : (0 : Int) ≤ N.toInt := by
      have := Int32.not_lt.mp g3
      simpa using Int32.le_iff_toInt_le.mp this
    show N.toInt = ((N.toInt.toNat : Nat) : Int)
    omega
  intro T hT X
  have hc0 : H[a0]? = some (vp_cell (G.2.1 0) (n0, .inl f)) := (a.2.2.2 _ _ he0).2
  have hc1 : H[a1]? = some (vp_cell (G.2.1 0) (n1, .inl g)) := (a.2.2.2 _ _ he).2
  obtain ⟨-, k0, hk0, cm0, hkk0⟩ := (C.2.2.2.2.2.1.1.2 0 _ rfl).1 n0 (fun j => .int (f j))
  obtain ⟨-, k1, hk1, cm1, hkk1⟩ := (C.2.2.2.2.2.1.1.2 0 _ rfl).1 n1 (fun j => .int (g j))
  obtain ⟨vm', X', step⟩ := X.arraycopy C.1 C.2.2.2.1 (C.2.2.2.2.1 _ hl) (C.2.2.2.2.1 _ h2) (C.2.2.2.2.1 _ h3) (C.2.2.2.2.1 _ h4) (src := a0) (dst := a1) (cs := vp_cell (G.2.1 0) (n0, .inl f)) (cd := vp_cell (G.2.1 0) (n1, .inl g)) (srcPos := 0) (destPos := 0) (n := N) (by rw [hT]; exact hc0) (by rw [hT]; exact hc1)
    (fun _ h => by cases h) (fun _ h => by cases h) (fun h => by cases h) (fun h => by cases h) hk0 hk1 hkk0 hkk1 (by simp [refKind]) (by decide) (by decide) g3
    (by rw [nn]; show ¬ ((0 : Int32).toInt + _ > ((arrV _ n0 (fun j => .int (f j))).slots.size : Int)); rw [arrV_size, show (0 : Int32).toInt = 0 from rfl]; omega)
    (by rw [nn]; show ¬ ((0 : Int32).toInt + _ > ((arrV _ n1 (fun j => .int (g j))).slots.size : Int)); rw [arrV_size, show (0 : Int32).toInt = 0 from rfl]; omega)
    (fun vm₁ _ i hi => by
      have e : (vp_cell (G.2.1 0) (n0, .inl f)).slots.getD ((0 : Int32).toNatClampNeg + i) .null = .int (f ((0 : Int32).toNatClampNeg + i)) := by
        show (arrV _ n0 (fun j => .int (f j))).slots.getD _ _ = _
        rw [Array.getD_eq_getD_getElem?, arrV_read _ _ (by show 0 + i < n0; omega)]
        rfl
      refine ⟨?_, ?_⟩
      · rw [e]
        rfl
      · rw [e]
        exact trivial)
    (g := F0 m pc ls (.int N :: .int 0 :: .ref a1 :: .int 0 :: .ref a0 :: st)) rfl (by rw [C.2.2.1]; exact d.1) (rest := st) rfl (by rw [C.2.1]; exact hd) hf (by show 2 * 0 + _ + _ ≤ _; omega)
  have e1 : copied (vp_cell (G.2.1 0) (n0, .inl f)) (vp_cell (G.2.1 0) (n1, .inl g)) 0 0 N = vp_cell (G.2.1 0) (n1, .inl (va_cpy f g 0 0 N.toNatClampNeg)) := va_copied (fun z => .int z) _ _ f g (by show 0 + _ ≤ _; omega)
  rw [e1] at X' step
  have hla : a1 < H.size := (Array.getElem?_eq_some_iff.mp hc1).1
  have oq : ∀ q : Nat, q ≠ a1 → (H.setIfInBounds a1 (vp_cell (G.2.1 0) (n1, .inl (va_cpy f g 0 0 N.toNatClampNeg))))[q]? = H[q]? := fun q hq => by simp [Array.getElem?_setIfInBounds, Ne.symm hq]
  obtain ⟨t, b1, b2⟩ := kk (H.setIfInBounds a1 (vp_cell (G.2.1 0) (n1, .inl (va_cpy f g 0 0 N.toNatClampNeg)))) _ ls (a.put (a.2.2.2 _ _ he).1 (show (H.setIfInBounds a1 _)[a1]? = some _ by simp [Array.getElem?_setIfInBounds, hla]) (by simp) oq) (fun q hq => by
    rcases List.mem_append.mp hq with z | z
    · exact b q z
    · obtain ⟨i, -, hi⟩ := List.mem_map.mp z
      rw [← hi]
      exact (a.2.2.2 _ _ he).1) d _ (by rw [← hT]; rfl) X'
  exact ⟨t, step t b1, b2⟩
end LY
end
section
/-! LINKS: the words that the rows name, by their places in TB. -/
theorem mw_ {w : Cond} (i : Nat) (h : lw_tbl[i]? = some w) (g : goodWord w = true) : w ∈ TB := List.mem_filter.mpr ⟨List.mem_of_getElem? h, g⟩
set_option maxRecDepth 20000 in
theorem in_X0 : ∀ w ∈ u_ws RX0 TX0 13, w ∈ TB := fun w h => List.mem_filter.mpr ⟨(show ∀ w ∈ u_ws RX0 TX0 13, w ∈ lw_tbl by decide +kernel) w h, (show ∀ w ∈ u_ws RX0 TX0 13, goodWord w = true by decide +kernel) w h⟩
set_option maxRecDepth 20000 in
theorem in_X1 : ∀ w ∈ u_ws RX1 TX1 3, w ∈ TB := fun w h => List.mem_filter.mpr ⟨(show ∀ w ∈ u_ws RX1 TX1 3, w ∈ lw_tbl by decide +kernel) w h, (show ∀ w ∈ u_ws RX1 TX1 3, goodWord w = true by decide +kernel) w h⟩
set_option maxRecDepth 20000 in
theorem in_X2 : ∀ w ∈ u_ws RX2 TX2 2, w ∈ TB := fun w h => List.mem_filter.mpr ⟨(show ∀ w ∈ u_ws RX2 TX2 2, w ∈ lw_tbl by decide +kernel) w h, (show ∀ w ∈ u_ws RX2 TX2 2, goodWord w = true by decide +kernel) w h⟩
set_option maxRecDepth 20000 in
theorem in_X3 : ∀ w ∈ u_ws RX3 TX3 2, w ∈ TB := fun w h => List.mem_filter.mpr ⟨(show ∀ w ∈ u_ws RX3 TX3 2, w ∈ lw_tbl by decide +kernel) w h, (show ∀ w ∈ u_ws RX3 TX3 2, goodWord w = true by decide +kernel) w h⟩
set_option maxRecDepth 20000 in
theorem in_X4 : ∀ w ∈ u_ws RX4 TX4 3, w ∈ TB := fun w h => List.mem_filter.mpr ⟨(show ∀ w ∈ u_ws RX4 TX4 3, w ∈ lw_tbl by decide +kernel) w h, (show ∀ w ∈ u_ws RX4 TX4 3, goodWord w = true by decide +kernel) w h⟩
set_option maxRecDepth 20000 in
theorem in_X5 : ∀ w ∈ u_ws RX5 TX5 5, w ∈ TB := fun w h => List.mem_filter.mpr ⟨(show ∀ w ∈ u_ws RX5 TX5 5, w ∈ lw_tbl by decide +kernel) w h, (show ∀ w ∈ u_ws RX5 TX5 5, goodWord w = true by decide +kernel) w h⟩
theorem lk_X5_9 : LkN RX5 9 "RustTiles" yX0_init cX0_init 1 0 := ⟨by decide +kernel, mw_ 56 (by decide +kernel) rfl, mw_ 30 (by decide +kernel) rfl, mw_ 57 (by decide +kernel) rfl, rfl, ⟨by decide +kernel, by decide +kernel, by decide +kernel⟩⟩
theorem fl_X5_10 : Cond.fieldLink RX5 10 "RustTiles" "game" "LRustTiles$Game;" ∈ TB := mw_ 224 (by decide +kernel) rfl
theorem lk_X5_18 : LkN RX5 18 "RustTiles" yX4_init cX4_init 1 0 := ⟨by decide +kernel, mw_ 126 (by decide +kernel) rfl, mw_ 33 (by decide +kernel) rfl, mw_ 127 (by decide +kernel) rfl, rfl, ⟨by decide +kernel, by decide +kernel, by decide +kernel⟩⟩
theorem fl_X5_19 : Cond.fieldLink RX5 19 "RustTiles" "trains" "LRustTiles$Trains;" ∈ TB := mw_ 225 (by decide +kernel) rfl
theorem lk_X5_25 : LkN RX5 25 "RustTiles" yX3_init cX3_init 1 0 := ⟨by decide +kernel, mw_ 144 (by decide +kernel) rfl, mw_ 34 (by decide +kernel) rfl, mw_ 145 (by decide +kernel) rfl, rfl, ⟨by decide +kernel, by decide +kernel, by decide +kernel⟩⟩
theorem fl_X5_26 : Cond.fieldLink RX5 26 "RustTiles" "text" "LRustTiles$Text;" ∈ TB := mw_ 226 (by decide +kernel) rfl
theorem lk_X5_32 : LkN RX5 32 "RustTiles" yX1_init cX1_init 1 0 := ⟨by decide +kernel, mw_ 157 (by decide +kernel) rfl, mw_ 35 (by decide +kernel) rfl, mw_ 158 (by decide +kernel) rfl, rfl, ⟨by decide +kernel, by decide +kernel, by decide +kernel⟩⟩
theorem fl_X5_33 : Cond.fieldLink RX5 33 "RustTiles" "past" "LRustTiles$Past;" ∈ TB := mw_ 227 (by decide +kernel) rfl
theorem fl_X5_37 : Cond.fieldLink RX5 37 "RustTiles" "slots" "[LRustTiles$Game;" ∈ TB := mw_ 228 (by decide +kernel) rfl
theorem lk_X5_41 : LkV RX5 41 yX0_start cX0_start 3 none 2 := ⟨mw_ 173 (by decide +kernel) rfl, mw_ 174 (by decide +kernel) rfl, mw_ 175 (by decide +kernel) rfl, mw_ 30 (by decide +kernel) rfl, mw_ 176 (by decide +kernel) rfl, ⟨by decide +kernel, by decide +kernel, by decide +kernel⟩⟩
theorem lk_X5_52 : LkV RX5 52 yX1_remember cX1_remember 3 none 1 := ⟨mw_ 405 (by decide +kernel) rfl, mw_ 406 (by decide +kernel) rfl, mw_ 407 (by decide +kernel) rfl, mw_ 35 (by decide +kernel) rfl, mw_ 408 (by decide +kernel) rfl, ⟨by decide +kernel, by decide +kernel, by decide +kernel⟩⟩
theorem lk_X5_56 : LkV RX5 56 yX0_stockSize cX0_stockSize 1 (some .int) 0 := ⟨mw_ 411 (by decide +kernel) rfl, mw_ 358 (by decide +kernel) rfl, mw_ 359 (by decide +kernel) rfl, mw_ 30 (by decide +kernel) rfl, mw_ 360 (by decide +kernel) rfl, ⟨by decide +kernel, by decide +kernel, by decide +kernel⟩⟩
theorem lk_X5_60 : LkS RX5 60 yX5_requireRow cX5_requireRow 1 none 1 := ⟨mw_ 416 (by decide +kernel) rfl, mw_ 417 (by decide +kernel) rfl, mw_ 29 (by decide +kernel) rfl, mw_ 418 (by decide +kernel) rfl, ⟨by decide +kernel, by decide +kernel, by decide +kernel⟩⟩
theorem lk_X5_64 : LkS RX5 64 yX5_requireEnd cX5_requireEnd 1 none 1 := ⟨mw_ 435 (by decide +kernel) rfl, mw_ 436 (by decide +kernel) rfl, mw_ 29 (by decide +kernel) rfl, mw_ 437 (by decide +kernel) rfl, ⟨by decide +kernel, by decide +kernel, by decide +kernel⟩⟩
theorem lk_X5_67 : LkV RX5 67 yX0_turnToLay cX0_turnToLay 6 (some .int) 3 := ⟨mw_ 439 (by decide +kernel) rfl, mw_ 440 (by decide +kernel) rfl, mw_ 441 (by decide +kernel) rfl, mw_ 30 (by decide +kernel) rfl, mw_ 442 (by decide +kernel) rfl, ⟨by decide +kernel, by decide +kernel, by decide +kernel⟩⟩
theorem lk_X5_71 : LkV RX5 71 yX0_turnToDraw cX0_turnToDraw 2 (some .int) 0 := ⟨mw_ 495 (by decide +kernel) rfl, mw_ 496 (by decide +kernel) rfl, mw_ 497 (by decide +kernel) rfl, mw_ 30 (by decide +kernel) rfl, mw_ 498 (by decide +kernel) rfl, ⟨by decide +kernel, by decide +kernel, by decide +kernel⟩⟩
theorem lk_X5_74 : LkV RX5 74 yX0_turnToPass cX0_turnToPass 1 (some .int) 0 := ⟨mw_ 503 (by decide +kernel) rfl, mw_ 504 (by decide +kernel) rfl, mw_ 505 (by decide +kernel) rfl, mw_ 30 (by decide +kernel) rfl, mw_ 506 (by decide +kernel) rfl, ⟨by decide +kernel, by decide +kernel, by decide +kernel⟩⟩
theorem lk_X5_77 : LkV RX5 77 yX0_isOver cX0_isOver 1 (some .boolean) 0 := ⟨mw_ 479 (by decide +kernel) rfl, mw_ 370 (by decide +kernel) rfl, mw_ 371 (by decide +kernel) rfl, mw_ 30 (by decide +kernel) rfl, mw_ 372 (by decide +kernel) rfl, ⟨by decide +kernel, by decide +kernel, by decide +kernel⟩⟩
theorem fn_X5_81 : Cond.fieldLinkNest RX5 81 "RustTiles$Game" "onMove" "I" "RustTiles" ∈ NB := by decide +kernel
theorem lk_X5_85 : LkV RX5 85 yX0_holdsPlace cX0_holdsPlace 3 (some .boolean) 2 := ⟨mw_ 480 (by decide +kernel) rfl, mw_ 448 (by decide +kernel) rfl, mw_ 449 (by decide +kernel) rfl, mw_ 30 (by decide +kernel) rfl, mw_ 450 (by decide +kernel) rfl, ⟨by decide +kernel, by decide +kernel, by decide +kernel⟩⟩
theorem lk_X5_94 : LkV RX5 94 yX0_oilTile cX0_oilTile 4 (some .int) 1 := ⟨mw_ 482 (by decide +kernel) rfl, mw_ 483 (by decide +kernel) rfl, mw_ 484 (by decide +kernel) rfl, mw_ 30 (by decide +kernel) rfl, mw_ 485 (by decide +kernel) rfl, ⟨by decide +kernel, by decide +kernel, by decide +kernel⟩⟩
theorem fn_X5_100 : Cond.fieldLinkNest RX5 100 "RustTiles$Game" "interval" "I" "RustTiles" ∈ NB := by decide +kernel
theorem fn_X5_135 : Cond.fieldLinkNest RX5 135 "RustTiles$Past" "size" "I" "RustTiles" ∈ NB := by decide +kernel
theorem lk_X5_140 : LkV RX5 140 yX1_restore cX1_restore 3 none 1 := ⟨mw_ 312 (by decide +kernel) rfl, mw_ 313 (by decide +kernel) rfl, mw_ 314 (by decide +kernel) rfl, mw_ 35 (by decide +kernel) rfl, mw_ 315 (by decide +kernel) rfl, ⟨by decide +kernel, by decide +kernel, by decide +kernel⟩⟩
theorem lk_X5_145 : LkS RX5 145 yX5_requireWhat cX5_requireWhat 2 none 2 := ⟨mw_ 334 (by decide +kernel) rfl, mw_ 335 (by decide +kernel) rfl, mw_ 29 (by decide +kernel) rfl, mw_ 336 (by decide +kernel) rfl, ⟨by decide +kernel, by decide +kernel, by decide +kernel⟩⟩
theorem fn_X5_148 : Cond.fieldLinkNest RX5 148 "RustTiles$Game" "tiles" "LRustTiles$Table;" "RustTiles" ∈ NB := by decide +kernel
theorem lk_X5_152 : LkV RX5 152 yX2_at cX2_at 4 (some .int) 2 := ⟨mw_ 535 (by decide +kernel) rfl, mw_ 205 (by decide +kernel) rfl, mw_ 206 (by decide +kernel) rfl, mw_ 31 (by decide +kernel) rfl, mw_ 207 (by decide +kernel) rfl, ⟨by decide +kernel, by decide +kernel, by decide +kernel⟩⟩
theorem lk_X5_158 : LkV RX5 158 yX5_requirePlayer cX5_requirePlayer 2 none 1 := ⟨mw_ 540 (by decide +kernel) rfl, mw_ 542 (by decide +kernel) rfl, mw_ 20 (by decide +kernel) rfl, mw_ 29 (by decide +kernel) rfl, mw_ 543 (by decide +kernel) rfl, ⟨by decide +kernel, by decide +kernel, by decide +kernel⟩⟩
theorem lk_X5_161 : LkS RX5 161 yX5_requirePlace cX5_requirePlace 1 none 1 := ⟨mw_ 549 (by decide +kernel) rfl, mw_ 550 (by decide +kernel) rfl, mw_ 29 (by decide +kernel) rfl, mw_ 551 (by decide +kernel) rfl, ⟨by decide +kernel, by decide +kernel, by decide +kernel⟩⟩
theorem fn_X5_164 : Cond.fieldLinkNest RX5 164 "RustTiles$Game" "hands" "LRustTiles$Table;" "RustTiles" ∈ NB := by decide +kernel
theorem lk_X5_167 : LkV RX5 167 yX0_stockTile cX0_stockTile 2 (some .int) 1 := ⟨mw_ 580 (by decide +kernel) rfl, mw_ 581 (by decide +kernel) rfl, mw_ 582 (by decide +kernel) rfl, mw_ 30 (by decide +kernel) rfl, mw_ 583 (by decide +kernel) rfl, ⟨by decide +kernel, by decide +kernel, by decide +kernel⟩⟩
theorem lk_X5_170 : LkV RX5 170 yX0_playerProperty cX0_playerProperty 3 (some .int) 2 := ⟨mw_ 564 (by decide +kernel) rfl, mw_ 565 (by decide +kernel) rfl, mw_ 566 (by decide +kernel) rfl, mw_ 30 (by decide +kernel) rfl, mw_ 567 (by decide +kernel) rfl, ⟨by decide +kernel, by decide +kernel, by decide +kernel⟩⟩
theorem fn_X5_173 : Cond.fieldLinkNest RX5 173 "RustTiles$Game" "rows" "LRustTiles$Table;" "RustTiles" ∈ NB := by decide +kernel
theorem lk_X5_176 : LkV RX5 176 yX0_numberOf cX0_numberOf 3 (some .int) 2 := ⟨mw_ 353 (by decide +kernel) rfl, mw_ 354 (by decide +kernel) rfl, mw_ 355 (by decide +kernel) rfl, mw_ 30 (by decide +kernel) rfl, mw_ 356 (by decide +kernel) rfl, ⟨by decide +kernel, by decide +kernel, by decide +kernel⟩⟩
theorem lk_X5_179 : LkV RX5 179 yX0_reasonAgainst cX0_reasonAgainst 4 (some .int) 3 := ⟨mw_ 602 (by decide +kernel) rfl, mw_ 444 (by decide +kernel) rfl, mw_ 445 (by decide +kernel) rfl, mw_ 30 (by decide +kernel) rfl, mw_ 446 (by decide +kernel) rfl, ⟨by decide +kernel, by decide +kernel, by decide +kernel⟩⟩
theorem lk_X5_182 : LkS RX5 182 yX5_requireGrade cX5_requireGrade 1 none 1 := ⟨mw_ 610 (by decide +kernel) rfl, mw_ 611 (by decide +kernel) rfl, mw_ 29 (by decide +kernel) rfl, mw_ 612 (by decide +kernel) rfl, ⟨by decide +kernel, by decide +kernel, by decide +kernel⟩⟩
theorem lk_X5_185 : LkV RX5 185 yX4_take cX4_take 5 none 2 := ⟨mw_ 614 (by decide +kernel) rfl, mw_ 615 (by decide +kernel) rfl, mw_ 616 (by decide +kernel) rfl, mw_ 33 (by decide +kernel) rfl, mw_ 617 (by decide +kernel) rfl, ⟨by decide +kernel, by decide +kernel, by decide +kernel⟩⟩
theorem lk_X5_189 : LkV RX5 189 yX4_tryFrom cX4_tryFrom 4 none 1 := ⟨mw_ 621 (by decide +kernel) rfl, mw_ 622 (by decide +kernel) rfl, mw_ 623 (by decide +kernel) rfl, mw_ 33 (by decide +kernel) rfl, mw_ 624 (by decide +kernel) rfl, ⟨by decide +kernel, by decide +kernel, by decide +kernel⟩⟩
theorem lk_X5_192 : LkV RX5 192 yX4_mostTiles cX4_mostTiles 4 (some .int) 0 := ⟨mw_ 637 (by decide +kernel) rfl, mw_ 638 (by decide +kernel) rfl, mw_ 639 (by decide +kernel) rfl, mw_ 33 (by decide +kernel) rfl, mw_ 640 (by decide +kernel) rfl, ⟨by decide +kernel, by decide +kernel, by decide +kernel⟩⟩
theorem lk_X5_195 : LkV RX5 195 yX4_wholeByCounting cX4_wholeByCounting 2 (some .int) 1 := ⟨mw_ 652 (by decide +kernel) rfl, mw_ 653 (by decide +kernel) rfl, mw_ 654 (by decide +kernel) rfl, mw_ 33 (by decide +kernel) rfl, mw_ 655 (by decide +kernel) rfl, ⟨by decide +kernel, by decide +kernel, by decide +kernel⟩⟩
theorem lk_X5_198 : LkV RX5 198 yX4_wholeByTrying cX4_wholeByTrying 2 (some .int) 0 := ⟨mw_ 664 (by decide +kernel) rfl, mw_ 665 (by decide +kernel) rfl, mw_ 666 (by decide +kernel) rfl, mw_ 33 (by decide +kernel) rfl, mw_ 667 (by decide +kernel) rfl, ⟨by decide +kernel, by decide +kernel, by decide +kernel⟩⟩
theorem lk_X5_201 : LkV RX5 201 yX0_bestPlace cX0_bestPlace 4 (some .int) 0 := ⟨mw_ 511 (by decide +kernel) rfl, mw_ 512 (by decide +kernel) rfl, mw_ 513 (by decide +kernel) rfl, mw_ 30 (by decide +kernel) rfl, mw_ 514 (by decide +kernel) rfl, ⟨by decide +kernel, by decide +kernel, by decide +kernel⟩⟩
theorem lk_X5_207 : LkV RX5 207 yX0_shareOfRust cX0_shareOfRust 1 (some .double) 0 := ⟨mw_ 589 (by decide +kernel) rfl, mw_ 590 (by decide +kernel) rfl, mw_ 591 (by decide +kernel) rfl, mw_ 30 (by decide +kernel) rfl, mw_ 592 (by decide +kernel) rfl, ⟨by decide +kernel, by decide +kernel, by decide +kernel⟩⟩
theorem lk_X5_235 : LkV RX5 235 yX0_hasPlayer cX0_hasPlayer 2 (some .boolean) 1 := ⟨mw_ 544 (by decide +kernel) rfl, mw_ 545 (by decide +kernel) rfl, mw_ 546 (by decide +kernel) rfl, mw_ 30 (by decide +kernel) rfl, mw_ 547 (by decide +kernel) rfl, ⟨by decide +kernel, by decide +kernel, by decide +kernel⟩⟩
theorem lk_X0_11 : LkI RX0 11 yX2_init cX2_init 3 2 := ⟨mw_ 61 (by decide +kernel) rfl, mw_ 62 (by decide +kernel) rfl, mw_ 31 (by decide +kernel) rfl, mw_ 63 (by decide +kernel) rfl, rfl, ⟨by decide +kernel, by decide +kernel, by decide +kernel⟩⟩
theorem fl_X0_14 : Cond.fieldLink RX0 14 "RustTiles$Game" "tiles" "LRustTiles$Table;" ∈ TB := mw_ 76 (by decide +kernel) rfl
theorem fl_X0_20 : Cond.fieldLink RX0 20 "RustTiles$Game" "hands" "LRustTiles$Table;" ∈ TB := mw_ 79 (by decide +kernel) rfl
theorem fl_X0_23 : Cond.fieldLink RX0 23 "RustTiles$Game" "tallies" "LRustTiles$Table;" ∈ TB := mw_ 82 (by decide +kernel) rfl
theorem fl_X0_26 : Cond.fieldLink RX0 26 "RustTiles$Game" "rows" "LRustTiles$Table;" ∈ TB := mw_ 83 (by decide +kernel) rfl
theorem fl_X0_29 : Cond.fieldLink RX0 29 "RustTiles$Game" "order" "LRustTiles$Table;" ∈ TB := mw_ 85 (by decide +kernel) rfl
theorem fl_X0_32 : Cond.fieldLink RX0 32 "RustTiles$Game" "interval" "I" ∈ TB := mw_ 94 (by decide +kernel) rfl
theorem lk_X0_36 : LkV RX0 36 yX2_become cX2_become 2 none 1 := ⟨mw_ 320 (by decide +kernel) rfl, mw_ 321 (by decide +kernel) rfl, mw_ 322 (by decide +kernel) rfl, mw_ 31 (by decide +kernel) rfl, mw_ 323 (by decide +kernel) rfl, ⟨by decide +kernel, by decide +kernel, by decide +kernel⟩⟩
theorem fl_X0_40 : Cond.fieldLink RX0 40 "RustTiles$Game" "playerCount" "I" ∈ TB := mw_ 86 (by decide +kernel) rfl
theorem fl_X0_43 : Cond.fieldLink RX0 43 "RustTiles$Game" "onMove" "I" ∈ TB := mw_ 87 (by decide +kernel) rfl
theorem fl_X0_46 : Cond.fieldLink RX0 46 "RustTiles$Game" "taken" "I" ∈ TB := mw_ 89 (by decide +kernel) rfl
theorem fl_X0_49 : Cond.fieldLink RX0 49 "RustTiles$Game" "turnsMade" "I" ∈ TB := mw_ 90 (by decide +kernel) rfl
theorem fl_X0_52 : Cond.fieldLink RX0 52 "RustTiles$Game" "passesInRow" "I" ∈ TB := mw_ 91 (by decide +kernel) rfl
theorem fl_X0_55 : Cond.fieldLink RX0 55 "RustTiles$Game" "refusals" "I" ∈ TB := mw_ 92 (by decide +kernel) rfl
theorem fl_X0_58 : Cond.fieldLink RX0 58 "RustTiles$Game" "lot" "I" ∈ TB := mw_ 93 (by decide +kernel) rfl
theorem lk_X0_61 : LkV RX0 61 yX2_clear cX2_clear 1 none 0 := ⟨mw_ 177 (by decide +kernel) rfl, mw_ 178 (by decide +kernel) rfl, mw_ 179 (by decide +kernel) rfl, mw_ 31 (by decide +kernel) rfl, mw_ 180 (by decide +kernel) rfl, ⟨by decide +kernel, by decide +kernel, by decide +kernel⟩⟩
theorem lk_X0_64 : LkV RX0 64 yX0_makeTiles cX0_makeTiles 4 none 0 := ⟨mw_ 184 (by decide +kernel) rfl, mw_ 186 (by decide +kernel) rfl, mw_ 0 (by decide +kernel) rfl, mw_ 30 (by decide +kernel) rfl, mw_ 187 (by decide +kernel) rfl, ⟨by decide +kernel, by decide +kernel, by decide +kernel⟩⟩
theorem lk_X0_67 : LkV RX0 67 yX0_makeRows cX0_makeRows 2 none 0 := ⟨mw_ 192 (by decide +kernel) rfl, mw_ 194 (by decide +kernel) rfl, mw_ 1 (by decide +kernel) rfl, mw_ 30 (by decide +kernel) rfl, mw_ 195 (by decide +kernel) rfl, ⟨by decide +kernel, by decide +kernel, by decide +kernel⟩⟩
theorem lk_X0_70 : LkV RX0 70 yX0_orderStock cX0_orderStock 3 none 1 := ⟨mw_ 196 (by decide +kernel) rfl, mw_ 198 (by decide +kernel) rfl, mw_ 2 (by decide +kernel) rfl, mw_ 30 (by decide +kernel) rfl, mw_ 199 (by decide +kernel) rfl, ⟨by decide +kernel, by decide +kernel, by decide +kernel⟩⟩
theorem lk_X0_74 : LkV RX0 74 yX0_deal cX0_deal 3 none 0 := ⟨mw_ 208 (by decide +kernel) rfl, mw_ 210 (by decide +kernel) rfl, mw_ 4 (by decide +kernel) rfl, mw_ 30 (by decide +kernel) rfl, mw_ 211 (by decide +kernel) rfl, ⟨by decide +kernel, by decide +kernel, by decide +kernel⟩⟩
theorem lk_X0_77 : LkV RX0 77 yX2_put cX2_put 5 none 3 := ⟨mw_ 188 (by decide +kernel) rfl, mw_ 189 (by decide +kernel) rfl, mw_ 190 (by decide +kernel) rfl, mw_ 31 (by decide +kernel) rfl, mw_ 191 (by decide +kernel) rfl, ⟨by decide +kernel, by decide +kernel, by decide +kernel⟩⟩
theorem lk_X0_81 : LkV RX0 81 yX0_insertInOrder cX0_insertInOrder 4 none 2 := ⟨mw_ 200 (by decide +kernel) rfl, mw_ 202 (by decide +kernel) rfl, mw_ 3 (by decide +kernel) rfl, mw_ 30 (by decide +kernel) rfl, mw_ 203 (by decide +kernel) rfl, ⟨by decide +kernel, by decide +kernel, by decide +kernel⟩⟩
theorem lk_X0_84 : LkV RX0 84 yX2_at cX2_at 4 (some .int) 2 := ⟨mw_ 204 (by decide +kernel) rfl, mw_ 205 (by decide +kernel) rfl, mw_ 206 (by decide +kernel) rfl, mw_ 31 (by decide +kernel) rfl, mw_ 207 (by decide +kernel) rfl, ⟨by decide +kernel, by decide +kernel, by decide +kernel⟩⟩
theorem lk_X0_88 : LkV RX0 88 yX0_takeFromStock cX0_takeFromStock 3 (some .int) 1 := ⟨mw_ 212 (by decide +kernel) rfl, mw_ 214 (by decide +kernel) rfl, mw_ 5 (by decide +kernel) rfl, mw_ 30 (by decide +kernel) rfl, mw_ 215 (by decide +kernel) rfl, ⟨by decide +kernel, by decide +kernel, by decide +kernel⟩⟩
theorem lk_X0_92 : LkV RX0 92 yX0_heldBy cX0_heldBy 2 (some .int) 1 := ⟨mw_ 216 (by decide +kernel) rfl, mw_ 217 (by decide +kernel) rfl, mw_ 218 (by decide +kernel) rfl, mw_ 30 (by decide +kernel) rfl, mw_ 219 (by decide +kernel) rfl, ⟨by decide +kernel, by decide +kernel, by decide +kernel⟩⟩
theorem lk_X0_95 : LkV RX0 95 yX2_increase cX2_increase 5 none 3 := ⟨mw_ 220 (by decide +kernel) rfl, mw_ 221 (by decide +kernel) rfl, mw_ 222 (by decide +kernel) rfl, mw_ 31 (by decide +kernel) rfl, mw_ 223 (by decide +kernel) rfl, ⟨by decide +kernel, by decide +kernel, by decide +kernel⟩⟩
theorem lk_X0_98 : LkV RX0 98 yX0_reasonAgainst cX0_reasonAgainst 4 (some .int) 3 := ⟨mw_ 443 (by decide +kernel) rfl, mw_ 444 (by decide +kernel) rfl, mw_ 445 (by decide +kernel) rfl, mw_ 30 (by decide +kernel) rfl, mw_ 446 (by decide +kernel) rfl, ⟨by decide +kernel, by decide +kernel, by decide +kernel⟩⟩
theorem lk_X0_102 : LkV RX0 102 yX0_takeFromHand cX0_takeFromHand 6 (some .int) 2 := ⟨mw_ 455 (by decide +kernel) rfl, mw_ 457 (by decide +kernel) rfl, mw_ 13 (by decide +kernel) rfl, mw_ 30 (by decide +kernel) rfl, mw_ 458 (by decide +kernel) rfl, ⟨by decide +kernel, by decide +kernel, by decide +kernel⟩⟩
theorem lk_X0_105 : LkV RX0 105 yX0_putAtEnd cX0_putAtEnd 6 none 3 := ⟨mw_ 459 (by decide +kernel) rfl, mw_ 461 (by decide +kernel) rfl, mw_ 14 (by decide +kernel) rfl, mw_ 30 (by decide +kernel) rfl, mw_ 462 (by decide +kernel) rfl, ⟨by decide +kernel, by decide +kernel, by decide +kernel⟩⟩
theorem lk_X0_108 : LkV RX0 108 yX0_endTurn cX0_endTurn 2 (some .int) 0 := ⟨mw_ 463 (by decide +kernel) rfl, mw_ 465 (by decide +kernel) rfl, mw_ 15 (by decide +kernel) rfl, mw_ 30 (by decide +kernel) rfl, mw_ 466 (by decide +kernel) rfl, ⟨by decide +kernel, by decide +kernel, by decide +kernel⟩⟩
theorem lk_X0_112 : LkV RX0 112 yX0_isOver cX0_isOver 1 (some .boolean) 0 := ⟨mw_ 369 (by decide +kernel) rfl, mw_ 370 (by decide +kernel) rfl, mw_ 371 (by decide +kernel) rfl, mw_ 30 (by decide +kernel) rfl, mw_ 372 (by decide +kernel) rfl, ⟨by decide +kernel, by decide +kernel, by decide +kernel⟩⟩
theorem lk_X0_116 : LkV RX0 116 yX0_stockSize cX0_stockSize 1 (some .int) 0 := ⟨mw_ 357 (by decide +kernel) rfl, mw_ 358 (by decide +kernel) rfl, mw_ 359 (by decide +kernel) rfl, mw_ 30 (by decide +kernel) rfl, mw_ 360 (by decide +kernel) rfl, ⟨by decide +kernel, by decide +kernel, by decide +kernel⟩⟩
theorem lk_X0_119 : LkV RX0 119 yX0_holdsPlace cX0_holdsPlace 3 (some .boolean) 2 := ⟨mw_ 447 (by decide +kernel) rfl, mw_ 448 (by decide +kernel) rfl, mw_ 449 (by decide +kernel) rfl, mw_ 30 (by decide +kernel) rfl, mw_ 450 (by decide +kernel) rfl, ⟨by decide +kernel, by decide +kernel, by decide +kernel⟩⟩
theorem lk_X0_123 : LkV RX0 123 yX0_fits cX0_fits 5 (some .boolean) 3 := ⟨mw_ 451 (by decide +kernel) rfl, mw_ 453 (by decide +kernel) rfl, mw_ 12 (by decide +kernel) rfl, mw_ 30 (by decide +kernel) rfl, mw_ 454 (by decide +kernel) rfl, ⟨by decide +kernel, by decide +kernel, by decide +kernel⟩⟩
theorem lk_X0_127 : LkV RX0 127 yX0_ageHand cX0_ageHand 5 none 1 := ⟨mw_ 467 (by decide +kernel) rfl, mw_ 469 (by decide +kernel) rfl, mw_ 16 (by decide +kernel) rfl, mw_ 30 (by decide +kernel) rfl, mw_ 470 (by decide +kernel) rfl, ⟨by decide +kernel, by decide +kernel, by decide +kernel⟩⟩
theorem lk_X0_130 : LkV RX0 130 yX0_rust cX0_rust 4 none 2 := ⟨mw_ 471 (by decide +kernel) rfl, mw_ 473 (by decide +kernel) rfl, mw_ 17 (by decide +kernel) rfl, mw_ 30 (by decide +kernel) rfl, mw_ 474 (by decide +kernel) rfl, ⟨by decide +kernel, by decide +kernel, by decide +kernel⟩⟩
theorem lk_X0_133 : LkV RX0 133 yX0_tallied cX0_tallied 4 (some .int) 1 := ⟨mw_ 361 (by decide +kernel) rfl, mw_ 363 (by decide +kernel) rfl, mw_ 7 (by decide +kernel) rfl, mw_ 30 (by decide +kernel) rfl, mw_ 364 (by decide +kernel) rfl, ⟨by decide +kernel, by decide +kernel, by decide +kernel⟩⟩
theorem lk_X0_136 : LkV RX0 136 yX0_winner cX0_winner 3 (some .int) 0 := ⟨mw_ 365 (by decide +kernel) rfl, mw_ 367 (by decide +kernel) rfl, mw_ 8 (by decide +kernel) rfl, mw_ 30 (by decide +kernel) rfl, mw_ 368 (by decide +kernel) rfl, ⟨by decide +kernel, by decide +kernel, by decide +kernel⟩⟩
theorem lk_X0_139 : LkV RX0 139 yX0_gradesHeld cX0_gradesHeld 5 (some .int) 1 := ⟨mw_ 377 (by decide +kernel) rfl, mw_ 379 (by decide +kernel) rfl, mw_ 10 (by decide +kernel) rfl, mw_ 30 (by decide +kernel) rfl, mw_ 380 (by decide +kernel) rfl, ⟨by decide +kernel, by decide +kernel, by decide +kernel⟩⟩
theorem lk_X0_142 : LkV RX0 142 yX0_sumOf cX0_sumOf 2 (some .int) 1 := ⟨mw_ 373 (by decide +kernel) rfl, mw_ 375 (by decide +kernel) rfl, mw_ 9 (by decide +kernel) rfl, mw_ 30 (by decide +kernel) rfl, mw_ 376 (by decide +kernel) rfl, ⟨by decide +kernel, by decide +kernel, by decide +kernel⟩⟩
theorem lk_X0_145 : LkV RX0 145 yX0_endsOpenTo cX0_endsOpenTo 6 (some .int) 1 := ⟨mw_ 568 (by decide +kernel) rfl, mw_ 570 (by decide +kernel) rfl, mw_ 21 (by decide +kernel) rfl, mw_ 30 (by decide +kernel) rfl, mw_ 571 (by decide +kernel) rfl, ⟨by decide +kernel, by decide +kernel, by decide +kernel⟩⟩
theorem lk_X0_148 : LkV RX0 148 yX0_gradesOf cX0_gradesOf 2 (some .int) 1 := ⟨mw_ 381 (by decide +kernel) rfl, mw_ 383 (by decide +kernel) rfl, mw_ 11 (by decide +kernel) rfl, mw_ 30 (by decide +kernel) rfl, mw_ 384 (by decide +kernel) rfl, ⟨by decide +kernel, by decide +kernel, by decide +kernel⟩⟩
theorem lk_X0_151 : LkV RX0 151 yX0_canLayAt cX0_canLayAt 6 (some .boolean) 3 := ⟨mw_ 572 (by decide +kernel) rfl, mw_ 574 (by decide +kernel) rfl, mw_ 22 (by decide +kernel) rfl, mw_ 30 (by decide +kernel) rfl, mw_ 575 (by decide +kernel) rfl, ⟨by decide +kernel, by decide +kernel, by decide +kernel⟩⟩
theorem lk_X0_154 : LkV RX0 154 yX0_fitsSomewhere cX0_fitsSomewhere 3 (some .boolean) 1 := ⟨mw_ 515 (by decide +kernel) rfl, mw_ 517 (by decide +kernel) rfl, mw_ 18 (by decide +kernel) rfl, mw_ 30 (by decide +kernel) rfl, mw_ 518 (by decide +kernel) rfl, ⟨by decide +kernel, by decide +kernel, by decide +kernel⟩⟩
theorem lk_X0_158 : LkV RX0 158 yX0_isBetter cX0_isBetter 5 (some .boolean) 2 := ⟨mw_ 519 (by decide +kernel) rfl, mw_ 521 (by decide +kernel) rfl, mw_ 19 (by decide +kernel) rfl, mw_ 30 (by decide +kernel) rfl, mw_ 522 (by decide +kernel) rfl, ⟨by decide +kernel, by decide +kernel, by decide +kernel⟩⟩
theorem fl_X1_11 : Cond.fieldLink RX1 11 "RustTiles$Past" "states" "[LRustTiles$Game;" ∈ TB := mw_ 162 (by decide +kernel) rfl
theorem fl_X1_17 : Cond.fieldLink RX1 17 "RustTiles$Past" "next" "I" ∈ TB := mw_ 163 (by decide +kernel) rfl
theorem lk_X1_21 : LkN RX1 21 "RustTiles" yX0_init cX0_init 1 0 := ⟨by decide +kernel, mw_ 56 (by decide +kernel) rfl, mw_ 30 (by decide +kernel) rfl, mw_ 57 (by decide +kernel) rfl, rfl, ⟨by decide +kernel, by decide +kernel, by decide +kernel⟩⟩
theorem lk_X1_22 : LkV RX1 22 yX0_become cX0_become 2 none 1 := ⟨mw_ 316 (by decide +kernel) rfl, mw_ 317 (by decide +kernel) rfl, mw_ 318 (by decide +kernel) rfl, mw_ 30 (by decide +kernel) rfl, mw_ 319 (by decide +kernel) rfl, ⟨by decide +kernel, by decide +kernel, by decide +kernel⟩⟩
theorem fl_X1_26 : Cond.fieldLink RX1 26 "RustTiles$Past" "size" "I" ∈ TB := mw_ 164 (by decide +kernel) rfl
theorem fl_X2_9 : Cond.fieldLink RX2 9 "RustTiles$Table" "columns" "I" ∈ TB := mw_ 68 (by decide +kernel) rfl
theorem fl_X2_21 : Cond.fieldLink RX2 21 "RustTiles$Table" "cells" "[I" ∈ TB := mw_ 69 (by decide +kernel) rfl
theorem lk_X2_25 : LkS RX2 25 yJ7_fill_53178 cJ7_fill_53178 4 none 2 := ⟨mw_ 181 (by decide +kernel) rfl, mw_ 182 (by decide +kernel) rfl, mw_ 36 (by decide +kernel) rfl, mw_ 183 (by decide +kernel) rfl, ⟨by decide +kernel, by decide +kernel, by decide +kernel⟩⟩
theorem fl_X3_9 : Cond.fieldLink RX3 9 "RustTiles$Text" "codes" "[C" ∈ TB := mw_ 147 (by decide +kernel) rfl
theorem lk_X4_11 : LkI RX4 11 yX2_init cX2_init 3 2 := ⟨mw_ 130 (by decide +kernel) rfl, mw_ 62 (by decide +kernel) rfl, mw_ 31 (by decide +kernel) rfl, mw_ 63 (by decide +kernel) rfl, rfl, ⟨by decide +kernel, by decide +kernel, by decide +kernel⟩⟩
theorem fl_X4_14 : Cond.fieldLink RX4 14 "RustTiles$Trains" "halves" "LRustTiles$Table;" ∈ TB := mw_ 131 (by decide +kernel) rfl
theorem fl_X4_20 : Cond.fieldLink RX4 20 "RustTiles$Trains" "open" "[I" ∈ TB := mw_ 132 (by decide +kernel) rfl
theorem fl_X4_24 : Cond.fieldLink RX4 24 "RustTiles$Trains" "size" "I" ∈ TB := mw_ 133 (by decide +kernel) rfl
theorem lk_X4_28 : LkV RX4 28 yX0_heldBy cX0_heldBy 2 (some .int) 1 := ⟨mw_ 618 (by decide +kernel) rfl, mw_ 217 (by decide +kernel) rfl, mw_ 218 (by decide +kernel) rfl, mw_ 30 (by decide +kernel) rfl, mw_ 219 (by decide +kernel) rfl, ⟨by decide +kernel, by decide +kernel, by decide +kernel⟩⟩
theorem fn_X4_34 : Cond.fieldLinkNest RX4 34 "RustTiles$Game" "hands" "LRustTiles$Table;" "RustTiles" ∈ NB := by decide +kernel
theorem lk_X4_37 : LkV RX4 37 yX2_at cX2_at 4 (some .int) 2 := ⟨mw_ 619 (by decide +kernel) rfl, mw_ 205 (by decide +kernel) rfl, mw_ 206 (by decide +kernel) rfl, mw_ 31 (by decide +kernel) rfl, mw_ 207 (by decide +kernel) rfl, ⟨by decide +kernel, by decide +kernel, by decide +kernel⟩⟩
theorem fn_X4_41 : Cond.fieldLinkNest RX4 41 "RustTiles$Game" "tiles" "LRustTiles$Table;" "RustTiles" ∈ NB := by decide +kernel
theorem lk_X4_44 : LkV RX4 44 yX2_put cX2_put 5 none 3 := ⟨mw_ 620 (by decide +kernel) rfl, mw_ 189 (by decide +kernel) rfl, mw_ 190 (by decide +kernel) rfl, mw_ 31 (by decide +kernel) rfl, mw_ 191 (by decide +kernel) rfl, ⟨by decide +kernel, by decide +kernel, by decide +kernel⟩⟩
theorem lk_X4_48 : LkV RX4 48 yX4_isTooLarge cX4_isTooLarge 1 (some .boolean) 0 := ⟨mw_ 625 (by decide +kernel) rfl, mw_ 627 (by decide +kernel) rfl, mw_ 23 (by decide +kernel) rfl, mw_ 33 (by decide +kernel) rfl, mw_ 628 (by decide +kernel) rfl, ⟨by decide +kernel, by decide +kernel, by decide +kernel⟩⟩
theorem lk_X4_52 : LkV RX4 52 yX4_goOnFrom cX4_goOnFrom 4 none 1 := ⟨mw_ 629 (by decide +kernel) rfl, mw_ 631 (by decide +kernel) rfl, mw_ 24 (by decide +kernel) rfl, mw_ 33 (by decide +kernel) rfl, mw_ 632 (by decide +kernel) rfl, ⟨by decide +kernel, by decide +kernel, by decide +kernel⟩⟩
theorem lk_X4_56 : LkV RX4 56 yX4_openBehind cX4_openBehind 6 (some .int) 2 := ⟨mw_ 633 (by decide +kernel) rfl, mw_ 635 (by decide +kernel) rfl, mw_ 25 (by decide +kernel) rfl, mw_ 33 (by decide +kernel) rfl, mw_ 636 (by decide +kernel) rfl, ⟨by decide +kernel, by decide +kernel, by decide +kernel⟩⟩
theorem lk_X4_59 : LkS RX4 59 yJ6_bitCount_0f7a4 cJ6_bitCount_0f7a4 1 (some .int) 1 := ⟨mw_ 641 (by decide +kernel) rfl, mw_ 642 (by decide +kernel) rfl, mw_ 44 (by decide +kernel) rfl, mw_ 643 (by decide +kernel) rfl, ⟨by decide +kernel, by decide +kernel, by decide +kernel⟩⟩
theorem lk_X4_69 : LkV RX4 69 yX4_hangsTogetherWith cX4_hangsTogetherWith 5 (some .boolean) 1 := ⟨mw_ 656 (by decide +kernel) rfl, mw_ 658 (by decide +kernel) rfl, mw_ 26 (by decide +kernel) rfl, mw_ 33 (by decide +kernel) rfl, mw_ 659 (by decide +kernel) rfl, ⟨by decide +kernel, by decide +kernel, by decide +kernel⟩⟩
theorem lk_X4_73 : LkV RX4 73 yX4_oddGradesAllow cX4_oddGradesAllow 4 (some .boolean) 1 := ⟨mw_ 660 (by decide +kernel) rfl, mw_ 662 (by decide +kernel) rfl, mw_ 27 (by decide +kernel) rfl, mw_ 33 (by decide +kernel) rfl, mw_ 663 (by decide +kernel) rfl, ⟨by decide +kernel, by decide +kernel, by decide +kernel⟩⟩
theorem lk_L_8 : LkV RL 8 yX5_begin cX5_begin 3 (some .int) 2 := ⟨mw_ 400 (by decide +kernel) rfl, mw_ 401 (by decide +kernel) rfl, mw_ 402 (by decide +kernel) rfl, mw_ 29 (by decide +kernel) rfl, mw_ 403 (by decide +kernel) rfl, ⟨by decide +kernel, by decide +kernel, by decide +kernel⟩⟩
theorem lk_L_14 : LkV RL 14 yX5_lay cX5_lay 4 (some .int) 3 := ⟨mw_ 412 (by decide +kernel) rfl, mw_ 413 (by decide +kernel) rfl, mw_ 414 (by decide +kernel) rfl, mw_ 29 (by decide +kernel) rfl, mw_ 415 (by decide +kernel) rfl, ⟨by decide +kernel, by decide +kernel, by decide +kernel⟩⟩
theorem lk_L_18 : LkV RL 18 yX5_oil cX5_oil 2 (some .int) 1 := ⟨mw_ 475 (by decide +kernel) rfl, mw_ 476 (by decide +kernel) rfl, mw_ 477 (by decide +kernel) rfl, mw_ 29 (by decide +kernel) rfl, mw_ 478 (by decide +kernel) rfl, ⟨by decide +kernel, by decide +kernel, by decide +kernel⟩⟩
theorem lk_L_22 : LkV RL 22 yX5_set cX5_set 3 (some .int) 1 := ⟨mw_ 486 (by decide +kernel) rfl, mw_ 487 (by decide +kernel) rfl, mw_ 488 (by decide +kernel) rfl, mw_ 29 (by decide +kernel) rfl, mw_ 489 (by decide +kernel) rfl, ⟨by decide +kernel, by decide +kernel, by decide +kernel⟩⟩
theorem lk_L_38 : LkV RL 38 yX5_draw cX5_draw 1 (some .int) 0 := ⟨mw_ 491 (by decide +kernel) rfl, mw_ 492 (by decide +kernel) rfl, mw_ 493 (by decide +kernel) rfl, mw_ 29 (by decide +kernel) rfl, mw_ 494 (by decide +kernel) rfl, ⟨by decide +kernel, by decide +kernel, by decide +kernel⟩⟩
theorem lk_L_42 : LkV RL 42 yX5_pass cX5_pass 1 (some .int) 0 := ⟨mw_ 499 (by decide +kernel) rfl, mw_ 500 (by decide +kernel) rfl, mw_ 501 (by decide +kernel) rfl, mw_ 29 (by decide +kernel) rfl, mw_ 502 (by decide +kernel) rfl, ⟨by decide +kernel, by decide +kernel, by decide +kernel⟩⟩
theorem lk_L_45 : LkV RL 45 yX5_advice cX5_advice 1 (some .int) 0 := ⟨mw_ 507 (by decide +kernel) rfl, mw_ 508 (by decide +kernel) rfl, mw_ 509 (by decide +kernel) rfl, mw_ 29 (by decide +kernel) rfl, mw_ 510 (by decide +kernel) rfl, ⟨by decide +kernel, by decide +kernel, by decide +kernel⟩⟩
theorem lk_L_48 : LkV RL 48 yX5_setting cX5_setting 1 (some .int) 0 := ⟨mw_ 526 (by decide +kernel) rfl, mw_ 527 (by decide +kernel) rfl, mw_ 528 (by decide +kernel) rfl, mw_ 29 (by decide +kernel) rfl, mw_ 529 (by decide +kernel) rfl, ⟨by decide +kernel, by decide +kernel, by decide +kernel⟩⟩
theorem lk_L_51 : LkV RL 51 yX5_count cX5_count 2 (some .int) 1 := ⟨mw_ 330 (by decide +kernel) rfl, mw_ 331 (by decide +kernel) rfl, mw_ 332 (by decide +kernel) rfl, mw_ 29 (by decide +kernel) rfl, mw_ 333 (by decide +kernel) rfl, ⟨by decide +kernel, by decide +kernel, by decide +kernel⟩⟩
theorem lk_L_54 : LkV RL 54 yX5_tileOf cX5_tileOf 3 (some .int) 2 := ⟨mw_ 530 (by decide +kernel) rfl, mw_ 531 (by decide +kernel) rfl, mw_ 532 (by decide +kernel) rfl, mw_ 29 (by decide +kernel) rfl, mw_ 533 (by decide +kernel) rfl, ⟨by decide +kernel, by decide +kernel, by decide +kernel⟩⟩
theorem lk_L_57 : LkV RL 57 yX5_hand cX5_hand 3 (some .int) 2 := ⟨mw_ 536 (by decide +kernel) rfl, mw_ 537 (by decide +kernel) rfl, mw_ 538 (by decide +kernel) rfl, mw_ 29 (by decide +kernel) rfl, mw_ 539 (by decide +kernel) rfl, ⟨by decide +kernel, by decide +kernel, by decide +kernel⟩⟩
theorem lk_L_60 : LkV RL 60 yX5_rowOf cX5_rowOf 3 (some .int) 2 := ⟨mw_ 553 (by decide +kernel) rfl, mw_ 554 (by decide +kernel) rfl, mw_ 555 (by decide +kernel) rfl, mw_ 29 (by decide +kernel) rfl, mw_ 556 (by decide +kernel) rfl, ⟨by decide +kernel, by decide +kernel, by decide +kernel⟩⟩
theorem lk_L_63 : LkV RL 63 yX5_playerOf cX5_playerOf 3 (some .int) 2 := ⟨mw_ 560 (by decide +kernel) rfl, mw_ 561 (by decide +kernel) rfl, mw_ 562 (by decide +kernel) rfl, mw_ 29 (by decide +kernel) rfl, mw_ 563 (by decide +kernel) rfl, ⟨by decide +kernel, by decide +kernel, by decide +kernel⟩⟩
theorem lk_L_66 : LkV RL 66 yX5_stock cX5_stock 2 (some .int) 1 := ⟨mw_ 576 (by decide +kernel) rfl, mw_ 577 (by decide +kernel) rfl, mw_ 578 (by decide +kernel) rfl, mw_ 29 (by decide +kernel) rfl, mw_ 579 (by decide +kernel) rfl, ⟨by decide +kernel, by decide +kernel, by decide +kernel⟩⟩
theorem lk_L_70 : LkV RL 70 yX5_rustShare cX5_rustShare 1 (some .double) 0 := ⟨mw_ 585 (by decide +kernel) rfl, mw_ 586 (by decide +kernel) rfl, mw_ 587 (by decide +kernel) rfl, mw_ 29 (by decide +kernel) rfl, mw_ 588 (by decide +kernel) rfl, ⟨by decide +kernel, by decide +kernel, by decide +kernel⟩⟩
theorem lk_L_76 : LkV RL 76 yX5_whyNot cX5_whyNot 4 (some .int) 3 := ⟨mw_ 598 (by decide +kernel) rfl, mw_ 599 (by decide +kernel) rfl, mw_ 600 (by decide +kernel) rfl, mw_ 29 (by decide +kernel) rfl, mw_ 601 (by decide +kernel) rfl, ⟨by decide +kernel, by decide +kernel, by decide +kernel⟩⟩
theorem lk_L_79 : LkV RL 79 yX5_longest cX5_longest 3 (some .int) 2 := ⟨mw_ 606 (by decide +kernel) rfl, mw_ 607 (by decide +kernel) rfl, mw_ 608 (by decide +kernel) rfl, mw_ 29 (by decide +kernel) rfl, mw_ 609 (by decide +kernel) rfl, ⟨by decide +kernel, by decide +kernel, by decide +kernel⟩⟩
theorem lk_L_82 : LkV RL 82 yX5_whole cX5_whole 4 (some .int) 3 := ⟨mw_ 648 (by decide +kernel) rfl, mw_ 649 (by decide +kernel) rfl, mw_ 650 (by decide +kernel) rfl, mw_ 29 (by decide +kernel) rfl, mw_ 651 (by decide +kernel) rfl, ⟨by decide +kernel, by decide +kernel, by decide +kernel⟩⟩
theorem lk_L_85 : LkI RL 85 yX5_init cX5_init 1 0 := ⟨mw_ 47 (by decide +kernel) rfl, mw_ 48 (by decide +kernel) rfl, mw_ 29 (by decide +kernel) rfl, mw_ 49 (by decide +kernel) rfl, rfl, ⟨by decide +kernel, by decide +kernel, by decide +kernel⟩⟩
theorem lk_L_98 : LkV RL 98 yX5_undo cX5_undo 1 (some .int) 0 := ⟨mw_ 240 (by decide +kernel) rfl, mw_ 241 (by decide +kernel) rfl, mw_ 242 (by decide +kernel) rfl, mw_ 29 (by decide +kernel) rfl, mw_ 243 (by decide +kernel) rfl, ⟨by decide +kernel, by decide +kernel, by decide +kernel⟩⟩
theorem cl_L_9 : Cond.classLink RL 9 RX5 ∈ TB := mw_ 45 (by decide +kernel) rfl
theorem iz_X5 : Cond.instantiable RX5 5 ∈ TB := mw_ 46 (by decide +kernel) rfl
theorem ii_X5 : Cond.initialized RX5 ∈ TB := mw_ 29 (by decide +kernel) rfl
theorem ac_int : Cond.arrayClass .int ∈ TB := mw_ 75 (by decide +kernel) rfl
theorem cl_X5_7 : Cond.classLink RX5 7 RX0 ∈ TB := mw_ 53 (by decide +kernel) rfl
theorem iz_X0 : Cond.instantiable RX0 13 ∈ TB := mw_ 54 (by decide +kernel) rfl
theorem ii_X0 : Cond.initialized RX0 ∈ TB := mw_ 30 (by decide +kernel) rfl
theorem cl_X5_16 : Cond.classLink RX5 16 RX4 ∈ TB := mw_ 123 (by decide +kernel) rfl
theorem iz_X4 : Cond.instantiable RX4 3 ∈ TB := mw_ 124 (by decide +kernel) rfl
theorem ii_X4 : Cond.initialized RX4 ∈ TB := mw_ 33 (by decide +kernel) rfl
theorem cl_X5_23 : Cond.classLink RX5 23 RX3 ∈ TB := mw_ 141 (by decide +kernel) rfl
theorem iz_X3 : Cond.instantiable RX3 2 ∈ TB := mw_ 142 (by decide +kernel) rfl
theorem ii_X3 : Cond.initialized RX3 ∈ TB := mw_ 34 (by decide +kernel) rfl
theorem cl_X5_30 : Cond.classLink RX5 30 RX1 ∈ TB := mw_ 154 (by decide +kernel) rfl
theorem iz_X1 : Cond.instantiable RX1 3 ∈ TB := mw_ 155 (by decide +kernel) rfl
theorem ii_X1 : Cond.initialized RX1 ∈ TB := mw_ 35 (by decide +kernel) rfl
theorem cl_X0_9 : Cond.classLink RX0 9 RX2 ∈ TB := mw_ 59 (by decide +kernel) rfl
theorem iz_X2 : Cond.instantiable RX2 2 ∈ TB := mw_ 60 (by decide +kernel) rfl
theorem ii_X2 : Cond.initialized RX2 ∈ TB := mw_ 31 (by decide +kernel) rfl
theorem cl_X4_9 : Cond.classLink RX4 9 RX2 ∈ TB := mw_ 129 (by decide +kernel) rfl
theorem ac_char : Cond.arrayClass .char ∈ TB := mw_ 153 (by decide +kernel) rfl
theorem cl_X1_9 : Cond.classLink RX1 9 RX0 ∈ TB := mw_ 160 (by decide +kernel) rfl
theorem ii_J7 : Cond.initialized RJ7 ∈ TB := mw_ 36 (by decide +kernel) rfl
theorem ii_L : Cond.initialized RL ∈ TB := mw_ 28 (by decide +kernel) rfl
theorem cl_X5_45 : Cond.classLink RX5 45 "java/lang/IllegalArgumentException" ∈ TB := mw_ 337 (by decide +kernel) rfl
theorem kc_L_7 : Cond.constant RL 7 (2147483647) ∈ TB := mw_ 391 (by decide +kernel) rfl
theorem cl_L_25 : Cond.classLink RL 25 "java/lang/IndexOutOfBoundsException" ∈ TB := mw_ 398 (by decide +kernel) rfl
theorem cl_L_27 : Cond.classLink RL 27 "java/lang/IllegalArgumentException" ∈ TB := mw_ 399 (by decide +kernel) rfl
theorem cl_X5_89 : Cond.classLink RX5 89 "java/lang/IndexOutOfBoundsException" ∈ TB := mw_ 419 (by decide +kernel) rfl
theorem cl_X5_108 : Cond.classLink RX5 108 "java/lang/IllegalStateException" ∈ TB := mw_ 244 (by decide +kernel) rfl
theorem kc_L_69 : Cond.constant RL 69 (268435455) ∈ TB := mw_ 584 (by decide +kernel) rfl
theorem kd_L_74 : Cond.constantDouble RL 74 (4640114991075164160) ∈ TB := mw_ 594 (by decide +kernel) rfl
theorem kd_X0_164 : Cond.constantDouble RX0 164 (4640114991075164160) ∈ TB := mw_ 593 (by decide +kernel) rfl
theorem ii_J6 : Cond.initialized RJ6 ∈ TB := mw_ 44 (by decide +kernel) rfl
theorem kc_J6_265 : Cond.constant RJ6 265 (1431655765) ∈ TB := mw_ 644 (by decide +kernel) rfl
theorem kc_J6_266 : Cond.constant RJ6 266 (858993459) ∈ TB := mw_ 645 (by decide +kernel) rfl
theorem kc_J6_267 : Cond.constant RJ6 267 (252645135) ∈ TB := mw_ 646 (by decide +kernel) rfl
theorem jl_X5_1 : Cond.methodLink RX5 1 objectInit ∈ TB := mw_ 50 (by decide +kernel) rfl
theorem jl_X0_3 : Cond.methodLink RX0 3 objectInit ∈ TB := mw_ 58 (by decide +kernel) rfl
theorem jl_X2_3 : Cond.methodLink RX2 3 objectInit ∈ TB := mw_ 64 (by decide +kernel) rfl
theorem jl_X2_15 : Cond.methodLink RX2 15 Lib.Math.max.name ∈ TB := mw_ 65 (by decide +kernel) rfl
theorem jl_X4_3 : Cond.methodLink RX4 3 objectInit ∈ TB := mw_ 128 (by decide +kernel) rfl
theorem jl_X3_3 : Cond.methodLink RX3 3 objectInit ∈ TB := mw_ 146 (by decide +kernel) rfl
theorem jl_X1_3 : Cond.methodLink RX1 3 objectInit ∈ TB := mw_ 159 (by decide +kernel) rfl
theorem jl_X2_25 : Cond.methodLink RX2 25 yJ7_fill_53178 ∈ TB := mw_ 181 (by decide +kernel) rfl
theorem jl_X1_29 : Cond.methodLink RX1 29 Lib.Math.min.name ∈ TB := mw_ 410 (by decide +kernel) rfl
theorem jl_X2_31 : Cond.methodLink RX2 31 Lib.Math.min.name ∈ TB := mw_ 324 (by decide +kernel) rfl
theorem jl_X2_34 : Cond.methodLink RX2 34 arraycopyName ∈ TB := mw_ 327 (by decide +kernel) rfl
theorem jl_X4_64 : Cond.methodLink RX4 64 Lib.Math.max.name ∈ TB := mw_ 647 (by decide +kernel) rfl
theorem jl_X4_59 : Cond.methodLink RX4 59 yJ6_bitCount_0f7a4 ∈ TB := mw_ 641 (by decide +kernel) rfl
theorem oi_inst : Cond.instanceMethod objectInit ∈ TB := mw_ 51 (by decide +kernel) rfl
theorem oi_code : Cond.code objectInit ⟨#[0xb1]⟩ 1 none ∈ TB := mw_ 52 (by decide +kernel) rfl
theorem mx_st : Cond.static Lib.Math.max.name ∈ TB := mw_ 66 (by decide +kernel) rfl
theorem mn_st : Cond.static Lib.Math.min.name ∈ TB := mw_ 325 (by decide +kernel) rfl
theorem ma_ii : Cond.initialized "java/lang/Math" ∈ TB := mw_ 32 (by decide +kernel) rfl
theorem mx_code : Cond.code Lib.Math.max.name Lib.Math.max.code 2 (some .int) ∈ TB := mw_ 67 (by decide +kernel) rfl
theorem mn_code : Cond.code Lib.Math.min.name Lib.Math.min.code 2 (some .int) ∈ TB := mw_ 326 (by decide +kernel) rfl
theorem sc_nat : Cond.native arraycopyName ∈ TB := mw_ 329 (by decide +kernel) rfl
theorem sc_st : Cond.static arraycopyName ∈ TB := mw_ 328 (by decide +kernel) rfl
theorem sc_ii : Cond.initialized "java/lang/System" ∈ TB := mw_ 41 (by decide +kernel) rfl
end
section
/-! LINKS of the law to its own methods -/
set_option maxRecDepth 100000 in
theorem lk_L_29 : LkS RL 29 yL_low cL_low 2 (some .int) 2 := ⟨mw_ 388 (by decide +kernel) rfl, mw_ 389 (by decide +kernel) rfl, mw_ 28 (by decide +kernel) rfl, mw_ 390 rfl rfl, ⟨by decide +kernel, by decide +kernel, by decide +kernel⟩⟩
set_option maxRecDepth 100000 in
theorem lk_L_86 : LkS RL 86 yL_cell cL_cell 2 (some .int) 2 := ⟨mw_ 385 (by decide +kernel) rfl, mw_ 386 (by decide +kernel) rfl, mw_ 28 (by decide +kernel) rfl, mw_ 387 rfl rfl, ⟨by decide +kernel, by decide +kernel, by decide +kernel⟩⟩
set_option maxRecDepth 100000 in
theorem lk_L_90 : LkS RL 90 yL_act cL_act 8 (some .int) 3 := ⟨mw_ 392 (by decide +kernel) rfl, mw_ 393 (by decide +kernel) rfl, mw_ 28 (by decide +kernel) rfl, mw_ 394 rfl rfl, ⟨by decide +kernel, by decide +kernel, by decide +kernel⟩⟩
set_option maxRecDepth 100000 in
theorem lk_L_94 : LkS RL 94 yL_areAlike cL_areAlike 4 (some .boolean) 2 := ⟨mw_ 523 (by decide +kernel) rfl, mw_ 524 (by decide +kernel) rfl, mw_ 28 (by decide +kernel) rfl, mw_ 525 rfl rfl, ⟨by decide +kernel, by decide +kernel, by decide +kernel⟩⟩
set_option maxRecDepth 100000 in
theorem lk_L_101 : LkS RL 101 yL_areSums cL_areSums 9 (some .boolean) 1 := ⟨mw_ 557 (by decide +kernel) rfl, mw_ 558 (by decide +kernel) rfl, mw_ 28 (by decide +kernel) rfl, mw_ 559 rfl rfl, ⟨by decide +kernel, by decide +kernel, by decide +kernel⟩⟩
set_option maxRecDepth 100000 in
theorem lk_L_105 : LkS RL 105 yL_isMoveSo cL_isMoveSo 12 (some .boolean) 1 := ⟨mw_ 595 (by decide +kernel) rfl, mw_ 596 (by decide +kernel) rfl, mw_ 28 (by decide +kernel) rfl, mw_ 597 rfl rfl, ⟨by decide +kernel, by decide +kernel, by decide +kernel⟩⟩
set_option maxRecDepth 100000 in
theorem lk_L_108 : LkS RL 108 yL_areTrainsSo cL_areTrainsSo 9 (some .boolean) 2 := ⟨mw_ 603 (by decide +kernel) rfl, mw_ 604 (by decide +kernel) rfl, mw_ 28 (by decide +kernel) rfl, mw_ 605 rfl rfl, ⟨by decide +kernel, by decide +kernel, by decide +kernel⟩⟩
end
section
theorem i32_nlt {a b : Int32} (h : b ≤ a) : ¬ a < b := Int32.not_lt.mpr h
theorem i32_lt {a b : Int32} (h : ¬ b ≤ a) : a < b := Int32.not_le.mp h
theorem i32_nle {a b : Int32} (h : b < a) : ¬ a ≤ b := Int32.not_le.mpr h
theorem i32_le {a b : Int32} (h : ¬ b < a) : a ≤ b := Int32.not_lt.mp h
theorem fb_rng_ (x : Int32) : -2147483648 ≤ x.toInt ∧ x.toInt < 2147483648 := ⟨Int32.le_toInt x, Int32.toInt_lt x⟩
/-! TABLES: a Table at t (columns co, cells at a, n cells f): at, put, increase, clear, become, mixInto. -/
def tIx (co r q : Int32) : Int32 := r * co + q
def tAt (co : Int32) (n : Nat) (f : Nat → Int32) (r q : Int32) : Int32 := if r * co + q < 0 then -1 else if nI n ≤ r * co + q then -1 else f (r * co + q).toNatClampNeg
def tPut (co : Int32) (n : Nat) (f : Nat → Int32) (r q v : Int32) : Nat → Int32 := if r * co + q < 0 then f else if nI n ≤ r * co + q then f else upd f (r * co + q).toNatClampNeg v
def tInc (co : Int32) (n : Nat) (f : Nat → Int32) (r q v : Int32) : Nat → Int32 := if r * co + q < 0 then f else if nI n ≤ r * co + q then f else upd f (r * co + q).toNatClampNeg (f (r * co + q).toNatClampNeg + v)
theorem vp_of {i : Int32} {n : Nat} (hn : n < 2147483648) (h0 : ¬ i < 0) (h1 : ¬ nI n ≤ i) : vp_in i n := by
  rcases pk_ix i (n := n) hn with c | c | ⟨j, hj, rfl⟩
  · exact absurd c h0
  · exact absurd c h1
  · exact vp_in_nI hj hn
theorem up_id {h : HP} {a : Nat} {e : va_E} (he : h a = some e) : up_ h a e = h := by
  funext q
  by_cases c : q = a
  · rw [c, up_s, he]
  · rw [up_n c]
theorem vp0_ (n : Nat) (x : Int32) : x.toNatClampNeg = x.toNatClampNeg := rfl

set_option maxHeartbeats 800000 in
set_option maxRecDepth 100000 in
theorem c_X2_at {G : ga_} {l : Launch} {h : HP} {sz : Nat} {t a n : Nat} {co r q : Int32} {f : Nat → Int32} (hT : h t = some (ob_ 2 [.int co, .ref a])) (hA : h a = some (aI_ G n f)) (hn : n < 2147483648) : Mf G l yX2_at cX2_at 4 (some .int) 0 0 0 0 [.ref t, .int r, .int q] h sz (some (.int (tAt co n f r q))) h sz := by
  refine Mg.ofV [(0, .ref t), (1, .int r), (2, .int q)] (by decide) (Nat.le_of_ble_eq_true rfl) rfl ?_
  intro p e s m args below meth c C

  refine r_iload_n C dX2_at_0 rfl rfl ?_
  refine r_aload_n C dX2_at_1 rfl rfl ?_
  refine r_get C (j := 0) rfl in_X2 (hT) (by decide) fl_X2_9 rfl rfl dX2_at_2 ?_
  refine r_imul C dX2_at_5 ?_
  refine r_iload_n C dX2_at_6 rfl rfl ?_
  refine r_iadd C dX2_at_7 ?_
  refine r_istore_n C dX2_at_8 rfl (by decide) ?_
  refine r_iload_n C dX2_at_9 rfl rfl ?_
  refine r_if_lt C 31 dX2_at_10 (by decide) (fun c_10 => ?_) (fun c_10 => ?_)
  · have e_10 := i32_nle c_10
    refine r_iconst C (v := -1) dX2_at_31 rfl ?_
    exact r_iret C rfl (Nat.le_of_ble_eq_true rfl) (Nat.le_of_ble_eq_true rfl) ⟨by simp [tAt, c_10], rfl, rfl⟩ dX2_at_32
  · have e_10 := i32_le c_10
    refine r_iload_n C dX2_at_13 rfl rfl ?_
    refine r_aload_n C dX2_at_14 rfl rfl ?_
    refine r_get C (j := 1) rfl in_X2 (hT) (by decide) fl_X2_21 rfl rfl dX2_at_15 ?_
    refine r_alenI C (hA) dX2_at_18 ?_
    refine r_icmp_ge C 31 dX2_at_19 (by decide) (fun c_19 => ?_) (fun c_19 => ?_)
    · have e_19 := i32_nlt c_19
      refine r_iconst C (v := -1) dX2_at_31 rfl ?_
      exact r_iret C rfl (Nat.le_of_ble_eq_true rfl) (Nat.le_of_ble_eq_true rfl) ⟨by simp [tAt, c_10, c_19], rfl, rfl⟩ dX2_at_32
    · have e_19 := i32_lt c_19
      refine r_aload_n C dX2_at_22 rfl rfl ?_
      refine r_get C (j := 1) rfl in_X2 (hT) (by decide) fl_X2_21 rfl rfl dX2_at_23 ?_
      refine r_iload_n C dX2_at_26 rfl rfl ?_
      refine r_iald C (hA) (vp_of hn c_10 c_19) dX2_at_27 ?_
      refine r_goto C 32 dX2_at_28 (by decide) ?_
      exact r_iret C rfl (Nat.le_of_ble_eq_true rfl) (Nat.le_of_ble_eq_true rfl) ⟨by simp [tAt, c_10, c_19], rfl, rfl⟩ dX2_at_32
set_option maxHeartbeats 800000 in
set_option maxRecDepth 100000 in
theorem c_X2_put {G : ga_} {l : Launch} {h : HP} {sz : Nat} {t a n : Nat} {co r q v : Int32} {f : Nat → Int32} (hT : h t = some (ob_ 2 [.int co, .ref a])) (hA : h a = some (aI_ G n f)) (hn : n < 2147483648) : Mf G l yX2_put cX2_put 5 none 0 0 0 0 [.ref t, .int r, .int q, .int v] h sz none (up_ h a (aI_ G n (tPut co n f r q v))) sz := by
  refine Mg.ofV [(0, .ref t), (1, .int r), (2, .int q), (3, .int v)] (by decide) (Nat.le_of_ble_eq_true rfl) rfl ?_
  intro p e s m args below meth c C

  refine r_iload_n C dX2_put_0 rfl rfl ?_
  refine r_aload_n C dX2_put_1 rfl rfl ?_
  refine r_get C (j := 0) rfl in_X2 (hT) (by decide) fl_X2_9 rfl rfl dX2_put_2 ?_
  refine r_imul C dX2_put_5 ?_
  refine r_iload_n C dX2_put_6 rfl rfl ?_
  refine r_iadd C dX2_put_7 ?_
  refine r_istore C dX2_put_8 (by decide) ?_
  refine r_iload C dX2_put_10 rfl ?_
  refine r_if_lt C 33 dX2_put_12 (by decide) (fun c_12 => ?_) (fun c_12 => ?_)
  · have e_12 := i32_nle c_12
    exact r_vret C rfl (Nat.le_of_ble_eq_true rfl) (Nat.le_of_ble_eq_true rfl) ⟨rfl, by rw [show tPut co n f r q v = f by simp [tPut, c_12]]; exact (up_id hA).symm, rfl⟩ dX2_put_33
  · have e_12 := i32_le c_12
    refine r_iload C dX2_put_15 rfl ?_
    refine r_aload_n C dX2_put_17 rfl rfl ?_
    refine r_get C (j := 1) rfl in_X2 (hT) (by decide) fl_X2_21 rfl rfl dX2_put_18 ?_
    refine r_alenI C (hA) dX2_put_21 ?_
    refine r_icmp_ge C 33 dX2_put_22 (by decide) (fun c_22 => ?_) (fun c_22 => ?_)
    · have e_22 := i32_nlt c_22
      exact r_vret C rfl (Nat.le_of_ble_eq_true rfl) (Nat.le_of_ble_eq_true rfl) ⟨rfl, by rw [show tPut co n f r q v = f by simp [tPut, c_12, c_22]]; exact (up_id hA).symm, rfl⟩ dX2_put_33
    · have e_22 := i32_lt c_22
      refine r_aload_n C dX2_put_25 rfl rfl ?_
      refine r_get C (j := 1) rfl in_X2 (hT) (by decide) fl_X2_21 rfl rfl dX2_put_26 ?_
      refine r_iload C dX2_put_29 rfl ?_
      refine r_iload_n C dX2_put_31 rfl rfl ?_
      refine r_iast C (hA) (vp_of hn c_12 c_22) dX2_put_32 ?_
      exact r_vret C rfl (Nat.le_of_ble_eq_true rfl) (Nat.le_of_ble_eq_true rfl) ⟨rfl, by simp [tPut, c_12, c_22], rfl⟩ dX2_put_33
set_option maxHeartbeats 800000 in
set_option maxRecDepth 100000 in
theorem c_X2_increase {G : ga_} {l : Launch} {h : HP} {sz : Nat} {t a n : Nat} {co r q v : Int32} {f : Nat → Int32} (hT : h t = some (ob_ 2 [.int co, .ref a])) (hA : h a = some (aI_ G n f)) (hn : n < 2147483648) : Mf G l yX2_increase cX2_increase 5 none 0 0 0 0 [.ref t, .int r, .int q, .int v] h sz none (up_ h a (aI_ G n (tInc co n f r q v))) sz := by
  refine Mg.ofV [(0, .ref t), (1, .int r), (2, .int q), (3, .int v)] (by decide) (Nat.le_of_ble_eq_true rfl) rfl ?_
  intro p e s m args below meth c C

  refine r_iload_n C dX2_increase_0 rfl rfl ?_
  refine r_aload_n C dX2_increase_1 rfl rfl ?_
  refine r_get C (j := 0) rfl in_X2 (hT) (by decide) fl_X2_9 rfl rfl dX2_increase_2 ?_
  refine r_imul C dX2_increase_5 ?_
  refine r_iload_n C dX2_increase_6 rfl rfl ?_
  refine r_iadd C dX2_increase_7 ?_
  refine r_istore C dX2_increase_8 (by decide) ?_
  refine r_iload C dX2_increase_10 rfl ?_
  refine r_if_lt C 36 dX2_increase_12 (by decide) (fun c_12 => ?_) (fun c_12 => ?_)
  · have e_12 := i32_nle c_12
    exact r_vret C rfl (Nat.le_of_ble_eq_true rfl) (Nat.le_of_ble_eq_true rfl) ⟨rfl, by rw [show tInc co n f r q v = f by simp [tInc, c_12]]; exact (up_id hA).symm, rfl⟩ dX2_increase_36
  · have e_12 := i32_le c_12
    refine r_iload C dX2_increase_15 rfl ?_
    refine r_aload_n C dX2_increase_17 rfl rfl ?_
    refine r_get C (j := 1) rfl in_X2 (hT) (by decide) fl_X2_21 rfl rfl dX2_increase_18 ?_
    refine r_alenI C (hA) dX2_increase_21 ?_
    refine r_icmp_ge C 36 dX2_increase_22 (by decide) (fun c_22 => ?_) (fun c_22 => ?_)
    · have e_22 := i32_nlt c_22
      exact r_vret C rfl (Nat.le_of_ble_eq_true rfl) (Nat.le_of_ble_eq_true rfl) ⟨rfl, by rw [show tInc co n f r q v = f by simp [tInc, c_12, c_22]]; exact (up_id hA).symm, rfl⟩ dX2_increase_36
    · have e_22 := i32_lt c_22
      refine r_aload_n C dX2_increase_25 rfl rfl ?_
      refine r_get C (j := 1) rfl in_X2 (hT) (by decide) fl_X2_21 rfl rfl dX2_increase_26 ?_
      refine r_iload C dX2_increase_29 rfl ?_
      refine r_dup2 C dX2_increase_31 rfl rfl ?_
      refine r_iald C (hA) (vp_of hn c_12 c_22) dX2_increase_32 ?_
      refine r_iload_n C dX2_increase_33 rfl rfl ?_
      refine r_iadd C dX2_increase_34 ?_
      refine r_iast C (hA) (vp_of hn c_12 c_22) dX2_increase_35 ?_
      exact r_vret C rfl (Nat.le_of_ble_eq_true rfl) (Nat.le_of_ble_eq_true rfl) ⟨rfl, by simp [tInc, c_12, c_22], rfl⟩ dX2_increase_36
set_option maxHeartbeats 800000 in
set_option maxRecDepth 100000 in
theorem c_X2_become {G : ga_} {l : Launch} {h : HP} {sz : Nat} {t a n t2 a2 : Nat} {co co2 : Int32} {f f2 : Nat → Int32} (hT : h t = some (ob_ 2 [.int co, .ref a])) (hA : h a = some (aI_ G n f)) (hT2 : h t2 = some (ob_ 2 [.int co2, .ref a2])) (hA2 : h a2 = some (aI_ G n f2)) (hn : n < 2147483648) : Mf G l yX2_become cX2_become 2 none 1 30 0 0 [.ref t, .ref t2] h sz none (up_ h a (aI_ G n (va_cpy f2 f 0 0 n))) sz := by
  refine Mg.ofV [(0, .ref t), (1, .ref t2)] (by decide) (Nat.le_of_ble_eq_true rfl) rfl ?_
  intro p e s m args below meth c C

  have hm : (if nI n < nI n then nI n else nI n) = nI n := by split <;> rfl
  refine r_aload_n C dX2_become_0 rfl rfl ?_
  refine r_ifnull C dX2_become_1 ?_
  refine r_aload_n C dX2_become_4 rfl rfl ?_
  refine r_get C (j := 1) rfl in_X2 (hT2) (by decide) fl_X2_21 rfl rfl dX2_become_5 ?_
  refine r_iconst C (v := 0) dX2_become_8 rfl ?_
  refine r_aload_n C dX2_become_9 rfl rfl ?_
  refine r_get C (j := 1) rfl in_X2 (hT) (by decide) fl_X2_21 rfl rfl dX2_become_10 ?_
  refine r_iconst C (v := 0) dX2_become_13 rfl ?_
  refine r_aload_n C dX2_become_14 rfl rfl ?_
  refine r_get C (j := 1) rfl in_X2 (hT2) (by decide) fl_X2_21 rfl rfl dX2_become_15 ?_
  refine r_alenI C (hA2) dX2_become_18 ?_
  refine r_aload_n C dX2_become_19 rfl rfl ?_
  refine r_get C (j := 1) rfl in_X2 (hT) (by decide) fl_X2_21 rfl rfl dX2_become_20 ?_
  refine r_alenI C (hA) dX2_become_23 ?_
  refine r_mmin C jl_X2_31 mn_st ma_ii mn_code (Nat.le_of_ble_eq_true rfl) (Nat.le_of_ble_eq_true rfl) (Nat.le_of_ble_eq_true rfl) (Nat.le_of_ble_eq_true rfl) dX2_become_24 ?_
  rw [hm]
  refine r_acopy C jl_X2_34 sc_nat sc_st sc_ii hA2 hA (nI_pos hn) (by rw [nI_clamp hn]; exact Nat.le_refl _) (by rw [nI_clamp hn]; exact Nat.le_refl _) (Nat.le_of_ble_eq_true rfl) (Nat.le_of_ble_eq_true rfl) dX2_become_27 ?_
  exact r_vret C rfl (Nat.le_of_ble_eq_true rfl) (Nat.le_of_ble_eq_true rfl) ⟨rfl, by rw [nI_clamp hn], rfl⟩ dX2_become_30
def mixF (f : Nat → Int32) (x : Int64) : Nat → Int64
  | 0 => x
  | i + 1 => 31 * mixF f x i + (f i).toInt64
/-- at the end of a loop that counts up to N -/
theorem down_ {P : Nat → Prop} (N : Nat) (hN : P N) (hs : ∀ i, i < N → P (i + 1) → P i) : P 0 := by
  have key : ∀ k, k ≤ N → P (N - k) := by
    intro k
    induction k with
    | zero => intro _; exact hN
    | succ k ih => intro hk; exact hs (N - (k + 1)) (by omega) (by rw [show N - (k + 1) + 1 = N - k by omega]; exact ih (by omega))
  have := key N (Nat.le_refl N)
  rwa [Nat.sub_self] at this
theorem tn_lt (x : Int32) : x.toNatClampNeg < 2147483648 := by
  have := fb_rng_ x
  show x.toInt.toNat < _
  omega
theorem tn_le (x : Int32) : x ≤ nI x.toNatClampNeg := by
  rw [Int32.le_iff_toInt_le, nI_toInt (tn_lt x)]
  show x.toInt ≤ ((x.toInt.toNat : Nat) : Int)
  omega
theorem tn_nle {x : Int32} {i : Nat} (h : i < x.toNatClampNeg) : ¬ x ≤ nI i := by
  have hl := tn_lt x
  rw [Int32.le_iff_toInt_le, nI_toInt (by omega)]
  have h2 : i < x.toInt.toNat := h
  omega
def zf (f : Nat → Int32) (v : Int32) (i : Nat) : Nat → Int32 := fun j => if j < i then v else f j
theorem zf_0 (f : Nat → Int32) (v : Int32) : zf f v 0 = f := by funext j; simp [zf]
theorem zf_s (f : Nat → Int32) (v : Int32) (i : Nat) : upd (zf f v i) i v = zf f v (i + 1) := by
  funext j
  by_cases c : j = i
  · subst c; simp [upd, zf]
  · by_cases d : j < i
    · simp [upd, zf, c, d, show j < i + 1 by omega]
    · simp [upd, zf, c, d, show ¬ j < i + 1 by omega]
set_option maxHeartbeats 800000 in
set_option maxRecDepth 100000 in
theorem c_J7_fill_53178 {G : ga_} {l : Launch} {h : HP} {sz : Nat} {a n : Nat} {f : Nat → Int32} {v : Int32} (hA : h a = some (aI_ G n f)) (hn : n < 2147483648) : Mf G l yJ7_fill_53178 cJ7_fill_53178 4 none 0 0 0 0 [.ref a, .int v] h sz none (up_ h a (aI_ G n (zf f v n))) sz := by
  refine Mg.ofV [(0, .ref a), (1, .int v)] (by decide) (Nat.le_of_ble_eq_true rfl) rfl ?_
  intro p e s m args below meth c C

  refine r_iconst C (v := 0) dJ7_fill_53178_0 rfl ?_
  refine r_istore_n C dJ7_fill_53178_1 rfl (by decide) ?_
  refine r_aload_n C dJ7_fill_53178_2 rfl rfl ?_
  refine r_alenI C (hA) dJ7_fill_53178_3 ?_
  refine r_istore_n C dJ7_fill_53178_4 rfl (by decide) ?_
  refine V.heap (show h = up_ h a (aI_ G n (zf f v 0)) by rw [zf_0]; exact (up_id hA).symm) ?_
  refine V.sub [(0, .ref a), (1, .int v), (2, .int (nI 0)), (3, .int (nI n))] ⟨rfl, rfl, rfl, rfl, trivial⟩ ?_
  refine down_ (P := fun i => V p l e ⟨0, 0, 0, 0⟩ s m args below meth c G 4 (Qg G below args s 0 0 (fun v1 h1 s1 => v1 = none ∧ h1 = (up_ h a (aI_ G n (zf f v n))) ∧ s1 = sz)) (up_ h a (aI_ G n (zf f v i))) sz 0 0 5 [(0, .ref a), (1, .int v), (2, .int (nI i)), (3, .int (nI n))] []) (n) ?_ ?_
  · refine r_iload_n C dJ7_fill_53178_5 rfl rfl ?_
    refine r_iload_n C dJ7_fill_53178_6 rfl rfl ?_
    refine r_icmp_ge C 20 dJ7_fill_53178_7 (by decide) (fun _ => ?_) (fun c => absurd (nI_le (Nat.le_refl n) hn) c)
    exact r_vret C rfl (Nat.le_of_ble_eq_true rfl) (Nat.le_of_ble_eq_true rfl) ⟨rfl, rfl, rfl⟩ dJ7_fill_53178_20
  · intro i h_i ih_i
    refine r_iload_n C dJ7_fill_53178_5 rfl rfl ?_
    refine r_iload_n C dJ7_fill_53178_6 rfl rfl ?_
    refine r_icmp_ge C 20 dJ7_fill_53178_7 (by decide) (fun c => absurd c (nI_ge h_i hn)) (fun _ => ?_)
    refine r_aload_n C dJ7_fill_53178_10 rfl rfl ?_
    refine r_iload_n C dJ7_fill_53178_11 rfl rfl ?_
    refine r_iload_n C dJ7_fill_53178_12 rfl rfl ?_
    refine r_iast C (up_s _ _ _) (vp_in_nI h_i hn) dJ7_fill_53178_13 ?_
    refine r_iinc C (v := 1) dJ7_fill_53178_14 rfl rfl (by decide) ?_
    refine r_goto C 5 dJ7_fill_53178_17 (by decide) ?_
    refine V.heap (h2 := (up_ h a (aI_ G n (zf f v (i + 1))))) (by rw [up_up, nI_clamp (by omega), zf_s]) ?_
    refine V.sub [(0, .ref a), (1, .int v), (2, .int (nI (i + 1))), (3, .int (nI n))] ⟨rfl, rfl, (by rw [← nI_1 i]; rfl), rfl, trivial⟩ ?_
    exact ih_i
set_option maxHeartbeats 800000 in
set_option maxRecDepth 100000 in
theorem c_X2_clear {G : ga_} {l : Launch} {h : HP} {sz : Nat} {t a n : Nat} {co : Int32} {f : Nat → Int32} (hT : h t = some (ob_ 2 [.int co, .ref a])) (hA : h a = some (aI_ G n f)) (hn : n < 2147483648) : Mf G l yX2_clear cX2_clear 1 none 1 23 0 0 [.ref t] h sz none (up_ h a (aI_ G n (zf f 0 n))) sz := by
  refine Mg.ofV [(0, .ref t)] (by decide) (Nat.le_of_ble_eq_true rfl) rfl ?_
  intro p e s m args below meth c C

  refine r_aload_n C dX2_clear_0 rfl rfl ?_
  refine r_get C (j := 1) rfl in_X2 (hT) (by decide) fl_X2_21 rfl rfl dX2_clear_1 ?_
  refine r_iconst C (v := 0) dX2_clear_4 rfl ?_
  refine r_cSv C (c_J7_fill_53178 hA hn) lk_X2_25 rfl rfl ⟨(Nat.le_of_ble_eq_true rfl), (Nat.le_of_ble_eq_true rfl), (Nat.le_of_ble_eq_true rfl), (Nat.le_of_ble_eq_true rfl), (Nat.le_of_ble_eq_true rfl)⟩ dX2_clear_5 ?_
  exact r_vret C rfl (Nat.le_of_ble_eq_true rfl) (Nat.le_of_ble_eq_true rfl) ⟨rfl, rfl, rfl⟩ dX2_clear_8
end
section
/-! decode rows, as printed -/
theorem dX0_init_0 : decode cX0_init 0 = .ok (.aload_n 0, 1) := by decide +kernel
theorem dX0_init_1 : decode cX0_init 1 = .ok (.invokespecial 3, 3) := by decide +kernel
theorem dX0_init_4 : decode cX0_init 4 = .ok (.aload_n 0, 1) := by decide +kernel
theorem dX0_init_5 : decode cX0_init 5 = .ok (.new 9, 3) := by decide +kernel
theorem dX0_init_8 : decode cX0_init 8 = .ok (.dup, 1) := by decide +kernel
theorem dX0_init_9 : decode cX0_init 9 = .ok (.bipush 28, 2) := by decide +kernel
theorem dX0_init_11 : decode cX0_init 11 = .ok (.bipush 7, 2) := by decide +kernel
theorem dX0_init_13 : decode cX0_init 13 = .ok (.invokespecial 11, 3) := by decide +kernel
theorem dX0_init_16 : decode cX0_init 16 = .ok (.putfield 14, 3) := by decide +kernel
theorem dX0_init_19 : decode cX0_init 19 = .ok (.aload_n 0, 1) := by decide +kernel
theorem dX0_init_20 : decode cX0_init 20 = .ok (.new 9, 3) := by decide +kernel
theorem dX0_init_23 : decode cX0_init 23 = .ok (.dup, 1) := by decide +kernel
theorem dX0_init_24 : decode cX0_init 24 = .ok (.iconst 4, 1) := by decide +kernel
theorem dX0_init_25 : decode cX0_init 25 = .ok (.bipush 28, 2) := by decide +kernel
theorem dX0_init_27 : decode cX0_init 27 = .ok (.invokespecial 11, 3) := by decide +kernel
theorem dX0_init_30 : decode cX0_init 30 = .ok (.putfield 20, 3) := by decide +kernel
theorem dX0_init_33 : decode cX0_init 33 = .ok (.aload_n 0, 1) := by decide +kernel
theorem dX0_init_34 : decode cX0_init 34 = .ok (.new 9, 3) := by decide +kernel
theorem dX0_init_37 : decode cX0_init 37 = .ok (.dup, 1) := by decide +kernel
theorem dX0_init_38 : decode cX0_init 38 = .ok (.iconst 4, 1) := by decide +kernel
theorem dX0_init_39 : decode cX0_init 39 = .ok (.iconst 4, 1) := by decide +kernel
theorem dX0_init_40 : decode cX0_init 40 = .ok (.invokespecial 11, 3) := by decide +kernel
theorem dX0_init_43 : decode cX0_init 43 = .ok (.putfield 23, 3) := by decide +kernel
theorem dX0_init_46 : decode cX0_init 46 = .ok (.aload_n 0, 1) := by decide +kernel
theorem dX0_init_47 : decode cX0_init 47 = .ok (.new 9, 3) := by decide +kernel
theorem dX0_init_50 : decode cX0_init 50 = .ok (.dup, 1) := by decide +kernel
theorem dX0_init_51 : decode cX0_init 51 = .ok (.iconst 3, 1) := by decide +kernel
theorem dX0_init_52 : decode cX0_init 52 = .ok (.iconst 4, 1) := by decide +kernel
theorem dX0_init_53 : decode cX0_init 53 = .ok (.invokespecial 11, 3) := by decide +kernel
theorem dX0_init_56 : decode cX0_init 56 = .ok (.putfield 26, 3) := by decide +kernel
theorem dX0_init_59 : decode cX0_init 59 = .ok (.aload_n 0, 1) := by decide +kernel
theorem dX0_init_60 : decode cX0_init 60 = .ok (.new 9, 3) := by decide +kernel
theorem dX0_init_63 : decode cX0_init 63 = .ok (.dup, 1) := by decide +kernel
theorem dX0_init_64 : decode cX0_init 64 = .ok (.iconst 1, 1) := by decide +kernel
theorem dX0_init_65 : decode cX0_init 65 = .ok (.bipush 28, 2) := by decide +kernel
theorem dX0_init_67 : decode cX0_init 67 = .ok (.invokespecial 11, 3) := by decide +kernel
theorem dX0_init_70 : decode cX0_init 70 = .ok (.putfield 29, 3) := by decide +kernel
theorem dX0_init_73 : decode cX0_init 73 = .ok (.aload_n 0, 1) := by decide +kernel
theorem dX0_init_74 : decode cX0_init 74 = .ok (.iconst 3, 1) := by decide +kernel
theorem dX0_init_75 : decode cX0_init 75 = .ok (.putfield 32, 3) := by decide +kernel
theorem dX0_init_78 : decode cX0_init 78 = .ok (.return_, 1) := by decide +kernel
theorem dX0_become_0 : decode cX0_become 0 = .ok (.aload_n 1, 1) := by decide +kernel
theorem dX0_become_1 : decode cX0_become 1 = .ok (.ifnonnull 4, 3) := by decide +kernel
theorem dX0_become_4 : decode cX0_become 4 = .ok (.return_, 1) := by decide +kernel
theorem dX0_become_5 : decode cX0_become 5 = .ok (.aload_n 0, 1) := by decide +kernel
theorem dX0_become_6 : decode cX0_become 6 = .ok (.getfield 14, 3) := by decide +kernel
theorem dX0_become_9 : decode cX0_become 9 = .ok (.aload_n 1, 1) := by decide +kernel
theorem dX0_become_10 : decode cX0_become 10 = .ok (.getfield 14, 3) := by decide +kernel
theorem dX0_become_13 : decode cX0_become 13 = .ok (.invokevirtual 36, 3) := by decide +kernel
theorem dX0_become_16 : decode cX0_become 16 = .ok (.aload_n 0, 1) := by decide +kernel
theorem dX0_become_17 : decode cX0_become 17 = .ok (.getfield 20, 3) := by decide +kernel
theorem dX0_become_20 : decode cX0_become 20 = .ok (.aload_n 1, 1) := by decide +kernel
theorem dX0_become_21 : decode cX0_become 21 = .ok (.getfield 20, 3) := by decide +kernel
theorem dX0_become_24 : decode cX0_become 24 = .ok (.invokevirtual 36, 3) := by decide +kernel
theorem dX0_become_27 : decode cX0_become 27 = .ok (.aload_n 0, 1) := by decide +kernel
theorem dX0_become_28 : decode cX0_become 28 = .ok (.getfield 23, 3) := by decide +kernel
theorem dX0_become_31 : decode cX0_become 31 = .ok (.aload_n 1, 1) := by decide +kernel
theorem dX0_become_32 : decode cX0_become 32 = .ok (.getfield 23, 3) := by decide +kernel
theorem dX0_become_35 : decode cX0_become 35 = .ok (.invokevirtual 36, 3) := by decide +kernel
theorem dX0_become_38 : decode cX0_become 38 = .ok (.aload_n 0, 1) := by decide +kernel
theorem dX0_become_39 : decode cX0_become 39 = .ok (.getfield 26, 3) := by decide +kernel
theorem dX0_become_42 : decode cX0_become 42 = .ok (.aload_n 1, 1) := by decide +kernel
theorem dX0_become_43 : decode cX0_become 43 = .ok (.getfield 26, 3) := by decide +kernel
theorem dX0_become_46 : decode cX0_become 46 = .ok (.invokevirtual 36, 3) := by decide +kernel
theorem dX0_become_49 : decode cX0_become 49 = .ok (.aload_n 0, 1) := by decide +kernel
theorem dX0_become_50 : decode cX0_become 50 = .ok (.getfield 29, 3) := by decide +kernel
theorem dX0_become_53 : decode cX0_become 53 = .ok (.aload_n 1, 1) := by decide +kernel
theorem dX0_become_54 : decode cX0_become 54 = .ok (.getfield 29, 3) := by decide +kernel
theorem dX0_become_57 : decode cX0_become 57 = .ok (.invokevirtual 36, 3) := by decide +kernel
theorem dX0_become_60 : decode cX0_become 60 = .ok (.aload_n 0, 1) := by decide +kernel
theorem dX0_become_61 : decode cX0_become 61 = .ok (.aload_n 1, 1) := by decide +kernel
theorem dX0_become_62 : decode cX0_become 62 = .ok (.getfield 40, 3) := by decide +kernel
theorem dX0_become_65 : decode cX0_become 65 = .ok (.putfield 40, 3) := by decide +kernel
theorem dX0_become_68 : decode cX0_become 68 = .ok (.aload_n 0, 1) := by decide +kernel
theorem dX0_become_69 : decode cX0_become 69 = .ok (.aload_n 1, 1) := by decide +kernel
theorem dX0_become_70 : decode cX0_become 70 = .ok (.getfield 43, 3) := by decide +kernel
theorem dX0_become_73 : decode cX0_become 73 = .ok (.putfield 43, 3) := by decide +kernel
theorem dX0_become_76 : decode cX0_become 76 = .ok (.aload_n 0, 1) := by decide +kernel
theorem dX0_become_77 : decode cX0_become 77 = .ok (.aload_n 1, 1) := by decide +kernel
theorem dX0_become_78 : decode cX0_become 78 = .ok (.getfield 46, 3) := by decide +kernel
theorem dX0_become_81 : decode cX0_become 81 = .ok (.putfield 46, 3) := by decide +kernel
theorem dX0_become_84 : decode cX0_become 84 = .ok (.aload_n 0, 1) := by decide +kernel
theorem dX0_become_85 : decode cX0_become 85 = .ok (.aload_n 1, 1) := by decide +kernel
theorem dX0_become_86 : decode cX0_become 86 = .ok (.getfield 49, 3) := by decide +kernel
theorem dX0_become_89 : decode cX0_become 89 = .ok (.putfield 49, 3) := by decide +kernel
theorem dX0_become_92 : decode cX0_become 92 = .ok (.aload_n 0, 1) := by decide +kernel
theorem dX0_become_93 : decode cX0_become 93 = .ok (.aload_n 1, 1) := by decide +kernel
theorem dX0_become_94 : decode cX0_become 94 = .ok (.getfield 52, 3) := by decide +kernel
theorem dX0_become_97 : decode cX0_become 97 = .ok (.putfield 52, 3) := by decide +kernel
theorem dX0_become_100 : decode cX0_become 100 = .ok (.aload_n 0, 1) := by decide +kernel
theorem dX0_become_101 : decode cX0_become 101 = .ok (.aload_n 1, 1) := by decide +kernel
theorem dX0_become_102 : decode cX0_become 102 = .ok (.getfield 55, 3) := by decide +kernel
theorem dX0_become_105 : decode cX0_become 105 = .ok (.putfield 55, 3) := by decide +kernel
theorem dX0_become_108 : decode cX0_become 108 = .ok (.aload_n 0, 1) := by decide +kernel
theorem dX0_become_109 : decode cX0_become 109 = .ok (.aload_n 1, 1) := by decide +kernel
theorem dX0_become_110 : decode cX0_become 110 = .ok (.getfield 58, 3) := by decide +kernel
theorem dX0_become_113 : decode cX0_become 113 = .ok (.putfield 58, 3) := by decide +kernel
theorem dX0_become_116 : decode cX0_become 116 = .ok (.aload_n 0, 1) := by decide +kernel
theorem dX0_become_117 : decode cX0_become 117 = .ok (.aload_n 1, 1) := by decide +kernel
theorem dX0_become_118 : decode cX0_become 118 = .ok (.getfield 32, 3) := by decide +kernel
theorem dX0_become_121 : decode cX0_become 121 = .ok (.putfield 32, 3) := by decide +kernel
theorem dX0_become_124 : decode cX0_become 124 = .ok (.return_, 1) := by decide +kernel
theorem dX0_start_0 : decode cX0_start 0 = .ok (.aload_n 0, 1) := by decide +kernel
theorem dX0_start_1 : decode cX0_start 1 = .ok (.iload_n 1, 1) := by decide +kernel
theorem dX0_start_2 : decode cX0_start 2 = .ok (.putfield 40, 3) := by decide +kernel
theorem dX0_start_5 : decode cX0_start 5 = .ok (.aload_n 0, 1) := by decide +kernel
theorem dX0_start_6 : decode cX0_start 6 = .ok (.iconst 0, 1) := by decide +kernel
theorem dX0_start_7 : decode cX0_start 7 = .ok (.putfield 43, 3) := by decide +kernel
theorem dX0_start_10 : decode cX0_start 10 = .ok (.aload_n 0, 1) := by decide +kernel
theorem dX0_start_11 : decode cX0_start 11 = .ok (.iconst 0, 1) := by decide +kernel
theorem dX0_start_12 : decode cX0_start 12 = .ok (.putfield 46, 3) := by decide +kernel
theorem dX0_start_15 : decode cX0_start 15 = .ok (.aload_n 0, 1) := by decide +kernel
theorem dX0_start_16 : decode cX0_start 16 = .ok (.iconst 0, 1) := by decide +kernel
theorem dX0_start_17 : decode cX0_start 17 = .ok (.putfield 49, 3) := by decide +kernel
theorem dX0_start_20 : decode cX0_start 20 = .ok (.aload_n 0, 1) := by decide +kernel
theorem dX0_start_21 : decode cX0_start 21 = .ok (.iconst 0, 1) := by decide +kernel
theorem dX0_start_22 : decode cX0_start 22 = .ok (.putfield 52, 3) := by decide +kernel
theorem dX0_start_25 : decode cX0_start 25 = .ok (.aload_n 0, 1) := by decide +kernel
theorem dX0_start_26 : decode cX0_start 26 = .ok (.getfield 20, 3) := by decide +kernel
theorem dX0_start_29 : decode cX0_start 29 = .ok (.invokevirtual 61, 3) := by decide +kernel
theorem dX0_start_32 : decode cX0_start 32 = .ok (.aload_n 0, 1) := by decide +kernel
theorem dX0_start_33 : decode cX0_start 33 = .ok (.getfield 23, 3) := by decide +kernel
theorem dX0_start_36 : decode cX0_start 36 = .ok (.invokevirtual 61, 3) := by decide +kernel
theorem dX0_start_39 : decode cX0_start 39 = .ok (.aload_n 0, 1) := by decide +kernel
theorem dX0_start_40 : decode cX0_start 40 = .ok (.invokevirtual 64, 3) := by decide +kernel
theorem dX0_start_43 : decode cX0_start 43 = .ok (.aload_n 0, 1) := by decide +kernel
theorem dX0_start_44 : decode cX0_start 44 = .ok (.invokevirtual 67, 3) := by decide +kernel
theorem dX0_start_47 : decode cX0_start 47 = .ok (.aload_n 0, 1) := by decide +kernel
theorem dX0_start_48 : decode cX0_start 48 = .ok (.iload_n 2, 1) := by decide +kernel
theorem dX0_start_49 : decode cX0_start 49 = .ok (.invokevirtual 70, 3) := by decide +kernel
theorem dX0_start_52 : decode cX0_start 52 = .ok (.aload_n 0, 1) := by decide +kernel
theorem dX0_start_53 : decode cX0_start 53 = .ok (.invokevirtual 74, 3) := by decide +kernel
theorem dX0_start_56 : decode cX0_start 56 = .ok (.return_, 1) := by decide +kernel
theorem dX0_makeTiles_0 : decode cX0_makeTiles 0 = .ok (.aload_n 0, 1) := by decide +kernel
theorem dX0_makeTiles_1 : decode cX0_makeTiles 1 = .ok (.getfield 14, 3) := by decide +kernel
theorem dX0_makeTiles_4 : decode cX0_makeTiles 4 = .ok (.invokevirtual 61, 3) := by decide +kernel
theorem dX0_makeTiles_7 : decode cX0_makeTiles 7 = .ok (.iconst 0, 1) := by decide +kernel
theorem dX0_makeTiles_8 : decode cX0_makeTiles 8 = .ok (.istore_n 1, 1) := by decide +kernel
theorem dX0_makeTiles_9 : decode cX0_makeTiles 9 = .ok (.iconst 0, 1) := by decide +kernel
theorem dX0_makeTiles_10 : decode cX0_makeTiles 10 = .ok (.istore_n 2, 1) := by decide +kernel
theorem dX0_makeTiles_11 : decode cX0_makeTiles 11 = .ok (.iload_n 2, 1) := by decide +kernel
theorem dX0_makeTiles_12 : decode cX0_makeTiles 12 = .ok (.bipush 7, 2) := by decide +kernel
theorem dX0_makeTiles_14 : decode cX0_makeTiles 14 = .ok (.if_icmp .ge 76, 3) := by decide +kernel
theorem dX0_makeTiles_17 : decode cX0_makeTiles 17 = .ok (.iload_n 2, 1) := by decide +kernel
theorem dX0_makeTiles_18 : decode cX0_makeTiles 18 = .ok (.istore_n 3, 1) := by decide +kernel
theorem dX0_makeTiles_19 : decode cX0_makeTiles 19 = .ok (.iload_n 3, 1) := by decide +kernel
theorem dX0_makeTiles_20 : decode cX0_makeTiles 20 = .ok (.bipush 7, 2) := by decide +kernel
theorem dX0_makeTiles_22 : decode cX0_makeTiles 22 = .ok (.if_icmp .ge 62, 3) := by decide +kernel
theorem dX0_makeTiles_25 : decode cX0_makeTiles 25 = .ok (.aload_n 0, 1) := by decide +kernel
theorem dX0_makeTiles_26 : decode cX0_makeTiles 26 = .ok (.getfield 14, 3) := by decide +kernel
theorem dX0_makeTiles_29 : decode cX0_makeTiles 29 = .ok (.iload_n 1, 1) := by decide +kernel
theorem dX0_makeTiles_30 : decode cX0_makeTiles 30 = .ok (.iconst 0, 1) := by decide +kernel
theorem dX0_makeTiles_31 : decode cX0_makeTiles 31 = .ok (.iload_n 2, 1) := by decide +kernel
theorem dX0_makeTiles_32 : decode cX0_makeTiles 32 = .ok (.invokevirtual 77, 3) := by decide +kernel
theorem dX0_makeTiles_35 : decode cX0_makeTiles 35 = .ok (.aload_n 0, 1) := by decide +kernel
theorem dX0_makeTiles_36 : decode cX0_makeTiles 36 = .ok (.getfield 14, 3) := by decide +kernel
theorem dX0_makeTiles_39 : decode cX0_makeTiles 39 = .ok (.iload_n 1, 1) := by decide +kernel
theorem dX0_makeTiles_40 : decode cX0_makeTiles 40 = .ok (.iconst 1, 1) := by decide +kernel
theorem dX0_makeTiles_41 : decode cX0_makeTiles 41 = .ok (.iload_n 3, 1) := by decide +kernel
theorem dX0_makeTiles_42 : decode cX0_makeTiles 42 = .ok (.invokevirtual 77, 3) := by decide +kernel
theorem dX0_makeTiles_45 : decode cX0_makeTiles 45 = .ok (.aload_n 0, 1) := by decide +kernel
theorem dX0_makeTiles_46 : decode cX0_makeTiles 46 = .ok (.getfield 14, 3) := by decide +kernel
theorem dX0_makeTiles_49 : decode cX0_makeTiles 49 = .ok (.iload_n 1, 1) := by decide +kernel
theorem dX0_makeTiles_50 : decode cX0_makeTiles 50 = .ok (.iconst 2, 1) := by decide +kernel
theorem dX0_makeTiles_51 : decode cX0_makeTiles 51 = .ok (.iconst 0, 1) := by decide +kernel
theorem dX0_makeTiles_52 : decode cX0_makeTiles 52 = .ok (.invokevirtual 77, 3) := by decide +kernel
theorem dX0_makeTiles_55 : decode cX0_makeTiles 55 = .ok (.aload_n 0, 1) := by decide +kernel
theorem dX0_makeTiles_56 : decode cX0_makeTiles 56 = .ok (.getfield 14, 3) := by decide +kernel
theorem dX0_makeTiles_59 : decode cX0_makeTiles 59 = .ok (.iload_n 1, 1) := by decide +kernel
theorem dX0_makeTiles_60 : decode cX0_makeTiles 60 = .ok (.iconst 3, 1) := by decide +kernel
theorem dX0_makeTiles_61 : decode cX0_makeTiles 61 = .ok (.iconst (-1), 1) := by decide +kernel
theorem dX0_makeTiles_62 : decode cX0_makeTiles 62 = .ok (.invokevirtual 77, 3) := by decide +kernel
theorem dX0_makeTiles_65 : decode cX0_makeTiles 65 = .ok (.aload_n 0, 1) := by decide +kernel
theorem dX0_makeTiles_66 : decode cX0_makeTiles 66 = .ok (.getfield 14, 3) := by decide +kernel
theorem dX0_makeTiles_69 : decode cX0_makeTiles 69 = .ok (.iload_n 1, 1) := by decide +kernel
theorem dX0_makeTiles_70 : decode cX0_makeTiles 70 = .ok (.iconst 5, 1) := by decide +kernel
theorem dX0_makeTiles_71 : decode cX0_makeTiles 71 = .ok (.iconst (-1), 1) := by decide +kernel
theorem dX0_makeTiles_72 : decode cX0_makeTiles 72 = .ok (.invokevirtual 77, 3) := by decide +kernel
theorem dX0_makeTiles_75 : decode cX0_makeTiles 75 = .ok (.iinc 1 1, 3) := by decide +kernel
theorem dX0_makeTiles_78 : decode cX0_makeTiles 78 = .ok (.iinc 3 1, 3) := by decide +kernel
theorem dX0_makeTiles_81 : decode cX0_makeTiles 81 = .ok (.goto (-62), 3) := by decide +kernel
theorem dX0_makeTiles_84 : decode cX0_makeTiles 84 = .ok (.iinc 2 1, 3) := by decide +kernel
theorem dX0_makeTiles_87 : decode cX0_makeTiles 87 = .ok (.goto (-76), 3) := by decide +kernel
theorem dX0_makeTiles_90 : decode cX0_makeTiles 90 = .ok (.return_, 1) := by decide +kernel
theorem dX0_makeRows_0 : decode cX0_makeRows 0 = .ok (.iconst 0, 1) := by decide +kernel
theorem dX0_makeRows_1 : decode cX0_makeRows 1 = .ok (.istore_n 1, 1) := by decide +kernel
theorem dX0_makeRows_2 : decode cX0_makeRows 2 = .ok (.iload_n 1, 1) := by decide +kernel
theorem dX0_makeRows_3 : decode cX0_makeRows 3 = .ok (.iconst 3, 1) := by decide +kernel
theorem dX0_makeRows_4 : decode cX0_makeRows 4 = .ok (.if_icmp .ge 49, 3) := by decide +kernel
theorem dX0_makeRows_7 : decode cX0_makeRows 7 = .ok (.aload_n 0, 1) := by decide +kernel
theorem dX0_makeRows_8 : decode cX0_makeRows 8 = .ok (.getfield 26, 3) := by decide +kernel
theorem dX0_makeRows_11 : decode cX0_makeRows 11 = .ok (.iload_n 1, 1) := by decide +kernel
theorem dX0_makeRows_12 : decode cX0_makeRows 12 = .ok (.iconst 0, 1) := by decide +kernel
theorem dX0_makeRows_13 : decode cX0_makeRows 13 = .ok (.iconst 0, 1) := by decide +kernel
theorem dX0_makeRows_14 : decode cX0_makeRows 14 = .ok (.invokevirtual 77, 3) := by decide +kernel
theorem dX0_makeRows_17 : decode cX0_makeRows 17 = .ok (.aload_n 0, 1) := by decide +kernel
theorem dX0_makeRows_18 : decode cX0_makeRows 18 = .ok (.getfield 26, 3) := by decide +kernel
theorem dX0_makeRows_21 : decode cX0_makeRows 21 = .ok (.iload_n 1, 1) := by decide +kernel
theorem dX0_makeRows_22 : decode cX0_makeRows 22 = .ok (.iconst 1, 1) := by decide +kernel
theorem dX0_makeRows_23 : decode cX0_makeRows 23 = .ok (.iconst (-1), 1) := by decide +kernel
theorem dX0_makeRows_24 : decode cX0_makeRows 24 = .ok (.invokevirtual 77, 3) := by decide +kernel
theorem dX0_makeRows_27 : decode cX0_makeRows 27 = .ok (.aload_n 0, 1) := by decide +kernel
theorem dX0_makeRows_28 : decode cX0_makeRows 28 = .ok (.getfield 26, 3) := by decide +kernel
theorem dX0_makeRows_31 : decode cX0_makeRows 31 = .ok (.iload_n 1, 1) := by decide +kernel
theorem dX0_makeRows_32 : decode cX0_makeRows 32 = .ok (.iconst 2, 1) := by decide +kernel
theorem dX0_makeRows_33 : decode cX0_makeRows 33 = .ok (.iconst (-1), 1) := by decide +kernel
theorem dX0_makeRows_34 : decode cX0_makeRows 34 = .ok (.invokevirtual 77, 3) := by decide +kernel
theorem dX0_makeRows_37 : decode cX0_makeRows 37 = .ok (.aload_n 0, 1) := by decide +kernel
theorem dX0_makeRows_38 : decode cX0_makeRows 38 = .ok (.getfield 26, 3) := by decide +kernel
theorem dX0_makeRows_41 : decode cX0_makeRows 41 = .ok (.iload_n 1, 1) := by decide +kernel
theorem dX0_makeRows_42 : decode cX0_makeRows 42 = .ok (.iconst 3, 1) := by decide +kernel
theorem dX0_makeRows_43 : decode cX0_makeRows 43 = .ok (.iconst (-1), 1) := by decide +kernel
theorem dX0_makeRows_44 : decode cX0_makeRows 44 = .ok (.invokevirtual 77, 3) := by decide +kernel
theorem dX0_makeRows_47 : decode cX0_makeRows 47 = .ok (.iinc 1 1, 3) := by decide +kernel
theorem dX0_makeRows_50 : decode cX0_makeRows 50 = .ok (.goto (-48), 3) := by decide +kernel
theorem dX0_makeRows_53 : decode cX0_makeRows 53 = .ok (.return_, 1) := by decide +kernel
theorem dX0_orderStock_0 : decode cX0_orderStock 0 = .ok (.aload_n 0, 1) := by decide +kernel
theorem dX0_orderStock_1 : decode cX0_orderStock 1 = .ok (.iload_n 1, 1) := by decide +kernel
theorem dX0_orderStock_2 : decode cX0_orderStock 2 = .ok (.putfield 58, 3) := by decide +kernel
theorem dX0_orderStock_5 : decode cX0_orderStock 5 = .ok (.iconst 0, 1) := by decide +kernel
theorem dX0_orderStock_6 : decode cX0_orderStock 6 = .ok (.istore_n 2, 1) := by decide +kernel
theorem dX0_orderStock_7 : decode cX0_orderStock 7 = .ok (.iload_n 2, 1) := by decide +kernel
theorem dX0_orderStock_8 : decode cX0_orderStock 8 = .ok (.bipush 28, 2) := by decide +kernel
theorem dX0_orderStock_10 : decode cX0_orderStock 10 = .ok (.if_icmp .ge 43, 3) := by decide +kernel
theorem dX0_orderStock_13 : decode cX0_orderStock 13 = .ok (.aload_n 0, 1) := by decide +kernel
theorem dX0_orderStock_14 : decode cX0_orderStock 14 = .ok (.aload_n 0, 1) := by decide +kernel
theorem dX0_orderStock_15 : decode cX0_orderStock 15 = .ok (.getfield 58, 3) := by decide +kernel
theorem dX0_orderStock_18 : decode cX0_orderStock 18 = .ok (.sipush 421, 3) := by decide +kernel
theorem dX0_orderStock_21 : decode cX0_orderStock 21 = .ok (.imul, 1) := by decide +kernel
theorem dX0_orderStock_22 : decode cX0_orderStock 22 = .ok (.sipush 1663, 3) := by decide +kernel
theorem dX0_orderStock_25 : decode cX0_orderStock 25 = .ok (.iadd, 1) := by decide +kernel
theorem dX0_orderStock_26 : decode cX0_orderStock 26 = .ok (.sipush 10000, 3) := by decide +kernel
theorem dX0_orderStock_29 : decode cX0_orderStock 29 = .ok (.irem, 1) := by decide +kernel
theorem dX0_orderStock_30 : decode cX0_orderStock 30 = .ok (.putfield 58, 3) := by decide +kernel
theorem dX0_orderStock_33 : decode cX0_orderStock 33 = .ok (.aload_n 0, 1) := by decide +kernel
theorem dX0_orderStock_34 : decode cX0_orderStock 34 = .ok (.aload_n 0, 1) := by decide +kernel
theorem dX0_orderStock_35 : decode cX0_orderStock 35 = .ok (.getfield 58, 3) := by decide +kernel
theorem dX0_orderStock_38 : decode cX0_orderStock 38 = .ok (.bipush 28, 2) := by decide +kernel
theorem dX0_orderStock_40 : decode cX0_orderStock 40 = .ok (.imul, 1) := by decide +kernel
theorem dX0_orderStock_41 : decode cX0_orderStock 41 = .ok (.iload_n 2, 1) := by decide +kernel
theorem dX0_orderStock_42 : decode cX0_orderStock 42 = .ok (.iadd, 1) := by decide +kernel
theorem dX0_orderStock_43 : decode cX0_orderStock 43 = .ok (.iload_n 2, 1) := by decide +kernel
theorem dX0_orderStock_44 : decode cX0_orderStock 44 = .ok (.invokevirtual 81, 3) := by decide +kernel
theorem dX0_orderStock_47 : decode cX0_orderStock 47 = .ok (.iinc 2 1, 3) := by decide +kernel
theorem dX0_orderStock_50 : decode cX0_orderStock 50 = .ok (.goto (-43), 3) := by decide +kernel
theorem dX0_orderStock_53 : decode cX0_orderStock 53 = .ok (.iconst 0, 1) := by decide +kernel
theorem dX0_orderStock_54 : decode cX0_orderStock 54 = .ok (.istore_n 2, 1) := by decide +kernel
theorem dX0_orderStock_55 : decode cX0_orderStock 55 = .ok (.iload_n 2, 1) := by decide +kernel
theorem dX0_orderStock_56 : decode cX0_orderStock 56 = .ok (.bipush 28, 2) := by decide +kernel
theorem dX0_orderStock_58 : decode cX0_orderStock 58 = .ok (.if_icmp .ge 30, 3) := by decide +kernel
theorem dX0_orderStock_61 : decode cX0_orderStock 61 = .ok (.aload_n 0, 1) := by decide +kernel
theorem dX0_orderStock_62 : decode cX0_orderStock 62 = .ok (.getfield 29, 3) := by decide +kernel
theorem dX0_orderStock_65 : decode cX0_orderStock 65 = .ok (.iconst 0, 1) := by decide +kernel
theorem dX0_orderStock_66 : decode cX0_orderStock 66 = .ok (.iload_n 2, 1) := by decide +kernel
theorem dX0_orderStock_67 : decode cX0_orderStock 67 = .ok (.aload_n 0, 1) := by decide +kernel
theorem dX0_orderStock_68 : decode cX0_orderStock 68 = .ok (.getfield 29, 3) := by decide +kernel
theorem dX0_orderStock_71 : decode cX0_orderStock 71 = .ok (.iconst 0, 1) := by decide +kernel
theorem dX0_orderStock_72 : decode cX0_orderStock 72 = .ok (.iload_n 2, 1) := by decide +kernel
theorem dX0_orderStock_73 : decode cX0_orderStock 73 = .ok (.invokevirtual 84, 3) := by decide +kernel
theorem dX0_orderStock_76 : decode cX0_orderStock 76 = .ok (.bipush 28, 2) := by decide +kernel
theorem dX0_orderStock_78 : decode cX0_orderStock 78 = .ok (.irem, 1) := by decide +kernel
theorem dX0_orderStock_79 : decode cX0_orderStock 79 = .ok (.invokevirtual 77, 3) := by decide +kernel
theorem dX0_orderStock_82 : decode cX0_orderStock 82 = .ok (.iinc 2 1, 3) := by decide +kernel
theorem dX0_orderStock_85 : decode cX0_orderStock 85 = .ok (.goto (-30), 3) := by decide +kernel
theorem dX0_orderStock_88 : decode cX0_orderStock 88 = .ok (.return_, 1) := by decide +kernel
theorem dX0_insertInOrder_0 : decode cX0_insertInOrder 0 = .ok (.iload_n 2, 1) := by decide +kernel
theorem dX0_insertInOrder_1 : decode cX0_insertInOrder 1 = .ok (.istore_n 3, 1) := by decide +kernel
theorem dX0_insertInOrder_2 : decode cX0_insertInOrder 2 = .ok (.iload_n 3, 1) := by decide +kernel
theorem dX0_insertInOrder_3 : decode cX0_insertInOrder 3 = .ok (.ifCond .le 44, 3) := by decide +kernel
theorem dX0_insertInOrder_6 : decode cX0_insertInOrder 6 = .ok (.aload_n 0, 1) := by decide +kernel
theorem dX0_insertInOrder_7 : decode cX0_insertInOrder 7 = .ok (.getfield 29, 3) := by decide +kernel
theorem dX0_insertInOrder_10 : decode cX0_insertInOrder 10 = .ok (.iconst 0, 1) := by decide +kernel
theorem dX0_insertInOrder_11 : decode cX0_insertInOrder 11 = .ok (.iload_n 3, 1) := by decide +kernel
theorem dX0_insertInOrder_12 : decode cX0_insertInOrder 12 = .ok (.iconst 1, 1) := by decide +kernel
theorem dX0_insertInOrder_13 : decode cX0_insertInOrder 13 = .ok (.isub, 1) := by decide +kernel
theorem dX0_insertInOrder_14 : decode cX0_insertInOrder 14 = .ok (.invokevirtual 84, 3) := by decide +kernel
theorem dX0_insertInOrder_17 : decode cX0_insertInOrder 17 = .ok (.iload_n 1, 1) := by decide +kernel
theorem dX0_insertInOrder_18 : decode cX0_insertInOrder 18 = .ok (.if_icmp .le 29, 3) := by decide +kernel
theorem dX0_insertInOrder_21 : decode cX0_insertInOrder 21 = .ok (.aload_n 0, 1) := by decide +kernel
theorem dX0_insertInOrder_22 : decode cX0_insertInOrder 22 = .ok (.getfield 29, 3) := by decide +kernel
theorem dX0_insertInOrder_25 : decode cX0_insertInOrder 25 = .ok (.iconst 0, 1) := by decide +kernel
theorem dX0_insertInOrder_26 : decode cX0_insertInOrder 26 = .ok (.iload_n 3, 1) := by decide +kernel
theorem dX0_insertInOrder_27 : decode cX0_insertInOrder 27 = .ok (.aload_n 0, 1) := by decide +kernel
theorem dX0_insertInOrder_28 : decode cX0_insertInOrder 28 = .ok (.getfield 29, 3) := by decide +kernel
theorem dX0_insertInOrder_31 : decode cX0_insertInOrder 31 = .ok (.iconst 0, 1) := by decide +kernel
theorem dX0_insertInOrder_32 : decode cX0_insertInOrder 32 = .ok (.iload_n 3, 1) := by decide +kernel
theorem dX0_insertInOrder_33 : decode cX0_insertInOrder 33 = .ok (.iconst 1, 1) := by decide +kernel
theorem dX0_insertInOrder_34 : decode cX0_insertInOrder 34 = .ok (.isub, 1) := by decide +kernel
theorem dX0_insertInOrder_35 : decode cX0_insertInOrder 35 = .ok (.invokevirtual 84, 3) := by decide +kernel
theorem dX0_insertInOrder_38 : decode cX0_insertInOrder 38 = .ok (.invokevirtual 77, 3) := by decide +kernel
theorem dX0_insertInOrder_41 : decode cX0_insertInOrder 41 = .ok (.iinc 3 (-1), 3) := by decide +kernel
theorem dX0_insertInOrder_44 : decode cX0_insertInOrder 44 = .ok (.goto (-42), 3) := by decide +kernel
theorem dX0_insertInOrder_47 : decode cX0_insertInOrder 47 = .ok (.aload_n 0, 1) := by decide +kernel
theorem dX0_insertInOrder_48 : decode cX0_insertInOrder 48 = .ok (.getfield 29, 3) := by decide +kernel
theorem dX0_insertInOrder_51 : decode cX0_insertInOrder 51 = .ok (.iconst 0, 1) := by decide +kernel
theorem dX0_insertInOrder_52 : decode cX0_insertInOrder 52 = .ok (.iload_n 3, 1) := by decide +kernel
theorem dX0_insertInOrder_53 : decode cX0_insertInOrder 53 = .ok (.iload_n 1, 1) := by decide +kernel
theorem dX0_insertInOrder_54 : decode cX0_insertInOrder 54 = .ok (.invokevirtual 77, 3) := by decide +kernel
theorem dX0_insertInOrder_57 : decode cX0_insertInOrder 57 = .ok (.return_, 1) := by decide +kernel
theorem dX0_deal_0 : decode cX0_deal 0 = .ok (.iconst 0, 1) := by decide +kernel
theorem dX0_deal_1 : decode cX0_deal 1 = .ok (.istore_n 1, 1) := by decide +kernel
theorem dX0_deal_2 : decode cX0_deal 2 = .ok (.iload_n 1, 1) := by decide +kernel
theorem dX0_deal_3 : decode cX0_deal 3 = .ok (.aload_n 0, 1) := by decide +kernel
theorem dX0_deal_4 : decode cX0_deal 4 = .ok (.getfield 40, 3) := by decide +kernel
theorem dX0_deal_7 : decode cX0_deal 7 = .ok (.if_icmp .ge 28, 3) := by decide +kernel
theorem dX0_deal_10 : decode cX0_deal 10 = .ok (.iconst 0, 1) := by decide +kernel
theorem dX0_deal_11 : decode cX0_deal 11 = .ok (.istore_n 2, 1) := by decide +kernel
theorem dX0_deal_12 : decode cX0_deal 12 = .ok (.iload_n 2, 1) := by decide +kernel
theorem dX0_deal_13 : decode cX0_deal 13 = .ok (.iconst 5, 1) := by decide +kernel
theorem dX0_deal_14 : decode cX0_deal 14 = .ok (.if_icmp .ge 15, 3) := by decide +kernel
theorem dX0_deal_17 : decode cX0_deal 17 = .ok (.aload_n 0, 1) := by decide +kernel
theorem dX0_deal_18 : decode cX0_deal 18 = .ok (.iload_n 1, 1) := by decide +kernel
theorem dX0_deal_19 : decode cX0_deal 19 = .ok (.invokevirtual 88, 3) := by decide +kernel
theorem dX0_deal_22 : decode cX0_deal 22 = .ok (.pop, 1) := by decide +kernel
theorem dX0_deal_23 : decode cX0_deal 23 = .ok (.iinc 2 1, 3) := by decide +kernel
theorem dX0_deal_26 : decode cX0_deal 26 = .ok (.goto (-14), 3) := by decide +kernel
theorem dX0_deal_29 : decode cX0_deal 29 = .ok (.iinc 1 1, 3) := by decide +kernel
theorem dX0_deal_32 : decode cX0_deal 32 = .ok (.goto (-30), 3) := by decide +kernel
theorem dX0_deal_35 : decode cX0_deal 35 = .ok (.return_, 1) := by decide +kernel
theorem dX0_takeFromStock_0 : decode cX0_takeFromStock 0 = .ok (.aload_n 0, 1) := by decide +kernel
theorem dX0_takeFromStock_1 : decode cX0_takeFromStock 1 = .ok (.getfield 29, 3) := by decide +kernel
theorem dX0_takeFromStock_4 : decode cX0_takeFromStock 4 = .ok (.iconst 0, 1) := by decide +kernel
theorem dX0_takeFromStock_5 : decode cX0_takeFromStock 5 = .ok (.aload_n 0, 1) := by decide +kernel
theorem dX0_takeFromStock_6 : decode cX0_takeFromStock 6 = .ok (.getfield 46, 3) := by decide +kernel
theorem dX0_takeFromStock_9 : decode cX0_takeFromStock 9 = .ok (.invokevirtual 84, 3) := by decide +kernel
theorem dX0_takeFromStock_12 : decode cX0_takeFromStock 12 = .ok (.istore_n 2, 1) := by decide +kernel
theorem dX0_takeFromStock_13 : decode cX0_takeFromStock 13 = .ok (.aload_n 0, 1) := by decide +kernel
theorem dX0_takeFromStock_14 : decode cX0_takeFromStock 14 = .ok (.dup, 1) := by decide +kernel
theorem dX0_takeFromStock_15 : decode cX0_takeFromStock 15 = .ok (.getfield 46, 3) := by decide +kernel
theorem dX0_takeFromStock_18 : decode cX0_takeFromStock 18 = .ok (.iconst 1, 1) := by decide +kernel
theorem dX0_takeFromStock_19 : decode cX0_takeFromStock 19 = .ok (.iadd, 1) := by decide +kernel
theorem dX0_takeFromStock_20 : decode cX0_takeFromStock 20 = .ok (.putfield 46, 3) := by decide +kernel
theorem dX0_takeFromStock_23 : decode cX0_takeFromStock 23 = .ok (.aload_n 0, 1) := by decide +kernel
theorem dX0_takeFromStock_24 : decode cX0_takeFromStock 24 = .ok (.getfield 14, 3) := by decide +kernel
theorem dX0_takeFromStock_27 : decode cX0_takeFromStock 27 = .ok (.iload_n 2, 1) := by decide +kernel
theorem dX0_takeFromStock_28 : decode cX0_takeFromStock 28 = .ok (.iconst 2, 1) := by decide +kernel
theorem dX0_takeFromStock_29 : decode cX0_takeFromStock 29 = .ok (.iconst 1, 1) := by decide +kernel
theorem dX0_takeFromStock_30 : decode cX0_takeFromStock 30 = .ok (.invokevirtual 77, 3) := by decide +kernel
theorem dX0_takeFromStock_33 : decode cX0_takeFromStock 33 = .ok (.aload_n 0, 1) := by decide +kernel
theorem dX0_takeFromStock_34 : decode cX0_takeFromStock 34 = .ok (.getfield 14, 3) := by decide +kernel
theorem dX0_takeFromStock_37 : decode cX0_takeFromStock 37 = .ok (.iload_n 2, 1) := by decide +kernel
theorem dX0_takeFromStock_38 : decode cX0_takeFromStock 38 = .ok (.iconst 3, 1) := by decide +kernel
theorem dX0_takeFromStock_39 : decode cX0_takeFromStock 39 = .ok (.iload_n 1, 1) := by decide +kernel
theorem dX0_takeFromStock_40 : decode cX0_takeFromStock 40 = .ok (.invokevirtual 77, 3) := by decide +kernel
theorem dX0_takeFromStock_43 : decode cX0_takeFromStock 43 = .ok (.aload_n 0, 1) := by decide +kernel
theorem dX0_takeFromStock_44 : decode cX0_takeFromStock 44 = .ok (.getfield 20, 3) := by decide +kernel
theorem dX0_takeFromStock_47 : decode cX0_takeFromStock 47 = .ok (.iload_n 1, 1) := by decide +kernel
theorem dX0_takeFromStock_48 : decode cX0_takeFromStock 48 = .ok (.aload_n 0, 1) := by decide +kernel
theorem dX0_takeFromStock_49 : decode cX0_takeFromStock 49 = .ok (.iload_n 1, 1) := by decide +kernel
theorem dX0_takeFromStock_50 : decode cX0_takeFromStock 50 = .ok (.invokevirtual 92, 3) := by decide +kernel
theorem dX0_takeFromStock_53 : decode cX0_takeFromStock 53 = .ok (.iload_n 2, 1) := by decide +kernel
theorem dX0_takeFromStock_54 : decode cX0_takeFromStock 54 = .ok (.invokevirtual 77, 3) := by decide +kernel
theorem dX0_takeFromStock_57 : decode cX0_takeFromStock 57 = .ok (.aload_n 0, 1) := by decide +kernel
theorem dX0_takeFromStock_58 : decode cX0_takeFromStock 58 = .ok (.getfield 23, 3) := by decide +kernel
theorem dX0_takeFromStock_61 : decode cX0_takeFromStock 61 = .ok (.iload_n 1, 1) := by decide +kernel
theorem dX0_takeFromStock_62 : decode cX0_takeFromStock 62 = .ok (.iconst 0, 1) := by decide +kernel
theorem dX0_takeFromStock_63 : decode cX0_takeFromStock 63 = .ok (.iconst 1, 1) := by decide +kernel
theorem dX0_takeFromStock_64 : decode cX0_takeFromStock 64 = .ok (.invokevirtual 95, 3) := by decide +kernel
theorem dX0_takeFromStock_67 : decode cX0_takeFromStock 67 = .ok (.iload_n 2, 1) := by decide +kernel
theorem dX0_takeFromStock_68 : decode cX0_takeFromStock 68 = .ok (.ireturn, 1) := by decide +kernel
theorem dX0_turnToLay_0 : decode cX0_turnToLay 0 = .ok (.aload_n 0, 1) := by decide +kernel
theorem dX0_turnToLay_1 : decode cX0_turnToLay 1 = .ok (.iload_n 1, 1) := by decide +kernel
theorem dX0_turnToLay_2 : decode cX0_turnToLay 2 = .ok (.iload_n 2, 1) := by decide +kernel
theorem dX0_turnToLay_3 : decode cX0_turnToLay 3 = .ok (.iload_n 3, 1) := by decide +kernel
theorem dX0_turnToLay_4 : decode cX0_turnToLay 4 = .ok (.invokevirtual 98, 3) := by decide +kernel
theorem dX0_turnToLay_7 : decode cX0_turnToLay 7 = .ok (.istore 4, 2) := by decide +kernel
theorem dX0_turnToLay_9 : decode cX0_turnToLay 9 = .ok (.iload 4, 2) := by decide +kernel
theorem dX0_turnToLay_11 : decode cX0_turnToLay 11 = .ok (.ifCond .eq 16, 3) := by decide +kernel
theorem dX0_turnToLay_14 : decode cX0_turnToLay 14 = .ok (.aload_n 0, 1) := by decide +kernel
theorem dX0_turnToLay_15 : decode cX0_turnToLay 15 = .ok (.dup, 1) := by decide +kernel
theorem dX0_turnToLay_16 : decode cX0_turnToLay 16 = .ok (.getfield 55, 3) := by decide +kernel
theorem dX0_turnToLay_19 : decode cX0_turnToLay 19 = .ok (.iconst 1, 1) := by decide +kernel
theorem dX0_turnToLay_20 : decode cX0_turnToLay 20 = .ok (.iadd, 1) := by decide +kernel
theorem dX0_turnToLay_21 : decode cX0_turnToLay 21 = .ok (.putfield 55, 3) := by decide +kernel
theorem dX0_turnToLay_24 : decode cX0_turnToLay 24 = .ok (.iload 4, 2) := by decide +kernel
theorem dX0_turnToLay_26 : decode cX0_turnToLay 26 = .ok (.ireturn, 1) := by decide +kernel
theorem dX0_turnToLay_27 : decode cX0_turnToLay 27 = .ok (.aload_n 0, 1) := by decide +kernel
theorem dX0_turnToLay_28 : decode cX0_turnToLay 28 = .ok (.iconst 0, 1) := by decide +kernel
theorem dX0_turnToLay_29 : decode cX0_turnToLay 29 = .ok (.putfield 52, 3) := by decide +kernel
theorem dX0_turnToLay_32 : decode cX0_turnToLay 32 = .ok (.aload_n 0, 1) := by decide +kernel
theorem dX0_turnToLay_33 : decode cX0_turnToLay 33 = .ok (.aload_n 0, 1) := by decide +kernel
theorem dX0_turnToLay_34 : decode cX0_turnToLay 34 = .ok (.getfield 43, 3) := by decide +kernel
theorem dX0_turnToLay_37 : decode cX0_turnToLay 37 = .ok (.iload_n 1, 1) := by decide +kernel
theorem dX0_turnToLay_38 : decode cX0_turnToLay 38 = .ok (.invokevirtual 102, 3) := by decide +kernel
theorem dX0_turnToLay_41 : decode cX0_turnToLay 41 = .ok (.istore 5, 2) := by decide +kernel
theorem dX0_turnToLay_43 : decode cX0_turnToLay 43 = .ok (.aload_n 0, 1) := by decide +kernel
theorem dX0_turnToLay_44 : decode cX0_turnToLay 44 = .ok (.getfield 14, 3) := by decide +kernel
theorem dX0_turnToLay_47 : decode cX0_turnToLay 47 = .ok (.iload 5, 2) := by decide +kernel
theorem dX0_turnToLay_49 : decode cX0_turnToLay 49 = .ok (.iconst 2, 1) := by decide +kernel
theorem dX0_turnToLay_50 : decode cX0_turnToLay 50 = .ok (.iconst 2, 1) := by decide +kernel
theorem dX0_turnToLay_51 : decode cX0_turnToLay 51 = .ok (.invokevirtual 77, 3) := by decide +kernel
theorem dX0_turnToLay_54 : decode cX0_turnToLay 54 = .ok (.aload_n 0, 1) := by decide +kernel
theorem dX0_turnToLay_55 : decode cX0_turnToLay 55 = .ok (.getfield 14, 3) := by decide +kernel
theorem dX0_turnToLay_58 : decode cX0_turnToLay 58 = .ok (.iload 5, 2) := by decide +kernel
theorem dX0_turnToLay_60 : decode cX0_turnToLay 60 = .ok (.iconst 5, 1) := by decide +kernel
theorem dX0_turnToLay_61 : decode cX0_turnToLay 61 = .ok (.iload_n 2, 1) := by decide +kernel
theorem dX0_turnToLay_62 : decode cX0_turnToLay 62 = .ok (.invokevirtual 77, 3) := by decide +kernel
theorem dX0_turnToLay_65 : decode cX0_turnToLay 65 = .ok (.aload_n 0, 1) := by decide +kernel
theorem dX0_turnToLay_66 : decode cX0_turnToLay 66 = .ok (.getfield 23, 3) := by decide +kernel
theorem dX0_turnToLay_69 : decode cX0_turnToLay 69 = .ok (.aload_n 0, 1) := by decide +kernel
theorem dX0_turnToLay_70 : decode cX0_turnToLay 70 = .ok (.getfield 43, 3) := by decide +kernel
theorem dX0_turnToLay_73 : decode cX0_turnToLay 73 = .ok (.iconst 2, 1) := by decide +kernel
theorem dX0_turnToLay_74 : decode cX0_turnToLay 74 = .ok (.iconst 1, 1) := by decide +kernel
theorem dX0_turnToLay_75 : decode cX0_turnToLay 75 = .ok (.invokevirtual 95, 3) := by decide +kernel
theorem dX0_turnToLay_78 : decode cX0_turnToLay 78 = .ok (.aload_n 0, 1) := by decide +kernel
theorem dX0_turnToLay_79 : decode cX0_turnToLay 79 = .ok (.iload 5, 2) := by decide +kernel
theorem dX0_turnToLay_81 : decode cX0_turnToLay 81 = .ok (.iload_n 2, 1) := by decide +kernel
theorem dX0_turnToLay_82 : decode cX0_turnToLay 82 = .ok (.iload_n 3, 1) := by decide +kernel
theorem dX0_turnToLay_83 : decode cX0_turnToLay 83 = .ok (.invokevirtual 105, 3) := by decide +kernel
theorem dX0_turnToLay_86 : decode cX0_turnToLay 86 = .ok (.aload_n 0, 1) := by decide +kernel
theorem dX0_turnToLay_87 : decode cX0_turnToLay 87 = .ok (.invokevirtual 108, 3) := by decide +kernel
theorem dX0_turnToLay_90 : decode cX0_turnToLay 90 = .ok (.ireturn, 1) := by decide +kernel
theorem dX0_turnToDraw_0 : decode cX0_turnToDraw 0 = .ok (.aload_n 0, 1) := by decide +kernel
theorem dX0_turnToDraw_1 : decode cX0_turnToDraw 1 = .ok (.invokevirtual 112, 3) := by decide +kernel
theorem dX0_turnToDraw_4 : decode cX0_turnToDraw 4 = .ok (.ifCond .ne 10, 3) := by decide +kernel
theorem dX0_turnToDraw_7 : decode cX0_turnToDraw 7 = .ok (.aload_n 0, 1) := by decide +kernel
theorem dX0_turnToDraw_8 : decode cX0_turnToDraw 8 = .ok (.invokevirtual 116, 3) := by decide +kernel
theorem dX0_turnToDraw_11 : decode cX0_turnToDraw 11 = .ok (.ifCond .ne 29, 3) := by decide +kernel
theorem dX0_turnToDraw_14 : decode cX0_turnToDraw 14 = .ok (.aload_n 0, 1) := by decide +kernel
theorem dX0_turnToDraw_15 : decode cX0_turnToDraw 15 = .ok (.dup, 1) := by decide +kernel
theorem dX0_turnToDraw_16 : decode cX0_turnToDraw 16 = .ok (.getfield 55, 3) := by decide +kernel
theorem dX0_turnToDraw_19 : decode cX0_turnToDraw 19 = .ok (.iconst 1, 1) := by decide +kernel
theorem dX0_turnToDraw_20 : decode cX0_turnToDraw 20 = .ok (.iadd, 1) := by decide +kernel
theorem dX0_turnToDraw_21 : decode cX0_turnToDraw 21 = .ok (.putfield 55, 3) := by decide +kernel
theorem dX0_turnToDraw_24 : decode cX0_turnToDraw 24 = .ok (.bipush 100, 2) := by decide +kernel
theorem dX0_turnToDraw_26 : decode cX0_turnToDraw 26 = .ok (.aload_n 0, 1) := by decide +kernel
theorem dX0_turnToDraw_27 : decode cX0_turnToDraw 27 = .ok (.invokevirtual 112, 3) := by decide +kernel
theorem dX0_turnToDraw_30 : decode cX0_turnToDraw 30 = .ok (.ifCond .eq 7, 3) := by decide +kernel
theorem dX0_turnToDraw_33 : decode cX0_turnToDraw 33 = .ok (.iconst 1, 1) := by decide +kernel
theorem dX0_turnToDraw_34 : decode cX0_turnToDraw 34 = .ok (.goto 4, 3) := by decide +kernel
theorem dX0_turnToDraw_37 : decode cX0_turnToDraw 37 = .ok (.iconst 4, 1) := by decide +kernel
theorem dX0_turnToDraw_38 : decode cX0_turnToDraw 38 = .ok (.iadd, 1) := by decide +kernel
theorem dX0_turnToDraw_39 : decode cX0_turnToDraw 39 = .ok (.ireturn, 1) := by decide +kernel
theorem dX0_turnToDraw_40 : decode cX0_turnToDraw 40 = .ok (.aload_n 0, 1) := by decide +kernel
theorem dX0_turnToDraw_41 : decode cX0_turnToDraw 41 = .ok (.iconst 0, 1) := by decide +kernel
theorem dX0_turnToDraw_42 : decode cX0_turnToDraw 42 = .ok (.putfield 52, 3) := by decide +kernel
theorem dX0_turnToDraw_45 : decode cX0_turnToDraw 45 = .ok (.aload_n 0, 1) := by decide +kernel
theorem dX0_turnToDraw_46 : decode cX0_turnToDraw 46 = .ok (.aload_n 0, 1) := by decide +kernel
theorem dX0_turnToDraw_47 : decode cX0_turnToDraw 47 = .ok (.getfield 43, 3) := by decide +kernel
theorem dX0_turnToDraw_50 : decode cX0_turnToDraw 50 = .ok (.invokevirtual 88, 3) := by decide +kernel
theorem dX0_turnToDraw_53 : decode cX0_turnToDraw 53 = .ok (.istore_n 1, 1) := by decide +kernel
theorem dX0_turnToDraw_54 : decode cX0_turnToDraw 54 = .ok (.aload_n 0, 1) := by decide +kernel
theorem dX0_turnToDraw_55 : decode cX0_turnToDraw 55 = .ok (.getfield 23, 3) := by decide +kernel
theorem dX0_turnToDraw_58 : decode cX0_turnToDraw 58 = .ok (.aload_n 0, 1) := by decide +kernel
theorem dX0_turnToDraw_59 : decode cX0_turnToDraw 59 = .ok (.getfield 43, 3) := by decide +kernel
theorem dX0_turnToDraw_62 : decode cX0_turnToDraw 62 = .ok (.iconst 3, 1) := by decide +kernel
theorem dX0_turnToDraw_63 : decode cX0_turnToDraw 63 = .ok (.iconst 1, 1) := by decide +kernel
theorem dX0_turnToDraw_64 : decode cX0_turnToDraw 64 = .ok (.invokevirtual 95, 3) := by decide +kernel
theorem dX0_turnToDraw_67 : decode cX0_turnToDraw 67 = .ok (.aload_n 0, 1) := by decide +kernel
theorem dX0_turnToDraw_68 : decode cX0_turnToDraw 68 = .ok (.invokevirtual 108, 3) := by decide +kernel
theorem dX0_turnToDraw_71 : decode cX0_turnToDraw 71 = .ok (.pop, 1) := by decide +kernel
theorem dX0_turnToDraw_72 : decode cX0_turnToDraw 72 = .ok (.iload_n 1, 1) := by decide +kernel
theorem dX0_turnToDraw_73 : decode cX0_turnToDraw 73 = .ok (.ireturn, 1) := by decide +kernel
theorem dX0_turnToPass_0 : decode cX0_turnToPass 0 = .ok (.aload_n 0, 1) := by decide +kernel
theorem dX0_turnToPass_1 : decode cX0_turnToPass 1 = .ok (.invokevirtual 112, 3) := by decide +kernel
theorem dX0_turnToPass_4 : decode cX0_turnToPass 4 = .ok (.ifCond .ne 10, 3) := by decide +kernel
theorem dX0_turnToPass_7 : decode cX0_turnToPass 7 = .ok (.aload_n 0, 1) := by decide +kernel
theorem dX0_turnToPass_8 : decode cX0_turnToPass 8 = .ok (.invokevirtual 116, 3) := by decide +kernel
theorem dX0_turnToPass_11 : decode cX0_turnToPass 11 = .ok (.ifCond .le 26, 3) := by decide +kernel
theorem dX0_turnToPass_14 : decode cX0_turnToPass 14 = .ok (.aload_n 0, 1) := by decide +kernel
theorem dX0_turnToPass_15 : decode cX0_turnToPass 15 = .ok (.dup, 1) := by decide +kernel
theorem dX0_turnToPass_16 : decode cX0_turnToPass 16 = .ok (.getfield 55, 3) := by decide +kernel
theorem dX0_turnToPass_19 : decode cX0_turnToPass 19 = .ok (.iconst 1, 1) := by decide +kernel
theorem dX0_turnToPass_20 : decode cX0_turnToPass 20 = .ok (.iadd, 1) := by decide +kernel
theorem dX0_turnToPass_21 : decode cX0_turnToPass 21 = .ok (.putfield 55, 3) := by decide +kernel
theorem dX0_turnToPass_24 : decode cX0_turnToPass 24 = .ok (.aload_n 0, 1) := by decide +kernel
theorem dX0_turnToPass_25 : decode cX0_turnToPass 25 = .ok (.invokevirtual 112, 3) := by decide +kernel
theorem dX0_turnToPass_28 : decode cX0_turnToPass 28 = .ok (.ifCond .eq 7, 3) := by decide +kernel
theorem dX0_turnToPass_31 : decode cX0_turnToPass 31 = .ok (.iconst 1, 1) := by decide +kernel
theorem dX0_turnToPass_32 : decode cX0_turnToPass 32 = .ok (.goto 4, 3) := by decide +kernel
theorem dX0_turnToPass_35 : decode cX0_turnToPass 35 = .ok (.iconst 5, 1) := by decide +kernel
theorem dX0_turnToPass_36 : decode cX0_turnToPass 36 = .ok (.ireturn, 1) := by decide +kernel
theorem dX0_turnToPass_37 : decode cX0_turnToPass 37 = .ok (.aload_n 0, 1) := by decide +kernel
theorem dX0_turnToPass_38 : decode cX0_turnToPass 38 = .ok (.dup, 1) := by decide +kernel
theorem dX0_turnToPass_39 : decode cX0_turnToPass 39 = .ok (.getfield 52, 3) := by decide +kernel
theorem dX0_turnToPass_42 : decode cX0_turnToPass 42 = .ok (.iconst 1, 1) := by decide +kernel
theorem dX0_turnToPass_43 : decode cX0_turnToPass 43 = .ok (.iadd, 1) := by decide +kernel
theorem dX0_turnToPass_44 : decode cX0_turnToPass 44 = .ok (.putfield 52, 3) := by decide +kernel
theorem dX0_turnToPass_47 : decode cX0_turnToPass 47 = .ok (.aload_n 0, 1) := by decide +kernel
theorem dX0_turnToPass_48 : decode cX0_turnToPass 48 = .ok (.invokevirtual 108, 3) := by decide +kernel
theorem dX0_turnToPass_51 : decode cX0_turnToPass 51 = .ok (.ireturn, 1) := by decide +kernel
theorem dX0_oilTile_0 : decode cX0_oilTile 0 = .ok (.aload_n 0, 1) := by decide +kernel
theorem dX0_oilTile_1 : decode cX0_oilTile 1 = .ok (.invokevirtual 112, 3) := by decide +kernel
theorem dX0_oilTile_4 : decode cX0_oilTile 4 = .ok (.ifCond .eq 5, 3) := by decide +kernel
theorem dX0_oilTile_7 : decode cX0_oilTile 7 = .ok (.iconst (-1), 1) := by decide +kernel
theorem dX0_oilTile_8 : decode cX0_oilTile 8 = .ok (.ireturn, 1) := by decide +kernel
theorem dX0_oilTile_9 : decode cX0_oilTile 9 = .ok (.aload_n 0, 1) := by decide +kernel
theorem dX0_oilTile_10 : decode cX0_oilTile 10 = .ok (.getfield 20, 3) := by decide +kernel
theorem dX0_oilTile_13 : decode cX0_oilTile 13 = .ok (.aload_n 0, 1) := by decide +kernel
theorem dX0_oilTile_14 : decode cX0_oilTile 14 = .ok (.getfield 43, 3) := by decide +kernel
theorem dX0_oilTile_17 : decode cX0_oilTile 17 = .ok (.iload_n 1, 1) := by decide +kernel
theorem dX0_oilTile_18 : decode cX0_oilTile 18 = .ok (.invokevirtual 84, 3) := by decide +kernel
theorem dX0_oilTile_21 : decode cX0_oilTile 21 = .ok (.istore_n 2, 1) := by decide +kernel
theorem dX0_oilTile_22 : decode cX0_oilTile 22 = .ok (.aload_n 0, 1) := by decide +kernel
theorem dX0_oilTile_23 : decode cX0_oilTile 23 = .ok (.getfield 14, 3) := by decide +kernel
theorem dX0_oilTile_26 : decode cX0_oilTile 26 = .ok (.iload_n 2, 1) := by decide +kernel
theorem dX0_oilTile_27 : decode cX0_oilTile 27 = .ok (.iconst 4, 1) := by decide +kernel
theorem dX0_oilTile_28 : decode cX0_oilTile 28 = .ok (.invokevirtual 84, 3) := by decide +kernel
theorem dX0_oilTile_31 : decode cX0_oilTile 31 = .ok (.istore_n 3, 1) := by decide +kernel
theorem dX0_oilTile_32 : decode cX0_oilTile 32 = .ok (.aload_n 0, 1) := by decide +kernel
theorem dX0_oilTile_33 : decode cX0_oilTile 33 = .ok (.getfield 14, 3) := by decide +kernel
theorem dX0_oilTile_36 : decode cX0_oilTile 36 = .ok (.iload_n 2, 1) := by decide +kernel
theorem dX0_oilTile_37 : decode cX0_oilTile 37 = .ok (.iconst 4, 1) := by decide +kernel
theorem dX0_oilTile_38 : decode cX0_oilTile 38 = .ok (.iconst 0, 1) := by decide +kernel
theorem dX0_oilTile_39 : decode cX0_oilTile 39 = .ok (.invokevirtual 77, 3) := by decide +kernel
theorem dX0_oilTile_42 : decode cX0_oilTile 42 = .ok (.iload_n 3, 1) := by decide +kernel
theorem dX0_oilTile_43 : decode cX0_oilTile 43 = .ok (.ireturn, 1) := by decide +kernel
theorem dX0_reasonAgainst_0 : decode cX0_reasonAgainst 0 = .ok (.aload_n 0, 1) := by decide +kernel
theorem dX0_reasonAgainst_1 : decode cX0_reasonAgainst 1 = .ok (.invokevirtual 112, 3) := by decide +kernel
theorem dX0_reasonAgainst_4 : decode cX0_reasonAgainst 4 = .ok (.ifCond .eq 5, 3) := by decide +kernel
theorem dX0_reasonAgainst_7 : decode cX0_reasonAgainst 7 = .ok (.iconst 1, 1) := by decide +kernel
theorem dX0_reasonAgainst_8 : decode cX0_reasonAgainst 8 = .ok (.ireturn, 1) := by decide +kernel
theorem dX0_reasonAgainst_9 : decode cX0_reasonAgainst 9 = .ok (.aload_n 0, 1) := by decide +kernel
theorem dX0_reasonAgainst_10 : decode cX0_reasonAgainst 10 = .ok (.aload_n 0, 1) := by decide +kernel
theorem dX0_reasonAgainst_11 : decode cX0_reasonAgainst 11 = .ok (.getfield 43, 3) := by decide +kernel
theorem dX0_reasonAgainst_14 : decode cX0_reasonAgainst 14 = .ok (.iload_n 1, 1) := by decide +kernel
theorem dX0_reasonAgainst_15 : decode cX0_reasonAgainst 15 = .ok (.invokevirtual 119, 3) := by decide +kernel
theorem dX0_reasonAgainst_18 : decode cX0_reasonAgainst 18 = .ok (.ifCond .ne 5, 3) := by decide +kernel
theorem dX0_reasonAgainst_21 : decode cX0_reasonAgainst 21 = .ok (.iconst 2, 1) := by decide +kernel
theorem dX0_reasonAgainst_22 : decode cX0_reasonAgainst 22 = .ok (.ireturn, 1) := by decide +kernel
theorem dX0_reasonAgainst_23 : decode cX0_reasonAgainst 23 = .ok (.aload_n 0, 1) := by decide +kernel
theorem dX0_reasonAgainst_24 : decode cX0_reasonAgainst 24 = .ok (.aload_n 0, 1) := by decide +kernel
theorem dX0_reasonAgainst_25 : decode cX0_reasonAgainst 25 = .ok (.getfield 20, 3) := by decide +kernel
theorem dX0_reasonAgainst_28 : decode cX0_reasonAgainst 28 = .ok (.aload_n 0, 1) := by decide +kernel
theorem dX0_reasonAgainst_29 : decode cX0_reasonAgainst 29 = .ok (.getfield 43, 3) := by decide +kernel
theorem dX0_reasonAgainst_32 : decode cX0_reasonAgainst 32 = .ok (.iload_n 1, 1) := by decide +kernel
theorem dX0_reasonAgainst_33 : decode cX0_reasonAgainst 33 = .ok (.invokevirtual 84, 3) := by decide +kernel
theorem dX0_reasonAgainst_36 : decode cX0_reasonAgainst 36 = .ok (.iload_n 2, 1) := by decide +kernel
theorem dX0_reasonAgainst_37 : decode cX0_reasonAgainst 37 = .ok (.iload_n 3, 1) := by decide +kernel
theorem dX0_reasonAgainst_38 : decode cX0_reasonAgainst 38 = .ok (.invokevirtual 123, 3) := by decide +kernel
theorem dX0_reasonAgainst_41 : decode cX0_reasonAgainst 41 = .ok (.ifCond .eq 7, 3) := by decide +kernel
theorem dX0_reasonAgainst_44 : decode cX0_reasonAgainst 44 = .ok (.iconst 0, 1) := by decide +kernel
theorem dX0_reasonAgainst_45 : decode cX0_reasonAgainst 45 = .ok (.goto 4, 3) := by decide +kernel
theorem dX0_reasonAgainst_48 : decode cX0_reasonAgainst 48 = .ok (.iconst 3, 1) := by decide +kernel
theorem dX0_reasonAgainst_49 : decode cX0_reasonAgainst 49 = .ok (.ireturn, 1) := by decide +kernel
theorem dX0_fits_0 : decode cX0_fits 0 = .ok (.aload_n 0, 1) := by decide +kernel
theorem dX0_fits_1 : decode cX0_fits 1 = .ok (.getfield 26, 3) := by decide +kernel
theorem dX0_fits_4 : decode cX0_fits 4 = .ok (.iload_n 2, 1) := by decide +kernel
theorem dX0_fits_5 : decode cX0_fits 5 = .ok (.iconst 0, 1) := by decide +kernel
theorem dX0_fits_6 : decode cX0_fits 6 = .ok (.invokevirtual 84, 3) := by decide +kernel
theorem dX0_fits_9 : decode cX0_fits 9 = .ok (.ifCond .ne 5, 3) := by decide +kernel
theorem dX0_fits_12 : decode cX0_fits 12 = .ok (.iconst 1, 1) := by decide +kernel
theorem dX0_fits_13 : decode cX0_fits 13 = .ok (.ireturn, 1) := by decide +kernel
theorem dX0_fits_14 : decode cX0_fits 14 = .ok (.aload_n 0, 1) := by decide +kernel
theorem dX0_fits_15 : decode cX0_fits 15 = .ok (.getfield 26, 3) := by decide +kernel
theorem dX0_fits_18 : decode cX0_fits 18 = .ok (.iload_n 2, 1) := by decide +kernel
theorem dX0_fits_19 : decode cX0_fits 19 = .ok (.iconst 1, 1) := by decide +kernel
theorem dX0_fits_20 : decode cX0_fits 20 = .ok (.iload_n 3, 1) := by decide +kernel
theorem dX0_fits_21 : decode cX0_fits 21 = .ok (.iadd, 1) := by decide +kernel
theorem dX0_fits_22 : decode cX0_fits 22 = .ok (.invokevirtual 84, 3) := by decide +kernel
theorem dX0_fits_25 : decode cX0_fits 25 = .ok (.istore 4, 2) := by decide +kernel
theorem dX0_fits_27 : decode cX0_fits 27 = .ok (.aload_n 0, 1) := by decide +kernel
theorem dX0_fits_28 : decode cX0_fits 28 = .ok (.getfield 14, 3) := by decide +kernel
theorem dX0_fits_31 : decode cX0_fits 31 = .ok (.iload_n 1, 1) := by decide +kernel
theorem dX0_fits_32 : decode cX0_fits 32 = .ok (.iconst 0, 1) := by decide +kernel
theorem dX0_fits_33 : decode cX0_fits 33 = .ok (.invokevirtual 84, 3) := by decide +kernel
theorem dX0_fits_36 : decode cX0_fits 36 = .ok (.iload 4, 2) := by decide +kernel
theorem dX0_fits_38 : decode cX0_fits 38 = .ok (.if_icmp .eq 17, 3) := by decide +kernel
theorem dX0_fits_41 : decode cX0_fits 41 = .ok (.aload_n 0, 1) := by decide +kernel
theorem dX0_fits_42 : decode cX0_fits 42 = .ok (.getfield 14, 3) := by decide +kernel
theorem dX0_fits_45 : decode cX0_fits 45 = .ok (.iload_n 1, 1) := by decide +kernel
theorem dX0_fits_46 : decode cX0_fits 46 = .ok (.iconst 1, 1) := by decide +kernel
theorem dX0_fits_47 : decode cX0_fits 47 = .ok (.invokevirtual 84, 3) := by decide +kernel
theorem dX0_fits_50 : decode cX0_fits 50 = .ok (.iload 4, 2) := by decide +kernel
theorem dX0_fits_52 : decode cX0_fits 52 = .ok (.if_icmp .ne 7, 3) := by decide +kernel
theorem dX0_fits_55 : decode cX0_fits 55 = .ok (.iconst 1, 1) := by decide +kernel
theorem dX0_fits_56 : decode cX0_fits 56 = .ok (.goto 4, 3) := by decide +kernel
theorem dX0_fits_59 : decode cX0_fits 59 = .ok (.iconst 0, 1) := by decide +kernel
theorem dX0_fits_60 : decode cX0_fits 60 = .ok (.ireturn, 1) := by decide +kernel
theorem dX0_takeFromHand_0 : decode cX0_takeFromHand 0 = .ok (.aload_n 0, 1) := by decide +kernel
theorem dX0_takeFromHand_1 : decode cX0_takeFromHand 1 = .ok (.getfield 20, 3) := by decide +kernel
theorem dX0_takeFromHand_4 : decode cX0_takeFromHand 4 = .ok (.iload_n 1, 1) := by decide +kernel
theorem dX0_takeFromHand_5 : decode cX0_takeFromHand 5 = .ok (.iload_n 2, 1) := by decide +kernel
theorem dX0_takeFromHand_6 : decode cX0_takeFromHand 6 = .ok (.invokevirtual 84, 3) := by decide +kernel
theorem dX0_takeFromHand_9 : decode cX0_takeFromHand 9 = .ok (.istore_n 3, 1) := by decide +kernel
theorem dX0_takeFromHand_10 : decode cX0_takeFromHand 10 = .ok (.aload_n 0, 1) := by decide +kernel
theorem dX0_takeFromHand_11 : decode cX0_takeFromHand 11 = .ok (.iload_n 1, 1) := by decide +kernel
theorem dX0_takeFromHand_12 : decode cX0_takeFromHand 12 = .ok (.invokevirtual 92, 3) := by decide +kernel
theorem dX0_takeFromHand_15 : decode cX0_takeFromHand 15 = .ok (.iconst 1, 1) := by decide +kernel
theorem dX0_takeFromHand_16 : decode cX0_takeFromHand 16 = .ok (.isub, 1) := by decide +kernel
theorem dX0_takeFromHand_17 : decode cX0_takeFromHand 17 = .ok (.istore 4, 2) := by decide +kernel
theorem dX0_takeFromHand_19 : decode cX0_takeFromHand 19 = .ok (.iload_n 2, 1) := by decide +kernel
theorem dX0_takeFromHand_20 : decode cX0_takeFromHand 20 = .ok (.istore 5, 2) := by decide +kernel
theorem dX0_takeFromHand_22 : decode cX0_takeFromHand 22 = .ok (.iload 5, 2) := by decide +kernel
theorem dX0_takeFromHand_24 : decode cX0_takeFromHand 24 = .ok (.iload 4, 2) := by decide +kernel
theorem dX0_takeFromHand_26 : decode cX0_takeFromHand 26 = .ok (.if_icmp .ge 31, 3) := by decide +kernel
theorem dX0_takeFromHand_29 : decode cX0_takeFromHand 29 = .ok (.aload_n 0, 1) := by decide +kernel
theorem dX0_takeFromHand_30 : decode cX0_takeFromHand 30 = .ok (.getfield 20, 3) := by decide +kernel
theorem dX0_takeFromHand_33 : decode cX0_takeFromHand 33 = .ok (.iload_n 1, 1) := by decide +kernel
theorem dX0_takeFromHand_34 : decode cX0_takeFromHand 34 = .ok (.iload 5, 2) := by decide +kernel
theorem dX0_takeFromHand_36 : decode cX0_takeFromHand 36 = .ok (.aload_n 0, 1) := by decide +kernel
theorem dX0_takeFromHand_37 : decode cX0_takeFromHand 37 = .ok (.getfield 20, 3) := by decide +kernel
theorem dX0_takeFromHand_40 : decode cX0_takeFromHand 40 = .ok (.iload_n 1, 1) := by decide +kernel
theorem dX0_takeFromHand_41 : decode cX0_takeFromHand 41 = .ok (.iload 5, 2) := by decide +kernel
theorem dX0_takeFromHand_43 : decode cX0_takeFromHand 43 = .ok (.iconst 1, 1) := by decide +kernel
theorem dX0_takeFromHand_44 : decode cX0_takeFromHand 44 = .ok (.iadd, 1) := by decide +kernel
theorem dX0_takeFromHand_45 : decode cX0_takeFromHand 45 = .ok (.invokevirtual 84, 3) := by decide +kernel
theorem dX0_takeFromHand_48 : decode cX0_takeFromHand 48 = .ok (.invokevirtual 77, 3) := by decide +kernel
theorem dX0_takeFromHand_51 : decode cX0_takeFromHand 51 = .ok (.iinc 5 1, 3) := by decide +kernel
theorem dX0_takeFromHand_54 : decode cX0_takeFromHand 54 = .ok (.goto (-32), 3) := by decide +kernel
theorem dX0_takeFromHand_57 : decode cX0_takeFromHand 57 = .ok (.aload_n 0, 1) := by decide +kernel
theorem dX0_takeFromHand_58 : decode cX0_takeFromHand 58 = .ok (.getfield 23, 3) := by decide +kernel
theorem dX0_takeFromHand_61 : decode cX0_takeFromHand 61 = .ok (.iload_n 1, 1) := by decide +kernel
theorem dX0_takeFromHand_62 : decode cX0_takeFromHand 62 = .ok (.iconst 0, 1) := by decide +kernel
theorem dX0_takeFromHand_63 : decode cX0_takeFromHand 63 = .ok (.iconst (-1), 1) := by decide +kernel
theorem dX0_takeFromHand_64 : decode cX0_takeFromHand 64 = .ok (.invokevirtual 95, 3) := by decide +kernel
theorem dX0_takeFromHand_67 : decode cX0_takeFromHand 67 = .ok (.iload_n 3, 1) := by decide +kernel
theorem dX0_takeFromHand_68 : decode cX0_takeFromHand 68 = .ok (.ireturn, 1) := by decide +kernel
theorem dX0_putAtEnd_0 : decode cX0_putAtEnd 0 = .ok (.aload_n 0, 1) := by decide +kernel
theorem dX0_putAtEnd_1 : decode cX0_putAtEnd 1 = .ok (.getfield 14, 3) := by decide +kernel
theorem dX0_putAtEnd_4 : decode cX0_putAtEnd 4 = .ok (.iload_n 1, 1) := by decide +kernel
theorem dX0_putAtEnd_5 : decode cX0_putAtEnd 5 = .ok (.iconst 0, 1) := by decide +kernel
theorem dX0_putAtEnd_6 : decode cX0_putAtEnd 6 = .ok (.invokevirtual 84, 3) := by decide +kernel
theorem dX0_putAtEnd_9 : decode cX0_putAtEnd 9 = .ok (.istore 4, 2) := by decide +kernel
theorem dX0_putAtEnd_11 : decode cX0_putAtEnd 11 = .ok (.aload_n 0, 1) := by decide +kernel
theorem dX0_putAtEnd_12 : decode cX0_putAtEnd 12 = .ok (.getfield 14, 3) := by decide +kernel
theorem dX0_putAtEnd_15 : decode cX0_putAtEnd 15 = .ok (.iload_n 1, 1) := by decide +kernel
theorem dX0_putAtEnd_16 : decode cX0_putAtEnd 16 = .ok (.iconst 1, 1) := by decide +kernel
theorem dX0_putAtEnd_17 : decode cX0_putAtEnd 17 = .ok (.invokevirtual 84, 3) := by decide +kernel
theorem dX0_putAtEnd_20 : decode cX0_putAtEnd 20 = .ok (.istore 5, 2) := by decide +kernel
theorem dX0_putAtEnd_22 : decode cX0_putAtEnd 22 = .ok (.aload_n 0, 1) := by decide +kernel
theorem dX0_putAtEnd_23 : decode cX0_putAtEnd 23 = .ok (.getfield 26, 3) := by decide +kernel
theorem dX0_putAtEnd_26 : decode cX0_putAtEnd 26 = .ok (.iload_n 2, 1) := by decide +kernel
theorem dX0_putAtEnd_27 : decode cX0_putAtEnd 27 = .ok (.iconst 0, 1) := by decide +kernel
theorem dX0_putAtEnd_28 : decode cX0_putAtEnd 28 = .ok (.invokevirtual 84, 3) := by decide +kernel
theorem dX0_putAtEnd_31 : decode cX0_putAtEnd 31 = .ok (.ifCond .ne 28, 3) := by decide +kernel
theorem dX0_putAtEnd_34 : decode cX0_putAtEnd 34 = .ok (.aload_n 0, 1) := by decide +kernel
theorem dX0_putAtEnd_35 : decode cX0_putAtEnd 35 = .ok (.getfield 26, 3) := by decide +kernel
theorem dX0_putAtEnd_38 : decode cX0_putAtEnd 38 = .ok (.iload_n 2, 1) := by decide +kernel
theorem dX0_putAtEnd_39 : decode cX0_putAtEnd 39 = .ok (.iconst 1, 1) := by decide +kernel
theorem dX0_putAtEnd_40 : decode cX0_putAtEnd 40 = .ok (.iload 4, 2) := by decide +kernel
theorem dX0_putAtEnd_42 : decode cX0_putAtEnd 42 = .ok (.invokevirtual 77, 3) := by decide +kernel
theorem dX0_putAtEnd_45 : decode cX0_putAtEnd 45 = .ok (.aload_n 0, 1) := by decide +kernel
theorem dX0_putAtEnd_46 : decode cX0_putAtEnd 46 = .ok (.getfield 26, 3) := by decide +kernel
theorem dX0_putAtEnd_49 : decode cX0_putAtEnd 49 = .ok (.iload_n 2, 1) := by decide +kernel
theorem dX0_putAtEnd_50 : decode cX0_putAtEnd 50 = .ok (.iconst 2, 1) := by decide +kernel
theorem dX0_putAtEnd_51 : decode cX0_putAtEnd 51 = .ok (.iload 5, 2) := by decide +kernel
theorem dX0_putAtEnd_53 : decode cX0_putAtEnd 53 = .ok (.invokevirtual 77, 3) := by decide +kernel
theorem dX0_putAtEnd_56 : decode cX0_putAtEnd 56 = .ok (.goto 37, 3) := by decide +kernel
theorem dX0_putAtEnd_59 : decode cX0_putAtEnd 59 = .ok (.aload_n 0, 1) := by decide +kernel
theorem dX0_putAtEnd_60 : decode cX0_putAtEnd 60 = .ok (.getfield 26, 3) := by decide +kernel
theorem dX0_putAtEnd_63 : decode cX0_putAtEnd 63 = .ok (.iload_n 2, 1) := by decide +kernel
theorem dX0_putAtEnd_64 : decode cX0_putAtEnd 64 = .ok (.iconst 1, 1) := by decide +kernel
theorem dX0_putAtEnd_65 : decode cX0_putAtEnd 65 = .ok (.iload_n 3, 1) := by decide +kernel
theorem dX0_putAtEnd_66 : decode cX0_putAtEnd 66 = .ok (.iadd, 1) := by decide +kernel
theorem dX0_putAtEnd_67 : decode cX0_putAtEnd 67 = .ok (.iload 4, 2) := by decide +kernel
theorem dX0_putAtEnd_69 : decode cX0_putAtEnd 69 = .ok (.aload_n 0, 1) := by decide +kernel
theorem dX0_putAtEnd_70 : decode cX0_putAtEnd 70 = .ok (.getfield 26, 3) := by decide +kernel
theorem dX0_putAtEnd_73 : decode cX0_putAtEnd 73 = .ok (.iload_n 2, 1) := by decide +kernel
theorem dX0_putAtEnd_74 : decode cX0_putAtEnd 74 = .ok (.iconst 1, 1) := by decide +kernel
theorem dX0_putAtEnd_75 : decode cX0_putAtEnd 75 = .ok (.iload_n 3, 1) := by decide +kernel
theorem dX0_putAtEnd_76 : decode cX0_putAtEnd 76 = .ok (.iadd, 1) := by decide +kernel
theorem dX0_putAtEnd_77 : decode cX0_putAtEnd 77 = .ok (.invokevirtual 84, 3) := by decide +kernel
theorem dX0_putAtEnd_80 : decode cX0_putAtEnd 80 = .ok (.if_icmp .ne 8, 3) := by decide +kernel
theorem dX0_putAtEnd_83 : decode cX0_putAtEnd 83 = .ok (.iload 5, 2) := by decide +kernel
theorem dX0_putAtEnd_85 : decode cX0_putAtEnd 85 = .ok (.goto 5, 3) := by decide +kernel
theorem dX0_putAtEnd_88 : decode cX0_putAtEnd 88 = .ok (.iload 4, 2) := by decide +kernel
theorem dX0_putAtEnd_90 : decode cX0_putAtEnd 90 = .ok (.invokevirtual 77, 3) := by decide +kernel
theorem dX0_putAtEnd_93 : decode cX0_putAtEnd 93 = .ok (.aload_n 0, 1) := by decide +kernel
theorem dX0_putAtEnd_94 : decode cX0_putAtEnd 94 = .ok (.getfield 26, 3) := by decide +kernel
theorem dX0_putAtEnd_97 : decode cX0_putAtEnd 97 = .ok (.iload_n 2, 1) := by decide +kernel
theorem dX0_putAtEnd_98 : decode cX0_putAtEnd 98 = .ok (.iconst 0, 1) := by decide +kernel
theorem dX0_putAtEnd_99 : decode cX0_putAtEnd 99 = .ok (.iconst 1, 1) := by decide +kernel
theorem dX0_putAtEnd_100 : decode cX0_putAtEnd 100 = .ok (.invokevirtual 95, 3) := by decide +kernel
theorem dX0_putAtEnd_103 : decode cX0_putAtEnd 103 = .ok (.aload_n 0, 1) := by decide +kernel
theorem dX0_putAtEnd_104 : decode cX0_putAtEnd 104 = .ok (.getfield 26, 3) := by decide +kernel
theorem dX0_putAtEnd_107 : decode cX0_putAtEnd 107 = .ok (.iload_n 2, 1) := by decide +kernel
theorem dX0_putAtEnd_108 : decode cX0_putAtEnd 108 = .ok (.iconst 3, 1) := by decide +kernel
theorem dX0_putAtEnd_109 : decode cX0_putAtEnd 109 = .ok (.iload_n 1, 1) := by decide +kernel
theorem dX0_putAtEnd_110 : decode cX0_putAtEnd 110 = .ok (.invokevirtual 77, 3) := by decide +kernel
theorem dX0_putAtEnd_113 : decode cX0_putAtEnd 113 = .ok (.return_, 1) := by decide +kernel
theorem dX0_endTurn_0 : decode cX0_endTurn 0 = .ok (.aload_n 0, 1) := by decide +kernel
theorem dX0_endTurn_1 : decode cX0_endTurn 1 = .ok (.dup, 1) := by decide +kernel
theorem dX0_endTurn_2 : decode cX0_endTurn 2 = .ok (.getfield 49, 3) := by decide +kernel
theorem dX0_endTurn_5 : decode cX0_endTurn 5 = .ok (.iconst 1, 1) := by decide +kernel
theorem dX0_endTurn_6 : decode cX0_endTurn 6 = .ok (.iadd, 1) := by decide +kernel
theorem dX0_endTurn_7 : decode cX0_endTurn 7 = .ok (.putfield 49, 3) := by decide +kernel
theorem dX0_endTurn_10 : decode cX0_endTurn 10 = .ok (.aload_n 0, 1) := by decide +kernel
theorem dX0_endTurn_11 : decode cX0_endTurn 11 = .ok (.aload_n 0, 1) := by decide +kernel
theorem dX0_endTurn_12 : decode cX0_endTurn 12 = .ok (.getfield 43, 3) := by decide +kernel
theorem dX0_endTurn_15 : decode cX0_endTurn 15 = .ok (.invokevirtual 92, 3) := by decide +kernel
theorem dX0_endTurn_18 : decode cX0_endTurn 18 = .ok (.ifCond .eq 14, 3) := by decide +kernel
theorem dX0_endTurn_21 : decode cX0_endTurn 21 = .ok (.aload_n 0, 1) := by decide +kernel
theorem dX0_endTurn_22 : decode cX0_endTurn 22 = .ok (.getfield 52, 3) := by decide +kernel
theorem dX0_endTurn_25 : decode cX0_endTurn 25 = .ok (.aload_n 0, 1) := by decide +kernel
theorem dX0_endTurn_26 : decode cX0_endTurn 26 = .ok (.getfield 40, 3) := by decide +kernel
theorem dX0_endTurn_29 : decode cX0_endTurn 29 = .ok (.if_icmp .lt 7, 3) := by decide +kernel
theorem dX0_endTurn_32 : decode cX0_endTurn 32 = .ok (.iconst 1, 1) := by decide +kernel
theorem dX0_endTurn_33 : decode cX0_endTurn 33 = .ok (.goto 4, 3) := by decide +kernel
theorem dX0_endTurn_36 : decode cX0_endTurn 36 = .ok (.iconst 0, 1) := by decide +kernel
theorem dX0_endTurn_37 : decode cX0_endTurn 37 = .ok (.istore_n 1, 1) := by decide +kernel
theorem dX0_endTurn_38 : decode cX0_endTurn 38 = .ok (.aload_n 0, 1) := by decide +kernel
theorem dX0_endTurn_39 : decode cX0_endTurn 39 = .ok (.aload_n 0, 1) := by decide +kernel
theorem dX0_endTurn_40 : decode cX0_endTurn 40 = .ok (.getfield 43, 3) := by decide +kernel
theorem dX0_endTurn_43 : decode cX0_endTurn 43 = .ok (.invokevirtual 127, 3) := by decide +kernel
theorem dX0_endTurn_46 : decode cX0_endTurn 46 = .ok (.iload_n 1, 1) := by decide +kernel
theorem dX0_endTurn_47 : decode cX0_endTurn 47 = .ok (.ifCond .eq 11, 3) := by decide +kernel
theorem dX0_endTurn_50 : decode cX0_endTurn 50 = .ok (.aload_n 0, 1) := by decide +kernel
theorem dX0_endTurn_51 : decode cX0_endTurn 51 = .ok (.iconst (-1), 1) := by decide +kernel
theorem dX0_endTurn_52 : decode cX0_endTurn 52 = .ok (.putfield 43, 3) := by decide +kernel
theorem dX0_endTurn_55 : decode cX0_endTurn 55 = .ok (.bipush 11, 2) := by decide +kernel
theorem dX0_endTurn_57 : decode cX0_endTurn 57 = .ok (.ireturn, 1) := by decide +kernel
theorem dX0_endTurn_58 : decode cX0_endTurn 58 = .ok (.aload_n 0, 1) := by decide +kernel
theorem dX0_endTurn_59 : decode cX0_endTurn 59 = .ok (.aload_n 0, 1) := by decide +kernel
theorem dX0_endTurn_60 : decode cX0_endTurn 60 = .ok (.getfield 43, 3) := by decide +kernel
theorem dX0_endTurn_63 : decode cX0_endTurn 63 = .ok (.iconst 1, 1) := by decide +kernel
theorem dX0_endTurn_64 : decode cX0_endTurn 64 = .ok (.iadd, 1) := by decide +kernel
theorem dX0_endTurn_65 : decode cX0_endTurn 65 = .ok (.aload_n 0, 1) := by decide +kernel
theorem dX0_endTurn_66 : decode cX0_endTurn 66 = .ok (.getfield 40, 3) := by decide +kernel
theorem dX0_endTurn_69 : decode cX0_endTurn 69 = .ok (.if_icmp .ge 12, 3) := by decide +kernel
theorem dX0_endTurn_72 : decode cX0_endTurn 72 = .ok (.aload_n 0, 1) := by decide +kernel
theorem dX0_endTurn_73 : decode cX0_endTurn 73 = .ok (.getfield 43, 3) := by decide +kernel
theorem dX0_endTurn_76 : decode cX0_endTurn 76 = .ok (.iconst 1, 1) := by decide +kernel
theorem dX0_endTurn_77 : decode cX0_endTurn 77 = .ok (.iadd, 1) := by decide +kernel
theorem dX0_endTurn_78 : decode cX0_endTurn 78 = .ok (.goto 4, 3) := by decide +kernel
theorem dX0_endTurn_81 : decode cX0_endTurn 81 = .ok (.iconst 0, 1) := by decide +kernel
theorem dX0_endTurn_82 : decode cX0_endTurn 82 = .ok (.putfield 43, 3) := by decide +kernel
theorem dX0_endTurn_85 : decode cX0_endTurn 85 = .ok (.bipush 10, 2) := by decide +kernel
theorem dX0_endTurn_87 : decode cX0_endTurn 87 = .ok (.ireturn, 1) := by decide +kernel
theorem dX0_ageHand_0 : decode cX0_ageHand 0 = .ok (.aload_n 0, 1) := by decide +kernel
theorem dX0_ageHand_1 : decode cX0_ageHand 1 = .ok (.iload_n 1, 1) := by decide +kernel
theorem dX0_ageHand_2 : decode cX0_ageHand 2 = .ok (.invokevirtual 92, 3) := by decide +kernel
theorem dX0_ageHand_5 : decode cX0_ageHand 5 = .ok (.istore_n 2, 1) := by decide +kernel
theorem dX0_ageHand_6 : decode cX0_ageHand 6 = .ok (.iconst 0, 1) := by decide +kernel
theorem dX0_ageHand_7 : decode cX0_ageHand 7 = .ok (.istore_n 3, 1) := by decide +kernel
theorem dX0_ageHand_8 : decode cX0_ageHand 8 = .ok (.iload_n 3, 1) := by decide +kernel
theorem dX0_ageHand_9 : decode cX0_ageHand 9 = .ok (.iload_n 2, 1) := by decide +kernel
theorem dX0_ageHand_10 : decode cX0_ageHand 10 = .ok (.if_icmp .ge 63, 3) := by decide +kernel
theorem dX0_ageHand_13 : decode cX0_ageHand 13 = .ok (.aload_n 0, 1) := by decide +kernel
theorem dX0_ageHand_14 : decode cX0_ageHand 14 = .ok (.getfield 20, 3) := by decide +kernel
theorem dX0_ageHand_17 : decode cX0_ageHand 17 = .ok (.iload_n 1, 1) := by decide +kernel
theorem dX0_ageHand_18 : decode cX0_ageHand 18 = .ok (.iload_n 3, 1) := by decide +kernel
theorem dX0_ageHand_19 : decode cX0_ageHand 19 = .ok (.invokevirtual 84, 3) := by decide +kernel
theorem dX0_ageHand_22 : decode cX0_ageHand 22 = .ok (.istore 4, 2) := by decide +kernel
theorem dX0_ageHand_24 : decode cX0_ageHand 24 = .ok (.aload_n 0, 1) := by decide +kernel
theorem dX0_ageHand_25 : decode cX0_ageHand 25 = .ok (.getfield 14, 3) := by decide +kernel
theorem dX0_ageHand_28 : decode cX0_ageHand 28 = .ok (.iload 4, 2) := by decide +kernel
theorem dX0_ageHand_30 : decode cX0_ageHand 30 = .ok (.iconst 4, 1) := by decide +kernel
theorem dX0_ageHand_31 : decode cX0_ageHand 31 = .ok (.iconst 1, 1) := by decide +kernel
theorem dX0_ageHand_32 : decode cX0_ageHand 32 = .ok (.invokevirtual 95, 3) := by decide +kernel
theorem dX0_ageHand_35 : decode cX0_ageHand 35 = .ok (.aload_n 0, 1) := by decide +kernel
theorem dX0_ageHand_36 : decode cX0_ageHand 36 = .ok (.getfield 32, 3) := by decide +kernel
theorem dX0_ageHand_39 : decode cX0_ageHand 39 = .ok (.ifCond .le 28, 3) := by decide +kernel
theorem dX0_ageHand_42 : decode cX0_ageHand 42 = .ok (.aload_n 0, 1) := by decide +kernel
theorem dX0_ageHand_43 : decode cX0_ageHand 43 = .ok (.getfield 14, 3) := by decide +kernel
theorem dX0_ageHand_46 : decode cX0_ageHand 46 = .ok (.iload 4, 2) := by decide +kernel
theorem dX0_ageHand_48 : decode cX0_ageHand 48 = .ok (.iconst 4, 1) := by decide +kernel
theorem dX0_ageHand_49 : decode cX0_ageHand 49 = .ok (.invokevirtual 84, 3) := by decide +kernel
theorem dX0_ageHand_52 : decode cX0_ageHand 52 = .ok (.aload_n 0, 1) := by decide +kernel
theorem dX0_ageHand_53 : decode cX0_ageHand 53 = .ok (.getfield 32, 3) := by decide +kernel
theorem dX0_ageHand_56 : decode cX0_ageHand 56 = .ok (.irem, 1) := by decide +kernel
theorem dX0_ageHand_57 : decode cX0_ageHand 57 = .ok (.ifCond .ne 10, 3) := by decide +kernel
theorem dX0_ageHand_60 : decode cX0_ageHand 60 = .ok (.aload_n 0, 1) := by decide +kernel
theorem dX0_ageHand_61 : decode cX0_ageHand 61 = .ok (.iload 4, 2) := by decide +kernel
theorem dX0_ageHand_63 : decode cX0_ageHand 63 = .ok (.iload_n 1, 1) := by decide +kernel
theorem dX0_ageHand_64 : decode cX0_ageHand 64 = .ok (.invokevirtual 130, 3) := by decide +kernel
theorem dX0_ageHand_67 : decode cX0_ageHand 67 = .ok (.iinc 3 1, 3) := by decide +kernel
theorem dX0_ageHand_70 : decode cX0_ageHand 70 = .ok (.goto (-62), 3) := by decide +kernel
theorem dX0_ageHand_73 : decode cX0_ageHand 73 = .ok (.return_, 1) := by decide +kernel
theorem dX0_rust_0 : decode cX0_rust 0 = .ok (.aload_n 0, 1) := by decide +kernel
theorem dX0_rust_1 : decode cX0_rust 1 = .ok (.getfield 14, 3) := by decide +kernel
theorem dX0_rust_4 : decode cX0_rust 4 = .ok (.iload_n 1, 1) := by decide +kernel
theorem dX0_rust_5 : decode cX0_rust 5 = .ok (.iconst 0, 1) := by decide +kernel
theorem dX0_rust_6 : decode cX0_rust 6 = .ok (.invokevirtual 84, 3) := by decide +kernel
theorem dX0_rust_9 : decode cX0_rust 9 = .ok (.aload_n 0, 1) := by decide +kernel
theorem dX0_rust_10 : decode cX0_rust 10 = .ok (.getfield 14, 3) := by decide +kernel
theorem dX0_rust_13 : decode cX0_rust 13 = .ok (.iload_n 1, 1) := by decide +kernel
theorem dX0_rust_14 : decode cX0_rust 14 = .ok (.iconst 1, 1) := by decide +kernel
theorem dX0_rust_15 : decode cX0_rust 15 = .ok (.invokevirtual 84, 3) := by decide +kernel
theorem dX0_rust_18 : decode cX0_rust 18 = .ok (.if_icmp .lt 7, 3) := by decide +kernel
theorem dX0_rust_21 : decode cX0_rust 21 = .ok (.iconst 0, 1) := by decide +kernel
theorem dX0_rust_22 : decode cX0_rust 22 = .ok (.goto 4, 3) := by decide +kernel
theorem dX0_rust_25 : decode cX0_rust 25 = .ok (.iconst 1, 1) := by decide +kernel
theorem dX0_rust_26 : decode cX0_rust 26 = .ok (.istore_n 3, 1) := by decide +kernel
theorem dX0_rust_27 : decode cX0_rust 27 = .ok (.aload_n 0, 1) := by decide +kernel
theorem dX0_rust_28 : decode cX0_rust 28 = .ok (.getfield 14, 3) := by decide +kernel
theorem dX0_rust_31 : decode cX0_rust 31 = .ok (.iload_n 1, 1) := by decide +kernel
theorem dX0_rust_32 : decode cX0_rust 32 = .ok (.iload_n 3, 1) := by decide +kernel
theorem dX0_rust_33 : decode cX0_rust 33 = .ok (.invokevirtual 84, 3) := by decide +kernel
theorem dX0_rust_36 : decode cX0_rust 36 = .ok (.ifCond .le 34, 3) := by decide +kernel
theorem dX0_rust_39 : decode cX0_rust 39 = .ok (.aload_n 0, 1) := by decide +kernel
theorem dX0_rust_40 : decode cX0_rust 40 = .ok (.getfield 14, 3) := by decide +kernel
theorem dX0_rust_43 : decode cX0_rust 43 = .ok (.iload_n 1, 1) := by decide +kernel
theorem dX0_rust_44 : decode cX0_rust 44 = .ok (.iload_n 3, 1) := by decide +kernel
theorem dX0_rust_45 : decode cX0_rust 45 = .ok (.iconst (-1), 1) := by decide +kernel
theorem dX0_rust_46 : decode cX0_rust 46 = .ok (.invokevirtual 95, 3) := by decide +kernel
theorem dX0_rust_49 : decode cX0_rust 49 = .ok (.aload_n 0, 1) := by decide +kernel
theorem dX0_rust_50 : decode cX0_rust 50 = .ok (.getfield 14, 3) := by decide +kernel
theorem dX0_rust_53 : decode cX0_rust 53 = .ok (.iload_n 1, 1) := by decide +kernel
theorem dX0_rust_54 : decode cX0_rust 54 = .ok (.bipush 6, 2) := by decide +kernel
theorem dX0_rust_56 : decode cX0_rust 56 = .ok (.iconst 1, 1) := by decide +kernel
theorem dX0_rust_57 : decode cX0_rust 57 = .ok (.invokevirtual 95, 3) := by decide +kernel
theorem dX0_rust_60 : decode cX0_rust 60 = .ok (.aload_n 0, 1) := by decide +kernel
theorem dX0_rust_61 : decode cX0_rust 61 = .ok (.getfield 23, 3) := by decide +kernel
theorem dX0_rust_64 : decode cX0_rust 64 = .ok (.iload_n 2, 1) := by decide +kernel
theorem dX0_rust_65 : decode cX0_rust 65 = .ok (.iconst 1, 1) := by decide +kernel
theorem dX0_rust_66 : decode cX0_rust 66 = .ok (.iconst 1, 1) := by decide +kernel
theorem dX0_rust_67 : decode cX0_rust 67 = .ok (.invokevirtual 95, 3) := by decide +kernel
theorem dX0_rust_70 : decode cX0_rust 70 = .ok (.return_, 1) := by decide +kernel
theorem dX0_isOver_0 : decode cX0_isOver 0 = .ok (.aload_n 0, 1) := by decide +kernel
theorem dX0_isOver_1 : decode cX0_isOver 1 = .ok (.getfield 43, 3) := by decide +kernel
theorem dX0_isOver_4 : decode cX0_isOver 4 = .ok (.iconst (-1), 1) := by decide +kernel
theorem dX0_isOver_5 : decode cX0_isOver 5 = .ok (.if_icmp .ne 7, 3) := by decide +kernel
theorem dX0_isOver_8 : decode cX0_isOver 8 = .ok (.iconst 1, 1) := by decide +kernel
theorem dX0_isOver_9 : decode cX0_isOver 9 = .ok (.goto 4, 3) := by decide +kernel
theorem dX0_isOver_12 : decode cX0_isOver 12 = .ok (.iconst 0, 1) := by decide +kernel
theorem dX0_isOver_13 : decode cX0_isOver 13 = .ok (.ireturn, 1) := by decide +kernel
theorem dX0_hasPlayer_0 : decode cX0_hasPlayer 0 = .ok (.iload_n 1, 1) := by decide +kernel
theorem dX0_hasPlayer_1 : decode cX0_hasPlayer 1 = .ok (.ifCond .lt 15, 3) := by decide +kernel
theorem dX0_hasPlayer_4 : decode cX0_hasPlayer 4 = .ok (.iload_n 1, 1) := by decide +kernel
theorem dX0_hasPlayer_5 : decode cX0_hasPlayer 5 = .ok (.aload_n 0, 1) := by decide +kernel
theorem dX0_hasPlayer_6 : decode cX0_hasPlayer 6 = .ok (.getfield 40, 3) := by decide +kernel
theorem dX0_hasPlayer_9 : decode cX0_hasPlayer 9 = .ok (.if_icmp .ge 7, 3) := by decide +kernel
theorem dX0_hasPlayer_12 : decode cX0_hasPlayer 12 = .ok (.iconst 1, 1) := by decide +kernel
theorem dX0_hasPlayer_13 : decode cX0_hasPlayer 13 = .ok (.goto 4, 3) := by decide +kernel
theorem dX0_hasPlayer_16 : decode cX0_hasPlayer 16 = .ok (.iconst 0, 1) := by decide +kernel
theorem dX0_hasPlayer_17 : decode cX0_hasPlayer 17 = .ok (.ireturn, 1) := by decide +kernel
theorem dX0_heldBy_0 : decode cX0_heldBy 0 = .ok (.aload_n 0, 1) := by decide +kernel
theorem dX0_heldBy_1 : decode cX0_heldBy 1 = .ok (.getfield 23, 3) := by decide +kernel
theorem dX0_heldBy_4 : decode cX0_heldBy 4 = .ok (.iload_n 1, 1) := by decide +kernel
theorem dX0_heldBy_5 : decode cX0_heldBy 5 = .ok (.iconst 0, 1) := by decide +kernel
theorem dX0_heldBy_6 : decode cX0_heldBy 6 = .ok (.invokevirtual 84, 3) := by decide +kernel
theorem dX0_heldBy_9 : decode cX0_heldBy 9 = .ok (.ireturn, 1) := by decide +kernel
theorem dX0_holdsPlace_0 : decode cX0_holdsPlace 0 = .ok (.iload_n 2, 1) := by decide +kernel
theorem dX0_holdsPlace_1 : decode cX0_holdsPlace 1 = .ok (.ifCond .lt 16, 3) := by decide +kernel
theorem dX0_holdsPlace_4 : decode cX0_holdsPlace 4 = .ok (.iload_n 2, 1) := by decide +kernel
theorem dX0_holdsPlace_5 : decode cX0_holdsPlace 5 = .ok (.aload_n 0, 1) := by decide +kernel
theorem dX0_holdsPlace_6 : decode cX0_holdsPlace 6 = .ok (.iload_n 1, 1) := by decide +kernel
theorem dX0_holdsPlace_7 : decode cX0_holdsPlace 7 = .ok (.invokevirtual 92, 3) := by decide +kernel
theorem dX0_holdsPlace_10 : decode cX0_holdsPlace 10 = .ok (.if_icmp .ge 7, 3) := by decide +kernel
theorem dX0_holdsPlace_13 : decode cX0_holdsPlace 13 = .ok (.iconst 1, 1) := by decide +kernel
theorem dX0_holdsPlace_14 : decode cX0_holdsPlace 14 = .ok (.goto 4, 3) := by decide +kernel
theorem dX0_holdsPlace_17 : decode cX0_holdsPlace 17 = .ok (.iconst 0, 1) := by decide +kernel
theorem dX0_holdsPlace_18 : decode cX0_holdsPlace 18 = .ok (.ireturn, 1) := by decide +kernel
theorem dX0_stockSize_0 : decode cX0_stockSize 0 = .ok (.bipush 28, 2) := by decide +kernel
theorem dX0_stockSize_2 : decode cX0_stockSize 2 = .ok (.aload_n 0, 1) := by decide +kernel
theorem dX0_stockSize_3 : decode cX0_stockSize 3 = .ok (.getfield 46, 3) := by decide +kernel
theorem dX0_stockSize_6 : decode cX0_stockSize 6 = .ok (.isub, 1) := by decide +kernel
theorem dX0_stockSize_7 : decode cX0_stockSize 7 = .ok (.ireturn, 1) := by decide +kernel
theorem dX0_stockTile_0 : decode cX0_stockTile 0 = .ok (.aload_n 0, 1) := by decide +kernel
theorem dX0_stockTile_1 : decode cX0_stockTile 1 = .ok (.getfield 29, 3) := by decide +kernel
theorem dX0_stockTile_4 : decode cX0_stockTile 4 = .ok (.iconst 0, 1) := by decide +kernel
theorem dX0_stockTile_5 : decode cX0_stockTile 5 = .ok (.aload_n 0, 1) := by decide +kernel
theorem dX0_stockTile_6 : decode cX0_stockTile 6 = .ok (.getfield 46, 3) := by decide +kernel
theorem dX0_stockTile_9 : decode cX0_stockTile 9 = .ok (.iload_n 1, 1) := by decide +kernel
theorem dX0_stockTile_10 : decode cX0_stockTile 10 = .ok (.iadd, 1) := by decide +kernel
theorem dX0_stockTile_11 : decode cX0_stockTile 11 = .ok (.invokevirtual 84, 3) := by decide +kernel
theorem dX0_stockTile_14 : decode cX0_stockTile 14 = .ok (.ireturn, 1) := by decide +kernel
theorem dX0_numberOf_0 : decode cX0_numberOf 0 = .ok (.iload_n 1, 1) := by decide +kernel
theorem dX0_numberOf_1 : decode cX0_numberOf 1 = .ok (.tableswitch 123 0 11 #[63, 68, 73, 78, 84, 90, 95, 100, 106, 111, 116, 121], 63) := by decide +kernel
theorem dX0_numberOf_64 : decode cX0_numberOf 64 = .ok (.aload_n 0, 1) := by decide +kernel
theorem dX0_numberOf_65 : decode cX0_numberOf 65 = .ok (.getfield 40, 3) := by decide +kernel
theorem dX0_numberOf_68 : decode cX0_numberOf 68 = .ok (.ireturn, 1) := by decide +kernel
theorem dX0_numberOf_69 : decode cX0_numberOf 69 = .ok (.aload_n 0, 1) := by decide +kernel
theorem dX0_numberOf_70 : decode cX0_numberOf 70 = .ok (.getfield 43, 3) := by decide +kernel
theorem dX0_numberOf_73 : decode cX0_numberOf 73 = .ok (.ireturn, 1) := by decide +kernel
theorem dX0_numberOf_74 : decode cX0_numberOf 74 = .ok (.aload_n 0, 1) := by decide +kernel
theorem dX0_numberOf_75 : decode cX0_numberOf 75 = .ok (.invokevirtual 116, 3) := by decide +kernel
theorem dX0_numberOf_78 : decode cX0_numberOf 78 = .ok (.ireturn, 1) := by decide +kernel
theorem dX0_numberOf_79 : decode cX0_numberOf 79 = .ok (.aload_n 0, 1) := by decide +kernel
theorem dX0_numberOf_80 : decode cX0_numberOf 80 = .ok (.iconst 0, 1) := by decide +kernel
theorem dX0_numberOf_81 : decode cX0_numberOf 81 = .ok (.invokevirtual 133, 3) := by decide +kernel
theorem dX0_numberOf_84 : decode cX0_numberOf 84 = .ok (.ireturn, 1) := by decide +kernel
theorem dX0_numberOf_85 : decode cX0_numberOf 85 = .ok (.aload_n 0, 1) := by decide +kernel
theorem dX0_numberOf_86 : decode cX0_numberOf 86 = .ok (.iconst 2, 1) := by decide +kernel
theorem dX0_numberOf_87 : decode cX0_numberOf 87 = .ok (.invokevirtual 133, 3) := by decide +kernel
theorem dX0_numberOf_90 : decode cX0_numberOf 90 = .ok (.ireturn, 1) := by decide +kernel
theorem dX0_numberOf_91 : decode cX0_numberOf 91 = .ok (.aload_n 0, 1) := by decide +kernel
theorem dX0_numberOf_92 : decode cX0_numberOf 92 = .ok (.getfield 49, 3) := by decide +kernel
theorem dX0_numberOf_95 : decode cX0_numberOf 95 = .ok (.ireturn, 1) := by decide +kernel
theorem dX0_numberOf_96 : decode cX0_numberOf 96 = .ok (.aload_n 0, 1) := by decide +kernel
theorem dX0_numberOf_97 : decode cX0_numberOf 97 = .ok (.getfield 52, 3) := by decide +kernel
theorem dX0_numberOf_100 : decode cX0_numberOf 100 = .ok (.ireturn, 1) := by decide +kernel
theorem dX0_numberOf_101 : decode cX0_numberOf 101 = .ok (.aload_n 0, 1) := by decide +kernel
theorem dX0_numberOf_102 : decode cX0_numberOf 102 = .ok (.iconst 1, 1) := by decide +kernel
theorem dX0_numberOf_103 : decode cX0_numberOf 103 = .ok (.invokevirtual 133, 3) := by decide +kernel
theorem dX0_numberOf_106 : decode cX0_numberOf 106 = .ok (.ireturn, 1) := by decide +kernel
theorem dX0_numberOf_107 : decode cX0_numberOf 107 = .ok (.aload_n 0, 1) := by decide +kernel
theorem dX0_numberOf_108 : decode cX0_numberOf 108 = .ok (.invokevirtual 136, 3) := by decide +kernel
theorem dX0_numberOf_111 : decode cX0_numberOf 111 = .ok (.ireturn, 1) := by decide +kernel
theorem dX0_numberOf_112 : decode cX0_numberOf 112 = .ok (.aload_n 0, 1) := by decide +kernel
theorem dX0_numberOf_113 : decode cX0_numberOf 113 = .ok (.getfield 55, 3) := by decide +kernel
theorem dX0_numberOf_116 : decode cX0_numberOf 116 = .ok (.ireturn, 1) := by decide +kernel
theorem dX0_numberOf_117 : decode cX0_numberOf 117 = .ok (.aload_n 0, 1) := by decide +kernel
theorem dX0_numberOf_118 : decode cX0_numberOf 118 = .ok (.getfield 58, 3) := by decide +kernel
theorem dX0_numberOf_121 : decode cX0_numberOf 121 = .ok (.ireturn, 1) := by decide +kernel
theorem dX0_numberOf_122 : decode cX0_numberOf 122 = .ok (.iload_n 2, 1) := by decide +kernel
theorem dX0_numberOf_123 : decode cX0_numberOf 123 = .ok (.ireturn, 1) := by decide +kernel
theorem dX0_numberOf_124 : decode cX0_numberOf 124 = .ok (.iconst (-1), 1) := by decide +kernel
theorem dX0_numberOf_125 : decode cX0_numberOf 125 = .ok (.ireturn, 1) := by decide +kernel
theorem dX0_playerProperty_0 : decode cX0_playerProperty 0 = .ok (.iload_n 2, 1) := by decide +kernel
theorem dX0_playerProperty_1 : decode cX0_playerProperty 1 = .ok (.tableswitch 97 0 6 #[43, 49, 55, 65, 71, 81, 91], 43) := by decide +kernel
theorem dX0_playerProperty_44 : decode cX0_playerProperty 44 = .ok (.aload_n 0, 1) := by decide +kernel
theorem dX0_playerProperty_45 : decode cX0_playerProperty 45 = .ok (.iload_n 1, 1) := by decide +kernel
theorem dX0_playerProperty_46 : decode cX0_playerProperty 46 = .ok (.invokevirtual 92, 3) := by decide +kernel
theorem dX0_playerProperty_49 : decode cX0_playerProperty 49 = .ok (.ireturn, 1) := by decide +kernel
theorem dX0_playerProperty_50 : decode cX0_playerProperty 50 = .ok (.aload_n 0, 1) := by decide +kernel
theorem dX0_playerProperty_51 : decode cX0_playerProperty 51 = .ok (.iload_n 1, 1) := by decide +kernel
theorem dX0_playerProperty_52 : decode cX0_playerProperty 52 = .ok (.invokevirtual 139, 3) := by decide +kernel
theorem dX0_playerProperty_55 : decode cX0_playerProperty 55 = .ok (.ireturn, 1) := by decide +kernel
theorem dX0_playerProperty_56 : decode cX0_playerProperty 56 = .ok (.aload_n 0, 1) := by decide +kernel
theorem dX0_playerProperty_57 : decode cX0_playerProperty 57 = .ok (.getfield 23, 3) := by decide +kernel
theorem dX0_playerProperty_60 : decode cX0_playerProperty 60 = .ok (.iload_n 1, 1) := by decide +kernel
theorem dX0_playerProperty_61 : decode cX0_playerProperty 61 = .ok (.iconst 1, 1) := by decide +kernel
theorem dX0_playerProperty_62 : decode cX0_playerProperty 62 = .ok (.invokevirtual 84, 3) := by decide +kernel
theorem dX0_playerProperty_65 : decode cX0_playerProperty 65 = .ok (.ireturn, 1) := by decide +kernel
theorem dX0_playerProperty_66 : decode cX0_playerProperty 66 = .ok (.aload_n 0, 1) := by decide +kernel
theorem dX0_playerProperty_67 : decode cX0_playerProperty 67 = .ok (.iload_n 1, 1) := by decide +kernel
theorem dX0_playerProperty_68 : decode cX0_playerProperty 68 = .ok (.invokevirtual 142, 3) := by decide +kernel
theorem dX0_playerProperty_71 : decode cX0_playerProperty 71 = .ok (.ireturn, 1) := by decide +kernel
theorem dX0_playerProperty_72 : decode cX0_playerProperty 72 = .ok (.aload_n 0, 1) := by decide +kernel
theorem dX0_playerProperty_73 : decode cX0_playerProperty 73 = .ok (.getfield 23, 3) := by decide +kernel
theorem dX0_playerProperty_76 : decode cX0_playerProperty 76 = .ok (.iload_n 1, 1) := by decide +kernel
theorem dX0_playerProperty_77 : decode cX0_playerProperty 77 = .ok (.iconst 2, 1) := by decide +kernel
theorem dX0_playerProperty_78 : decode cX0_playerProperty 78 = .ok (.invokevirtual 84, 3) := by decide +kernel
theorem dX0_playerProperty_81 : decode cX0_playerProperty 81 = .ok (.ireturn, 1) := by decide +kernel
theorem dX0_playerProperty_82 : decode cX0_playerProperty 82 = .ok (.aload_n 0, 1) := by decide +kernel
theorem dX0_playerProperty_83 : decode cX0_playerProperty 83 = .ok (.getfield 23, 3) := by decide +kernel
theorem dX0_playerProperty_86 : decode cX0_playerProperty 86 = .ok (.iload_n 1, 1) := by decide +kernel
theorem dX0_playerProperty_87 : decode cX0_playerProperty 87 = .ok (.iconst 3, 1) := by decide +kernel
theorem dX0_playerProperty_88 : decode cX0_playerProperty 88 = .ok (.invokevirtual 84, 3) := by decide +kernel
theorem dX0_playerProperty_91 : decode cX0_playerProperty 91 = .ok (.ireturn, 1) := by decide +kernel
theorem dX0_playerProperty_92 : decode cX0_playerProperty 92 = .ok (.aload_n 0, 1) := by decide +kernel
theorem dX0_playerProperty_93 : decode cX0_playerProperty 93 = .ok (.iload_n 1, 1) := by decide +kernel
theorem dX0_playerProperty_94 : decode cX0_playerProperty 94 = .ok (.invokevirtual 145, 3) := by decide +kernel
theorem dX0_playerProperty_97 : decode cX0_playerProperty 97 = .ok (.ireturn, 1) := by decide +kernel
theorem dX0_playerProperty_98 : decode cX0_playerProperty 98 = .ok (.iconst (-1), 1) := by decide +kernel
theorem dX0_playerProperty_99 : decode cX0_playerProperty 99 = .ok (.ireturn, 1) := by decide +kernel
theorem dX0_tallied_0 : decode cX0_tallied 0 = .ok (.iconst 0, 1) := by decide +kernel
theorem dX0_tallied_1 : decode cX0_tallied 1 = .ok (.istore_n 2, 1) := by decide +kernel
theorem dX0_tallied_2 : decode cX0_tallied 2 = .ok (.iconst 0, 1) := by decide +kernel
theorem dX0_tallied_3 : decode cX0_tallied 3 = .ok (.istore_n 3, 1) := by decide +kernel
theorem dX0_tallied_4 : decode cX0_tallied 4 = .ok (.iload_n 3, 1) := by decide +kernel
theorem dX0_tallied_5 : decode cX0_tallied 5 = .ok (.aload_n 0, 1) := by decide +kernel
theorem dX0_tallied_6 : decode cX0_tallied 6 = .ok (.getfield 40, 3) := by decide +kernel
theorem dX0_tallied_9 : decode cX0_tallied 9 = .ok (.if_icmp .ge 21, 3) := by decide +kernel
theorem dX0_tallied_12 : decode cX0_tallied 12 = .ok (.iload_n 2, 1) := by decide +kernel
theorem dX0_tallied_13 : decode cX0_tallied 13 = .ok (.aload_n 0, 1) := by decide +kernel
theorem dX0_tallied_14 : decode cX0_tallied 14 = .ok (.getfield 23, 3) := by decide +kernel
theorem dX0_tallied_17 : decode cX0_tallied 17 = .ok (.iload_n 3, 1) := by decide +kernel
theorem dX0_tallied_18 : decode cX0_tallied 18 = .ok (.iload_n 1, 1) := by decide +kernel
theorem dX0_tallied_19 : decode cX0_tallied 19 = .ok (.invokevirtual 84, 3) := by decide +kernel
theorem dX0_tallied_22 : decode cX0_tallied 22 = .ok (.iadd, 1) := by decide +kernel
theorem dX0_tallied_23 : decode cX0_tallied 23 = .ok (.istore_n 2, 1) := by decide +kernel
theorem dX0_tallied_24 : decode cX0_tallied 24 = .ok (.iinc 3 1, 3) := by decide +kernel
theorem dX0_tallied_27 : decode cX0_tallied 27 = .ok (.goto (-23), 3) := by decide +kernel
theorem dX0_tallied_30 : decode cX0_tallied 30 = .ok (.iload_n 2, 1) := by decide +kernel
theorem dX0_tallied_31 : decode cX0_tallied 31 = .ok (.ireturn, 1) := by decide +kernel
theorem dX0_gradesOf_0 : decode cX0_gradesOf 0 = .ok (.aload_n 0, 1) := by decide +kernel
theorem dX0_gradesOf_1 : decode cX0_gradesOf 1 = .ok (.getfield 14, 3) := by decide +kernel
theorem dX0_gradesOf_4 : decode cX0_gradesOf 4 = .ok (.iload_n 1, 1) := by decide +kernel
theorem dX0_gradesOf_5 : decode cX0_gradesOf 5 = .ok (.iconst 0, 1) := by decide +kernel
theorem dX0_gradesOf_6 : decode cX0_gradesOf 6 = .ok (.invokevirtual 84, 3) := by decide +kernel
theorem dX0_gradesOf_9 : decode cX0_gradesOf 9 = .ok (.aload_n 0, 1) := by decide +kernel
theorem dX0_gradesOf_10 : decode cX0_gradesOf 10 = .ok (.getfield 14, 3) := by decide +kernel
theorem dX0_gradesOf_13 : decode cX0_gradesOf 13 = .ok (.iload_n 1, 1) := by decide +kernel
theorem dX0_gradesOf_14 : decode cX0_gradesOf 14 = .ok (.iconst 1, 1) := by decide +kernel
theorem dX0_gradesOf_15 : decode cX0_gradesOf 15 = .ok (.invokevirtual 84, 3) := by decide +kernel
theorem dX0_gradesOf_18 : decode cX0_gradesOf 18 = .ok (.iadd, 1) := by decide +kernel
theorem dX0_gradesOf_19 : decode cX0_gradesOf 19 = .ok (.ireturn, 1) := by decide +kernel
theorem dX0_gradesHeld_0 : decode cX0_gradesHeld 0 = .ok (.aload_n 0, 1) := by decide +kernel
theorem dX0_gradesHeld_1 : decode cX0_gradesHeld 1 = .ok (.iload_n 1, 1) := by decide +kernel
theorem dX0_gradesHeld_2 : decode cX0_gradesHeld 2 = .ok (.invokevirtual 92, 3) := by decide +kernel
theorem dX0_gradesHeld_5 : decode cX0_gradesHeld 5 = .ok (.istore_n 2, 1) := by decide +kernel
theorem dX0_gradesHeld_6 : decode cX0_gradesHeld 6 = .ok (.iconst 0, 1) := by decide +kernel
theorem dX0_gradesHeld_7 : decode cX0_gradesHeld 7 = .ok (.istore_n 3, 1) := by decide +kernel
theorem dX0_gradesHeld_8 : decode cX0_gradesHeld 8 = .ok (.iconst 0, 1) := by decide +kernel
theorem dX0_gradesHeld_9 : decode cX0_gradesHeld 9 = .ok (.istore 4, 2) := by decide +kernel
theorem dX0_gradesHeld_11 : decode cX0_gradesHeld 11 = .ok (.iload 4, 2) := by decide +kernel
theorem dX0_gradesHeld_13 : decode cX0_gradesHeld 13 = .ok (.iload_n 2, 1) := by decide +kernel
theorem dX0_gradesHeld_14 : decode cX0_gradesHeld 14 = .ok (.if_icmp .ge 26, 3) := by decide +kernel
theorem dX0_gradesHeld_17 : decode cX0_gradesHeld 17 = .ok (.iload_n 3, 1) := by decide +kernel
theorem dX0_gradesHeld_18 : decode cX0_gradesHeld 18 = .ok (.aload_n 0, 1) := by decide +kernel
theorem dX0_gradesHeld_19 : decode cX0_gradesHeld 19 = .ok (.aload_n 0, 1) := by decide +kernel
theorem dX0_gradesHeld_20 : decode cX0_gradesHeld 20 = .ok (.getfield 20, 3) := by decide +kernel
theorem dX0_gradesHeld_23 : decode cX0_gradesHeld 23 = .ok (.iload_n 1, 1) := by decide +kernel
theorem dX0_gradesHeld_24 : decode cX0_gradesHeld 24 = .ok (.iload 4, 2) := by decide +kernel
theorem dX0_gradesHeld_26 : decode cX0_gradesHeld 26 = .ok (.invokevirtual 84, 3) := by decide +kernel
theorem dX0_gradesHeld_29 : decode cX0_gradesHeld 29 = .ok (.invokevirtual 148, 3) := by decide +kernel
theorem dX0_gradesHeld_32 : decode cX0_gradesHeld 32 = .ok (.iadd, 1) := by decide +kernel
theorem dX0_gradesHeld_33 : decode cX0_gradesHeld 33 = .ok (.istore_n 3, 1) := by decide +kernel
theorem dX0_gradesHeld_34 : decode cX0_gradesHeld 34 = .ok (.iinc 4 1, 3) := by decide +kernel
theorem dX0_gradesHeld_37 : decode cX0_gradesHeld 37 = .ok (.goto (-26), 3) := by decide +kernel
theorem dX0_gradesHeld_40 : decode cX0_gradesHeld 40 = .ok (.iload_n 3, 1) := by decide +kernel
theorem dX0_gradesHeld_41 : decode cX0_gradesHeld 41 = .ok (.ireturn, 1) := by decide +kernel
theorem dX0_sumOf_0 : decode cX0_sumOf 0 = .ok (.aload_n 0, 1) := by decide +kernel
theorem dX0_sumOf_1 : decode cX0_sumOf 1 = .ok (.iload_n 1, 1) := by decide +kernel
theorem dX0_sumOf_2 : decode cX0_sumOf 2 = .ok (.invokevirtual 139, 3) := by decide +kernel
theorem dX0_sumOf_5 : decode cX0_sumOf 5 = .ok (.aload_n 0, 1) := by decide +kernel
theorem dX0_sumOf_6 : decode cX0_sumOf 6 = .ok (.getfield 23, 3) := by decide +kernel
theorem dX0_sumOf_9 : decode cX0_sumOf 9 = .ok (.iload_n 1, 1) := by decide +kernel
theorem dX0_sumOf_10 : decode cX0_sumOf 10 = .ok (.iconst 1, 1) := by decide +kernel
theorem dX0_sumOf_11 : decode cX0_sumOf 11 = .ok (.invokevirtual 84, 3) := by decide +kernel
theorem dX0_sumOf_14 : decode cX0_sumOf 14 = .ok (.iadd, 1) := by decide +kernel
theorem dX0_sumOf_15 : decode cX0_sumOf 15 = .ok (.ireturn, 1) := by decide +kernel
theorem dX0_winner_0 : decode cX0_winner 0 = .ok (.aload_n 0, 1) := by decide +kernel
theorem dX0_winner_1 : decode cX0_winner 1 = .ok (.invokevirtual 112, 3) := by decide +kernel
theorem dX0_winner_4 : decode cX0_winner 4 = .ok (.ifCond .ne 5, 3) := by decide +kernel
theorem dX0_winner_7 : decode cX0_winner 7 = .ok (.iconst (-1), 1) := by decide +kernel
theorem dX0_winner_8 : decode cX0_winner 8 = .ok (.ireturn, 1) := by decide +kernel
theorem dX0_winner_9 : decode cX0_winner 9 = .ok (.iconst 0, 1) := by decide +kernel
theorem dX0_winner_10 : decode cX0_winner 10 = .ok (.istore_n 1, 1) := by decide +kernel
theorem dX0_winner_11 : decode cX0_winner 11 = .ok (.iconst 1, 1) := by decide +kernel
theorem dX0_winner_12 : decode cX0_winner 12 = .ok (.istore_n 2, 1) := by decide +kernel
theorem dX0_winner_13 : decode cX0_winner 13 = .ok (.iload_n 2, 1) := by decide +kernel
theorem dX0_winner_14 : decode cX0_winner 14 = .ok (.aload_n 0, 1) := by decide +kernel
theorem dX0_winner_15 : decode cX0_winner 15 = .ok (.getfield 40, 3) := by decide +kernel
theorem dX0_winner_18 : decode cX0_winner 18 = .ok (.if_icmp .ge 24, 3) := by decide +kernel
theorem dX0_winner_21 : decode cX0_winner 21 = .ok (.aload_n 0, 1) := by decide +kernel
theorem dX0_winner_22 : decode cX0_winner 22 = .ok (.iload_n 2, 1) := by decide +kernel
theorem dX0_winner_23 : decode cX0_winner 23 = .ok (.invokevirtual 142, 3) := by decide +kernel
theorem dX0_winner_26 : decode cX0_winner 26 = .ok (.aload_n 0, 1) := by decide +kernel
theorem dX0_winner_27 : decode cX0_winner 27 = .ok (.iload_n 1, 1) := by decide +kernel
theorem dX0_winner_28 : decode cX0_winner 28 = .ok (.invokevirtual 142, 3) := by decide +kernel
theorem dX0_winner_31 : decode cX0_winner 31 = .ok (.if_icmp .ge 5, 3) := by decide +kernel
theorem dX0_winner_34 : decode cX0_winner 34 = .ok (.iload_n 2, 1) := by decide +kernel
theorem dX0_winner_35 : decode cX0_winner 35 = .ok (.istore_n 1, 1) := by decide +kernel
theorem dX0_winner_36 : decode cX0_winner 36 = .ok (.iinc 2 1, 3) := by decide +kernel
theorem dX0_winner_39 : decode cX0_winner 39 = .ok (.goto (-26), 3) := by decide +kernel
theorem dX0_winner_42 : decode cX0_winner 42 = .ok (.iload_n 1, 1) := by decide +kernel
theorem dX0_winner_43 : decode cX0_winner 43 = .ok (.ireturn, 1) := by decide +kernel
theorem dX0_endsOpenTo_0 : decode cX0_endsOpenTo 0 = .ok (.iconst 0, 1) := by decide +kernel
theorem dX0_endsOpenTo_1 : decode cX0_endsOpenTo 1 = .ok (.istore_n 2, 1) := by decide +kernel
theorem dX0_endsOpenTo_2 : decode cX0_endsOpenTo 2 = .ok (.iconst 0, 1) := by decide +kernel
theorem dX0_endsOpenTo_3 : decode cX0_endsOpenTo 3 = .ok (.istore_n 3, 1) := by decide +kernel
theorem dX0_endsOpenTo_4 : decode cX0_endsOpenTo 4 = .ok (.iload_n 3, 1) := by decide +kernel
theorem dX0_endsOpenTo_5 : decode cX0_endsOpenTo 5 = .ok (.iconst 3, 1) := by decide +kernel
theorem dX0_endsOpenTo_6 : decode cX0_endsOpenTo 6 = .ok (.if_icmp .ge 58, 3) := by decide +kernel
theorem dX0_endsOpenTo_9 : decode cX0_endsOpenTo 9 = .ok (.aload_n 0, 1) := by decide +kernel
theorem dX0_endsOpenTo_10 : decode cX0_endsOpenTo 10 = .ok (.getfield 26, 3) := by decide +kernel
theorem dX0_endsOpenTo_13 : decode cX0_endsOpenTo 13 = .ok (.iload_n 3, 1) := by decide +kernel
theorem dX0_endsOpenTo_14 : decode cX0_endsOpenTo 14 = .ok (.iconst 0, 1) := by decide +kernel
theorem dX0_endsOpenTo_15 : decode cX0_endsOpenTo 15 = .ok (.invokevirtual 84, 3) := by decide +kernel
theorem dX0_endsOpenTo_18 : decode cX0_endsOpenTo 18 = .ok (.ifCond .ne 7, 3) := by decide +kernel
theorem dX0_endsOpenTo_21 : decode cX0_endsOpenTo 21 = .ok (.iconst 1, 1) := by decide +kernel
theorem dX0_endsOpenTo_22 : decode cX0_endsOpenTo 22 = .ok (.goto 4, 3) := by decide +kernel
theorem dX0_endsOpenTo_25 : decode cX0_endsOpenTo 25 = .ok (.iconst 2, 1) := by decide +kernel
theorem dX0_endsOpenTo_26 : decode cX0_endsOpenTo 26 = .ok (.istore 4, 2) := by decide +kernel
theorem dX0_endsOpenTo_28 : decode cX0_endsOpenTo 28 = .ok (.iconst 0, 1) := by decide +kernel
theorem dX0_endsOpenTo_29 : decode cX0_endsOpenTo 29 = .ok (.istore 5, 2) := by decide +kernel
theorem dX0_endsOpenTo_31 : decode cX0_endsOpenTo 31 = .ok (.iload 5, 2) := by decide +kernel
theorem dX0_endsOpenTo_33 : decode cX0_endsOpenTo 33 = .ok (.iload 4, 2) := by decide +kernel
theorem dX0_endsOpenTo_35 : decode cX0_endsOpenTo 35 = .ok (.if_icmp .ge 23, 3) := by decide +kernel
theorem dX0_endsOpenTo_38 : decode cX0_endsOpenTo 38 = .ok (.aload_n 0, 1) := by decide +kernel
theorem dX0_endsOpenTo_39 : decode cX0_endsOpenTo 39 = .ok (.iload_n 1, 1) := by decide +kernel
theorem dX0_endsOpenTo_40 : decode cX0_endsOpenTo 40 = .ok (.iload_n 3, 1) := by decide +kernel
theorem dX0_endsOpenTo_41 : decode cX0_endsOpenTo 41 = .ok (.iload 5, 2) := by decide +kernel
theorem dX0_endsOpenTo_43 : decode cX0_endsOpenTo 43 = .ok (.invokevirtual 151, 3) := by decide +kernel
theorem dX0_endsOpenTo_46 : decode cX0_endsOpenTo 46 = .ok (.ifCond .eq 6, 3) := by decide +kernel
theorem dX0_endsOpenTo_49 : decode cX0_endsOpenTo 49 = .ok (.iinc 2 1, 3) := by decide +kernel
theorem dX0_endsOpenTo_52 : decode cX0_endsOpenTo 52 = .ok (.iinc 5 1, 3) := by decide +kernel
theorem dX0_endsOpenTo_55 : decode cX0_endsOpenTo 55 = .ok (.goto (-24), 3) := by decide +kernel
theorem dX0_endsOpenTo_58 : decode cX0_endsOpenTo 58 = .ok (.iinc 3 1, 3) := by decide +kernel
theorem dX0_endsOpenTo_61 : decode cX0_endsOpenTo 61 = .ok (.goto (-57), 3) := by decide +kernel
theorem dX0_endsOpenTo_64 : decode cX0_endsOpenTo 64 = .ok (.iload_n 2, 1) := by decide +kernel
theorem dX0_endsOpenTo_65 : decode cX0_endsOpenTo 65 = .ok (.ireturn, 1) := by decide +kernel
theorem dX0_canLayAt_0 : decode cX0_canLayAt 0 = .ok (.aload_n 0, 1) := by decide +kernel
theorem dX0_canLayAt_1 : decode cX0_canLayAt 1 = .ok (.iload_n 1, 1) := by decide +kernel
theorem dX0_canLayAt_2 : decode cX0_canLayAt 2 = .ok (.invokevirtual 92, 3) := by decide +kernel
theorem dX0_canLayAt_5 : decode cX0_canLayAt 5 = .ok (.istore 4, 2) := by decide +kernel
theorem dX0_canLayAt_7 : decode cX0_canLayAt 7 = .ok (.iconst 0, 1) := by decide +kernel
theorem dX0_canLayAt_8 : decode cX0_canLayAt 8 = .ok (.istore 5, 2) := by decide +kernel
theorem dX0_canLayAt_10 : decode cX0_canLayAt 10 = .ok (.iload 5, 2) := by decide +kernel
theorem dX0_canLayAt_12 : decode cX0_canLayAt 12 = .ok (.iload 4, 2) := by decide +kernel
theorem dX0_canLayAt_14 : decode cX0_canLayAt 14 = .ok (.if_icmp .ge 30, 3) := by decide +kernel
theorem dX0_canLayAt_17 : decode cX0_canLayAt 17 = .ok (.aload_n 0, 1) := by decide +kernel
theorem dX0_canLayAt_18 : decode cX0_canLayAt 18 = .ok (.aload_n 0, 1) := by decide +kernel
theorem dX0_canLayAt_19 : decode cX0_canLayAt 19 = .ok (.getfield 20, 3) := by decide +kernel
theorem dX0_canLayAt_22 : decode cX0_canLayAt 22 = .ok (.iload_n 1, 1) := by decide +kernel
theorem dX0_canLayAt_23 : decode cX0_canLayAt 23 = .ok (.iload 5, 2) := by decide +kernel
theorem dX0_canLayAt_25 : decode cX0_canLayAt 25 = .ok (.invokevirtual 84, 3) := by decide +kernel
theorem dX0_canLayAt_28 : decode cX0_canLayAt 28 = .ok (.iload_n 2, 1) := by decide +kernel
theorem dX0_canLayAt_29 : decode cX0_canLayAt 29 = .ok (.iload_n 3, 1) := by decide +kernel
theorem dX0_canLayAt_30 : decode cX0_canLayAt 30 = .ok (.invokevirtual 123, 3) := by decide +kernel
theorem dX0_canLayAt_33 : decode cX0_canLayAt 33 = .ok (.ifCond .eq 5, 3) := by decide +kernel
theorem dX0_canLayAt_36 : decode cX0_canLayAt 36 = .ok (.iconst 1, 1) := by decide +kernel
theorem dX0_canLayAt_37 : decode cX0_canLayAt 37 = .ok (.ireturn, 1) := by decide +kernel
theorem dX0_canLayAt_38 : decode cX0_canLayAt 38 = .ok (.iinc 5 1, 3) := by decide +kernel
theorem dX0_canLayAt_41 : decode cX0_canLayAt 41 = .ok (.goto (-31), 3) := by decide +kernel
theorem dX0_canLayAt_44 : decode cX0_canLayAt 44 = .ok (.iconst 0, 1) := by decide +kernel
theorem dX0_canLayAt_45 : decode cX0_canLayAt 45 = .ok (.ireturn, 1) := by decide +kernel
theorem dX0_fitsSomewhere_0 : decode cX0_fitsSomewhere 0 = .ok (.iconst 0, 1) := by decide +kernel
theorem dX0_fitsSomewhere_1 : decode cX0_fitsSomewhere 1 = .ok (.istore_n 2, 1) := by decide +kernel
theorem dX0_fitsSomewhere_2 : decode cX0_fitsSomewhere 2 = .ok (.iload_n 2, 1) := by decide +kernel
theorem dX0_fitsSomewhere_3 : decode cX0_fitsSomewhere 3 = .ok (.iconst 3, 1) := by decide +kernel
theorem dX0_fitsSomewhere_4 : decode cX0_fitsSomewhere 4 = .ok (.if_icmp .ge 31, 3) := by decide +kernel
theorem dX0_fitsSomewhere_7 : decode cX0_fitsSomewhere 7 = .ok (.aload_n 0, 1) := by decide +kernel
theorem dX0_fitsSomewhere_8 : decode cX0_fitsSomewhere 8 = .ok (.iload_n 1, 1) := by decide +kernel
theorem dX0_fitsSomewhere_9 : decode cX0_fitsSomewhere 9 = .ok (.iload_n 2, 1) := by decide +kernel
theorem dX0_fitsSomewhere_10 : decode cX0_fitsSomewhere 10 = .ok (.iconst 0, 1) := by decide +kernel
theorem dX0_fitsSomewhere_11 : decode cX0_fitsSomewhere 11 = .ok (.invokevirtual 123, 3) := by decide +kernel
theorem dX0_fitsSomewhere_14 : decode cX0_fitsSomewhere 14 = .ok (.ifCond .ne 13, 3) := by decide +kernel
theorem dX0_fitsSomewhere_17 : decode cX0_fitsSomewhere 17 = .ok (.aload_n 0, 1) := by decide +kernel
theorem dX0_fitsSomewhere_18 : decode cX0_fitsSomewhere 18 = .ok (.iload_n 1, 1) := by decide +kernel
theorem dX0_fitsSomewhere_19 : decode cX0_fitsSomewhere 19 = .ok (.iload_n 2, 1) := by decide +kernel
theorem dX0_fitsSomewhere_20 : decode cX0_fitsSomewhere 20 = .ok (.iconst 1, 1) := by decide +kernel
theorem dX0_fitsSomewhere_21 : decode cX0_fitsSomewhere 21 = .ok (.invokevirtual 123, 3) := by decide +kernel
theorem dX0_fitsSomewhere_24 : decode cX0_fitsSomewhere 24 = .ok (.ifCond .eq 5, 3) := by decide +kernel
theorem dX0_fitsSomewhere_27 : decode cX0_fitsSomewhere 27 = .ok (.iconst 1, 1) := by decide +kernel
theorem dX0_fitsSomewhere_28 : decode cX0_fitsSomewhere 28 = .ok (.ireturn, 1) := by decide +kernel
theorem dX0_fitsSomewhere_29 : decode cX0_fitsSomewhere 29 = .ok (.iinc 2 1, 3) := by decide +kernel
theorem dX0_fitsSomewhere_32 : decode cX0_fitsSomewhere 32 = .ok (.goto (-30), 3) := by decide +kernel
theorem dX0_fitsSomewhere_35 : decode cX0_fitsSomewhere 35 = .ok (.iconst 0, 1) := by decide +kernel
theorem dX0_fitsSomewhere_36 : decode cX0_fitsSomewhere 36 = .ok (.ireturn, 1) := by decide +kernel
theorem dX0_bestPlace_0 : decode cX0_bestPlace 0 = .ok (.aload_n 0, 1) := by decide +kernel
theorem dX0_bestPlace_1 : decode cX0_bestPlace 1 = .ok (.invokevirtual 112, 3) := by decide +kernel
theorem dX0_bestPlace_4 : decode cX0_bestPlace 4 = .ok (.ifCond .eq 5, 3) := by decide +kernel
theorem dX0_bestPlace_7 : decode cX0_bestPlace 7 = .ok (.iconst (-1), 1) := by decide +kernel
theorem dX0_bestPlace_8 : decode cX0_bestPlace 8 = .ok (.ireturn, 1) := by decide +kernel
theorem dX0_bestPlace_9 : decode cX0_bestPlace 9 = .ok (.aload_n 0, 1) := by decide +kernel
theorem dX0_bestPlace_10 : decode cX0_bestPlace 10 = .ok (.aload_n 0, 1) := by decide +kernel
theorem dX0_bestPlace_11 : decode cX0_bestPlace 11 = .ok (.getfield 43, 3) := by decide +kernel
theorem dX0_bestPlace_14 : decode cX0_bestPlace 14 = .ok (.invokevirtual 92, 3) := by decide +kernel
theorem dX0_bestPlace_17 : decode cX0_bestPlace 17 = .ok (.istore_n 1, 1) := by decide +kernel
theorem dX0_bestPlace_18 : decode cX0_bestPlace 18 = .ok (.iconst (-1), 1) := by decide +kernel
theorem dX0_bestPlace_19 : decode cX0_bestPlace 19 = .ok (.istore_n 2, 1) := by decide +kernel
theorem dX0_bestPlace_20 : decode cX0_bestPlace 20 = .ok (.iconst 0, 1) := by decide +kernel
theorem dX0_bestPlace_21 : decode cX0_bestPlace 21 = .ok (.istore_n 3, 1) := by decide +kernel
theorem dX0_bestPlace_22 : decode cX0_bestPlace 22 = .ok (.iload_n 3, 1) := by decide +kernel
theorem dX0_bestPlace_23 : decode cX0_bestPlace 23 = .ok (.iload_n 1, 1) := by decide +kernel
theorem dX0_bestPlace_24 : decode cX0_bestPlace 24 = .ok (.if_icmp .ge 44, 3) := by decide +kernel
theorem dX0_bestPlace_27 : decode cX0_bestPlace 27 = .ok (.aload_n 0, 1) := by decide +kernel
theorem dX0_bestPlace_28 : decode cX0_bestPlace 28 = .ok (.aload_n 0, 1) := by decide +kernel
theorem dX0_bestPlace_29 : decode cX0_bestPlace 29 = .ok (.getfield 20, 3) := by decide +kernel
theorem dX0_bestPlace_32 : decode cX0_bestPlace 32 = .ok (.aload_n 0, 1) := by decide +kernel
theorem dX0_bestPlace_33 : decode cX0_bestPlace 33 = .ok (.getfield 43, 3) := by decide +kernel
theorem dX0_bestPlace_36 : decode cX0_bestPlace 36 = .ok (.iload_n 3, 1) := by decide +kernel
theorem dX0_bestPlace_37 : decode cX0_bestPlace 37 = .ok (.invokevirtual 84, 3) := by decide +kernel
theorem dX0_bestPlace_40 : decode cX0_bestPlace 40 = .ok (.invokevirtual 154, 3) := by decide +kernel
theorem dX0_bestPlace_43 : decode cX0_bestPlace 43 = .ok (.ifCond .eq 19, 3) := by decide +kernel
theorem dX0_bestPlace_46 : decode cX0_bestPlace 46 = .ok (.iload_n 2, 1) := by decide +kernel
theorem dX0_bestPlace_47 : decode cX0_bestPlace 47 = .ok (.iconst (-1), 1) := by decide +kernel
theorem dX0_bestPlace_48 : decode cX0_bestPlace 48 = .ok (.if_icmp .eq 12, 3) := by decide +kernel
theorem dX0_bestPlace_51 : decode cX0_bestPlace 51 = .ok (.aload_n 0, 1) := by decide +kernel
theorem dX0_bestPlace_52 : decode cX0_bestPlace 52 = .ok (.iload_n 3, 1) := by decide +kernel
theorem dX0_bestPlace_53 : decode cX0_bestPlace 53 = .ok (.iload_n 2, 1) := by decide +kernel
theorem dX0_bestPlace_54 : decode cX0_bestPlace 54 = .ok (.invokevirtual 158, 3) := by decide +kernel
theorem dX0_bestPlace_57 : decode cX0_bestPlace 57 = .ok (.ifCond .eq 5, 3) := by decide +kernel
theorem dX0_bestPlace_60 : decode cX0_bestPlace 60 = .ok (.iload_n 3, 1) := by decide +kernel
theorem dX0_bestPlace_61 : decode cX0_bestPlace 61 = .ok (.istore_n 2, 1) := by decide +kernel
theorem dX0_bestPlace_62 : decode cX0_bestPlace 62 = .ok (.iinc 3 1, 3) := by decide +kernel
theorem dX0_bestPlace_65 : decode cX0_bestPlace 65 = .ok (.goto (-43), 3) := by decide +kernel
theorem dX0_bestPlace_68 : decode cX0_bestPlace 68 = .ok (.iload_n 2, 1) := by decide +kernel
theorem dX0_bestPlace_69 : decode cX0_bestPlace 69 = .ok (.ireturn, 1) := by decide +kernel
theorem dX0_isBetter_0 : decode cX0_isBetter 0 = .ok (.aload_n 0, 1) := by decide +kernel
theorem dX0_isBetter_1 : decode cX0_isBetter 1 = .ok (.getfield 20, 3) := by decide +kernel
theorem dX0_isBetter_4 : decode cX0_isBetter 4 = .ok (.aload_n 0, 1) := by decide +kernel
theorem dX0_isBetter_5 : decode cX0_isBetter 5 = .ok (.getfield 43, 3) := by decide +kernel
theorem dX0_isBetter_8 : decode cX0_isBetter 8 = .ok (.iload_n 1, 1) := by decide +kernel
theorem dX0_isBetter_9 : decode cX0_isBetter 9 = .ok (.invokevirtual 84, 3) := by decide +kernel
theorem dX0_isBetter_12 : decode cX0_isBetter 12 = .ok (.istore_n 3, 1) := by decide +kernel
theorem dX0_isBetter_13 : decode cX0_isBetter 13 = .ok (.aload_n 0, 1) := by decide +kernel
theorem dX0_isBetter_14 : decode cX0_isBetter 14 = .ok (.getfield 20, 3) := by decide +kernel
theorem dX0_isBetter_17 : decode cX0_isBetter 17 = .ok (.aload_n 0, 1) := by decide +kernel
theorem dX0_isBetter_18 : decode cX0_isBetter 18 = .ok (.getfield 43, 3) := by decide +kernel
theorem dX0_isBetter_21 : decode cX0_isBetter 21 = .ok (.iload_n 2, 1) := by decide +kernel
theorem dX0_isBetter_22 : decode cX0_isBetter 22 = .ok (.invokevirtual 84, 3) := by decide +kernel
theorem dX0_isBetter_25 : decode cX0_isBetter 25 = .ok (.istore 4, 2) := by decide +kernel
theorem dX0_isBetter_27 : decode cX0_isBetter 27 = .ok (.aload_n 0, 1) := by decide +kernel
theorem dX0_isBetter_28 : decode cX0_isBetter 28 = .ok (.iload_n 3, 1) := by decide +kernel
theorem dX0_isBetter_29 : decode cX0_isBetter 29 = .ok (.invokevirtual 148, 3) := by decide +kernel
theorem dX0_isBetter_32 : decode cX0_isBetter 32 = .ok (.aload_n 0, 1) := by decide +kernel
theorem dX0_isBetter_33 : decode cX0_isBetter 33 = .ok (.iload 4, 2) := by decide +kernel
theorem dX0_isBetter_35 : decode cX0_isBetter 35 = .ok (.invokevirtual 148, 3) := by decide +kernel
theorem dX0_isBetter_38 : decode cX0_isBetter 38 = .ok (.if_icmp .eq 23, 3) := by decide +kernel
theorem dX0_isBetter_41 : decode cX0_isBetter 41 = .ok (.aload_n 0, 1) := by decide +kernel
theorem dX0_isBetter_42 : decode cX0_isBetter 42 = .ok (.iload_n 3, 1) := by decide +kernel
theorem dX0_isBetter_43 : decode cX0_isBetter 43 = .ok (.invokevirtual 148, 3) := by decide +kernel
theorem dX0_isBetter_46 : decode cX0_isBetter 46 = .ok (.aload_n 0, 1) := by decide +kernel
theorem dX0_isBetter_47 : decode cX0_isBetter 47 = .ok (.iload 4, 2) := by decide +kernel
theorem dX0_isBetter_49 : decode cX0_isBetter 49 = .ok (.invokevirtual 148, 3) := by decide +kernel
theorem dX0_isBetter_52 : decode cX0_isBetter 52 = .ok (.if_icmp .le 7, 3) := by decide +kernel
theorem dX0_isBetter_55 : decode cX0_isBetter 55 = .ok (.iconst 1, 1) := by decide +kernel
theorem dX0_isBetter_56 : decode cX0_isBetter 56 = .ok (.goto 4, 3) := by decide +kernel
theorem dX0_isBetter_59 : decode cX0_isBetter 59 = .ok (.iconst 0, 1) := by decide +kernel
theorem dX0_isBetter_60 : decode cX0_isBetter 60 = .ok (.ireturn, 1) := by decide +kernel
theorem dX0_isBetter_61 : decode cX0_isBetter 61 = .ok (.aload_n 0, 1) := by decide +kernel
theorem dX0_isBetter_62 : decode cX0_isBetter 62 = .ok (.getfield 14, 3) := by decide +kernel
theorem dX0_isBetter_65 : decode cX0_isBetter 65 = .ok (.iload_n 3, 1) := by decide +kernel
theorem dX0_isBetter_66 : decode cX0_isBetter 66 = .ok (.iconst 4, 1) := by decide +kernel
theorem dX0_isBetter_67 : decode cX0_isBetter 67 = .ok (.invokevirtual 84, 3) := by decide +kernel
theorem dX0_isBetter_70 : decode cX0_isBetter 70 = .ok (.aload_n 0, 1) := by decide +kernel
theorem dX0_isBetter_71 : decode cX0_isBetter 71 = .ok (.getfield 14, 3) := by decide +kernel
theorem dX0_isBetter_74 : decode cX0_isBetter 74 = .ok (.iload 4, 2) := by decide +kernel
theorem dX0_isBetter_76 : decode cX0_isBetter 76 = .ok (.iconst 4, 1) := by decide +kernel
theorem dX0_isBetter_77 : decode cX0_isBetter 77 = .ok (.invokevirtual 84, 3) := by decide +kernel
theorem dX0_isBetter_80 : decode cX0_isBetter 80 = .ok (.if_icmp .le 7, 3) := by decide +kernel
theorem dX0_isBetter_83 : decode cX0_isBetter 83 = .ok (.iconst 1, 1) := by decide +kernel
theorem dX0_isBetter_84 : decode cX0_isBetter 84 = .ok (.goto 4, 3) := by decide +kernel
theorem dX0_isBetter_87 : decode cX0_isBetter 87 = .ok (.iconst 0, 1) := by decide +kernel
theorem dX0_isBetter_88 : decode cX0_isBetter 88 = .ok (.ireturn, 1) := by decide +kernel
theorem dX0_shareOfRust_0 : decode cX0_shareOfRust 0 = .ok (.aload_n 0, 1) := by decide +kernel
theorem dX0_shareOfRust_1 : decode cX0_shareOfRust 1 = .ok (.iconst 1, 1) := by decide +kernel
theorem dX0_shareOfRust_2 : decode cX0_shareOfRust 2 = .ok (.invokevirtual 133, 3) := by decide +kernel
theorem dX0_shareOfRust_5 : decode cX0_shareOfRust 5 = .ok (.i2d, 1) := by decide +kernel
theorem dX0_shareOfRust_6 : decode cX0_shareOfRust 6 = .ok (.ldc2_w 164, 3) := by decide +kernel
theorem dX0_shareOfRust_9 : decode cX0_shareOfRust 9 = .ok (.ddiv, 1) := by decide +kernel
theorem dX0_shareOfRust_10 : decode cX0_shareOfRust 10 = .ok (.dreturn, 1) := by decide +kernel
end
section
/-! THE GAME: S 0 tiles, S 1 hands, S 2 tallies, S 3 rows, S 4 order (cells of the tables), S 5 the numbers: 0 players, 1 on move, 2 taken, 3 turns, 4 passes, 5 refusals, 6 lot, 7 interval. A Game at g has its tables at g + 1, g + 3 .., their cells one behind. -/
abbrev gS : Type := Nat → Nat → Int32
def bI : Bool → Int32
  | true => 1
  | false => 0
theorem bI_01 (b : Bool) : bI b = 0 ∨ bI b = 1 := by cases b <;> simp [bI]
theorem bI_f {b : Bool} (h : bI b = 0) : b = false := by cases b <;> simp_all [bI]
theorem bI_t {b : Bool} (h : bI b ≠ 0) : b = true := by cases b <;> simp_all [bI]
def gC (G : ga_) (g : Nat) (S : gS) : Nat → va_E
  | 0 => ob_ 0 [.ref (g + 1), .ref (g + 3), .ref (g + 5), .ref (g + 7), .ref (g + 9), .int (S 5 0), .int (S 5 1), .int (S 5 2), .int (S 5 3), .int (S 5 4), .int (S 5 5), .int (S 5 6), .int (S 5 7)]
  | 1 => ob_ 2 [.int 7, .ref (g + 2)]
  | 2 => aI_ G 196 (S 0)
  | 3 => ob_ 2 [.int 28, .ref (g + 4)]
  | 4 => aI_ G 112 (S 1)
  | 5 => ob_ 2 [.int 4, .ref (g + 6)]
  | 6 => aI_ G 16 (S 2)
  | 7 => ob_ 2 [.int 4, .ref (g + 8)]
  | 8 => aI_ G 12 (S 3)
  | 9 => ob_ 2 [.int 28, .ref (g + 10)]
  | _ => aI_ G 28 (S 4)
def tco : Nat → Int32
  | 0 => 7 | 1 => 28 | 2 => 4 | 3 => 4 | _ => 28
def tn : Nat → Nat
  | 0 => 196 | 1 => 112 | 2 => 16 | 3 => 12 | _ => 28
def GA (G : ga_) (h : HP) (g : Nat) (S : gS) : Prop := ∀ j, j < 11 → h (g + j) = some (gC G g S j)
def pG (G : ga_) (h : HP) (g : Nat) (S : gS) : HP := fun a => if g ≤ a ∧ a < g + 11 then some (gC G g S (a - g)) else h a
def gu (S : gS) (j : Nat) (f : Nat → Int32) : gS := fun a => if a = j then f else S a
def gP (S : gS) (j : Nat) (r q v : Int32) : gS := gu S j (tPut (tco j) (tn j) (S j) r q v)
def gI (S : gS) (j : Nat) (r q v : Int32) : gS := gu S j (tInc (tco j) (tn j) (S j) r q v)
def gZ (S : gS) (j : Nat) : gS := gu S j (zf (S j) 0 (tn j))
def gc (S : gS) (k : Nat) (v : Int32) : gS := gu S 5 (fun b => if b = k then v else S 5 b)
theorem GA_pG {G : ga_} {h : HP} {g : Nat} {S : gS} : GA G (pG G h g S) g S := by
  intro j hj
  unfold pG
  rw [if_pos ⟨by omega, by omega⟩, Nat.add_sub_cancel_left]
theorem pG_in {G : ga_} {h : HP} {g a : Nat} {S : gS} (h1 : g ≤ a) (h2 : a < g + 11) : pG G h g S a = some (gC G g S (a - g)) := by unfold pG; rw [if_pos ⟨h1, h2⟩]
theorem pG_out {G : ga_} {h : HP} {g a : Nat} {S : gS} (ha : a < g ∨ g + 11 ≤ a) : pG G h g S a = h a := by unfold pG; rw [if_neg (by omega)]
theorem pG_pG (G : ga_) (h : HP) (g : Nat) (S S2 : gS) : pG G (pG G h g S) g S2 = pG G h g S2 := by
  funext a
  by_cases c : g ≤ a ∧ a < g + 11
  · rw [pG_in c.1 c.2, pG_in c.1 c.2]
  · rw [pG_out (by omega), pG_out (by omega), pG_out (by omega)]
theorem pG_id {G : ga_} {h : HP} {g : Nat} {S : gS} (w : GA G h g S) : pG G h g S = h := by
  funext a
  by_cases c : g ≤ a ∧ a < g + 11
  · rw [pG_in c.1 c.2, ← w (a - g) (by omega), show g + (a - g) = a by omega]
  · rw [pG_out (by omega)]
theorem pG_one {G : ga_} {h : HP} {g : Nat} {S S2 : gS} {e : va_E} (w : GA G h g S) (j : Nat) (hj : j < 11) (he : gC G g S2 j = e) (ho : ∀ i, i < 11 → i ≠ j → gC G g S2 i = gC G g S i) : up_ h (g + j) e = pG G h g S2 := by
  funext a
  by_cases c : g ≤ a ∧ a < g + 11
  · rw [pG_in c.1 c.2]
    by_cases d : a = g + j
    · subst d; rw [up_s, Nat.add_sub_cancel_left, he]
    · rw [up_n d, ho (a - g) (by omega) (by omega), ← w (a - g) (by omega), show g + (a - g) = a by omega]
  · rw [pG_out (by omega), up_n (by omega)]
theorem lt11 {P : Nat → Prop} (h0 : P 0) (h1 : P 1) (h2 : P 2) (h3 : P 3) (h4 : P 4) (h5 : P 5) (h6 : P 6) (h7 : P 7) (h8 : P 8) (h9 : P 9) (h10 : P 10) : ∀ i, i < 11 → P i := by
  intro i hi
  match i, hi with
  | 0, _ => exact h0 | 1, _ => exact h1 | 2, _ => exact h2 | 3, _ => exact h3 | 4, _ => exact h4 | 5, _ => exact h5 | 6, _ => exact h6 | 7, _ => exact h7 | 8, _ => exact h8 | 9, _ => exact h9 | 10, _ => exact h10
theorem GA_o {G : ga_} {h : HP} {g : Nat} {S : gS} (w : GA G h g S) : h g = some (ob_ 0 [.ref (g + 1), .ref (g + 3), .ref (g + 5), .ref (g + 7), .ref (g + 9), .int (S 5 0), .int (S 5 1), .int (S 5 2), .int (S 5 3), .int (S 5 4), .int (S 5 5), .int (S 5 6), .int (S 5 7)]) := w 0 (by decide)
/-- a number of the game is written -/
theorem pG_num {G : ga_} {h : HP} {g : Nat} {S : gS} {fs : List Value} (w : GA G h g S) (k : Nat) (v : Int32) (hf : gC G g (gc S k v) 0 = ob_ 0 fs) : up_ h g (ob_ 0 fs) = pG G h g (gc S k v) :=
  pG_one w 0 (by decide) hf (lt11 (fun q => absurd rfl q) (fun _ => rfl) (fun _ => rfl) (fun _ => rfl) (fun _ => rfl) (fun _ => rfl) (fun _ => rfl) (fun _ => rfl) (fun _ => rfl) (fun _ => rfl) (fun _ => rfl))
theorem GA_t0 {G : ga_} {h : HP} {g : Nat} {S : gS} (w : GA G h g S) : h (g + 1) = some (ob_ 2 [.int 7, .ref (g + 2)]) := w 1 (by decide)
theorem GA_a0 {G : ga_} {h : HP} {g : Nat} {S : gS} (w : GA G h g S) : h (g + 2) = some (aI_ G 196 (S 0)) := w 2 (by decide)
theorem pG_tab0 {G : ga_} {h : HP} {g : Nat} {S : gS} (w : GA G h g S) (f : Nat → Int32) : up_ h (g + 2) (aI_ G 196 f) = pG G h g (gu S 0 f) := pG_one w 2 (by decide) rfl (lt11 (fun _ => rfl) (fun _ => rfl) (fun q => absurd rfl q) (fun _ => rfl) (fun _ => rfl) (fun _ => rfl) (fun _ => rfl) (fun _ => rfl) (fun _ => rfl) (fun _ => rfl) (fun _ => rfl))
theorem c_at0 {G : ga_} {l : Launch} {h : HP} {sz g : Nat} {S : gS} {r q : Int32} (w : GA G h g S) : Mf G l yX2_at cX2_at 4 (some .int) 0 0 0 0 [.ref (g + 1), .int r, .int q] h sz (some (.int (tAt 7 196 (S 0) r q))) h sz := c_X2_at (GA_t0 w) (GA_a0 w) (by decide)
theorem c_put0 {G : ga_} {l : Launch} {h : HP} {sz g : Nat} {S : gS} {r q v : Int32} (w : GA G h g S) : Mf G l yX2_put cX2_put 5 none 0 0 0 0 [.ref (g + 1), .int r, .int q, .int v] h sz none (pG G h g (gP S 0 r q v)) sz := by
  show Mf G l yX2_put cX2_put 5 none 0 0 0 0 [.ref (g + 1), .int r, .int q, .int v] h sz none (pG G h g (gu S 0 (tPut 7 196 (S 0) r q v))) sz
  rw [← pG_tab0 w]
  exact c_X2_put (GA_t0 w) (GA_a0 w) (by decide)
theorem c_increase0 {G : ga_} {l : Launch} {h : HP} {sz g : Nat} {S : gS} {r q v : Int32} (w : GA G h g S) : Mf G l yX2_increase cX2_increase 5 none 0 0 0 0 [.ref (g + 1), .int r, .int q, .int v] h sz none (pG G h g (gI S 0 r q v)) sz := by
  show Mf G l yX2_increase cX2_increase 5 none 0 0 0 0 [.ref (g + 1), .int r, .int q, .int v] h sz none (pG G h g (gu S 0 (tInc 7 196 (S 0) r q v))) sz
  rw [← pG_tab0 w]
  exact c_X2_increase (GA_t0 w) (GA_a0 w) (by decide)
theorem c_clear0 {G : ga_} {l : Launch} {h : HP} {sz g : Nat} {S : gS} (w : GA G h g S) : Mf G l yX2_clear cX2_clear 1 none 1 23 0 0 [.ref (g + 1)] h sz none (pG G h g (gZ S 0)) sz := by
  show Mf G l yX2_clear cX2_clear 1 none 1 23 0 0 [.ref (g + 1)] h sz none (pG G h g (gu S 0 (zf (S 0) 0 196))) sz
  rw [← pG_tab0 w]
  exact c_X2_clear (GA_t0 w) (GA_a0 w) (by decide)
theorem c_become0 {G : ga_} {l : Launch} {h : HP} {sz g : Nat} {S : gS} {g2 : Nat} {S2 : gS} (w : GA G h g S) (w2 : GA G h g2 S2) : Mf G l yX2_become cX2_become 2 none 1 30 0 0 [.ref (g + 1), .ref (g2 + 1)] h sz none (pG G h g (gu S 0 (va_cpy (S2 0) (S 0) 0 0 196))) sz := by
  rw [← pG_tab0 w]
  exact c_X2_become (GA_t0 w) (GA_a0 w) (GA_t0 w2) (GA_a0 w2) (by decide)
theorem GA_t1 {G : ga_} {h : HP} {g : Nat} {S : gS} (w : GA G h g S) : h (g + 3) = some (ob_ 2 [.int 28, .ref (g + 4)]) := w 3 (by decide)
theorem GA_a1 {G : ga_} {h : HP} {g : Nat} {S : gS} (w : GA G h g S) : h (g + 4) = some (aI_ G 112 (S 1)) := w 4 (by decide)
theorem pG_tab1 {G : ga_} {h : HP} {g : Nat} {S : gS} (w : GA G h g S) (f : Nat → Int32) : up_ h (g + 4) (aI_ G 112 f) = pG G h g (gu S 1 f) := pG_one w 4 (by decide) rfl (lt11 (fun _ => rfl) (fun _ => rfl) (fun _ => rfl) (fun _ => rfl) (fun q => absurd rfl q) (fun _ => rfl) (fun _ => rfl) (fun _ => rfl) (fun _ => rfl) (fun _ => rfl) (fun _ => rfl))
theorem c_at1 {G : ga_} {l : Launch} {h : HP} {sz g : Nat} {S : gS} {r q : Int32} (w : GA G h g S) : Mf G l yX2_at cX2_at 4 (some .int) 0 0 0 0 [.ref (g + 3), .int r, .int q] h sz (some (.int (tAt 28 112 (S 1) r q))) h sz := c_X2_at (GA_t1 w) (GA_a1 w) (by decide)
theorem c_put1 {G : ga_} {l : Launch} {h : HP} {sz g : Nat} {S : gS} {r q v : Int32} (w : GA G h g S) : Mf G l yX2_put cX2_put 5 none 0 0 0 0 [.ref (g + 3), .int r, .int q, .int v] h sz none (pG G h g (gP S 1 r q v)) sz := by
  show Mf G l yX2_put cX2_put 5 none 0 0 0 0 [.ref (g + 3), .int r, .int q, .int v] h sz none (pG G h g (gu S 1 (tPut 28 112 (S 1) r q v))) sz
  rw [← pG_tab1 w]
  exact c_X2_put (GA_t1 w) (GA_a1 w) (by decide)
theorem c_increase1 {G : ga_} {l : Launch} {h : HP} {sz g : Nat} {S : gS} {r q v : Int32} (w : GA G h g S) : Mf G l yX2_increase cX2_increase 5 none 0 0 0 0 [.ref (g + 3), .int r, .int q, .int v] h sz none (pG G h g (gI S 1 r q v)) sz := by
  show Mf G l yX2_increase cX2_increase 5 none 0 0 0 0 [.ref (g + 3), .int r, .int q, .int v] h sz none (pG G h g (gu S 1 (tInc 28 112 (S 1) r q v))) sz
  rw [← pG_tab1 w]
  exact c_X2_increase (GA_t1 w) (GA_a1 w) (by decide)
theorem c_clear1 {G : ga_} {l : Launch} {h : HP} {sz g : Nat} {S : gS} (w : GA G h g S) : Mf G l yX2_clear cX2_clear 1 none 1 23 0 0 [.ref (g + 3)] h sz none (pG G h g (gZ S 1)) sz := by
  show Mf G l yX2_clear cX2_clear 1 none 1 23 0 0 [.ref (g + 3)] h sz none (pG G h g (gu S 1 (zf (S 1) 0 112))) sz
  rw [← pG_tab1 w]
  exact c_X2_clear (GA_t1 w) (GA_a1 w) (by decide)
theorem c_become1 {G : ga_} {l : Launch} {h : HP} {sz g : Nat} {S : gS} {g2 : Nat} {S2 : gS} (w : GA G h g S) (w2 : GA G h g2 S2) : Mf G l yX2_become cX2_become 2 none 1 30 0 0 [.ref (g + 3), .ref (g2 + 3)] h sz none (pG G h g (gu S 1 (va_cpy (S2 1) (S 1) 0 0 112))) sz := by
  rw [← pG_tab1 w]
  exact c_X2_become (GA_t1 w) (GA_a1 w) (GA_t1 w2) (GA_a1 w2) (by decide)
theorem GA_t2 {G : ga_} {h : HP} {g : Nat} {S : gS} (w : GA G h g S) : h (g + 5) = some (ob_ 2 [.int 4, .ref (g + 6)]) := w 5 (by decide)
theorem GA_a2 {G : ga_} {h : HP} {g : Nat} {S : gS} (w : GA G h g S) : h (g + 6) = some (aI_ G 16 (S 2)) := w 6 (by decide)
theorem pG_tab2 {G : ga_} {h : HP} {g : Nat} {S : gS} (w : GA G h g S) (f : Nat → Int32) : up_ h (g + 6) (aI_ G 16 f) = pG G h g (gu S 2 f) := pG_one w 6 (by decide) rfl (lt11 (fun _ => rfl) (fun _ => rfl) (fun _ => rfl) (fun _ => rfl) (fun _ => rfl) (fun _ => rfl) (fun q => absurd rfl q) (fun _ => rfl) (fun _ => rfl) (fun _ => rfl) (fun _ => rfl))
theorem c_at2 {G : ga_} {l : Launch} {h : HP} {sz g : Nat} {S : gS} {r q : Int32} (w : GA G h g S) : Mf G l yX2_at cX2_at 4 (some .int) 0 0 0 0 [.ref (g + 5), .int r, .int q] h sz (some (.int (tAt 4 16 (S 2) r q))) h sz := c_X2_at (GA_t2 w) (GA_a2 w) (by decide)
theorem c_put2 {G : ga_} {l : Launch} {h : HP} {sz g : Nat} {S : gS} {r q v : Int32} (w : GA G h g S) : Mf G l yX2_put cX2_put 5 none 0 0 0 0 [.ref (g + 5), .int r, .int q, .int v] h sz none (pG G h g (gP S 2 r q v)) sz := by
  show Mf G l yX2_put cX2_put 5 none 0 0 0 0 [.ref (g + 5), .int r, .int q, .int v] h sz none (pG G h g (gu S 2 (tPut 4 16 (S 2) r q v))) sz
  rw [← pG_tab2 w]
  exact c_X2_put (GA_t2 w) (GA_a2 w) (by decide)
theorem c_increase2 {G : ga_} {l : Launch} {h : HP} {sz g : Nat} {S : gS} {r q v : Int32} (w : GA G h g S) : Mf G l yX2_increase cX2_increase 5 none 0 0 0 0 [.ref (g + 5), .int r, .int q, .int v] h sz none (pG G h g (gI S 2 r q v)) sz := by
  show Mf G l yX2_increase cX2_increase 5 none 0 0 0 0 [.ref (g + 5), .int r, .int q, .int v] h sz none (pG G h g (gu S 2 (tInc 4 16 (S 2) r q v))) sz
  rw [← pG_tab2 w]
  exact c_X2_increase (GA_t2 w) (GA_a2 w) (by decide)
theorem c_clear2 {G : ga_} {l : Launch} {h : HP} {sz g : Nat} {S : gS} (w : GA G h g S) : Mf G l yX2_clear cX2_clear 1 none 1 23 0 0 [.ref (g + 5)] h sz none (pG G h g (gZ S 2)) sz := by
  show Mf G l yX2_clear cX2_clear 1 none 1 23 0 0 [.ref (g + 5)] h sz none (pG G h g (gu S 2 (zf (S 2) 0 16))) sz
  rw [← pG_tab2 w]
  exact c_X2_clear (GA_t2 w) (GA_a2 w) (by decide)
theorem c_become2 {G : ga_} {l : Launch} {h : HP} {sz g : Nat} {S : gS} {g2 : Nat} {S2 : gS} (w : GA G h g S) (w2 : GA G h g2 S2) : Mf G l yX2_become cX2_become 2 none 1 30 0 0 [.ref (g + 5), .ref (g2 + 5)] h sz none (pG G h g (gu S 2 (va_cpy (S2 2) (S 2) 0 0 16))) sz := by
  rw [← pG_tab2 w]
  exact c_X2_become (GA_t2 w) (GA_a2 w) (GA_t2 w2) (GA_a2 w2) (by decide)
theorem GA_t3 {G : ga_} {h : HP} {g : Nat} {S : gS} (w : GA G h g S) : h (g + 7) = some (ob_ 2 [.int 4, .ref (g + 8)]) := w 7 (by decide)
theorem GA_a3 {G : ga_} {h : HP} {g : Nat} {S : gS} (w : GA G h g S) : h (g + 8) = some (aI_ G 12 (S 3)) := w 8 (by decide)
theorem pG_tab3 {G : ga_} {h : HP} {g : Nat} {S : gS} (w : GA G h g S) (f : Nat → Int32) : up_ h (g + 8) (aI_ G 12 f) = pG G h g (gu S 3 f) := pG_one w 8 (by decide) rfl (lt11 (fun _ => rfl) (fun _ => rfl) (fun _ => rfl) (fun _ => rfl) (fun _ => rfl) (fun _ => rfl) (fun _ => rfl) (fun _ => rfl) (fun q => absurd rfl q) (fun _ => rfl) (fun _ => rfl))
theorem c_at3 {G : ga_} {l : Launch} {h : HP} {sz g : Nat} {S : gS} {r q : Int32} (w : GA G h g S) : Mf G l yX2_at cX2_at 4 (some .int) 0 0 0 0 [.ref (g + 7), .int r, .int q] h sz (some (.int (tAt 4 12 (S 3) r q))) h sz := c_X2_at (GA_t3 w) (GA_a3 w) (by decide)
theorem c_put3 {G : ga_} {l : Launch} {h : HP} {sz g : Nat} {S : gS} {r q v : Int32} (w : GA G h g S) : Mf G l yX2_put cX2_put 5 none 0 0 0 0 [.ref (g + 7), .int r, .int q, .int v] h sz none (pG G h g (gP S 3 r q v)) sz := by
  show Mf G l yX2_put cX2_put 5 none 0 0 0 0 [.ref (g + 7), .int r, .int q, .int v] h sz none (pG G h g (gu S 3 (tPut 4 12 (S 3) r q v))) sz
  rw [← pG_tab3 w]
  exact c_X2_put (GA_t3 w) (GA_a3 w) (by decide)
theorem c_increase3 {G : ga_} {l : Launch} {h : HP} {sz g : Nat} {S : gS} {r q v : Int32} (w : GA G h g S) : Mf G l yX2_increase cX2_increase 5 none 0 0 0 0 [.ref (g + 7), .int r, .int q, .int v] h sz none (pG G h g (gI S 3 r q v)) sz := by
  show Mf G l yX2_increase cX2_increase 5 none 0 0 0 0 [.ref (g + 7), .int r, .int q, .int v] h sz none (pG G h g (gu S 3 (tInc 4 12 (S 3) r q v))) sz
  rw [← pG_tab3 w]
  exact c_X2_increase (GA_t3 w) (GA_a3 w) (by decide)
theorem c_clear3 {G : ga_} {l : Launch} {h : HP} {sz g : Nat} {S : gS} (w : GA G h g S) : Mf G l yX2_clear cX2_clear 1 none 1 23 0 0 [.ref (g + 7)] h sz none (pG G h g (gZ S 3)) sz := by
  show Mf G l yX2_clear cX2_clear 1 none 1 23 0 0 [.ref (g + 7)] h sz none (pG G h g (gu S 3 (zf (S 3) 0 12))) sz
  rw [← pG_tab3 w]
  exact c_X2_clear (GA_t3 w) (GA_a3 w) (by decide)
theorem c_become3 {G : ga_} {l : Launch} {h : HP} {sz g : Nat} {S : gS} {g2 : Nat} {S2 : gS} (w : GA G h g S) (w2 : GA G h g2 S2) : Mf G l yX2_become cX2_become 2 none 1 30 0 0 [.ref (g + 7), .ref (g2 + 7)] h sz none (pG G h g (gu S 3 (va_cpy (S2 3) (S 3) 0 0 12))) sz := by
  rw [← pG_tab3 w]
  exact c_X2_become (GA_t3 w) (GA_a3 w) (GA_t3 w2) (GA_a3 w2) (by decide)
theorem GA_t4 {G : ga_} {h : HP} {g : Nat} {S : gS} (w : GA G h g S) : h (g + 9) = some (ob_ 2 [.int 28, .ref (g + 10)]) := w 9 (by decide)
theorem GA_a4 {G : ga_} {h : HP} {g : Nat} {S : gS} (w : GA G h g S) : h (g + 10) = some (aI_ G 28 (S 4)) := w 10 (by decide)
theorem pG_tab4 {G : ga_} {h : HP} {g : Nat} {S : gS} (w : GA G h g S) (f : Nat → Int32) : up_ h (g + 10) (aI_ G 28 f) = pG G h g (gu S 4 f) := pG_one w 10 (by decide) rfl (lt11 (fun _ => rfl) (fun _ => rfl) (fun _ => rfl) (fun _ => rfl) (fun _ => rfl) (fun _ => rfl) (fun _ => rfl) (fun _ => rfl) (fun _ => rfl) (fun _ => rfl) (fun q => absurd rfl q))
theorem c_at4 {G : ga_} {l : Launch} {h : HP} {sz g : Nat} {S : gS} {r q : Int32} (w : GA G h g S) : Mf G l yX2_at cX2_at 4 (some .int) 0 0 0 0 [.ref (g + 9), .int r, .int q] h sz (some (.int (tAt 28 28 (S 4) r q))) h sz := c_X2_at (GA_t4 w) (GA_a4 w) (by decide)
theorem c_put4 {G : ga_} {l : Launch} {h : HP} {sz g : Nat} {S : gS} {r q v : Int32} (w : GA G h g S) : Mf G l yX2_put cX2_put 5 none 0 0 0 0 [.ref (g + 9), .int r, .int q, .int v] h sz none (pG G h g (gP S 4 r q v)) sz := by
  show Mf G l yX2_put cX2_put 5 none 0 0 0 0 [.ref (g + 9), .int r, .int q, .int v] h sz none (pG G h g (gu S 4 (tPut 28 28 (S 4) r q v))) sz
  rw [← pG_tab4 w]
  exact c_X2_put (GA_t4 w) (GA_a4 w) (by decide)
theorem c_increase4 {G : ga_} {l : Launch} {h : HP} {sz g : Nat} {S : gS} {r q v : Int32} (w : GA G h g S) : Mf G l yX2_increase cX2_increase 5 none 0 0 0 0 [.ref (g + 9), .int r, .int q, .int v] h sz none (pG G h g (gI S 4 r q v)) sz := by
  show Mf G l yX2_increase cX2_increase 5 none 0 0 0 0 [.ref (g + 9), .int r, .int q, .int v] h sz none (pG G h g (gu S 4 (tInc 28 28 (S 4) r q v))) sz
  rw [← pG_tab4 w]
  exact c_X2_increase (GA_t4 w) (GA_a4 w) (by decide)
theorem c_clear4 {G : ga_} {l : Launch} {h : HP} {sz g : Nat} {S : gS} (w : GA G h g S) : Mf G l yX2_clear cX2_clear 1 none 1 23 0 0 [.ref (g + 9)] h sz none (pG G h g (gZ S 4)) sz := by
  show Mf G l yX2_clear cX2_clear 1 none 1 23 0 0 [.ref (g + 9)] h sz none (pG G h g (gu S 4 (zf (S 4) 0 28))) sz
  rw [← pG_tab4 w]
  exact c_X2_clear (GA_t4 w) (GA_a4 w) (by decide)
theorem c_become4 {G : ga_} {l : Launch} {h : HP} {sz g : Nat} {S : gS} {g2 : Nat} {S2 : gS} (w : GA G h g S) (w2 : GA G h g2 S2) : Mf G l yX2_become cX2_become 2 none 1 30 0 0 [.ref (g + 9), .ref (g2 + 9)] h sz none (pG G h g (gu S 4 (va_cpy (S2 4) (S 4) 0 0 28))) sz := by
  rw [← pG_tab4 w]
  exact c_X2_become (GA_t4 w) (GA_a4 w) (GA_t4 w2) (GA_a4 w2) (by decide)
end
section
/-! GAME: contracts of the methods that only look, without loops -/
def g_held (S : gS) (p : Int32) : Int32 := tAt 4 16 (S 2) p 0
def g_over (S : gS) : Bool := decide (S 5 1 = -1)
def g_holds (S : gS) (p q : Int32) : Bool := !decide (q < 0) && decide (q < g_held S p)
def g_fits (S : gS) (t r q : Int32) : Bool := decide (tAt 4 12 (S 3) r 0 = 0) || (decide (tAt 7 196 (S 0) t 0 = tAt 4 12 (S 3) r (1 + q)) || decide (tAt 7 196 (S 0) t 1 = tAt 4 12 (S 3) r (1 + q)))
def g_hand (S : gS) (p q : Int32) : Int32 := tAt 28 112 (S 1) p q
def g_reason (S : gS) (a r q : Int32) : Int32 := if g_over S then 1 else if g_holds S (S 5 1) a then (if g_fits S (g_hand S (S 5 1) a) r q then 0 else 3) else 2
def g_stock (S : gS) : Int32 := 28 - S 5 2
def g_stile (S : gS) (q : Int32) : Int32 := tAt 28 28 (S 4) 0 (S 5 2 + q)
def g_grades (S : gS) (t : Int32) : Int32 := tAt 7 196 (S 0) t 0 + tAt 7 196 (S 0) t 1
def g_has (S : gS) (p : Int32) : Bool := !decide (p < 0) && decide (p < S 5 0)
def g_better (S : gS) (a b : Int32) : Bool := if g_grades S (g_hand S (S 5 1) a) = g_grades S (g_hand S (S 5 1) b) then decide (tAt 7 196 (S 0) (g_hand S (S 5 1) b) 4 < tAt 7 196 (S 0) (g_hand S (S 5 1) a) 4) else decide (g_grades S (g_hand S (S 5 1) b) < g_grades S (g_hand S (S 5 1) a))
set_option maxHeartbeats 800000 in
set_option maxRecDepth 100000 in
theorem c_X0_isOver {G : ga_} {l : Launch} {h : HP} {sz : Nat} {g : Nat} {S : gS}  (w : GA G h g S)  : Mf G l yX0_isOver cX0_isOver 1 (some .boolean) 0 0 0 0 [.ref g] h sz (some (.int (bI (g_over S)))) h sz := by
  refine Mg.ofV [(0, .ref g)] (by decide) (Nat.le_of_ble_eq_true rfl) rfl ?_
  intro p e s m args below meth c C
  refine r_aload_n C dX0_isOver_0 rfl rfl ?_
  refine r_get C (j := 6) rfl in_X0 (GA_o w) (by decide) fl_X0_43 rfl rfl dX0_isOver_1 ?_
  refine r_iconst C (v := -1) dX0_isOver_4 rfl ?_
  refine r_icmp_ne C 12 dX0_isOver_5 (by decide) (fun c_5 => ?_) (fun c_5 => ?_)
  · refine r_iconst C (v := 0) dX0_isOver_12 rfl ?_
    exact r_zret C rfl (by first | exact Or.inl rfl | exact Or.inr rfl | exact bI_01 _) (Nat.le_of_ble_eq_true rfl) (Nat.le_of_ble_eq_true rfl) ⟨by simp [g_over, bI, c_5], rfl, rfl⟩ dX0_isOver_13
  · refine r_iconst C (v := 1) dX0_isOver_8 rfl ?_
    refine r_goto C 13 dX0_isOver_9 (by decide) ?_
    exact r_zret C rfl (by first | exact Or.inl rfl | exact Or.inr rfl | exact bI_01 _) (Nat.le_of_ble_eq_true rfl) (Nat.le_of_ble_eq_true rfl) ⟨by simp [g_over, bI, c_5], rfl, rfl⟩ dX0_isOver_13

set_option maxHeartbeats 800000 in
set_option maxRecDepth 100000 in
theorem c_X0_hasPlayer {G : ga_} {l : Launch} {h : HP} {sz : Nat} {g : Nat} {S : gS} {a : Int32}  (w : GA G h g S)  : Mf G l yX0_hasPlayer cX0_hasPlayer 2 (some .boolean) 0 0 0 0 [.ref g, .int a] h sz (some (.int (bI (g_has S a)))) h sz := by
  refine Mg.ofV [(0, .ref g), (1, .int a)] (by decide) (Nat.le_of_ble_eq_true rfl) rfl ?_
  intro p e s m args below meth c C
  refine r_iload_n C dX0_hasPlayer_0 rfl rfl ?_
  refine r_if_lt C 16 dX0_hasPlayer_1 (by decide) (fun c_1 => ?_) (fun c_1 => ?_)
  · have e_1 := i32_nle c_1
    refine r_iconst C (v := 0) dX0_hasPlayer_16 rfl ?_
    exact r_zret C rfl (by first | exact Or.inl rfl | exact Or.inr rfl | exact bI_01 _) (Nat.le_of_ble_eq_true rfl) (Nat.le_of_ble_eq_true rfl) ⟨by simp [g_has, bI, ← Int32.not_le, c_1, e_1], rfl, rfl⟩ dX0_hasPlayer_17
  · have e_1 := i32_le c_1
    refine r_iload_n C dX0_hasPlayer_4 rfl rfl ?_
    refine r_aload_n C dX0_hasPlayer_5 rfl rfl ?_
    refine r_get C (j := 5) rfl in_X0 (GA_o w) (by decide) fl_X0_40 rfl rfl dX0_hasPlayer_6 ?_
    refine r_icmp_ge C 16 dX0_hasPlayer_9 (by decide) (fun c_9 => ?_) (fun c_9 => ?_)
    · have e_9 := i32_nlt c_9
      refine r_iconst C (v := 0) dX0_hasPlayer_16 rfl ?_
      exact r_zret C rfl (by first | exact Or.inl rfl | exact Or.inr rfl | exact bI_01 _) (Nat.le_of_ble_eq_true rfl) (Nat.le_of_ble_eq_true rfl) ⟨by simp [g_has, bI, ← Int32.not_le, c_1, e_1, c_9, e_9], rfl, rfl⟩ dX0_hasPlayer_17
    · have e_9 := i32_lt c_9
      refine r_iconst C (v := 1) dX0_hasPlayer_12 rfl ?_
      refine r_goto C 17 dX0_hasPlayer_13 (by decide) ?_
      exact r_zret C rfl (by first | exact Or.inl rfl | exact Or.inr rfl | exact bI_01 _) (Nat.le_of_ble_eq_true rfl) (Nat.le_of_ble_eq_true rfl) ⟨by simp [g_has, bI, ← Int32.not_le, c_1, e_1, c_9, e_9], rfl, rfl⟩ dX0_hasPlayer_17

set_option maxHeartbeats 800000 in
set_option maxRecDepth 100000 in
theorem c_X0_heldBy {G : ga_} {l : Launch} {h : HP} {sz : Nat} {g : Nat} {S : gS} {a : Int32}  (w : GA G h g S)  : Mf G l yX0_heldBy cX0_heldBy 2 (some .int) 1 23 0 0 [.ref g, .int a] h sz (some (.int (g_held S a))) h sz := by
  refine Mg.ofV [(0, .ref g), (1, .int a)] (by decide) (Nat.le_of_ble_eq_true rfl) rfl ?_
  intro p e s m args below meth c C
  refine r_aload_n C dX0_heldBy_0 rfl rfl ?_
  refine r_get C (j := 2) rfl in_X0 (GA_o w) (by decide) fl_X0_23 rfl rfl dX0_heldBy_1 ?_
  refine r_iload_n C dX0_heldBy_4 rfl rfl ?_
  refine r_iconst C (v := 0) dX0_heldBy_5 rfl ?_
  refine r_cVi C (c_at2 w) lk_X0_84 rfl (GA_t2 w) rfl rfl ⟨(Nat.le_of_ble_eq_true rfl), (Nat.le_of_ble_eq_true rfl), (Nat.le_of_ble_eq_true rfl), (Nat.le_of_ble_eq_true rfl), (Nat.le_of_ble_eq_true rfl)⟩ dX0_heldBy_6 ?_
  exact r_iret C rfl (Nat.le_of_ble_eq_true rfl) (Nat.le_of_ble_eq_true rfl) ⟨by simp [g_held], rfl, rfl⟩ dX0_heldBy_9

set_option maxHeartbeats 800000 in
set_option maxRecDepth 100000 in
theorem c_X0_holdsPlace {G : ga_} {l : Launch} {h : HP} {sz : Nat} {g : Nat} {S : gS} {a b : Int32}  (w : GA G h g S)  : Mf G l yX0_holdsPlace cX0_holdsPlace 3 (some .boolean) 2 44 0 0 [.ref g, .int a, .int b] h sz (some (.int (bI (g_holds S a b)))) h sz := by
  refine Mg.ofV [(0, .ref g), (1, .int a), (2, .int b)] (by decide) (Nat.le_of_ble_eq_true rfl) rfl ?_
  intro p e s m args below meth c C
  refine r_iload_n C dX0_holdsPlace_0 rfl rfl ?_
  refine r_if_lt C 17 dX0_holdsPlace_1 (by decide) (fun c_1 => ?_) (fun c_1 => ?_)
  · have e_1 := i32_nle c_1
    refine r_iconst C (v := 0) dX0_holdsPlace_17 rfl ?_
    exact r_zret C rfl (by first | exact Or.inl rfl | exact Or.inr rfl | exact bI_01 _) (Nat.le_of_ble_eq_true rfl) (Nat.le_of_ble_eq_true rfl) ⟨by simp [g_holds, bI, ← Int32.not_le, c_1, e_1], rfl, rfl⟩ dX0_holdsPlace_18
  · have e_1 := i32_le c_1
    refine r_iload_n C dX0_holdsPlace_4 rfl rfl ?_
    refine r_aload_n C dX0_holdsPlace_5 rfl rfl ?_
    refine r_iload_n C dX0_holdsPlace_6 rfl rfl ?_
    refine r_cVi C (c_X0_heldBy w) lk_X0_92 rfl (GA_o w) rfl rfl ⟨(Nat.le_of_ble_eq_true rfl), (Nat.le_of_ble_eq_true rfl), (Nat.le_of_ble_eq_true rfl), (Nat.le_of_ble_eq_true rfl), (Nat.le_of_ble_eq_true rfl)⟩ dX0_holdsPlace_7 ?_
    refine r_icmp_ge C 17 dX0_holdsPlace_10 (by decide) (fun c_10 => ?_) (fun c_10 => ?_)
    · have e_10 := i32_nlt c_10
      refine r_iconst C (v := 0) dX0_holdsPlace_17 rfl ?_
      exact r_zret C rfl (by first | exact Or.inl rfl | exact Or.inr rfl | exact bI_01 _) (Nat.le_of_ble_eq_true rfl) (Nat.le_of_ble_eq_true rfl) ⟨by simp [g_holds, bI, ← Int32.not_le, c_1, e_1, c_10, e_10], rfl, rfl⟩ dX0_holdsPlace_18
    · have e_10 := i32_lt c_10
      refine r_iconst C (v := 1) dX0_holdsPlace_13 rfl ?_
      refine r_goto C 18 dX0_holdsPlace_14 (by decide) ?_
      exact r_zret C rfl (by first | exact Or.inl rfl | exact Or.inr rfl | exact bI_01 _) (Nat.le_of_ble_eq_true rfl) (Nat.le_of_ble_eq_true rfl) ⟨by simp [g_holds, bI, ← Int32.not_le, c_1, e_1, c_10, e_10], rfl, rfl⟩ dX0_holdsPlace_18

set_option maxHeartbeats 800000 in
set_option maxRecDepth 100000 in
theorem c_X0_stockSize {G : ga_} {l : Launch} {h : HP} {sz : Nat} {g : Nat} {S : gS}  (w : GA G h g S)  : Mf G l yX0_stockSize cX0_stockSize 1 (some .int) 0 0 0 0 [.ref g] h sz (some (.int (g_stock S))) h sz := by
  refine Mg.ofV [(0, .ref g)] (by decide) (Nat.le_of_ble_eq_true rfl) rfl ?_
  intro p e s m args below meth c C
  refine r_bipush C (v := 28) dX0_stockSize_0 rfl ?_
  refine r_aload_n C dX0_stockSize_2 rfl rfl ?_
  refine r_get C (j := 7) rfl in_X0 (GA_o w) (by decide) fl_X0_46 rfl rfl dX0_stockSize_3 ?_
  refine r_isub C dX0_stockSize_6 ?_
  exact r_iret C rfl (Nat.le_of_ble_eq_true rfl) (Nat.le_of_ble_eq_true rfl) ⟨by simp [g_stock], rfl, rfl⟩ dX0_stockSize_7

set_option maxHeartbeats 800000 in
set_option maxRecDepth 100000 in
theorem c_X0_stockTile {G : ga_} {l : Launch} {h : HP} {sz : Nat} {g : Nat} {S : gS} {a : Int32}  (w : GA G h g S)  : Mf G l yX0_stockTile cX0_stockTile 2 (some .int) 1 23 0 0 [.ref g, .int a] h sz (some (.int (g_stile S a))) h sz := by
  refine Mg.ofV [(0, .ref g), (1, .int a)] (by decide) (Nat.le_of_ble_eq_true rfl) rfl ?_
  intro p e s m args below meth c C
  refine r_aload_n C dX0_stockTile_0 rfl rfl ?_
  refine r_get C (j := 4) rfl in_X0 (GA_o w) (by decide) fl_X0_29 rfl rfl dX0_stockTile_1 ?_
  refine r_iconst C (v := 0) dX0_stockTile_4 rfl ?_
  refine r_aload_n C dX0_stockTile_5 rfl rfl ?_
  refine r_get C (j := 7) rfl in_X0 (GA_o w) (by decide) fl_X0_46 rfl rfl dX0_stockTile_6 ?_
  refine r_iload_n C dX0_stockTile_9 rfl rfl ?_
  refine r_iadd C dX0_stockTile_10 ?_
  refine r_cVi C (c_at4 w) lk_X0_84 rfl (GA_t4 w) rfl rfl ⟨(Nat.le_of_ble_eq_true rfl), (Nat.le_of_ble_eq_true rfl), (Nat.le_of_ble_eq_true rfl), (Nat.le_of_ble_eq_true rfl), (Nat.le_of_ble_eq_true rfl)⟩ dX0_stockTile_11 ?_
  exact r_iret C rfl (Nat.le_of_ble_eq_true rfl) (Nat.le_of_ble_eq_true rfl) ⟨by simp [g_stile], rfl, rfl⟩ dX0_stockTile_14

set_option maxHeartbeats 800000 in
set_option maxRecDepth 100000 in
theorem c_X0_gradesOf {G : ga_} {l : Launch} {h : HP} {sz : Nat} {g : Nat} {S : gS} {a : Int32}  (w : GA G h g S)  : Mf G l yX0_gradesOf cX0_gradesOf 2 (some .int) 1 23 0 0 [.ref g, .int a] h sz (some (.int (g_grades S a))) h sz := by
  refine Mg.ofV [(0, .ref g), (1, .int a)] (by decide) (Nat.le_of_ble_eq_true rfl) rfl ?_
  intro p e s m args below meth c C
  refine r_aload_n C dX0_gradesOf_0 rfl rfl ?_
  refine r_get C (j := 0) rfl in_X0 (GA_o w) (by decide) fl_X0_14 rfl rfl dX0_gradesOf_1 ?_
  refine r_iload_n C dX0_gradesOf_4 rfl rfl ?_
  refine r_iconst C (v := 0) dX0_gradesOf_5 rfl ?_
  refine r_cVi C (c_at0 w) lk_X0_84 rfl (GA_t0 w) rfl rfl ⟨(Nat.le_of_ble_eq_true rfl), (Nat.le_of_ble_eq_true rfl), (Nat.le_of_ble_eq_true rfl), (Nat.le_of_ble_eq_true rfl), (Nat.le_of_ble_eq_true rfl)⟩ dX0_gradesOf_6 ?_
  refine r_aload_n C dX0_gradesOf_9 rfl rfl ?_
  refine r_get C (j := 0) rfl in_X0 (GA_o w) (by decide) fl_X0_14 rfl rfl dX0_gradesOf_10 ?_
  refine r_iload_n C dX0_gradesOf_13 rfl rfl ?_
  refine r_iconst C (v := 1) dX0_gradesOf_14 rfl ?_
  refine r_cVi C (c_at0 w) lk_X0_84 rfl (GA_t0 w) rfl rfl ⟨(Nat.le_of_ble_eq_true rfl), (Nat.le_of_ble_eq_true rfl), (Nat.le_of_ble_eq_true rfl), (Nat.le_of_ble_eq_true rfl), (Nat.le_of_ble_eq_true rfl)⟩ dX0_gradesOf_15 ?_
  refine r_iadd C dX0_gradesOf_18 ?_
  exact r_iret C rfl (Nat.le_of_ble_eq_true rfl) (Nat.le_of_ble_eq_true rfl) ⟨by simp [g_grades], rfl, rfl⟩ dX0_gradesOf_19

set_option maxHeartbeats 800000 in
set_option maxRecDepth 100000 in
theorem c_X0_fits {G : ga_} {l : Launch} {h : HP} {sz : Nat} {g : Nat} {S : gS} {a b d : Int32}  (w : GA G h g S)  : Mf G l yX0_fits cX0_fits 5 (some .boolean) 1 23 0 0 [.ref g, .int a, .int b, .int d] h sz (some (.int (bI (g_fits S a b d)))) h sz := by
  refine Mg.ofV [(0, .ref g), (1, .int a), (2, .int b), (3, .int d)] (by decide) (Nat.le_of_ble_eq_true rfl) rfl ?_
  intro p e s m args below meth c C
  refine r_aload_n C dX0_fits_0 rfl rfl ?_
  refine r_get C (j := 3) rfl in_X0 (GA_o w) (by decide) fl_X0_26 rfl rfl dX0_fits_1 ?_
  refine r_iload_n C dX0_fits_4 rfl rfl ?_
  refine r_iconst C (v := 0) dX0_fits_5 rfl ?_
  refine r_cVi C (c_at3 w) lk_X0_84 rfl (GA_t3 w) rfl rfl ⟨(Nat.le_of_ble_eq_true rfl), (Nat.le_of_ble_eq_true rfl), (Nat.le_of_ble_eq_true rfl), (Nat.le_of_ble_eq_true rfl), (Nat.le_of_ble_eq_true rfl)⟩ dX0_fits_6 ?_
  refine r_if_ne C 14 dX0_fits_9 (by decide) (fun c_9 => ?_) (fun c_9 => ?_)
  · refine r_aload_n C dX0_fits_14 rfl rfl ?_
    refine r_get C (j := 3) rfl in_X0 (GA_o w) (by decide) fl_X0_26 rfl rfl dX0_fits_15 ?_
    refine r_iload_n C dX0_fits_18 rfl rfl ?_
    refine r_iconst C (v := 1) dX0_fits_19 rfl ?_
    refine r_iload_n C dX0_fits_20 rfl rfl ?_
    refine r_iadd C dX0_fits_21 ?_
    refine r_cVi C (c_at3 w) lk_X0_84 rfl (GA_t3 w) rfl rfl ⟨(Nat.le_of_ble_eq_true rfl), (Nat.le_of_ble_eq_true rfl), (Nat.le_of_ble_eq_true rfl), (Nat.le_of_ble_eq_true rfl), (Nat.le_of_ble_eq_true rfl)⟩ dX0_fits_22 ?_
    refine r_istore C dX0_fits_25 (by decide) ?_
    refine r_aload_n C dX0_fits_27 rfl rfl ?_
    refine r_get C (j := 0) rfl in_X0 (GA_o w) (by decide) fl_X0_14 rfl rfl dX0_fits_28 ?_
    refine r_iload_n C dX0_fits_31 rfl rfl ?_
    refine r_iconst C (v := 0) dX0_fits_32 rfl ?_
    refine r_cVi C (c_at0 w) lk_X0_84 rfl (GA_t0 w) rfl rfl ⟨(Nat.le_of_ble_eq_true rfl), (Nat.le_of_ble_eq_true rfl), (Nat.le_of_ble_eq_true rfl), (Nat.le_of_ble_eq_true rfl), (Nat.le_of_ble_eq_true rfl)⟩ dX0_fits_33 ?_
    refine r_iload C dX0_fits_36 rfl ?_
    refine r_icmp_eq C 55 dX0_fits_38 (by decide) (fun c_38 => ?_) (fun c_38 => ?_)
    · refine r_iconst C (v := 1) dX0_fits_55 rfl ?_
      refine r_goto C 60 dX0_fits_56 (by decide) ?_
      exact r_zret C rfl (by first | exact Or.inl rfl | exact Or.inr rfl | exact bI_01 _) (Nat.le_of_ble_eq_true rfl) (Nat.le_of_ble_eq_true rfl) ⟨by simp [g_fits, bI, c_9, c_38], rfl, rfl⟩ dX0_fits_60
    · refine r_aload_n C dX0_fits_41 rfl rfl ?_
      refine r_get C (j := 0) rfl in_X0 (GA_o w) (by decide) fl_X0_14 rfl rfl dX0_fits_42 ?_
      refine r_iload_n C dX0_fits_45 rfl rfl ?_
      refine r_iconst C (v := 1) dX0_fits_46 rfl ?_
      refine r_cVi C (c_at0 w) lk_X0_84 rfl (GA_t0 w) rfl rfl ⟨(Nat.le_of_ble_eq_true rfl), (Nat.le_of_ble_eq_true rfl), (Nat.le_of_ble_eq_true rfl), (Nat.le_of_ble_eq_true rfl), (Nat.le_of_ble_eq_true rfl)⟩ dX0_fits_47 ?_
      refine r_iload C dX0_fits_50 rfl ?_
      refine r_icmp_ne C 59 dX0_fits_52 (by decide) (fun c_52 => ?_) (fun c_52 => ?_)
      · refine r_iconst C (v := 0) dX0_fits_59 rfl ?_
        exact r_zret C rfl (by first | exact Or.inl rfl | exact Or.inr rfl | exact bI_01 _) (Nat.le_of_ble_eq_true rfl) (Nat.le_of_ble_eq_true rfl) ⟨by simp [g_fits, bI, c_9, c_38, c_52], rfl, rfl⟩ dX0_fits_60
      · refine r_iconst C (v := 1) dX0_fits_55 rfl ?_
        refine r_goto C 60 dX0_fits_56 (by decide) ?_
        exact r_zret C rfl (by first | exact Or.inl rfl | exact Or.inr rfl | exact bI_01 _) (Nat.le_of_ble_eq_true rfl) (Nat.le_of_ble_eq_true rfl) ⟨by simp [g_fits, bI, c_9, c_38, c_52], rfl, rfl⟩ dX0_fits_60
  · refine r_iconst C (v := 1) dX0_fits_12 rfl ?_
    exact r_zret C rfl (by first | exact Or.inl rfl | exact Or.inr rfl | exact bI_01 _) (Nat.le_of_ble_eq_true rfl) (Nat.le_of_ble_eq_true rfl) ⟨by simp [g_fits, bI, c_9], rfl, rfl⟩ dX0_fits_13

set_option maxHeartbeats 800000 in
set_option maxRecDepth 100000 in
theorem c_X0_reasonAgainst {G : ga_} {l : Launch} {h : HP} {sz : Nat} {g : Nat} {S : gS} {a b d : Int32}  (w : GA G h g S)  : Mf G l yX0_reasonAgainst cX0_reasonAgainst 4 (some .int) 3 66 0 0 [.ref g, .int a, .int b, .int d] h sz (some (.int (g_reason S a b d))) h sz := by
  refine Mg.ofV [(0, .ref g), (1, .int a), (2, .int b), (3, .int d)] (by decide) (Nat.le_of_ble_eq_true rfl) rfl ?_
  intro p e s m args below meth c C
  refine r_aload_n C dX0_reasonAgainst_0 rfl rfl ?_
  refine r_cVi C (c_X0_isOver w) lk_X0_112 rfl (GA_o w) rfl rfl ⟨(Nat.le_of_ble_eq_true rfl), (Nat.le_of_ble_eq_true rfl), (Nat.le_of_ble_eq_true rfl), (Nat.le_of_ble_eq_true rfl), (Nat.le_of_ble_eq_true rfl)⟩ dX0_reasonAgainst_1 ?_
  refine r_if_eq C 9 dX0_reasonAgainst_4 (by decide) (fun c_4 => ?_) (fun c_4 => ?_)
  · have c_4 := bI_f c_4
    refine r_aload_n C dX0_reasonAgainst_9 rfl rfl ?_
    refine r_aload_n C dX0_reasonAgainst_10 rfl rfl ?_
    refine r_get C (j := 6) rfl in_X0 (GA_o w) (by decide) fl_X0_43 rfl rfl dX0_reasonAgainst_11 ?_
    refine r_iload_n C dX0_reasonAgainst_14 rfl rfl ?_
    refine r_cVi C (c_X0_holdsPlace w) lk_X0_119 rfl (GA_o w) rfl rfl ⟨(Nat.le_of_ble_eq_true rfl), (Nat.le_of_ble_eq_true rfl), (Nat.le_of_ble_eq_true rfl), (Nat.le_of_ble_eq_true rfl), (Nat.le_of_ble_eq_true rfl)⟩ dX0_reasonAgainst_15 ?_
    refine r_if_ne C 23 dX0_reasonAgainst_18 (by decide) (fun c_18 => ?_) (fun c_18 => ?_)
    · have c_18 := bI_t c_18
      refine r_aload_n C dX0_reasonAgainst_23 rfl rfl ?_
      refine r_aload_n C dX0_reasonAgainst_24 rfl rfl ?_
      refine r_get C (j := 1) rfl in_X0 (GA_o w) (by decide) fl_X0_20 rfl rfl dX0_reasonAgainst_25 ?_
      refine r_aload_n C dX0_reasonAgainst_28 rfl rfl ?_
      refine r_get C (j := 6) rfl in_X0 (GA_o w) (by decide) fl_X0_43 rfl rfl dX0_reasonAgainst_29 ?_
      refine r_iload_n C dX0_reasonAgainst_32 rfl rfl ?_
      refine r_cVi C (c_at1 w) lk_X0_84 rfl (GA_t1 w) rfl rfl ⟨(Nat.le_of_ble_eq_true rfl), (Nat.le_of_ble_eq_true rfl), (Nat.le_of_ble_eq_true rfl), (Nat.le_of_ble_eq_true rfl), (Nat.le_of_ble_eq_true rfl)⟩ dX0_reasonAgainst_33 ?_
      refine r_iload_n C dX0_reasonAgainst_36 rfl rfl ?_
      refine r_iload_n C dX0_reasonAgainst_37 rfl rfl ?_
      refine r_cVi C (c_X0_fits w) lk_X0_123 rfl (GA_o w) rfl rfl ⟨(Nat.le_of_ble_eq_true rfl), (Nat.le_of_ble_eq_true rfl), (Nat.le_of_ble_eq_true rfl), (Nat.le_of_ble_eq_true rfl), (Nat.le_of_ble_eq_true rfl)⟩ dX0_reasonAgainst_38 ?_
      refine r_if_eq C 48 dX0_reasonAgainst_41 (by decide) (fun c_41 => ?_) (fun c_41 => ?_)
      · have c_41 := bI_f c_41
        refine r_iconst C (v := 3) dX0_reasonAgainst_48 rfl ?_
        exact r_iret C rfl (Nat.le_of_ble_eq_true rfl) (Nat.le_of_ble_eq_true rfl) ⟨by simp [g_reason, g_hand, c_4, c_18, c_41], rfl, rfl⟩ dX0_reasonAgainst_49
      · have c_41 := bI_t c_41
        refine r_iconst C (v := 0) dX0_reasonAgainst_44 rfl ?_
        refine r_goto C 49 dX0_reasonAgainst_45 (by decide) ?_
        exact r_iret C rfl (Nat.le_of_ble_eq_true rfl) (Nat.le_of_ble_eq_true rfl) ⟨by simp [g_reason, g_hand, c_4, c_18, c_41], rfl, rfl⟩ dX0_reasonAgainst_49
    · have c_18 := bI_f c_18
      refine r_iconst C (v := 2) dX0_reasonAgainst_21 rfl ?_
      exact r_iret C rfl (Nat.le_of_ble_eq_true rfl) (Nat.le_of_ble_eq_true rfl) ⟨by simp [g_reason, g_hand, c_4, c_18], rfl, rfl⟩ dX0_reasonAgainst_22
  · have c_4 := bI_t c_4
    refine r_iconst C (v := 1) dX0_reasonAgainst_7 rfl ?_
    exact r_iret C rfl (Nat.le_of_ble_eq_true rfl) (Nat.le_of_ble_eq_true rfl) ⟨by simp [g_reason, g_hand, c_4], rfl, rfl⟩ dX0_reasonAgainst_8

set_option maxHeartbeats 800000 in
set_option maxRecDepth 100000 in
theorem c_X0_isBetter {G : ga_} {l : Launch} {h : HP} {sz : Nat} {g : Nat} {S : gS} {a b : Int32}  (w : GA G h g S)  : Mf G l yX0_isBetter cX0_isBetter 5 (some .boolean) 2 44 0 0 [.ref g, .int a, .int b] h sz (some (.int (bI (g_better S a b)))) h sz := by
  refine Mg.ofV [(0, .ref g), (1, .int a), (2, .int b)] (by decide) (Nat.le_of_ble_eq_true rfl) rfl ?_
  intro p e s m args below meth c C
  refine r_aload_n C dX0_isBetter_0 rfl rfl ?_
  refine r_get C (j := 1) rfl in_X0 (GA_o w) (by decide) fl_X0_20 rfl rfl dX0_isBetter_1 ?_
  refine r_aload_n C dX0_isBetter_4 rfl rfl ?_
  refine r_get C (j := 6) rfl in_X0 (GA_o w) (by decide) fl_X0_43 rfl rfl dX0_isBetter_5 ?_
  refine r_iload_n C dX0_isBetter_8 rfl rfl ?_
  refine r_cVi C (c_at1 w) lk_X0_84 rfl (GA_t1 w) rfl rfl ⟨(Nat.le_of_ble_eq_true rfl), (Nat.le_of_ble_eq_true rfl), (Nat.le_of_ble_eq_true rfl), (Nat.le_of_ble_eq_true rfl), (Nat.le_of_ble_eq_true rfl)⟩ dX0_isBetter_9 ?_
  refine r_istore_n C dX0_isBetter_12 rfl (by decide) ?_
  refine r_aload_n C dX0_isBetter_13 rfl rfl ?_
  refine r_get C (j := 1) rfl in_X0 (GA_o w) (by decide) fl_X0_20 rfl rfl dX0_isBetter_14 ?_
  refine r_aload_n C dX0_isBetter_17 rfl rfl ?_
  refine r_get C (j := 6) rfl in_X0 (GA_o w) (by decide) fl_X0_43 rfl rfl dX0_isBetter_18 ?_
  refine r_iload_n C dX0_isBetter_21 rfl rfl ?_
  refine r_cVi C (c_at1 w) lk_X0_84 rfl (GA_t1 w) rfl rfl ⟨(Nat.le_of_ble_eq_true rfl), (Nat.le_of_ble_eq_true rfl), (Nat.le_of_ble_eq_true rfl), (Nat.le_of_ble_eq_true rfl), (Nat.le_of_ble_eq_true rfl)⟩ dX0_isBetter_22 ?_
  refine r_istore C dX0_isBetter_25 (by decide) ?_
  refine r_aload_n C dX0_isBetter_27 rfl rfl ?_
  refine r_iload_n C dX0_isBetter_28 rfl rfl ?_
  refine r_cVi C (c_X0_gradesOf w) lk_X0_148 rfl (GA_o w) rfl rfl ⟨(Nat.le_of_ble_eq_true rfl), (Nat.le_of_ble_eq_true rfl), (Nat.le_of_ble_eq_true rfl), (Nat.le_of_ble_eq_true rfl), (Nat.le_of_ble_eq_true rfl)⟩ dX0_isBetter_29 ?_
  refine r_aload_n C dX0_isBetter_32 rfl rfl ?_
  refine r_iload C dX0_isBetter_33 rfl ?_
  refine r_cVi C (c_X0_gradesOf w) lk_X0_148 rfl (GA_o w) rfl rfl ⟨(Nat.le_of_ble_eq_true rfl), (Nat.le_of_ble_eq_true rfl), (Nat.le_of_ble_eq_true rfl), (Nat.le_of_ble_eq_true rfl), (Nat.le_of_ble_eq_true rfl)⟩ dX0_isBetter_35 ?_
  refine r_icmp_eq C 61 dX0_isBetter_38 (by decide) (fun c_38 => ?_) (fun c_38 => ?_)
  · refine r_aload_n C dX0_isBetter_61 rfl rfl ?_
    refine r_get C (j := 0) rfl in_X0 (GA_o w) (by decide) fl_X0_14 rfl rfl dX0_isBetter_62 ?_
    refine r_iload_n C dX0_isBetter_65 rfl rfl ?_
    refine r_iconst C (v := 4) dX0_isBetter_66 rfl ?_
    refine r_cVi C (c_at0 w) lk_X0_84 rfl (GA_t0 w) rfl rfl ⟨(Nat.le_of_ble_eq_true rfl), (Nat.le_of_ble_eq_true rfl), (Nat.le_of_ble_eq_true rfl), (Nat.le_of_ble_eq_true rfl), (Nat.le_of_ble_eq_true rfl)⟩ dX0_isBetter_67 ?_
    refine r_aload_n C dX0_isBetter_70 rfl rfl ?_
    refine r_get C (j := 0) rfl in_X0 (GA_o w) (by decide) fl_X0_14 rfl rfl dX0_isBetter_71 ?_
    refine r_iload C dX0_isBetter_74 rfl ?_
    refine r_iconst C (v := 4) dX0_isBetter_76 rfl ?_
    refine r_cVi C (c_at0 w) lk_X0_84 rfl (GA_t0 w) rfl rfl ⟨(Nat.le_of_ble_eq_true rfl), (Nat.le_of_ble_eq_true rfl), (Nat.le_of_ble_eq_true rfl), (Nat.le_of_ble_eq_true rfl), (Nat.le_of_ble_eq_true rfl)⟩ dX0_isBetter_77 ?_
    refine r_icmp_le C 87 dX0_isBetter_80 (by decide) (fun c_80 => ?_) (fun c_80 => ?_)
    · have e_80 := i32_nlt c_80
      refine r_iconst C (v := 0) dX0_isBetter_87 rfl ?_
      exact r_zret C rfl (by first | exact Or.inl rfl | exact Or.inr rfl | exact bI_01 _) (Nat.le_of_ble_eq_true rfl) (Nat.le_of_ble_eq_true rfl) ⟨by simp [g_better, g_hand, bI, ← Int32.not_le, c_38, c_80, e_80], rfl, rfl⟩ dX0_isBetter_88
    · have e_80 := i32_lt c_80
      refine r_iconst C (v := 1) dX0_isBetter_83 rfl ?_
      refine r_goto C 88 dX0_isBetter_84 (by decide) ?_
      exact r_zret C rfl (by first | exact Or.inl rfl | exact Or.inr rfl | exact bI_01 _) (Nat.le_of_ble_eq_true rfl) (Nat.le_of_ble_eq_true rfl) ⟨by simp [g_better, g_hand, bI, ← Int32.not_le, c_38, c_80, e_80], rfl, rfl⟩ dX0_isBetter_88
  · refine r_aload_n C dX0_isBetter_41 rfl rfl ?_
    refine r_iload_n C dX0_isBetter_42 rfl rfl ?_
    refine r_cVi C (c_X0_gradesOf w) lk_X0_148 rfl (GA_o w) rfl rfl ⟨(Nat.le_of_ble_eq_true rfl), (Nat.le_of_ble_eq_true rfl), (Nat.le_of_ble_eq_true rfl), (Nat.le_of_ble_eq_true rfl), (Nat.le_of_ble_eq_true rfl)⟩ dX0_isBetter_43 ?_
    refine r_aload_n C dX0_isBetter_46 rfl rfl ?_
    refine r_iload C dX0_isBetter_47 rfl ?_
    refine r_cVi C (c_X0_gradesOf w) lk_X0_148 rfl (GA_o w) rfl rfl ⟨(Nat.le_of_ble_eq_true rfl), (Nat.le_of_ble_eq_true rfl), (Nat.le_of_ble_eq_true rfl), (Nat.le_of_ble_eq_true rfl), (Nat.le_of_ble_eq_true rfl)⟩ dX0_isBetter_49 ?_
    refine r_icmp_le C 59 dX0_isBetter_52 (by decide) (fun c_52 => ?_) (fun c_52 => ?_)
    · have e_52 := i32_nlt c_52
      refine r_iconst C (v := 0) dX0_isBetter_59 rfl ?_
      exact r_zret C rfl (by first | exact Or.inl rfl | exact Or.inr rfl | exact bI_01 _) (Nat.le_of_ble_eq_true rfl) (Nat.le_of_ble_eq_true rfl) ⟨by simp [g_better, g_hand, bI, ← Int32.not_le, c_38, c_52, e_52], rfl, rfl⟩ dX0_isBetter_60
    · have e_52 := i32_lt c_52
      refine r_iconst C (v := 1) dX0_isBetter_55 rfl ?_
      refine r_goto C 60 dX0_isBetter_56 (by decide) ?_
      exact r_zret C rfl (by first | exact Or.inl rfl | exact Or.inr rfl | exact bI_01 _) (Nat.le_of_ble_eq_true rfl) (Nat.le_of_ble_eq_true rfl) ⟨by simp [g_better, g_hand, bI, ← Int32.not_le, c_38, c_52, e_52], rfl, rfl⟩ dX0_isBetter_60
end
section
/-! GAME: the looks that loop or switch -/
theorem downI_ {I P : Nat → Prop} (N : Nat) (hN : I N → P N) (hs : ∀ i, i < N → I i → (I (i + 1) → P (i + 1)) → P i) (h0 : I 0) : P 0 := by
  have key := down_ (P := fun i => I i → P i) N hN (fun i hi ih hI => hs i hi hI ih)
  exact key h0
theorem tn_le2 {x : Int32} {i : Nat} (hi : i < 2147483648) (h : x.toNatClampNeg ≤ i) : x ≤ nI i := by
  rw [Int32.le_iff_toInt_le, nI_toInt hi]
  have h2 : x.toInt.toNat ≤ i := h
  omega
theorem sw_out {x : Int32} (N : Nat) (hN : N < 2147483648) (h : ∀ j, j < N → x ≠ nI j) : x.toInt < 0 ∨ ((N : Int) - 1) < x.toInt := by
  rcases pk_ix x (n := N) hN with c | c | ⟨j, hj, c⟩
  · exact Or.inl (by have := Int32.lt_iff_toInt_lt.mp c; simpa using this)
  · right
    have := Int32.le_iff_toInt_le.mp c
    rw [nI_toInt hN] at this
    omega
  · exact absurd c (h j hj)
def anyB (f : Nat → Bool) : Nat → Bool
  | 0 => false
  | n + 1 => anyB f n || f n
theorem any_t {f : Nat → Bool} {N i : Nat} (hi : i < N) (h : f i = true) : anyB f N = true := by
  induction N with
  | zero => omega
  | succ N ih =>
    simp only [anyB, Bool.or_eq_true]
    by_cases c : i = N
    · subst c; exact Or.inr h
    · exact Or.inl (ih (by omega))
theorem lt_s_2 {x : Int32} (h0 : ¬ x = 0) (h1 : ¬ x = 1) : ∀ j, j < 2 → x ≠ nI j := by
  intro j hj
  rcases (show j = 0 ∨ j = 1 by omega) with rfl | rfl
  · exact h0
  · exact h1
theorem lt_s_4 {x : Int32} (h0 : ¬ x = 0) (h1 : ¬ x = 1) (h2 : ¬ x = 2) (h3 : ¬ x = 3) : ∀ j, j < 4 → x ≠ nI j := by
  intro j hj
  rcases (show j = 0 ∨ j = 1 ∨ j = 2 ∨ j = 3 by omega) with rfl | rfl | rfl | rfl
  · exact h0
  · exact h1
  · exact h2
  · exact h3
theorem lt_s_5 {x : Int32} (h0 : ¬ x = 0) (h1 : ¬ x = 1) (h2 : ¬ x = 2) (h3 : ¬ x = 3) (h4 : ¬ x = 4) : ∀ j, j < 5 → x ≠ nI j := by
  intro j hj
  rcases (show j = 0 ∨ j = 1 ∨ j = 2 ∨ j = 3 ∨ j = 4 by omega) with rfl | rfl | rfl | rfl | rfl
  · exact h0
  · exact h1
  · exact h2
  · exact h3
  · exact h4
theorem lt_s_6 {x : Int32} (h0 : ¬ x = 0) (h1 : ¬ x = 1) (h2 : ¬ x = 2) (h3 : ¬ x = 3) (h4 : ¬ x = 4) (h5 : ¬ x = 5) : ∀ j, j < 6 → x ≠ nI j := by
  intro j hj
  rcases (show j = 0 ∨ j = 1 ∨ j = 2 ∨ j = 3 ∨ j = 4 ∨ j = 5 by omega) with rfl | rfl | rfl | rfl | rfl | rfl
  · exact h0
  · exact h1
  · exact h2
  · exact h3
  · exact h4
  · exact h5
theorem lt_s_7 {x : Int32} (h0 : ¬ x = 0) (h1 : ¬ x = 1) (h2 : ¬ x = 2) (h3 : ¬ x = 3) (h4 : ¬ x = 4) (h5 : ¬ x = 5) (h6 : ¬ x = 6) : ∀ j, j < 7 → x ≠ nI j := by
  intro j hj
  rcases (show j = 0 ∨ j = 1 ∨ j = 2 ∨ j = 3 ∨ j = 4 ∨ j = 5 ∨ j = 6 by omega) with rfl | rfl | rfl | rfl | rfl | rfl | rfl
  · exact h0
  · exact h1
  · exact h2
  · exact h3
  · exact h4
  · exact h5
  · exact h6
theorem lt_s_12 {x : Int32} (h0 : ¬ x = 0) (h1 : ¬ x = 1) (h2 : ¬ x = 2) (h3 : ¬ x = 3) (h4 : ¬ x = 4) (h5 : ¬ x = 5) (h6 : ¬ x = 6) (h7 : ¬ x = 7) (h8 : ¬ x = 8) (h9 : ¬ x = 9) (h10 : ¬ x = 10) (h11 : ¬ x = 11) : ∀ j, j < 12 → x ≠ nI j := by
  intro j hj
  rcases (show j = 0 ∨ j = 1 ∨ j = 2 ∨ j = 3 ∨ j = 4 ∨ j = 5 ∨ j = 6 ∨ j = 7 ∨ j = 8 ∨ j = 9 ∨ j = 10 ∨ j = 11 by omega) with rfl | rfl | rfl | rfl | rfl | rfl | rfl | rfl | rfl | rfl | rfl | rfl
  · exact h0
  · exact h1
  · exact h2
  · exact h3
  · exact h4
  · exact h5
  · exact h6
  · exact h7
  · exact h8
  · exact h9
  · exact h10
  · exact h11
theorem lt_s_27 {x : Int32} (h0 : ¬ x = 0) (h1 : ¬ x = 1) (h2 : ¬ x = 2) (h3 : ¬ x = 3) (h4 : ¬ x = 4) (h5 : ¬ x = 5) (h6 : ¬ x = 6) (h7 : ¬ x = 7) (h8 : ¬ x = 8) (h9 : ¬ x = 9) (h10 : ¬ x = 10) (h11 : ¬ x = 11) (h12 : ¬ x = 12) (h13 : ¬ x = 13) (h14 : ¬ x = 14) (h15 : ¬ x = 15) (h16 : ¬ x = 16) (h17 : ¬ x = 17) (h18 : ¬ x = 18) (h19 : ¬ x = 19) (h20 : ¬ x = 20) (h21 : ¬ x = 21) (h22 : ¬ x = 22) (h23 : ¬ x = 23) (h24 : ¬ x = 24) (h25 : ¬ x = 25) (h26 : ¬ x = 26) : ∀ j, j < 27 → x ≠ nI j := by
  intro j hj
  rcases (show j = 0 ∨ j = 1 ∨ j = 2 ∨ j = 3 ∨ j = 4 ∨ j = 5 ∨ j = 6 ∨ j = 7 ∨ j = 8 ∨ j = 9 ∨ j = 10 ∨ j = 11 ∨ j = 12 ∨ j = 13 ∨ j = 14 ∨ j = 15 ∨ j = 16 ∨ j = 17 ∨ j = 18 ∨ j = 19 ∨ j = 20 ∨ j = 21 ∨ j = 22 ∨ j = 23 ∨ j = 24 ∨ j = 25 ∨ j = 26 by omega) with rfl | rfl | rfl | rfl | rfl | rfl | rfl | rfl | rfl | rfl | rfl | rfl | rfl | rfl | rfl | rfl | rfl | rfl | rfl | rfl | rfl | rfl | rfl | rfl | rfl | rfl | rfl
  · exact h0
  · exact h1
  · exact h2
  · exact h3
  · exact h4
  · exact h5
  · exact h6
  · exact h7
  · exact h8
  · exact h9
  · exact h10
  · exact h11
  · exact h12
  · exact h13
  · exact h14
  · exact h15
  · exact h16
  · exact h17
  · exact h18
  · exact h19
  · exact h20
  · exact h21
  · exact h22
  · exact h23
  · exact h24
  · exact h25
  · exact h26
def g_tal (S : gS) (q : Int32) : Int32 := l_sum (fun i => tAt 4 16 (S 2) (nI i) q) (S 5 0).toNatClampNeg
def g_gh (S : gS) (p : Int32) : Int32 := l_sum (fun i => g_grades S (g_hand S p (nI i))) (g_held S p).toNatClampNeg
def g_sum (S : gS) (p : Int32) : Int32 := g_gh S p + tAt 4 16 (S 2) p 1
def g_wl (S : gS) : Nat → Int32
  | 0 => 0
  | i + 1 => if g_sum S (nI (i + 1)) < g_sum S (g_wl S i) then nI (i + 1) else g_wl S i
def g_win (S : gS) : Int32 := if g_over S then g_wl S ((S 5 0).toNatClampNeg - 1) else -1
def g_can (S : gS) (p r q : Int32) : Bool := anyB (fun i => g_fits S (g_hand S p (nI i)) r q) (g_held S p).toNatClampNeg
def g_told (S : gS) (r : Int32) : Nat := if tAt 4 12 (S 3) r 0 = 0 then 1 else 2
def g_ends (S : gS) (p : Int32) : Int32 := l_sum (fun r => l_sum (fun q => bI (g_can S p (nI r) (nI q))) (g_told S (nI r))) 3
def g_some (S : gS) (t : Int32) : Bool := anyB (fun r => g_fits S t (nI r) 0 || g_fits S t (nI r) 1) 3
def g_bl (S : gS) : Nat → Int32
  | 0 => -1
  | i + 1 => if g_some S (g_hand S (S 5 1) (nI i)) && (decide (g_bl S i = -1) || g_better S (nI i) (g_bl S i)) then nI i else g_bl S i
def g_adv (S : gS) : Int32 := if g_over S then -1 else g_bl S (g_held S (S 5 1)).toNatClampNeg
def g_half (S : gS) (q : Int32) : Int32 := l_sum (fun t => if tAt 7 196 (S 0) (nI t) 2 = 2 then 0 else bI (decide (tAt 7 196 (S 0) (nI t) 0 = q)) + bI (decide (tAt 7 196 (S 0) (nI t) 1 = q))) 28
def g_cl (S : gS) : Nat → Int32
  | 0 => 0
  | i + 1 => if g_half S (nI (i + 1)) < g_half S (g_cl S i) then g_cl S i else nI (i + 1)
def g_num (S : gS) (a b : Int32) : Int32 := if a = 0 then S 5 0 else if a = 1 then S 5 1 else if a = 2 then g_stock S else if a = 3 then g_tal S 0 else if a = 4 then g_tal S 2 else if a = 5 then S 5 3 else if a = 6 then S 5 4 else if a = 7 then g_tal S 1 else if a = 8 then g_win S else if a = 9 then S 5 5 else if a = 10 then S 5 6 else if a = 11 then b else -1
def g_prop (S : gS) (a b : Int32) : Int32 := if b = 0 then g_held S a else if b = 1 then g_gh S a else if b = 2 then tAt 4 16 (S 2) a 1 else if b = 3 then g_sum S a else if b = 4 then tAt 4 16 (S 2) a 2 else if b = 5 then tAt 4 16 (S 2) a 3 else if b = 6 then g_ends S a else -1
set_option maxHeartbeats 800000 in
set_option maxRecDepth 100000 in
theorem c_X0_tallied {G : ga_} {l : Launch} {h : HP} {sz : Nat} {g : Nat} {S : gS} {a : Int32}  (w : GA G h g S)  : Mf G l yX0_tallied cX0_tallied 4 (some .int) 1 23 0 0 [.ref g, .int a] h sz (some (.int (g_tal S a))) h sz := by
  refine Mg.ofV [(0, .ref g), (1, .int a)] (by decide) (Nat.le_of_ble_eq_true rfl) rfl ?_
  intro p e s m args below meth c C
  refine r_iconst C (v := 0) dX0_tallied_0 rfl ?_
  refine r_istore_n C dX0_tallied_1 rfl (by decide) ?_
  refine r_iconst C (v := 0) dX0_tallied_2 rfl ?_
  refine r_istore_n C dX0_tallied_3 rfl (by decide) ?_
  refine V.sub [(0, .ref g), (1, .int a), (2, .int (l_sum (fun i => tAt 4 16 (S 2) (nI i) a) 0)), (3, .int (nI 0))] ⟨rfl, rfl, rfl, rfl, trivial⟩ ?_
  refine down_ (P := fun i => V p l e ⟨1, 0, 0, 23⟩ s m args below meth c G 4 (Qg G below args s 0 0 (fun v1 h1 s1 => v1 = (some (.int (g_tal S a))) ∧ h1 = h ∧ s1 = sz)) h sz 0 0 4 [(0, .ref g), (1, .int a), (2, .int (l_sum (fun i => tAt 4 16 (S 2) (nI i) a) i)), (3, .int (nI i))] []) ((S 5 0).toNatClampNeg) ?_ ?_
  · refine r_iload_n C dX0_tallied_4 rfl rfl ?_
    refine r_aload_n C dX0_tallied_5 rfl rfl ?_
    refine r_get C (j := 5) rfl in_X0 (GA_o w) (by decide) fl_X0_40 rfl rfl dX0_tallied_6 ?_
    refine r_icmp_ge C 30 dX0_tallied_9 (by decide) (fun _ => ?_) (fun c => absurd (tn_le _) c)
    refine r_iload_n C dX0_tallied_30 rfl rfl ?_
    exact r_iret C rfl (Nat.le_of_ble_eq_true rfl) (Nat.le_of_ble_eq_true rfl) ⟨rfl, rfl, rfl⟩ dX0_tallied_31
  · intro i h_i ih_i
    refine r_iload_n C dX0_tallied_4 rfl rfl ?_
    refine r_aload_n C dX0_tallied_5 rfl rfl ?_
    refine r_get C (j := 5) rfl in_X0 (GA_o w) (by decide) fl_X0_40 rfl rfl dX0_tallied_6 ?_
    refine r_icmp_ge C 30 dX0_tallied_9 (by decide) (fun c => absurd c (tn_nle h_i)) (fun _ => ?_)
    refine r_iload_n C dX0_tallied_12 rfl rfl ?_
    refine r_aload_n C dX0_tallied_13 rfl rfl ?_
    refine r_get C (j := 2) rfl in_X0 (GA_o w) (by decide) fl_X0_23 rfl rfl dX0_tallied_14 ?_
    refine r_iload_n C dX0_tallied_17 rfl rfl ?_
    refine r_iload_n C dX0_tallied_18 rfl rfl ?_
    refine r_cVi C (c_at2 w) lk_X0_84 rfl (GA_t2 w) rfl rfl ⟨(Nat.le_of_ble_eq_true rfl), (Nat.le_of_ble_eq_true rfl), (Nat.le_of_ble_eq_true rfl), (Nat.le_of_ble_eq_true rfl), (Nat.le_of_ble_eq_true rfl)⟩ dX0_tallied_19 ?_
    refine r_iadd C dX0_tallied_22 ?_
    refine r_istore_n C dX0_tallied_23 rfl (by decide) ?_
    refine r_iinc C (v := 1) dX0_tallied_24 rfl rfl (by decide) ?_
    refine r_goto C 4 dX0_tallied_27 (by decide) ?_
    refine V.sub [(0, .ref g), (1, .int a), (2, .int (l_sum (fun i => tAt 4 16 (S 2) (nI i) a) (i + 1))), (3, .int (nI (i + 1)))] ⟨rfl, rfl, rfl, (by rw [← nI_1 i]; rfl), trivial⟩ ?_
    exact ih_i

set_option maxHeartbeats 800000 in
set_option maxRecDepth 100000 in
theorem c_X0_gradesHeld {G : ga_} {l : Launch} {h : HP} {sz : Nat} {g : Nat} {S : gS} {a : Int32}  (w : GA G h g S)  : Mf G l yX0_gradesHeld cX0_gradesHeld 5 (some .int) 2 44 0 0 [.ref g, .int a] h sz (some (.int (g_gh S a))) h sz := by
  refine Mg.ofV [(0, .ref g), (1, .int a)] (by decide) (Nat.le_of_ble_eq_true rfl) rfl ?_
  intro p e s m args below meth c C
  refine r_aload_n C dX0_gradesHeld_0 rfl rfl ?_
  refine r_iload_n C dX0_gradesHeld_1 rfl rfl ?_
  refine r_cVi C (c_X0_heldBy w) lk_X0_92 rfl (GA_o w) rfl rfl ⟨(Nat.le_of_ble_eq_true rfl), (Nat.le_of_ble_eq_true rfl), (Nat.le_of_ble_eq_true rfl), (Nat.le_of_ble_eq_true rfl), (Nat.le_of_ble_eq_true rfl)⟩ dX0_gradesHeld_2 ?_
  refine r_istore_n C dX0_gradesHeld_5 rfl (by decide) ?_
  refine r_iconst C (v := 0) dX0_gradesHeld_6 rfl ?_
  refine r_istore_n C dX0_gradesHeld_7 rfl (by decide) ?_
  refine r_iconst C (v := 0) dX0_gradesHeld_8 rfl ?_
  refine r_istore C dX0_gradesHeld_9 (by decide) ?_
  refine V.sub [(0, .ref g), (1, .int a), (2, .int (g_held S a)), (3, .int (l_sum (fun i => g_grades S (g_hand S a (nI i))) 0)), (4, .int (nI 0))] ⟨rfl, rfl, rfl, rfl, rfl, trivial⟩ ?_
  refine down_ (P := fun i => V p l e ⟨2, 0, 0, 44⟩ s m args below meth c G 5 (Qg G below args s 0 0 (fun v1 h1 s1 => v1 = (some (.int (g_gh S a))) ∧ h1 = h ∧ s1 = sz)) h sz 0 0 11 [(0, .ref g), (1, .int a), (2, .int (g_held S a)), (3, .int (l_sum (fun i => g_grades S (g_hand S a (nI i))) i)), (4, .int (nI i))] []) ((g_held S a).toNatClampNeg) ?_ ?_
  · refine r_iload C dX0_gradesHeld_11 rfl ?_
    refine r_iload_n C dX0_gradesHeld_13 rfl rfl ?_
    refine r_icmp_ge C 40 dX0_gradesHeld_14 (by decide) (fun _ => ?_) (fun c => absurd (tn_le _) c)
    refine r_iload_n C dX0_gradesHeld_40 rfl rfl ?_
    exact r_iret C rfl (Nat.le_of_ble_eq_true rfl) (Nat.le_of_ble_eq_true rfl) ⟨rfl, rfl, rfl⟩ dX0_gradesHeld_41
  · intro i h_i ih_i
    refine r_iload C dX0_gradesHeld_11 rfl ?_
    refine r_iload_n C dX0_gradesHeld_13 rfl rfl ?_
    refine r_icmp_ge C 40 dX0_gradesHeld_14 (by decide) (fun c => absurd c (tn_nle h_i)) (fun _ => ?_)
    refine r_iload_n C dX0_gradesHeld_17 rfl rfl ?_
    refine r_aload_n C dX0_gradesHeld_18 rfl rfl ?_
    refine r_aload_n C dX0_gradesHeld_19 rfl rfl ?_
    refine r_get C (j := 1) rfl in_X0 (GA_o w) (by decide) fl_X0_20 rfl rfl dX0_gradesHeld_20 ?_
    refine r_iload_n C dX0_gradesHeld_23 rfl rfl ?_
    refine r_iload C dX0_gradesHeld_24 rfl ?_
    refine r_cVi C (c_at1 w) lk_X0_84 rfl (GA_t1 w) rfl rfl ⟨(Nat.le_of_ble_eq_true rfl), (Nat.le_of_ble_eq_true rfl), (Nat.le_of_ble_eq_true rfl), (Nat.le_of_ble_eq_true rfl), (Nat.le_of_ble_eq_true rfl)⟩ dX0_gradesHeld_26 ?_
    refine r_cVi C (c_X0_gradesOf w) lk_X0_148 rfl (GA_o w) rfl rfl ⟨(Nat.le_of_ble_eq_true rfl), (Nat.le_of_ble_eq_true rfl), (Nat.le_of_ble_eq_true rfl), (Nat.le_of_ble_eq_true rfl), (Nat.le_of_ble_eq_true rfl)⟩ dX0_gradesHeld_29 ?_
    refine r_iadd C dX0_gradesHeld_32 ?_
    refine r_istore_n C dX0_gradesHeld_33 rfl (by decide) ?_
    refine r_iinc C (v := 1) dX0_gradesHeld_34 rfl rfl (by decide) ?_
    refine r_goto C 11 dX0_gradesHeld_37 (by decide) ?_
    refine V.sub [(0, .ref g), (1, .int a), (2, .int (g_held S a)), (3, .int (l_sum (fun i => g_grades S (g_hand S a (nI i))) (i + 1))), (4, .int (nI (i + 1)))] ⟨rfl, rfl, rfl, rfl, (by rw [← nI_1 i]; rfl), trivial⟩ ?_
    exact ih_i

set_option maxHeartbeats 800000 in
set_option maxRecDepth 100000 in
theorem c_X0_sumOf {G : ga_} {l : Launch} {h : HP} {sz : Nat} {g : Nat} {S : gS} {a : Int32}  (w : GA G h g S)  : Mf G l yX0_sumOf cX0_sumOf 2 (some .int) 3 68 0 0 [.ref g, .int a] h sz (some (.int (g_sum S a))) h sz := by
  refine Mg.ofV [(0, .ref g), (1, .int a)] (by decide) (Nat.le_of_ble_eq_true rfl) rfl ?_
  intro p e s m args below meth c C
  refine r_aload_n C dX0_sumOf_0 rfl rfl ?_
  refine r_iload_n C dX0_sumOf_1 rfl rfl ?_
  refine r_cVi C (c_X0_gradesHeld w) lk_X0_139 rfl (GA_o w) rfl rfl ⟨(Nat.le_of_ble_eq_true rfl), (Nat.le_of_ble_eq_true rfl), (Nat.le_of_ble_eq_true rfl), (Nat.le_of_ble_eq_true rfl), (Nat.le_of_ble_eq_true rfl)⟩ dX0_sumOf_2 ?_
  refine r_aload_n C dX0_sumOf_5 rfl rfl ?_
  refine r_get C (j := 2) rfl in_X0 (GA_o w) (by decide) fl_X0_23 rfl rfl dX0_sumOf_6 ?_
  refine r_iload_n C dX0_sumOf_9 rfl rfl ?_
  refine r_iconst C (v := 1) dX0_sumOf_10 rfl ?_
  refine r_cVi C (c_at2 w) lk_X0_84 rfl (GA_t2 w) rfl rfl ⟨(Nat.le_of_ble_eq_true rfl), (Nat.le_of_ble_eq_true rfl), (Nat.le_of_ble_eq_true rfl), (Nat.le_of_ble_eq_true rfl), (Nat.le_of_ble_eq_true rfl)⟩ dX0_sumOf_11 ?_
  refine r_iadd C dX0_sumOf_14 ?_
  exact r_iret C rfl (Nat.le_of_ble_eq_true rfl) (Nat.le_of_ble_eq_true rfl) ⟨by simp [g_sum], rfl, rfl⟩ dX0_sumOf_15

set_option maxHeartbeats 800000 in
set_option maxRecDepth 100000 in
theorem c_X0_winner {G : ga_} {l : Launch} {h : HP} {sz : Nat} {g : Nat} {S : gS}  (w : GA G h g S)  : Mf G l yX0_winner cX0_winner 3 (some .int) 4 89 0 0 [.ref g] h sz (some (.int (g_win S))) h sz := by
  refine Mg.ofV [(0, .ref g)] (by decide) (Nat.le_of_ble_eq_true rfl) rfl ?_
  intro p e s m args below meth c C
  refine r_aload_n C dX0_winner_0 rfl rfl ?_
  refine r_cVi C (c_X0_isOver w) lk_X0_112 rfl (GA_o w) rfl rfl ⟨(Nat.le_of_ble_eq_true rfl), (Nat.le_of_ble_eq_true rfl), (Nat.le_of_ble_eq_true rfl), (Nat.le_of_ble_eq_true rfl), (Nat.le_of_ble_eq_true rfl)⟩ dX0_winner_1 ?_
  refine r_if_ne C 9 dX0_winner_4 (by decide) (fun c_4 => ?_) (fun c_4 => ?_)
  · have c_4 := bI_t c_4
    refine r_iconst C (v := 0) dX0_winner_9 rfl ?_
    refine r_istore_n C dX0_winner_10 rfl (by decide) ?_
    refine r_iconst C (v := 1) dX0_winner_11 rfl ?_
    refine r_istore_n C dX0_winner_12 rfl (by decide) ?_
    refine V.sub [(0, .ref g), (1, .int (g_wl S 0)), (2, .int (nI (0 + 1)))] ⟨rfl, rfl, rfl, trivial⟩ ?_
    refine down_ (P := fun i => V p l e ⟨4, 0, 0, 89⟩ s m args below meth c G 3 (Qg G below args s 0 0 (fun v1 h1 s1 => v1 = (some (.int (g_win S))) ∧ h1 = h ∧ s1 = sz)) h sz 0 0 13 [(0, .ref g), (1, .int (g_wl S i)), (2, .int (nI (i + 1)))] []) ((S 5 0).toNatClampNeg - 1) ?_ ?_
    · refine r_iload_n C dX0_winner_13 rfl rfl ?_
      refine r_aload_n C dX0_winner_14 rfl rfl ?_
      refine r_get C (j := 5) rfl in_X0 (GA_o w) (by decide) fl_X0_40 rfl rfl dX0_winner_15 ?_
      refine r_icmp_ge C 42 dX0_winner_18 (by decide) (fun _ => ?_) (fun c => absurd (tn_le2 (by have := tn_lt (S 5 0); omega) (by omega)) c)
      refine r_iload_n C dX0_winner_42 rfl rfl ?_
      exact r_iret C rfl (Nat.le_of_ble_eq_true rfl) (Nat.le_of_ble_eq_true rfl) ⟨by simp [g_win, c_4], rfl, rfl⟩ dX0_winner_43
    · intro i h_i ih_i
      refine r_iload_n C dX0_winner_13 rfl rfl ?_
      refine r_aload_n C dX0_winner_14 rfl rfl ?_
      refine r_get C (j := 5) rfl in_X0 (GA_o w) (by decide) fl_X0_40 rfl rfl dX0_winner_15 ?_
      refine r_icmp_ge C 42 dX0_winner_18 (by decide) (fun c => absurd c (tn_nle (by omega))) (fun _ => ?_)
      refine r_aload_n C dX0_winner_21 rfl rfl ?_
      refine r_iload_n C dX0_winner_22 rfl rfl ?_
      refine r_cVi C (c_X0_sumOf w) lk_X0_142 rfl (GA_o w) rfl rfl ⟨(Nat.le_of_ble_eq_true rfl), (Nat.le_of_ble_eq_true rfl), (Nat.le_of_ble_eq_true rfl), (Nat.le_of_ble_eq_true rfl), (Nat.le_of_ble_eq_true rfl)⟩ dX0_winner_23 ?_
      refine r_aload_n C dX0_winner_26 rfl rfl ?_
      refine r_iload_n C dX0_winner_27 rfl rfl ?_
      refine r_cVi C (c_X0_sumOf w) lk_X0_142 rfl (GA_o w) rfl rfl ⟨(Nat.le_of_ble_eq_true rfl), (Nat.le_of_ble_eq_true rfl), (Nat.le_of_ble_eq_true rfl), (Nat.le_of_ble_eq_true rfl), (Nat.le_of_ble_eq_true rfl)⟩ dX0_winner_28 ?_
      refine r_icmp_ge C 36 dX0_winner_31 (by decide) (fun c_31 => ?_) (fun c_31 => ?_)
      · have e_31 := i32_nlt c_31
        refine r_iinc C (v := 1) dX0_winner_36 rfl rfl (by decide) ?_
        refine r_goto C 13 dX0_winner_39 (by decide) ?_
        refine V.sub [(0, .ref g), (1, .int (g_wl S (i + 1))), (2, .int (nI ((i + 1) + 1)))] ⟨rfl, by simp only [g_wl]; rw [if_neg (i32_nlt c_31)]; rfl, (by rw [← nI_1 (i + 1)]; rfl), trivial⟩ ?_
        exact ih_i
      · have e_31 := i32_lt c_31
        refine r_iload_n C dX0_winner_34 rfl rfl ?_
        refine r_istore_n C dX0_winner_35 rfl (by decide) ?_
        refine r_iinc C (v := 1) dX0_winner_36 rfl rfl (by decide) ?_
        refine r_goto C 13 dX0_winner_39 (by decide) ?_
        refine V.sub [(0, .ref g), (1, .int (g_wl S (i + 1))), (2, .int (nI ((i + 1) + 1)))] ⟨rfl, by simp only [g_wl]; rw [if_pos (i32_lt c_31)]; rfl, (by rw [← nI_1 (i + 1)]; rfl), trivial⟩ ?_
        exact ih_i
  · have c_4 := bI_f c_4
    refine r_iconst C (v := -1) dX0_winner_7 rfl ?_
    exact r_iret C rfl (Nat.le_of_ble_eq_true rfl) (Nat.le_of_ble_eq_true rfl) ⟨by simp [g_win, c_4], rfl, rfl⟩ dX0_winner_8

set_option maxHeartbeats 800000 in
set_option maxRecDepth 100000 in
theorem c_X0_canLayAt {G : ga_} {l : Launch} {h : HP} {sz : Nat} {g : Nat} {S : gS} {a b d : Int32}  (w : GA G h g S)  : Mf G l yX0_canLayAt cX0_canLayAt 6 (some .boolean) 2 47 0 0 [.ref g, .int a, .int b, .int d] h sz (some (.int (bI (g_can S a b d)))) h sz := by
  refine Mg.ofV [(0, .ref g), (1, .int a), (2, .int b), (3, .int d)] (by decide) (Nat.le_of_ble_eq_true rfl) rfl ?_
  intro p e s m args below meth c C
  refine r_aload_n C dX0_canLayAt_0 rfl rfl ?_
  refine r_iload_n C dX0_canLayAt_1 rfl rfl ?_
  refine r_cVi C (c_X0_heldBy w) lk_X0_92 rfl (GA_o w) rfl rfl ⟨(Nat.le_of_ble_eq_true rfl), (Nat.le_of_ble_eq_true rfl), (Nat.le_of_ble_eq_true rfl), (Nat.le_of_ble_eq_true rfl), (Nat.le_of_ble_eq_true rfl)⟩ dX0_canLayAt_2 ?_
  refine r_istore C dX0_canLayAt_5 (by decide) ?_
  refine r_iconst C (v := 0) dX0_canLayAt_7 rfl ?_
  refine r_istore C dX0_canLayAt_8 (by decide) ?_
  refine V.sub [(0, .ref g), (1, .int a), (2, .int b), (3, .int d), (4, .int (g_held S a)), (5, .int (nI 0))] ⟨rfl, rfl, rfl, rfl, rfl, rfl, trivial⟩ ?_
  refine downI_ (I := fun i => anyB (fun i => g_fits S (g_hand S a (nI i)) b d) i = false) (P := fun i => V p l e ⟨2, 0, 0, 47⟩ s m args below meth c G 6 (Qg G below args s 0 0 (fun v1 h1 s1 => v1 = (some (.int (bI (g_can S a b d)))) ∧ h1 = h ∧ s1 = sz)) h sz 0 0 10 [(0, .ref g), (1, .int a), (2, .int b), (3, .int d), (4, .int (g_held S a)), (5, .int (nI i))] []) ((g_held S a).toNatClampNeg) ?_ ?_ (rfl)
  · intro I_i
    refine r_iload C dX0_canLayAt_10 rfl ?_
    refine r_iload C dX0_canLayAt_12 rfl ?_
    refine r_icmp_ge C 44 dX0_canLayAt_14 (by decide) (fun _ => ?_) (fun c => absurd (tn_le _) c)
    refine r_iconst C (v := 0) dX0_canLayAt_44 rfl ?_
    exact r_zret C rfl (by first | exact Or.inl rfl | exact Or.inr rfl | exact bI_01 _) (Nat.le_of_ble_eq_true rfl) (Nat.le_of_ble_eq_true rfl) ⟨by rw [show g_can S a b d = false from I_i]; rfl, rfl, rfl⟩ dX0_canLayAt_45
  · intro i h_i I_i ih_i
    refine r_iload C dX0_canLayAt_10 rfl ?_
    refine r_iload C dX0_canLayAt_12 rfl ?_
    refine r_icmp_ge C 44 dX0_canLayAt_14 (by decide) (fun c => absurd c (tn_nle h_i)) (fun _ => ?_)
    refine r_aload_n C dX0_canLayAt_17 rfl rfl ?_
    refine r_aload_n C dX0_canLayAt_18 rfl rfl ?_
    refine r_get C (j := 1) rfl in_X0 (GA_o w) (by decide) fl_X0_20 rfl rfl dX0_canLayAt_19 ?_
    refine r_iload_n C dX0_canLayAt_22 rfl rfl ?_
    refine r_iload C dX0_canLayAt_23 rfl ?_
    refine r_cVi C (c_at1 w) lk_X0_84 rfl (GA_t1 w) rfl rfl ⟨(Nat.le_of_ble_eq_true rfl), (Nat.le_of_ble_eq_true rfl), (Nat.le_of_ble_eq_true rfl), (Nat.le_of_ble_eq_true rfl), (Nat.le_of_ble_eq_true rfl)⟩ dX0_canLayAt_25 ?_
    refine r_iload_n C dX0_canLayAt_28 rfl rfl ?_
    refine r_iload_n C dX0_canLayAt_29 rfl rfl ?_
    refine r_cVi C (c_X0_fits w) lk_X0_123 rfl (GA_o w) rfl rfl ⟨(Nat.le_of_ble_eq_true rfl), (Nat.le_of_ble_eq_true rfl), (Nat.le_of_ble_eq_true rfl), (Nat.le_of_ble_eq_true rfl), (Nat.le_of_ble_eq_true rfl)⟩ dX0_canLayAt_30 ?_
    refine r_if_eq C 38 dX0_canLayAt_33 (by decide) (fun c_33 => ?_) (fun c_33 => ?_)
    · have c_33 := bI_f c_33
      refine r_iinc C (v := 1) dX0_canLayAt_38 rfl rfl (by decide) ?_
      refine r_goto C 10 dX0_canLayAt_41 (by decide) ?_
      refine V.sub [(0, .ref g), (1, .int a), (2, .int b), (3, .int d), (4, .int (g_held S a)), (5, .int (nI (i + 1)))] ⟨rfl, rfl, rfl, rfl, rfl, (by rw [← nI_1 i]; rfl), trivial⟩ ?_
      exact ih_i (by simp only [anyB, I_i, Bool.false_or]; exact c_33)
    · have c_33 := bI_t c_33
      refine r_iconst C (v := 1) dX0_canLayAt_36 rfl ?_
      exact r_zret C rfl (by first | exact Or.inl rfl | exact Or.inr rfl | exact bI_01 _) (Nat.le_of_ble_eq_true rfl) (Nat.le_of_ble_eq_true rfl) ⟨by rw [show g_can S a b d = true from any_t h_i c_33]; rfl, rfl, rfl⟩ dX0_canLayAt_37

set_option maxHeartbeats 800000 in
set_option maxRecDepth 100000 in
theorem c_X0_fitsSomewhere {G : ga_} {l : Launch} {h : HP} {sz : Nat} {g : Nat} {S : gS} {a : Int32}  (w : GA G h g S)  : Mf G l yX0_fitsSomewhere cX0_fitsSomewhere 3 (some .boolean) 2 47 0 0 [.ref g, .int a] h sz (some (.int (bI (g_some S a)))) h sz := by
  refine Mg.ofV [(0, .ref g), (1, .int a)] (by decide) (Nat.le_of_ble_eq_true rfl) rfl ?_
  intro p e s m args below meth c C
  refine r_iconst C (v := 0) dX0_fitsSomewhere_0 rfl ?_
  refine r_istore_n C dX0_fitsSomewhere_1 rfl (by decide) ?_
  refine V.sub [(0, .ref g), (1, .int a), (2, .int (nI 0))] ⟨rfl, rfl, rfl, trivial⟩ ?_
  refine downI_ (I := fun i => anyB (fun r => g_fits S a (nI r) 0 || g_fits S a (nI r) 1) i = false) (P := fun i => V p l e ⟨2, 0, 0, 47⟩ s m args below meth c G 3 (Qg G below args s 0 0 (fun v1 h1 s1 => v1 = (some (.int (bI (g_some S a)))) ∧ h1 = h ∧ s1 = sz)) h sz 0 0 2 [(0, .ref g), (1, .int a), (2, .int (nI i))] []) (3) ?_ ?_ (rfl)
  · intro I_i
    refine r_iload_n C dX0_fitsSomewhere_2 rfl rfl ?_
    refine r_iconst C (v := 3) dX0_fitsSomewhere_3 rfl ?_
    refine r_icmp_ge C 35 dX0_fitsSomewhere_4 (by decide) (fun _ => ?_) (fun c => absurd (by decide) c)
    refine r_iconst C (v := 0) dX0_fitsSomewhere_35 rfl ?_
    exact r_zret C rfl (by first | exact Or.inl rfl | exact Or.inr rfl | exact bI_01 _) (Nat.le_of_ble_eq_true rfl) (Nat.le_of_ble_eq_true rfl) ⟨by rw [show g_some S a = false from I_i]; rfl, rfl, rfl⟩ dX0_fitsSomewhere_36
  · intro i h_i I_i ih_i
    refine r_iload_n C dX0_fitsSomewhere_2 rfl rfl ?_
    refine r_iconst C (v := 3) dX0_fitsSomewhere_3 rfl ?_
    refine r_icmp_ge C 35 dX0_fitsSomewhere_4 (by decide) (fun c => absurd c (nI_ge (b := 3) h_i (by decide))) (fun _ => ?_)
    refine r_aload_n C dX0_fitsSomewhere_7 rfl rfl ?_
    refine r_iload_n C dX0_fitsSomewhere_8 rfl rfl ?_
    refine r_iload_n C dX0_fitsSomewhere_9 rfl rfl ?_
    refine r_iconst C (v := 0) dX0_fitsSomewhere_10 rfl ?_
    refine r_cVi C (c_X0_fits w) lk_X0_123 rfl (GA_o w) rfl rfl ⟨(Nat.le_of_ble_eq_true rfl), (Nat.le_of_ble_eq_true rfl), (Nat.le_of_ble_eq_true rfl), (Nat.le_of_ble_eq_true rfl), (Nat.le_of_ble_eq_true rfl)⟩ dX0_fitsSomewhere_11 ?_
    refine r_if_ne C 27 dX0_fitsSomewhere_14 (by decide) (fun c_14 => ?_) (fun c_14 => ?_)
    · have c_14 := bI_t c_14
      refine r_iconst C (v := 1) dX0_fitsSomewhere_27 rfl ?_
      exact r_zret C rfl (by first | exact Or.inl rfl | exact Or.inr rfl | exact bI_01 _) (Nat.le_of_ble_eq_true rfl) (Nat.le_of_ble_eq_true rfl) ⟨by rw [show g_some S a = true from any_t h_i (by simp [c_14])]; rfl, rfl, rfl⟩ dX0_fitsSomewhere_28
    · have c_14 := bI_f c_14
      refine r_aload_n C dX0_fitsSomewhere_17 rfl rfl ?_
      refine r_iload_n C dX0_fitsSomewhere_18 rfl rfl ?_
      refine r_iload_n C dX0_fitsSomewhere_19 rfl rfl ?_
      refine r_iconst C (v := 1) dX0_fitsSomewhere_20 rfl ?_
      refine r_cVi C (c_X0_fits w) lk_X0_123 rfl (GA_o w) rfl rfl ⟨(Nat.le_of_ble_eq_true rfl), (Nat.le_of_ble_eq_true rfl), (Nat.le_of_ble_eq_true rfl), (Nat.le_of_ble_eq_true rfl), (Nat.le_of_ble_eq_true rfl)⟩ dX0_fitsSomewhere_21 ?_
      refine r_if_eq C 29 dX0_fitsSomewhere_24 (by decide) (fun c_24 => ?_) (fun c_24 => ?_)
      · have c_24 := bI_f c_24
        refine r_iinc C (v := 1) dX0_fitsSomewhere_29 rfl rfl (by decide) ?_
        refine r_goto C 2 dX0_fitsSomewhere_32 (by decide) ?_
        refine V.sub [(0, .ref g), (1, .int a), (2, .int (nI (i + 1)))] ⟨rfl, rfl, (by rw [← nI_1 i]; rfl), trivial⟩ ?_
        exact ih_i (by simp only [anyB, I_i, c_14, c_24, Bool.false_or])
      · have c_24 := bI_t c_24
        refine r_iconst C (v := 1) dX0_fitsSomewhere_27 rfl ?_
        exact r_zret C rfl (by first | exact Or.inl rfl | exact Or.inr rfl | exact bI_01 _) (Nat.le_of_ble_eq_true rfl) (Nat.le_of_ble_eq_true rfl) ⟨by rw [show g_some S a = true from any_t h_i (by simp [c_14, c_24])]; rfl, rfl, rfl⟩ dX0_fitsSomewhere_28

set_option maxHeartbeats 800000 in
set_option maxRecDepth 100000 in
theorem c_X0_endsOpenTo {G : ga_} {l : Launch} {h : HP} {sz : Nat} {g : Nat} {S : gS} {a : Int32}  (w : GA G h g S)  : Mf G l yX0_endsOpenTo cX0_endsOpenTo 6 (some .int) 3 72 0 0 [.ref g, .int a] h sz (some (.int (g_ends S a))) h sz := by
  refine Mg.ofV [(0, .ref g), (1, .int a)] (by decide) (Nat.le_of_ble_eq_true rfl) rfl ?_
  intro p e s m args below meth c C
  refine r_iconst C (v := 0) dX0_endsOpenTo_0 rfl ?_
  refine r_istore_n C dX0_endsOpenTo_1 rfl (by decide) ?_
  refine r_iconst C (v := 0) dX0_endsOpenTo_2 rfl ?_
  refine r_istore_n C dX0_endsOpenTo_3 rfl (by decide) ?_
  refine V.sub [(0, .ref g), (1, .int a), (2, .int (l_sum (fun r => l_sum (fun q => bI (g_can S a (nI r) (nI q))) (g_told S (nI r))) 0)), (3, .int (nI 0))] ⟨rfl, rfl, rfl, rfl, trivial⟩ ?_
  refine down_ (P := fun i => V p l e ⟨3, 0, 0, 72⟩ s m args below meth c G 6 (Qg G below args s 0 0 (fun v1 h1 s1 => v1 = (some (.int (g_ends S a))) ∧ h1 = h ∧ s1 = sz)) h sz 0 0 4 [(0, .ref g), (1, .int a), (2, .int (l_sum (fun r => l_sum (fun q => bI (g_can S a (nI r) (nI q))) (g_told S (nI r))) i)), (3, .int (nI i))] []) (3) ?_ ?_
  · refine r_iload_n C dX0_endsOpenTo_4 rfl rfl ?_
    refine r_iconst C (v := 3) dX0_endsOpenTo_5 rfl ?_
    refine r_icmp_ge C 64 dX0_endsOpenTo_6 (by decide) (fun _ => ?_) (fun c => absurd (by decide) c)
    refine r_iload_n C dX0_endsOpenTo_64 rfl rfl ?_
    exact r_iret C rfl (Nat.le_of_ble_eq_true rfl) (Nat.le_of_ble_eq_true rfl) ⟨rfl, rfl, rfl⟩ dX0_endsOpenTo_65
  · intro i h_i ih_i
    refine r_iload_n C dX0_endsOpenTo_4 rfl rfl ?_
    refine r_iconst C (v := 3) dX0_endsOpenTo_5 rfl ?_
    refine r_icmp_ge C 64 dX0_endsOpenTo_6 (by decide) (fun c => absurd c (nI_ge (b := 3) h_i (by decide))) (fun _ => ?_)
    refine r_aload_n C dX0_endsOpenTo_9 rfl rfl ?_
    refine r_get C (j := 3) rfl in_X0 (GA_o w) (by decide) fl_X0_26 rfl rfl dX0_endsOpenTo_10 ?_
    refine r_iload_n C dX0_endsOpenTo_13 rfl rfl ?_
    refine r_iconst C (v := 0) dX0_endsOpenTo_14 rfl ?_
    refine r_cVi C (c_at3 w) lk_X0_84 rfl (GA_t3 w) rfl rfl ⟨(Nat.le_of_ble_eq_true rfl), (Nat.le_of_ble_eq_true rfl), (Nat.le_of_ble_eq_true rfl), (Nat.le_of_ble_eq_true rfl), (Nat.le_of_ble_eq_true rfl)⟩ dX0_endsOpenTo_15 ?_
    refine r_if_ne C 25 dX0_endsOpenTo_18 (by decide) (fun c_18 => ?_) (fun c_18 => ?_)
    · refine r_iconst C (v := 2) dX0_endsOpenTo_25 rfl ?_
      refine r_istore C dX0_endsOpenTo_26 (by decide) ?_
      refine r_iconst C (v := 0) dX0_endsOpenTo_28 rfl ?_
      refine r_istore C dX0_endsOpenTo_29 (by decide) ?_
      refine V.sub [(0, .ref g), (1, .int a), (2, .int (l_sum (fun r => l_sum (fun q => bI (g_can S a (nI r) (nI q))) (g_told S (nI r))) i + l_sum (fun q => bI (g_can S a (nI i) (nI q))) 0)), (3, .int (nI i)), (4, .int 2), (5, .int (nI 0))] ⟨rfl, rfl, by simp only [l_sum, Int32.add_zero]; rfl, rfl, rfl, rfl, trivial⟩ ?_
      refine down_ (P := fun j => V p l e ⟨3, 0, 0, 72⟩ s m args below meth c G 6 (Qg G below args s 0 0 (fun v1 h1 s1 => v1 = (some (.int (g_ends S a))) ∧ h1 = h ∧ s1 = sz)) h sz 0 0 31 [(0, .ref g), (1, .int a), (2, .int (l_sum (fun r => l_sum (fun q => bI (g_can S a (nI r) (nI q))) (g_told S (nI r))) i + l_sum (fun q => bI (g_can S a (nI i) (nI q))) j)), (3, .int (nI i)), (4, .int 2), (5, .int (nI j))] []) (2) ?_ ?_
      · refine r_iload C dX0_endsOpenTo_31 rfl ?_
        refine r_iload C dX0_endsOpenTo_33 rfl ?_
        refine r_icmp_ge C 58 dX0_endsOpenTo_35 (by decide) (fun _ => ?_) (fun c => absurd (by decide) c)
        refine r_iinc C (v := 1) dX0_endsOpenTo_58 rfl rfl (by decide) ?_
        refine r_goto C 4 dX0_endsOpenTo_61 (by decide) ?_
        refine V.sub [(0, .ref g), (1, .int a), (2, .int (l_sum (fun r => l_sum (fun q => bI (g_can S a (nI r) (nI q))) (g_told S (nI r))) (i + 1))), (3, .int (nI (i + 1)))] ⟨rfl, rfl, by simp only [l_sum, g_told]; rw [if_neg c_18]; rfl, (by rw [← nI_1 i]; rfl), trivial⟩ ?_
        exact ih_i
      · intro j h_j ih_j
        refine r_iload C dX0_endsOpenTo_31 rfl ?_
        refine r_iload C dX0_endsOpenTo_33 rfl ?_
        refine r_icmp_ge C 58 dX0_endsOpenTo_35 (by decide) (fun c => absurd c (nI_ge (b := 2) h_j (by decide))) (fun _ => ?_)
        refine r_aload_n C dX0_endsOpenTo_38 rfl rfl ?_
        refine r_iload_n C dX0_endsOpenTo_39 rfl rfl ?_
        refine r_iload_n C dX0_endsOpenTo_40 rfl rfl ?_
        refine r_iload C dX0_endsOpenTo_41 rfl ?_
        refine r_cVi C (c_X0_canLayAt w) lk_X0_151 rfl (GA_o w) rfl rfl ⟨(Nat.le_of_ble_eq_true rfl), (Nat.le_of_ble_eq_true rfl), (Nat.le_of_ble_eq_true rfl), (Nat.le_of_ble_eq_true rfl), (Nat.le_of_ble_eq_true rfl)⟩ dX0_endsOpenTo_43 ?_
        refine r_if_eq C 52 dX0_endsOpenTo_46 (by decide) (fun c_46 => ?_) (fun c_46 => ?_)
        · have c_46 := bI_f c_46
          refine r_iinc C (v := 1) dX0_endsOpenTo_52 rfl rfl (by decide) ?_
          refine r_goto C 31 dX0_endsOpenTo_55 (by decide) ?_
          refine V.sub [(0, .ref g), (1, .int a), (2, .int (l_sum (fun r => l_sum (fun q => bI (g_can S a (nI r) (nI q))) (g_told S (nI r))) i + l_sum (fun q => bI (g_can S a (nI i) (nI q))) (j + 1))), (3, .int (nI i)), (4, .int 2), (5, .int (nI (j + 1)))] ⟨rfl, rfl, by simp only [l_sum, c_46, bI, Int32.add_zero, Int32.add_assoc]; rfl, rfl, rfl, (by rw [← nI_1 j]; rfl), trivial⟩ ?_
          exact ih_j
        · have c_46 := bI_t c_46
          refine r_iinc C (v := 1) dX0_endsOpenTo_49 rfl rfl (by decide) ?_
          refine r_iinc C (v := 1) dX0_endsOpenTo_52 rfl rfl (by decide) ?_
          refine r_goto C 31 dX0_endsOpenTo_55 (by decide) ?_
          refine V.sub [(0, .ref g), (1, .int a), (2, .int (l_sum (fun r => l_sum (fun q => bI (g_can S a (nI r) (nI q))) (g_told S (nI r))) i + l_sum (fun q => bI (g_can S a (nI i) (nI q))) (j + 1))), (3, .int (nI i)), (4, .int 2), (5, .int (nI (j + 1)))] ⟨rfl, rfl, by simp only [l_sum, c_46, bI, Int32.add_zero, Int32.add_assoc]; rfl, rfl, rfl, (by rw [← nI_1 j]; rfl), trivial⟩ ?_
          exact ih_j
    · refine r_iconst C (v := 1) dX0_endsOpenTo_21 rfl ?_
      refine r_goto C 26 dX0_endsOpenTo_22 (by decide) ?_
      refine r_istore C dX0_endsOpenTo_26 (by decide) ?_
      refine r_iconst C (v := 0) dX0_endsOpenTo_28 rfl ?_
      refine r_istore C dX0_endsOpenTo_29 (by decide) ?_
      refine V.sub [(0, .ref g), (1, .int a), (2, .int (l_sum (fun r => l_sum (fun q => bI (g_can S a (nI r) (nI q))) (g_told S (nI r))) i + l_sum (fun q => bI (g_can S a (nI i) (nI q))) 0)), (3, .int (nI i)), (4, .int 1), (5, .int (nI 0))] ⟨rfl, rfl, by simp only [l_sum, Int32.add_zero]; rfl, rfl, rfl, rfl, trivial⟩ ?_
      refine down_ (P := fun j => V p l e ⟨3, 0, 0, 72⟩ s m args below meth c G 6 (Qg G below args s 0 0 (fun v1 h1 s1 => v1 = (some (.int (g_ends S a))) ∧ h1 = h ∧ s1 = sz)) h sz 0 0 31 [(0, .ref g), (1, .int a), (2, .int (l_sum (fun r => l_sum (fun q => bI (g_can S a (nI r) (nI q))) (g_told S (nI r))) i + l_sum (fun q => bI (g_can S a (nI i) (nI q))) j)), (3, .int (nI i)), (4, .int 1), (5, .int (nI j))] []) (1) ?_ ?_
      · refine r_iload C dX0_endsOpenTo_31 rfl ?_
        refine r_iload C dX0_endsOpenTo_33 rfl ?_
        refine r_icmp_ge C 58 dX0_endsOpenTo_35 (by decide) (fun _ => ?_) (fun c => absurd (by decide) c)
        refine r_iinc C (v := 1) dX0_endsOpenTo_58 rfl rfl (by decide) ?_
        refine r_goto C 4 dX0_endsOpenTo_61 (by decide) ?_
        refine V.sub [(0, .ref g), (1, .int a), (2, .int (l_sum (fun r => l_sum (fun q => bI (g_can S a (nI r) (nI q))) (g_told S (nI r))) (i + 1))), (3, .int (nI (i + 1)))] ⟨rfl, rfl, by simp only [l_sum, g_told]; rw [if_pos c_18]; rfl, (by rw [← nI_1 i]; rfl), trivial⟩ ?_
        exact ih_i
      · intro j h_j ih_j
        refine r_iload C dX0_endsOpenTo_31 rfl ?_
        refine r_iload C dX0_endsOpenTo_33 rfl ?_
        refine r_icmp_ge C 58 dX0_endsOpenTo_35 (by decide) (fun c => absurd c (nI_ge (b := 1) h_j (by decide))) (fun _ => ?_)
        refine r_aload_n C dX0_endsOpenTo_38 rfl rfl ?_
        refine r_iload_n C dX0_endsOpenTo_39 rfl rfl ?_
        refine r_iload_n C dX0_endsOpenTo_40 rfl rfl ?_
        refine r_iload C dX0_endsOpenTo_41 rfl ?_
        refine r_cVi C (c_X0_canLayAt w) lk_X0_151 rfl (GA_o w) rfl rfl ⟨(Nat.le_of_ble_eq_true rfl), (Nat.le_of_ble_eq_true rfl), (Nat.le_of_ble_eq_true rfl), (Nat.le_of_ble_eq_true rfl), (Nat.le_of_ble_eq_true rfl)⟩ dX0_endsOpenTo_43 ?_
        refine r_if_eq C 52 dX0_endsOpenTo_46 (by decide) (fun c_46 => ?_) (fun c_46 => ?_)
        · have c_46 := bI_f c_46
          refine r_iinc C (v := 1) dX0_endsOpenTo_52 rfl rfl (by decide) ?_
          refine r_goto C 31 dX0_endsOpenTo_55 (by decide) ?_
          refine V.sub [(0, .ref g), (1, .int a), (2, .int (l_sum (fun r => l_sum (fun q => bI (g_can S a (nI r) (nI q))) (g_told S (nI r))) i + l_sum (fun q => bI (g_can S a (nI i) (nI q))) (j + 1))), (3, .int (nI i)), (4, .int 1), (5, .int (nI (j + 1)))] ⟨rfl, rfl, by simp only [l_sum, c_46, bI, Int32.add_zero, Int32.add_assoc]; rfl, rfl, rfl, (by rw [← nI_1 j]; rfl), trivial⟩ ?_
          exact ih_j
        · have c_46 := bI_t c_46
          refine r_iinc C (v := 1) dX0_endsOpenTo_49 rfl rfl (by decide) ?_
          refine r_iinc C (v := 1) dX0_endsOpenTo_52 rfl rfl (by decide) ?_
          refine r_goto C 31 dX0_endsOpenTo_55 (by decide) ?_
          refine V.sub [(0, .ref g), (1, .int a), (2, .int (l_sum (fun r => l_sum (fun q => bI (g_can S a (nI r) (nI q))) (g_told S (nI r))) i + l_sum (fun q => bI (g_can S a (nI i) (nI q))) (j + 1))), (3, .int (nI i)), (4, .int 1), (5, .int (nI (j + 1)))] ⟨rfl, rfl, by simp only [l_sum, c_46, bI, Int32.add_zero, Int32.add_assoc]; rfl, rfl, rfl, (by rw [← nI_1 j]; rfl), trivial⟩ ?_
          exact ih_j

set_option maxHeartbeats 800000 in
set_option maxRecDepth 100000 in
theorem c_X0_bestPlace {G : ga_} {l : Launch} {h : HP} {sz : Nat} {g : Nat} {S : gS}  (w : GA G h g S)  : Mf G l yX0_bestPlace cX0_bestPlace 4 (some .int) 3 69 0 0 [.ref g] h sz (some (.int (g_adv S))) h sz := by
  refine Mg.ofV [(0, .ref g)] (by decide) (Nat.le_of_ble_eq_true rfl) rfl ?_
  intro p e s m args below meth c C
  refine r_aload_n C dX0_bestPlace_0 rfl rfl ?_
  refine r_cVi C (c_X0_isOver w) lk_X0_112 rfl (GA_o w) rfl rfl ⟨(Nat.le_of_ble_eq_true rfl), (Nat.le_of_ble_eq_true rfl), (Nat.le_of_ble_eq_true rfl), (Nat.le_of_ble_eq_true rfl), (Nat.le_of_ble_eq_true rfl)⟩ dX0_bestPlace_1 ?_
  refine r_if_eq C 9 dX0_bestPlace_4 (by decide) (fun c_4 => ?_) (fun c_4 => ?_)
  · have c_4 := bI_f c_4
    refine r_aload_n C dX0_bestPlace_9 rfl rfl ?_
    refine r_aload_n C dX0_bestPlace_10 rfl rfl ?_
    refine r_get C (j := 6) rfl in_X0 (GA_o w) (by decide) fl_X0_43 rfl rfl dX0_bestPlace_11 ?_
    refine r_cVi C (c_X0_heldBy w) lk_X0_92 rfl (GA_o w) rfl rfl ⟨(Nat.le_of_ble_eq_true rfl), (Nat.le_of_ble_eq_true rfl), (Nat.le_of_ble_eq_true rfl), (Nat.le_of_ble_eq_true rfl), (Nat.le_of_ble_eq_true rfl)⟩ dX0_bestPlace_14 ?_
    refine r_istore_n C dX0_bestPlace_17 rfl (by decide) ?_
    refine r_iconst C (v := -1) dX0_bestPlace_18 rfl ?_
    refine r_istore_n C dX0_bestPlace_19 rfl (by decide) ?_
    refine r_iconst C (v := 0) dX0_bestPlace_20 rfl ?_
    refine r_istore_n C dX0_bestPlace_21 rfl (by decide) ?_
    refine V.sub [(0, .ref g), (1, .int (g_held S (S 5 1))), (2, .int (g_bl S 0)), (3, .int (nI 0))] ⟨rfl, rfl, rfl, rfl, trivial⟩ ?_
    refine down_ (P := fun i => V p l e ⟨3, 0, 0, 69⟩ s m args below meth c G 4 (Qg G below args s 0 0 (fun v1 h1 s1 => v1 = (some (.int (g_adv S))) ∧ h1 = h ∧ s1 = sz)) h sz 0 0 22 [(0, .ref g), (1, .int (g_held S (S 5 1))), (2, .int (g_bl S i)), (3, .int (nI i))] []) ((g_held S (S 5 1)).toNatClampNeg) ?_ ?_
    · refine r_iload_n C dX0_bestPlace_22 rfl rfl ?_
      refine r_iload_n C dX0_bestPlace_23 rfl rfl ?_
      refine r_icmp_ge C 68 dX0_bestPlace_24 (by decide) (fun _ => ?_) (fun c => absurd (tn_le _) c)
      refine r_iload_n C dX0_bestPlace_68 rfl rfl ?_
      exact r_iret C rfl (Nat.le_of_ble_eq_true rfl) (Nat.le_of_ble_eq_true rfl) ⟨by simp [g_adv, c_4], rfl, rfl⟩ dX0_bestPlace_69
    · intro i h_i ih_i
      refine r_iload_n C dX0_bestPlace_22 rfl rfl ?_
      refine r_iload_n C dX0_bestPlace_23 rfl rfl ?_
      refine r_icmp_ge C 68 dX0_bestPlace_24 (by decide) (fun c => absurd c (tn_nle h_i)) (fun _ => ?_)
      refine r_aload_n C dX0_bestPlace_27 rfl rfl ?_
      refine r_aload_n C dX0_bestPlace_28 rfl rfl ?_
      refine r_get C (j := 1) rfl in_X0 (GA_o w) (by decide) fl_X0_20 rfl rfl dX0_bestPlace_29 ?_
      refine r_aload_n C dX0_bestPlace_32 rfl rfl ?_
      refine r_get C (j := 6) rfl in_X0 (GA_o w) (by decide) fl_X0_43 rfl rfl dX0_bestPlace_33 ?_
      refine r_iload_n C dX0_bestPlace_36 rfl rfl ?_
      refine r_cVi C (c_at1 w) lk_X0_84 rfl (GA_t1 w) rfl rfl ⟨(Nat.le_of_ble_eq_true rfl), (Nat.le_of_ble_eq_true rfl), (Nat.le_of_ble_eq_true rfl), (Nat.le_of_ble_eq_true rfl), (Nat.le_of_ble_eq_true rfl)⟩ dX0_bestPlace_37 ?_
      refine r_cVi C (c_X0_fitsSomewhere w) lk_X0_154 rfl (GA_o w) rfl rfl ⟨(Nat.le_of_ble_eq_true rfl), (Nat.le_of_ble_eq_true rfl), (Nat.le_of_ble_eq_true rfl), (Nat.le_of_ble_eq_true rfl), (Nat.le_of_ble_eq_true rfl)⟩ dX0_bestPlace_40 ?_
      refine r_if_eq C 62 dX0_bestPlace_43 (by decide) (fun c_43 => ?_) (fun c_43 => ?_)
      · have c_43 := bI_f c_43
        refine r_iinc C (v := 1) dX0_bestPlace_62 rfl rfl (by decide) ?_
        refine r_goto C 22 dX0_bestPlace_65 (by decide) ?_
        have e : g_bl S (i + 1) = g_bl S i := by
          simp only [g_bl]
          simp [g_hand] at *
          simp [c_43]
        refine V.sub [(0, .ref g), (1, .int (g_held S (S 5 1))), (2, .int (g_bl S (i + 1))), (3, .int (nI (i + 1)))] ⟨rfl, rfl, by rw [e]; rfl, (by rw [← nI_1 i]; rfl), trivial⟩ ?_
        exact ih_i
      · have c_43 := bI_t c_43
        refine r_iload_n C dX0_bestPlace_46 rfl rfl ?_
        refine r_iconst C (v := -1) dX0_bestPlace_47 rfl ?_
        refine r_icmp_eq C 60 dX0_bestPlace_48 (by decide) (fun c_48 => ?_) (fun c_48 => ?_)
        · refine r_iload_n C dX0_bestPlace_60 rfl rfl ?_
          refine r_istore_n C dX0_bestPlace_61 rfl (by decide) ?_
          refine r_iinc C (v := 1) dX0_bestPlace_62 rfl rfl (by decide) ?_
          refine r_goto C 22 dX0_bestPlace_65 (by decide) ?_
          have e : g_bl S (i + 1) = nI i := by
            simp only [g_bl]
            simp [g_hand] at *
            simp [c_43, c_48]
          refine V.sub [(0, .ref g), (1, .int (g_held S (S 5 1))), (2, .int (g_bl S (i + 1))), (3, .int (nI (i + 1)))] ⟨rfl, rfl, by rw [e]; rfl, (by rw [← nI_1 i]; rfl), trivial⟩ ?_
          exact ih_i
        · refine r_aload_n C dX0_bestPlace_51 rfl rfl ?_
          refine r_iload_n C dX0_bestPlace_52 rfl rfl ?_
          refine r_iload_n C dX0_bestPlace_53 rfl rfl ?_
          refine r_cVi C (c_X0_isBetter w) lk_X0_158 rfl (GA_o w) rfl rfl ⟨(Nat.le_of_ble_eq_true rfl), (Nat.le_of_ble_eq_true rfl), (Nat.le_of_ble_eq_true rfl), (Nat.le_of_ble_eq_true rfl), (Nat.le_of_ble_eq_true rfl)⟩ dX0_bestPlace_54 ?_
          refine r_if_eq C 62 dX0_bestPlace_57 (by decide) (fun c_57 => ?_) (fun c_57 => ?_)
          · have c_57 := bI_f c_57
            refine r_iinc C (v := 1) dX0_bestPlace_62 rfl rfl (by decide) ?_
            refine r_goto C 22 dX0_bestPlace_65 (by decide) ?_
            have e : g_bl S (i + 1) = g_bl S i := by
              simp only [g_bl]
              simp [g_hand] at *
              simp [c_43, c_48, c_57]
            refine V.sub [(0, .ref g), (1, .int (g_held S (S 5 1))), (2, .int (g_bl S (i + 1))), (3, .int (nI (i + 1)))] ⟨rfl, rfl, by rw [e]; rfl, (by rw [← nI_1 i]; rfl), trivial⟩ ?_
            exact ih_i
          · have c_57 := bI_t c_57
            refine r_iload_n C dX0_bestPlace_60 rfl rfl ?_
            refine r_istore_n C dX0_bestPlace_61 rfl (by decide) ?_
            refine r_iinc C (v := 1) dX0_bestPlace_62 rfl rfl (by decide) ?_
            refine r_goto C 22 dX0_bestPlace_65 (by decide) ?_
            have e : g_bl S (i + 1) = nI i := by
              simp only [g_bl]
              simp [g_hand] at *
              simp [c_43, c_48, c_57]
            refine V.sub [(0, .ref g), (1, .int (g_held S (S 5 1))), (2, .int (g_bl S (i + 1))), (3, .int (nI (i + 1)))] ⟨rfl, rfl, by rw [e]; rfl, (by rw [← nI_1 i]; rfl), trivial⟩ ?_
            exact ih_i
  · have c_4 := bI_t c_4
    refine r_iconst C (v := -1) dX0_bestPlace_7 rfl ?_
    exact r_iret C rfl (Nat.le_of_ble_eq_true rfl) (Nat.le_of_ble_eq_true rfl) ⟨by simp [g_adv, c_4], rfl, rfl⟩ dX0_bestPlace_8

set_option maxHeartbeats 800000 in
set_option maxRecDepth 100000 in
theorem c_X0_numberOf {G : ga_} {l : Launch} {h : HP} {sz : Nat} {g : Nat} {S : gS} {a b : Int32}  (w : GA G h g S)  : Mf G l yX0_numberOf cX0_numberOf 3 (some .int) 5 111 0 0 [.ref g, .int a, .int b] h sz (some (.int (g_num S a b))) h sz := by
  refine Mg.ofV [(0, .ref g), (1, .int a), (2, .int b)] (by decide) (Nat.le_of_ble_eq_true rfl) rfl ?_
  intro p e s m args below meth c C
  refine r_iload_n C dX0_numberOf_0 rfl rfl ?_
  by_cases c_1_0 : a = 0
  · subst c_1_0
    refine r_tsw C 64 dX0_numberOf_1 (by decide) (by decide) rfl (by decide) ?_
    refine r_aload_n C dX0_numberOf_64 rfl rfl ?_
    refine r_get C (j := 5) rfl in_X0 (GA_o w) (by decide) fl_X0_40 rfl rfl dX0_numberOf_65 ?_
    exact r_iret C rfl (Nat.le_of_ble_eq_true rfl) (Nat.le_of_ble_eq_true rfl) ⟨by simp [g_num], rfl, rfl⟩ dX0_numberOf_68
  by_cases c_1_1 : a = 1
  · subst c_1_1
    refine r_tsw C 69 dX0_numberOf_1 (by decide) (by decide) rfl (by decide) ?_
    refine r_aload_n C dX0_numberOf_69 rfl rfl ?_
    refine r_get C (j := 6) rfl in_X0 (GA_o w) (by decide) fl_X0_43 rfl rfl dX0_numberOf_70 ?_
    exact r_iret C rfl (Nat.le_of_ble_eq_true rfl) (Nat.le_of_ble_eq_true rfl) ⟨by simp [g_num], rfl, rfl⟩ dX0_numberOf_73
  by_cases c_1_2 : a = 2
  · subst c_1_2
    refine r_tsw C 74 dX0_numberOf_1 (by decide) (by decide) rfl (by decide) ?_
    refine r_aload_n C dX0_numberOf_74 rfl rfl ?_
    refine r_cVi C (c_X0_stockSize w) lk_X0_116 rfl (GA_o w) rfl rfl ⟨(Nat.le_of_ble_eq_true rfl), (Nat.le_of_ble_eq_true rfl), (Nat.le_of_ble_eq_true rfl), (Nat.le_of_ble_eq_true rfl), (Nat.le_of_ble_eq_true rfl)⟩ dX0_numberOf_75 ?_
    exact r_iret C rfl (Nat.le_of_ble_eq_true rfl) (Nat.le_of_ble_eq_true rfl) ⟨by simp [g_num], rfl, rfl⟩ dX0_numberOf_78
  by_cases c_1_3 : a = 3
  · subst c_1_3
    refine r_tsw C 79 dX0_numberOf_1 (by decide) (by decide) rfl (by decide) ?_
    refine r_aload_n C dX0_numberOf_79 rfl rfl ?_
    refine r_iconst C (v := 0) dX0_numberOf_80 rfl ?_
    refine r_cVi C (c_X0_tallied w) lk_X0_133 rfl (GA_o w) rfl rfl ⟨(Nat.le_of_ble_eq_true rfl), (Nat.le_of_ble_eq_true rfl), (Nat.le_of_ble_eq_true rfl), (Nat.le_of_ble_eq_true rfl), (Nat.le_of_ble_eq_true rfl)⟩ dX0_numberOf_81 ?_
    exact r_iret C rfl (Nat.le_of_ble_eq_true rfl) (Nat.le_of_ble_eq_true rfl) ⟨by simp [g_num], rfl, rfl⟩ dX0_numberOf_84
  by_cases c_1_4 : a = 4
  · subst c_1_4
    refine r_tsw C 85 dX0_numberOf_1 (by decide) (by decide) rfl (by decide) ?_
    refine r_aload_n C dX0_numberOf_85 rfl rfl ?_
    refine r_iconst C (v := 2) dX0_numberOf_86 rfl ?_
    refine r_cVi C (c_X0_tallied w) lk_X0_133 rfl (GA_o w) rfl rfl ⟨(Nat.le_of_ble_eq_true rfl), (Nat.le_of_ble_eq_true rfl), (Nat.le_of_ble_eq_true rfl), (Nat.le_of_ble_eq_true rfl), (Nat.le_of_ble_eq_true rfl)⟩ dX0_numberOf_87 ?_
    exact r_iret C rfl (Nat.le_of_ble_eq_true rfl) (Nat.le_of_ble_eq_true rfl) ⟨by simp [g_num], rfl, rfl⟩ dX0_numberOf_90
  by_cases c_1_5 : a = 5
  · subst c_1_5
    refine r_tsw C 91 dX0_numberOf_1 (by decide) (by decide) rfl (by decide) ?_
    refine r_aload_n C dX0_numberOf_91 rfl rfl ?_
    refine r_get C (j := 8) rfl in_X0 (GA_o w) (by decide) fl_X0_49 rfl rfl dX0_numberOf_92 ?_
    exact r_iret C rfl (Nat.le_of_ble_eq_true rfl) (Nat.le_of_ble_eq_true rfl) ⟨by simp [g_num], rfl, rfl⟩ dX0_numberOf_95
  by_cases c_1_6 : a = 6
  · subst c_1_6
    refine r_tsw C 96 dX0_numberOf_1 (by decide) (by decide) rfl (by decide) ?_
    refine r_aload_n C dX0_numberOf_96 rfl rfl ?_
    refine r_get C (j := 9) rfl in_X0 (GA_o w) (by decide) fl_X0_52 rfl rfl dX0_numberOf_97 ?_
    exact r_iret C rfl (Nat.le_of_ble_eq_true rfl) (Nat.le_of_ble_eq_true rfl) ⟨by simp [g_num], rfl, rfl⟩ dX0_numberOf_100
  by_cases c_1_7 : a = 7
  · subst c_1_7
    refine r_tsw C 101 dX0_numberOf_1 (by decide) (by decide) rfl (by decide) ?_
    refine r_aload_n C dX0_numberOf_101 rfl rfl ?_
    refine r_iconst C (v := 1) dX0_numberOf_102 rfl ?_
    refine r_cVi C (c_X0_tallied w) lk_X0_133 rfl (GA_o w) rfl rfl ⟨(Nat.le_of_ble_eq_true rfl), (Nat.le_of_ble_eq_true rfl), (Nat.le_of_ble_eq_true rfl), (Nat.le_of_ble_eq_true rfl), (Nat.le_of_ble_eq_true rfl)⟩ dX0_numberOf_103 ?_
    exact r_iret C rfl (Nat.le_of_ble_eq_true rfl) (Nat.le_of_ble_eq_true rfl) ⟨by simp [g_num], rfl, rfl⟩ dX0_numberOf_106
  by_cases c_1_8 : a = 8
  · subst c_1_8
    refine r_tsw C 107 dX0_numberOf_1 (by decide) (by decide) rfl (by decide) ?_
    refine r_aload_n C dX0_numberOf_107 rfl rfl ?_
    refine r_cVi C (c_X0_winner w) lk_X0_136 rfl (GA_o w) rfl rfl ⟨(Nat.le_of_ble_eq_true rfl), (Nat.le_of_ble_eq_true rfl), (Nat.le_of_ble_eq_true rfl), (Nat.le_of_ble_eq_true rfl), (Nat.le_of_ble_eq_true rfl)⟩ dX0_numberOf_108 ?_
    exact r_iret C rfl (Nat.le_of_ble_eq_true rfl) (Nat.le_of_ble_eq_true rfl) ⟨by simp [g_num], rfl, rfl⟩ dX0_numberOf_111
  by_cases c_1_9 : a = 9
  · subst c_1_9
    refine r_tsw C 112 dX0_numberOf_1 (by decide) (by decide) rfl (by decide) ?_
    refine r_aload_n C dX0_numberOf_112 rfl rfl ?_
    refine r_get C (j := 10) rfl in_X0 (GA_o w) (by decide) fl_X0_55 rfl rfl dX0_numberOf_113 ?_
    exact r_iret C rfl (Nat.le_of_ble_eq_true rfl) (Nat.le_of_ble_eq_true rfl) ⟨by simp [g_num], rfl, rfl⟩ dX0_numberOf_116
  by_cases c_1_10 : a = 10
  · subst c_1_10
    refine r_tsw C 117 dX0_numberOf_1 (by decide) (by decide) rfl (by decide) ?_
    refine r_aload_n C dX0_numberOf_117 rfl rfl ?_
    refine r_get C (j := 11) rfl in_X0 (GA_o w) (by decide) fl_X0_58 rfl rfl dX0_numberOf_118 ?_
    exact r_iret C rfl (Nat.le_of_ble_eq_true rfl) (Nat.le_of_ble_eq_true rfl) ⟨by simp [g_num], rfl, rfl⟩ dX0_numberOf_121
  by_cases c_1_11 : a = 11
  · subst c_1_11
    refine r_tsw C 122 dX0_numberOf_1 (by decide) (by decide) rfl (by decide) ?_
    refine r_iload_n C dX0_numberOf_122 rfl rfl ?_
    exact r_iret C rfl (Nat.le_of_ble_eq_true rfl) (Nat.le_of_ble_eq_true rfl) ⟨by simp [g_num], rfl, rfl⟩ dX0_numberOf_123
  refine r_tswO C 124 dX0_numberOf_1 (sw_out 12 (by decide) (lt_s_12 c_1_0 c_1_1 c_1_2 c_1_3 c_1_4 c_1_5 c_1_6 c_1_7 c_1_8 c_1_9 c_1_10 c_1_11)) (by decide) ?_
  refine r_iconst C (v := -1) dX0_numberOf_124 rfl ?_
  exact r_iret C rfl (Nat.le_of_ble_eq_true rfl) (Nat.le_of_ble_eq_true rfl) ⟨by simp [g_num, c_1_0, c_1_1, c_1_2, c_1_3, c_1_4, c_1_5, c_1_6, c_1_7, c_1_8, c_1_9, c_1_10, c_1_11], rfl, rfl⟩ dX0_numberOf_125

set_option maxHeartbeats 800000 in
set_option maxRecDepth 100000 in
theorem c_X0_playerProperty {G : ga_} {l : Launch} {h : HP} {sz : Nat} {g : Nat} {S : gS} {a b : Int32}  (w : GA G h g S)  : Mf G l yX0_playerProperty cX0_playerProperty 3 (some .int) 4 97 0 0 [.ref g, .int a, .int b] h sz (some (.int (g_prop S a b))) h sz := by
  refine Mg.ofV [(0, .ref g), (1, .int a), (2, .int b)] (by decide) (Nat.le_of_ble_eq_true rfl) rfl ?_
  intro p e s m args below meth c C
  refine r_iload_n C dX0_playerProperty_0 rfl rfl ?_
  by_cases c_1_0 : b = 0
  · subst c_1_0
    refine r_tsw C 44 dX0_playerProperty_1 (by decide) (by decide) rfl (by decide) ?_
    refine r_aload_n C dX0_playerProperty_44 rfl rfl ?_
    refine r_iload_n C dX0_playerProperty_45 rfl rfl ?_
    refine r_cVi C (c_X0_heldBy w) lk_X0_92 rfl (GA_o w) rfl rfl ⟨(Nat.le_of_ble_eq_true rfl), (Nat.le_of_ble_eq_true rfl), (Nat.le_of_ble_eq_true rfl), (Nat.le_of_ble_eq_true rfl), (Nat.le_of_ble_eq_true rfl)⟩ dX0_playerProperty_46 ?_
    exact r_iret C rfl (Nat.le_of_ble_eq_true rfl) (Nat.le_of_ble_eq_true rfl) ⟨by simp [g_prop], rfl, rfl⟩ dX0_playerProperty_49
  by_cases c_1_1 : b = 1
  · subst c_1_1
    refine r_tsw C 50 dX0_playerProperty_1 (by decide) (by decide) rfl (by decide) ?_
    refine r_aload_n C dX0_playerProperty_50 rfl rfl ?_
    refine r_iload_n C dX0_playerProperty_51 rfl rfl ?_
    refine r_cVi C (c_X0_gradesHeld w) lk_X0_139 rfl (GA_o w) rfl rfl ⟨(Nat.le_of_ble_eq_true rfl), (Nat.le_of_ble_eq_true rfl), (Nat.le_of_ble_eq_true rfl), (Nat.le_of_ble_eq_true rfl), (Nat.le_of_ble_eq_true rfl)⟩ dX0_playerProperty_52 ?_
    exact r_iret C rfl (Nat.le_of_ble_eq_true rfl) (Nat.le_of_ble_eq_true rfl) ⟨by simp [g_prop], rfl, rfl⟩ dX0_playerProperty_55
  by_cases c_1_2 : b = 2
  · subst c_1_2
    refine r_tsw C 56 dX0_playerProperty_1 (by decide) (by decide) rfl (by decide) ?_
    refine r_aload_n C dX0_playerProperty_56 rfl rfl ?_
    refine r_get C (j := 2) rfl in_X0 (GA_o w) (by decide) fl_X0_23 rfl rfl dX0_playerProperty_57 ?_
    refine r_iload_n C dX0_playerProperty_60 rfl rfl ?_
    refine r_iconst C (v := 1) dX0_playerProperty_61 rfl ?_
    refine r_cVi C (c_at2 w) lk_X0_84 rfl (GA_t2 w) rfl rfl ⟨(Nat.le_of_ble_eq_true rfl), (Nat.le_of_ble_eq_true rfl), (Nat.le_of_ble_eq_true rfl), (Nat.le_of_ble_eq_true rfl), (Nat.le_of_ble_eq_true rfl)⟩ dX0_playerProperty_62 ?_
    exact r_iret C rfl (Nat.le_of_ble_eq_true rfl) (Nat.le_of_ble_eq_true rfl) ⟨by simp [g_prop], rfl, rfl⟩ dX0_playerProperty_65
  by_cases c_1_3 : b = 3
  · subst c_1_3
    refine r_tsw C 66 dX0_playerProperty_1 (by decide) (by decide) rfl (by decide) ?_
    refine r_aload_n C dX0_playerProperty_66 rfl rfl ?_
    refine r_iload_n C dX0_playerProperty_67 rfl rfl ?_
    refine r_cVi C (c_X0_sumOf w) lk_X0_142 rfl (GA_o w) rfl rfl ⟨(Nat.le_of_ble_eq_true rfl), (Nat.le_of_ble_eq_true rfl), (Nat.le_of_ble_eq_true rfl), (Nat.le_of_ble_eq_true rfl), (Nat.le_of_ble_eq_true rfl)⟩ dX0_playerProperty_68 ?_
    exact r_iret C rfl (Nat.le_of_ble_eq_true rfl) (Nat.le_of_ble_eq_true rfl) ⟨by simp [g_prop], rfl, rfl⟩ dX0_playerProperty_71
  by_cases c_1_4 : b = 4
  · subst c_1_4
    refine r_tsw C 72 dX0_playerProperty_1 (by decide) (by decide) rfl (by decide) ?_
    refine r_aload_n C dX0_playerProperty_72 rfl rfl ?_
    refine r_get C (j := 2) rfl in_X0 (GA_o w) (by decide) fl_X0_23 rfl rfl dX0_playerProperty_73 ?_
    refine r_iload_n C dX0_playerProperty_76 rfl rfl ?_
    refine r_iconst C (v := 2) dX0_playerProperty_77 rfl ?_
    refine r_cVi C (c_at2 w) lk_X0_84 rfl (GA_t2 w) rfl rfl ⟨(Nat.le_of_ble_eq_true rfl), (Nat.le_of_ble_eq_true rfl), (Nat.le_of_ble_eq_true rfl), (Nat.le_of_ble_eq_true rfl), (Nat.le_of_ble_eq_true rfl)⟩ dX0_playerProperty_78 ?_
    exact r_iret C rfl (Nat.le_of_ble_eq_true rfl) (Nat.le_of_ble_eq_true rfl) ⟨by simp [g_prop], rfl, rfl⟩ dX0_playerProperty_81
  by_cases c_1_5 : b = 5
  · subst c_1_5
    refine r_tsw C 82 dX0_playerProperty_1 (by decide) (by decide) rfl (by decide) ?_
    refine r_aload_n C dX0_playerProperty_82 rfl rfl ?_
    refine r_get C (j := 2) rfl in_X0 (GA_o w) (by decide) fl_X0_23 rfl rfl dX0_playerProperty_83 ?_
    refine r_iload_n C dX0_playerProperty_86 rfl rfl ?_
    refine r_iconst C (v := 3) dX0_playerProperty_87 rfl ?_
    refine r_cVi C (c_at2 w) lk_X0_84 rfl (GA_t2 w) rfl rfl ⟨(Nat.le_of_ble_eq_true rfl), (Nat.le_of_ble_eq_true rfl), (Nat.le_of_ble_eq_true rfl), (Nat.le_of_ble_eq_true rfl), (Nat.le_of_ble_eq_true rfl)⟩ dX0_playerProperty_88 ?_
    exact r_iret C rfl (Nat.le_of_ble_eq_true rfl) (Nat.le_of_ble_eq_true rfl) ⟨by simp [g_prop], rfl, rfl⟩ dX0_playerProperty_91
  by_cases c_1_6 : b = 6
  · subst c_1_6
    refine r_tsw C 92 dX0_playerProperty_1 (by decide) (by decide) rfl (by decide) ?_
    refine r_aload_n C dX0_playerProperty_92 rfl rfl ?_
    refine r_iload_n C dX0_playerProperty_93 rfl rfl ?_
    refine r_cVi C (c_X0_endsOpenTo w) lk_X0_145 rfl (GA_o w) rfl rfl ⟨(Nat.le_of_ble_eq_true rfl), (Nat.le_of_ble_eq_true rfl), (Nat.le_of_ble_eq_true rfl), (Nat.le_of_ble_eq_true rfl), (Nat.le_of_ble_eq_true rfl)⟩ dX0_playerProperty_94 ?_
    exact r_iret C rfl (Nat.le_of_ble_eq_true rfl) (Nat.le_of_ble_eq_true rfl) ⟨by simp [g_prop], rfl, rfl⟩ dX0_playerProperty_97
  refine r_tswO C 98 dX0_playerProperty_1 (sw_out 7 (by decide) (lt_s_7 c_1_0 c_1_1 c_1_2 c_1_3 c_1_4 c_1_5 c_1_6)) (by decide) ?_
  refine r_iconst C (v := -1) dX0_playerProperty_98 rfl ?_
  exact r_iret C rfl (Nat.le_of_ble_eq_true rfl) (Nat.le_of_ble_eq_true rfl) ⟨by simp [g_prop, c_1_0, c_1_1, c_1_2, c_1_3, c_1_4, c_1_5, c_1_6], rfl, rfl⟩ dX0_playerProperty_99

set_option maxHeartbeats 800000 in
set_option maxRecDepth 100000 in
theorem c_X0_shareOfRust {G : ga_} {l : Launch} {h : HP} {sz : Nat} {g : Nat} {S : gS}  (w : GA G h g S) (hz : vf_n64 (FP.ddiv (FP.i2d (g_tal S 1)) 4640114991075164160)) : Mf G l yX0_shareOfRust cX0_shareOfRust 1 (some .double) 2 46 0 0 [.ref g] h sz (some (.double (FP.ddiv (FP.i2d (g_tal S 1)) 4640114991075164160))) h sz := by
  refine Mg.ofV [(0, .ref g)] (by decide) (Nat.le_of_ble_eq_true rfl) rfl ?_
  intro p e s m args below meth c C
  refine r_aload_n C dX0_shareOfRust_0 rfl rfl ?_
  refine r_iconst C (v := 1) dX0_shareOfRust_1 rfl ?_
  refine r_cVi C (c_X0_tallied w) lk_X0_133 rfl (GA_o w) rfl rfl ⟨(Nat.le_of_ble_eq_true rfl), (Nat.le_of_ble_eq_true rfl), (Nat.le_of_ble_eq_true rfl), (Nat.le_of_ble_eq_true rfl), (Nat.le_of_ble_eq_true rfl)⟩ dX0_shareOfRust_2 ?_
  refine r_i2d C dX0_shareOfRust_5 ?_
  refine r_ldcd C kd_X0_164 dX0_shareOfRust_6 ?_
  refine r_ddiv C dX0_shareOfRust_9 hz ?_
  exact r_dret C rfl (Nat.le_of_ble_eq_true rfl) (Nat.le_of_ble_eq_true rfl) ⟨rfl, rfl, rfl⟩ dX0_shareOfRust_10
end
section
/-! GAME: what changes a game -/
def g_rustH (S : gS) (t : Int32) : Int32 := if tAt 7 196 (S 0) t 0 < tAt 7 196 (S 0) t 1 then 1 else 0
def g_rust (S : gS) (t p : Int32) : gS := if tAt 7 196 (S 0) t (g_rustH S t) ≤ 0 then S else gI (gI (gI S 0 t (g_rustH S t) (-1)) 0 t 6 1) 2 p 1 1
def g_age1 (S : gS) (t p : Int32) : gS := if 0 < (gI S 0 t 4 1) 5 7 ∧ tAt 7 196 ((gI S 0 t 4 1) 0) t 4 - tAt 7 196 ((gI S 0 t 4 1) 0) t 4 / (gI S 0 t 4 1) 5 7 * (gI S 0 t 4 1) 5 7 = 0 then g_rust (gI S 0 t 4 1) t p else gI S 0 t 4 1
def g_age (S : gS) (p : Int32) : Nat → gS
  | 0 => S
  | i + 1 => g_age1 (g_age S p i) (g_hand (g_age S p i) p (nI i)) p
def g_ages (S : gS) (p : Int32) : gS := g_age S p (g_held S p).toNatClampNeg
def g_end0 (S : gS) : gS := gc S 3 (S 5 3 + 1)
def g_ended (S : gS) : Bool := decide (g_held S (S 5 1) = 0) || !decide (S 5 4 < S 5 0)
def g_next (S : gS) : Int32 := if S 5 1 + 1 < S 5 0 then S 5 1 + 1 else 0
def g_end (S : gS) : gS := if g_ended (g_end0 S) then gc (g_ages (g_end0 S) ((g_end0 S) 5 1)) 1 (-1) else gc (g_ages (g_end0 S) ((g_end0 S) 5 1)) 1 (g_next (g_ages (g_end0 S) ((g_end0 S) 5 1)))
def g_endA (S : gS) : Int32 := if g_ended (g_end0 S) then 11 else 10
def g_takeT (S : gS) (p : Int32) : Int32 := tAt 28 28 (S 4) 0 (S 5 2)
def g_take3 (S : gS) (p : Int32) : gS := gP (gP (gc S 2 (S 5 2 + 1)) 0 (g_takeT S p) 2 1) 0 (g_takeT S p) 3 p
def g_take (S : gS) (p : Int32) : gS := gI (gP (g_take3 S p) 1 p (g_held (g_take3 S p) p) (g_takeT S p)) 2 p 0 1
def g_th (S : gS) (p : Int32) (q : Nat) : Nat → gS
  | 0 => S
  | i + 1 => gP (g_th S p q i) 1 p (nI (q + i)) (tAt 28 112 ((g_th S p q i) 1) p (nI (q + i) + 1))
def g_from (S : gS) (p : Int32) (q : Nat) : gS := gI (g_th S p q ((g_held S p - 1).toNatClampNeg - q)) 2 p 0 (-1)
def g_putE (S : gS) (t r e : Int32) : gS := gP (gI (if tAt 4 12 (S 3) r 0 = 0 then gP (gP S 3 r 1 (tAt 7 196 (S 0) t 0)) 3 r 2 (tAt 7 196 (S 0) t 1) else gP S 3 r (1 + e) (if tAt 7 196 (S 0) t 0 = tAt 4 12 (S 3) r (1 + e) then tAt 7 196 (S 0) t 1 else tAt 7 196 (S 0) t 0)) 3 r 0 1) 3 r 3 t
def g_oil (S : gS) (a : Int32) : gS := if g_over S then S else gP S 0 (g_hand S (S 5 1) a) 4 0
def g_oilA (S : gS) (a : Int32) : Int32 := if g_over S then -1 else tAt 7 196 (S 0) (g_hand S (S 5 1) a) 4
def g_ref (S : gS) : gS := gc S 5 (S 5 5 + 1)
def g_draw0 (S : gS) : gS := gc S 4 0
def g_draw1 (S : gS) : gS := g_take (g_draw0 S) ((g_draw0 S) 5 1)
def g_draw2 (S : gS) : gS := gI (g_draw1 S) 2 ((g_draw1 S) 5 1) 3 1
def g_draw (S : gS) : gS := if g_over S || decide (g_stock S = 0) then g_ref S else g_end (g_draw2 S)
def g_drawA (S : gS) : Int32 := if g_over S || decide (g_stock S = 0) then 100 + (if g_over (g_ref S) then 1 else 4) else g_takeT (g_draw0 S) ((g_draw0 S) 5 1)
def g_pass (S : gS) : gS := if g_over S || decide (0 < g_stock S) then g_ref S else g_end (gc S 4 (S 5 4 + 1))
def g_passA (S : gS) : Int32 := if g_over S || decide (0 < g_stock S) then (if g_over (g_ref S) then 1 else 5) else g_endA (gc S 4 (S 5 4 + 1))
def g_lay1 (S : gS) (a : Int32) : gS := g_from (gc S 4 0) ((gc S 4 0) 5 1) a.toNatClampNeg
def g_layT (S : gS) (a : Int32) : Int32 := tAt 28 112 ((gc S 4 0) 1) ((gc S 4 0) 5 1) a
def g_lay2 (S : gS) (a r : Int32) : gS := gP (gP (g_lay1 S a) 0 (g_layT S a) 2 2) 0 (g_layT S a) 5 r
def g_lay3 (S : gS) (a r e : Int32) : gS := g_putE (gI (g_lay2 S a r) 2 ((g_lay2 S a r) 5 1) 2 1) (g_layT S a) r e
def g_lay (S : gS) (a r e : Int32) : gS := if g_reason S a r e = 0 then g_end (g_lay3 S a r e) else g_ref S
def g_layA (S : gS) (a r e : Int32) : Int32 := if g_reason S a r e = 0 then g_endA (g_lay3 S a r e) else g_reason S a r e
theorem reason_0 {S : gS} {a r e : Int32} (h : g_reason S a r e = 0) : a = nI a.toNatClampNeg := by
  have hh : g_holds S (S 5 1) a = true := by
    by_cases c : g_holds S (S 5 1) a = true
    · exact c
    · simp only [g_reason, c] at h
      split at h <;> simp at h
  simp only [g_holds, Bool.and_eq_true, Bool.not_eq_true', decide_eq_false_iff_not, decide_eq_true_eq] at hh
  rcases pk_ix a (n := a.toNatClampNeg + 1) (by have := tn_lt a; have := hh.1; rcases Nat.lt_or_ge (a.toNatClampNeg + 1) 2147483648 with q | q; exact q; exfalso; have h2 : a.toNatClampNeg = 2147483647 := by omega
                                                have h3 := Int32.lt_iff_toInt_lt.mp hh.2; have h4 := fb_rng_ (g_held S (S 5 1)); have h5 : a.toInt.toNat = 2147483647 := h2; omega) with q | q | ⟨j, hj, q⟩
  · exact absurd q hh.1
  · exfalso
    have := Int32.le_iff_toInt_le.mp q
    have h3 := tn_lt a
    rw [nI_toInt (by have h3 := Int32.lt_iff_toInt_lt.mp hh.2; have h4 := fb_rng_ (g_held S (S 5 1)); have h5 : a.toNatClampNeg = a.toInt.toNat := rfl; omega)] at this
    have h5 : a.toNatClampNeg = a.toInt.toNat := rfl
    omega
  · rw [q, nI_clamp (by have := tn_lt a; omega)]
set_option maxHeartbeats 800000 in
set_option maxRecDepth 100000 in
theorem c_X0_rust {G : ga_} {l : Launch} {h : HP} {sz : Nat} {g : Nat} {S : gS} {a b : Int32}  (w : GA G h g S)  : Mf G l yX0_rust cX0_rust 4 none 1 24 0 0 [.ref g, .int a, .int b] h sz none (pG G h g (g_rust S a b)) sz := by
  refine Mg.ofV [(0, .ref g), (1, .int a), (2, .int b)] (by decide) (Nat.le_of_ble_eq_true rfl) rfl ?_
  intro p e s m args below meth c C
  refine r_aload_n C dX0_rust_0 rfl rfl ?_
  refine r_get C (j := 0) rfl in_X0 (GA_o w) (by decide) fl_X0_14 rfl rfl dX0_rust_1 ?_
  refine r_iload_n C dX0_rust_4 rfl rfl ?_
  refine r_iconst C (v := 0) dX0_rust_5 rfl ?_
  refine r_cVi C (c_at0 w) lk_X0_84 rfl (GA_t0 w) rfl rfl ⟨(Nat.le_of_ble_eq_true rfl), (Nat.le_of_ble_eq_true rfl), (Nat.le_of_ble_eq_true rfl), (Nat.le_of_ble_eq_true rfl), (Nat.le_of_ble_eq_true rfl)⟩ dX0_rust_6 ?_
  refine r_aload_n C dX0_rust_9 rfl rfl ?_
  refine r_get C (j := 0) rfl in_X0 (GA_o w) (by decide) fl_X0_14 rfl rfl dX0_rust_10 ?_
  refine r_iload_n C dX0_rust_13 rfl rfl ?_
  refine r_iconst C (v := 1) dX0_rust_14 rfl ?_
  refine r_cVi C (c_at0 w) lk_X0_84 rfl (GA_t0 w) rfl rfl ⟨(Nat.le_of_ble_eq_true rfl), (Nat.le_of_ble_eq_true rfl), (Nat.le_of_ble_eq_true rfl), (Nat.le_of_ble_eq_true rfl), (Nat.le_of_ble_eq_true rfl)⟩ dX0_rust_15 ?_
  refine r_icmp_lt C 25 dX0_rust_18 (by decide) (fun c_18 => ?_) (fun c_18 => ?_)
  · have e_18 := i32_nle c_18
    refine r_iconst C (v := 1) dX0_rust_25 rfl ?_
    refine r_istore_n C dX0_rust_26 rfl (by decide) ?_
    refine r_aload_n C dX0_rust_27 rfl rfl ?_
    refine r_get C (j := 0) rfl in_X0 (GA_o w) (by decide) fl_X0_14 rfl rfl dX0_rust_28 ?_
    refine r_iload_n C dX0_rust_31 rfl rfl ?_
    refine r_iload_n C dX0_rust_32 rfl rfl ?_
    refine r_cVi C (c_at0 w) lk_X0_84 rfl (GA_t0 w) rfl rfl ⟨(Nat.le_of_ble_eq_true rfl), (Nat.le_of_ble_eq_true rfl), (Nat.le_of_ble_eq_true rfl), (Nat.le_of_ble_eq_true rfl), (Nat.le_of_ble_eq_true rfl)⟩ dX0_rust_33 ?_
    refine r_if_le C 70 dX0_rust_36 (by decide) (fun c_36 => ?_) (fun c_36 => ?_)
    · have e_36 := i32_nlt c_36
      exact r_vret C rfl (Nat.le_of_ble_eq_true rfl) (Nat.le_of_ble_eq_true rfl) ⟨rfl, by rw [show (g_rust S a b) = S by simp [g_rust, g_rustH, c_18, e_18, c_36, e_36]]; exact (pG_id w).symm, rfl⟩ dX0_rust_70
    · have e_36 := i32_lt c_36
      refine r_aload_n C dX0_rust_39 rfl rfl ?_
      refine r_get C (j := 0) rfl in_X0 (GA_o w) (by decide) fl_X0_14 rfl rfl dX0_rust_40 ?_
      refine r_iload_n C dX0_rust_43 rfl rfl ?_
      refine r_iload_n C dX0_rust_44 rfl rfl ?_
      refine r_iconst C (v := -1) dX0_rust_45 rfl ?_
      refine r_cVv C (c_increase0 w) lk_X0_95 rfl (GA_t0 w) rfl rfl ⟨(Nat.le_of_ble_eq_true rfl), (Nat.le_of_ble_eq_true rfl), (Nat.le_of_ble_eq_true rfl), (Nat.le_of_ble_eq_true rfl), (Nat.le_of_ble_eq_true rfl)⟩ dX0_rust_46 ?_
      refine r_aload_n C dX0_rust_49 rfl rfl ?_
      refine r_get C (j := 0) rfl in_X0 (GA_o GA_pG) (by decide) fl_X0_14 rfl rfl dX0_rust_50 ?_
      refine r_iload_n C dX0_rust_53 rfl rfl ?_
      refine r_bipush C (v := 6) dX0_rust_54 rfl ?_
      refine r_iconst C (v := 1) dX0_rust_56 rfl ?_
      refine r_cVv C (c_increase0 GA_pG) lk_X0_95 rfl (GA_t0 GA_pG) rfl rfl ⟨(Nat.le_of_ble_eq_true rfl), (Nat.le_of_ble_eq_true rfl), (Nat.le_of_ble_eq_true rfl), (Nat.le_of_ble_eq_true rfl), (Nat.le_of_ble_eq_true rfl)⟩ dX0_rust_57 ?_
      refine r_aload_n C dX0_rust_60 rfl rfl ?_
      refine r_get C (j := 2) rfl in_X0 (GA_o GA_pG) (by decide) fl_X0_23 rfl rfl dX0_rust_61 ?_
      refine r_iload_n C dX0_rust_64 rfl rfl ?_
      refine r_iconst C (v := 1) dX0_rust_65 rfl ?_
      refine r_iconst C (v := 1) dX0_rust_66 rfl ?_
      refine r_cVv C (c_increase2 GA_pG) lk_X0_95 rfl (GA_t2 GA_pG) rfl rfl ⟨(Nat.le_of_ble_eq_true rfl), (Nat.le_of_ble_eq_true rfl), (Nat.le_of_ble_eq_true rfl), (Nat.le_of_ble_eq_true rfl), (Nat.le_of_ble_eq_true rfl)⟩ dX0_rust_67 ?_
      exact r_vret C rfl (Nat.le_of_ble_eq_true rfl) (Nat.le_of_ble_eq_true rfl) ⟨rfl, by (try simp only [pG_pG]); exact congrArg (pG G h g) (by simp [g_rust, g_rustH, c_18, e_18, c_36, e_36]), rfl⟩ dX0_rust_70
  · have e_18 := i32_le c_18
    refine r_iconst C (v := 0) dX0_rust_21 rfl ?_
    refine r_goto C 26 dX0_rust_22 (by decide) ?_
    refine r_istore_n C dX0_rust_26 rfl (by decide) ?_
    refine r_aload_n C dX0_rust_27 rfl rfl ?_
    refine r_get C (j := 0) rfl in_X0 (GA_o w) (by decide) fl_X0_14 rfl rfl dX0_rust_28 ?_
    refine r_iload_n C dX0_rust_31 rfl rfl ?_
    refine r_iload_n C dX0_rust_32 rfl rfl ?_
    refine r_cVi C (c_at0 w) lk_X0_84 rfl (GA_t0 w) rfl rfl ⟨(Nat.le_of_ble_eq_true rfl), (Nat.le_of_ble_eq_true rfl), (Nat.le_of_ble_eq_true rfl), (Nat.le_of_ble_eq_true rfl), (Nat.le_of_ble_eq_true rfl)⟩ dX0_rust_33 ?_
    refine r_if_le C 70 dX0_rust_36 (by decide) (fun c_36 => ?_) (fun c_36 => ?_)
    · have e_36 := i32_nlt c_36
      exact r_vret C rfl (Nat.le_of_ble_eq_true rfl) (Nat.le_of_ble_eq_true rfl) ⟨rfl, by rw [show (g_rust S a b) = S by simp [g_rust, g_rustH, c_18, e_18, c_36, e_36]]; exact (pG_id w).symm, rfl⟩ dX0_rust_70
    · have e_36 := i32_lt c_36
      refine r_aload_n C dX0_rust_39 rfl rfl ?_
      refine r_get C (j := 0) rfl in_X0 (GA_o w) (by decide) fl_X0_14 rfl rfl dX0_rust_40 ?_
      refine r_iload_n C dX0_rust_43 rfl rfl ?_
      refine r_iload_n C dX0_rust_44 rfl rfl ?_
      refine r_iconst C (v := -1) dX0_rust_45 rfl ?_
      refine r_cVv C (c_increase0 w) lk_X0_95 rfl (GA_t0 w) rfl rfl ⟨(Nat.le_of_ble_eq_true rfl), (Nat.le_of_ble_eq_true rfl), (Nat.le_of_ble_eq_true rfl), (Nat.le_of_ble_eq_true rfl), (Nat.le_of_ble_eq_true rfl)⟩ dX0_rust_46 ?_
      refine r_aload_n C dX0_rust_49 rfl rfl ?_
      refine r_get C (j := 0) rfl in_X0 (GA_o GA_pG) (by decide) fl_X0_14 rfl rfl dX0_rust_50 ?_
      refine r_iload_n C dX0_rust_53 rfl rfl ?_
      refine r_bipush C (v := 6) dX0_rust_54 rfl ?_
      refine r_iconst C (v := 1) dX0_rust_56 rfl ?_
      refine r_cVv C (c_increase0 GA_pG) lk_X0_95 rfl (GA_t0 GA_pG) rfl rfl ⟨(Nat.le_of_ble_eq_true rfl), (Nat.le_of_ble_eq_true rfl), (Nat.le_of_ble_eq_true rfl), (Nat.le_of_ble_eq_true rfl), (Nat.le_of_ble_eq_true rfl)⟩ dX0_rust_57 ?_
      refine r_aload_n C dX0_rust_60 rfl rfl ?_
      refine r_get C (j := 2) rfl in_X0 (GA_o GA_pG) (by decide) fl_X0_23 rfl rfl dX0_rust_61 ?_
      refine r_iload_n C dX0_rust_64 rfl rfl ?_
      refine r_iconst C (v := 1) dX0_rust_65 rfl ?_
      refine r_iconst C (v := 1) dX0_rust_66 rfl ?_
      refine r_cVv C (c_increase2 GA_pG) lk_X0_95 rfl (GA_t2 GA_pG) rfl rfl ⟨(Nat.le_of_ble_eq_true rfl), (Nat.le_of_ble_eq_true rfl), (Nat.le_of_ble_eq_true rfl), (Nat.le_of_ble_eq_true rfl), (Nat.le_of_ble_eq_true rfl)⟩ dX0_rust_67 ?_
      exact r_vret C rfl (Nat.le_of_ble_eq_true rfl) (Nat.le_of_ble_eq_true rfl) ⟨rfl, by (try simp only [pG_pG]); exact congrArg (pG G h g) (by simp [g_rust, g_rustH, c_18, e_18, c_36, e_36]), rfl⟩ dX0_rust_70

set_option maxHeartbeats 800000 in
set_option maxRecDepth 100000 in
theorem c_X0_ageHand {G : ga_} {l : Launch} {h : HP} {sz : Nat} {g : Nat} {S : gS} {a : Int32}  (w : GA G h g S)  : Mf G l yX0_ageHand cX0_ageHand 5 none 2 47 0 0 [.ref g, .int a] h sz none (pG G h g (g_ages S a)) sz := by
  refine Mg.ofV [(0, .ref g), (1, .int a)] (by decide) (Nat.le_of_ble_eq_true rfl) rfl ?_
  intro p e s m args below meth c C
  refine r_aload_n C dX0_ageHand_0 rfl rfl ?_
  refine r_iload_n C dX0_ageHand_1 rfl rfl ?_
  refine r_cVi C (c_X0_heldBy w) lk_X0_92 rfl (GA_o w) rfl rfl ⟨(Nat.le_of_ble_eq_true rfl), (Nat.le_of_ble_eq_true rfl), (Nat.le_of_ble_eq_true rfl), (Nat.le_of_ble_eq_true rfl), (Nat.le_of_ble_eq_true rfl)⟩ dX0_ageHand_2 ?_
  refine r_istore_n C dX0_ageHand_5 rfl (by decide) ?_
  refine r_iconst C (v := 0) dX0_ageHand_6 rfl ?_
  refine r_istore_n C dX0_ageHand_7 rfl (by decide) ?_
  refine V.heap (pG_id w).symm ?_
  refine V.sub [(0, .ref g), (1, .int a), (2, .int (g_held S a)), (3, .int (nI 0))] ⟨rfl, rfl, rfl, rfl, trivial⟩ ?_
  refine down_ (P := fun i => V p l e ⟨2, 0, 0, 47⟩ s m args below meth c G 5 (Qg G below args s 0 0 (fun v1 h1 s1 => v1 = none ∧ h1 = (pG G h g (g_ages S a)) ∧ s1 = sz)) (pG G h g (g_age S a i)) sz 0 0 8 [(0, .ref g), (1, .int a), (2, .int (g_held S a)), (3, .int (nI i))] []) ((g_held S a).toNatClampNeg) ?_ ?_
  · refine r_iload_n C dX0_ageHand_8 rfl rfl ?_
    refine r_iload_n C dX0_ageHand_9 rfl rfl ?_
    refine r_icmp_ge C 73 dX0_ageHand_10 (by decide) (fun _ => ?_) (fun c => absurd (tn_le _) c)
    exact r_vret C rfl (Nat.le_of_ble_eq_true rfl) (Nat.le_of_ble_eq_true rfl) ⟨rfl, rfl, rfl⟩ dX0_ageHand_73
  · intro i h_i ih_i
    refine r_iload_n C dX0_ageHand_8 rfl rfl ?_
    refine r_iload_n C dX0_ageHand_9 rfl rfl ?_
    refine r_icmp_ge C 73 dX0_ageHand_10 (by decide) (fun c => absurd c (tn_nle h_i)) (fun _ => ?_)
    refine r_aload_n C dX0_ageHand_13 rfl rfl ?_
    refine r_get C (j := 1) rfl in_X0 (GA_o GA_pG) (by decide) fl_X0_20 rfl rfl dX0_ageHand_14 ?_
    refine r_iload_n C dX0_ageHand_17 rfl rfl ?_
    refine r_iload_n C dX0_ageHand_18 rfl rfl ?_
    refine r_cVi C (c_at1 GA_pG) lk_X0_84 rfl (GA_t1 GA_pG) rfl rfl ⟨(Nat.le_of_ble_eq_true rfl), (Nat.le_of_ble_eq_true rfl), (Nat.le_of_ble_eq_true rfl), (Nat.le_of_ble_eq_true rfl), (Nat.le_of_ble_eq_true rfl)⟩ dX0_ageHand_19 ?_
    refine r_istore C dX0_ageHand_22 (by decide) ?_
    refine r_aload_n C dX0_ageHand_24 rfl rfl ?_
    refine r_get C (j := 0) rfl in_X0 (GA_o GA_pG) (by decide) fl_X0_14 rfl rfl dX0_ageHand_25 ?_
    refine r_iload C dX0_ageHand_28 rfl ?_
    refine r_iconst C (v := 4) dX0_ageHand_30 rfl ?_
    refine r_iconst C (v := 1) dX0_ageHand_31 rfl ?_
    refine r_cVv C (c_increase0 GA_pG) lk_X0_95 rfl (GA_t0 GA_pG) rfl rfl ⟨(Nat.le_of_ble_eq_true rfl), (Nat.le_of_ble_eq_true rfl), (Nat.le_of_ble_eq_true rfl), (Nat.le_of_ble_eq_true rfl), (Nat.le_of_ble_eq_true rfl)⟩ dX0_ageHand_32 ?_
    refine r_aload_n C dX0_ageHand_35 rfl rfl ?_
    refine r_get C (j := 12) rfl in_X0 (GA_o GA_pG) (by decide) fl_X0_32 rfl rfl dX0_ageHand_36 ?_
    refine r_if_le C 67 dX0_ageHand_39 (by decide) (fun c_39 => ?_) (fun c_39 => ?_)
    · have e_39 := i32_nlt c_39
      refine r_iinc C (v := 1) dX0_ageHand_67 rfl rfl (by decide) ?_
      refine r_goto C 8 dX0_ageHand_70 (by decide) ?_
      refine V.heap (h2 := (pG G h g (g_age S a (i + 1)))) (by simp only [pG_pG]; exact congrArg (pG G h g) (by simp only [g_age]; simp [g_age1, g_hand, c_39, e_39])) ?_
      refine V.sub [(0, .ref g), (1, .int a), (2, .int (g_held S a)), (3, .int (nI (i + 1)))] ⟨rfl, rfl, rfl, (by rw [← nI_1 i]; rfl), trivial⟩ ?_
      exact ih_i
    · have e_39 := i32_lt c_39
      refine r_aload_n C dX0_ageHand_42 rfl rfl ?_
      refine r_get C (j := 0) rfl in_X0 (GA_o GA_pG) (by decide) fl_X0_14 rfl rfl dX0_ageHand_43 ?_
      refine r_iload C dX0_ageHand_46 rfl ?_
      refine r_iconst C (v := 4) dX0_ageHand_48 rfl ?_
      refine r_cVi C (c_at0 GA_pG) lk_X0_84 rfl (GA_t0 GA_pG) rfl rfl ⟨(Nat.le_of_ble_eq_true rfl), (Nat.le_of_ble_eq_true rfl), (Nat.le_of_ble_eq_true rfl), (Nat.le_of_ble_eq_true rfl), (Nat.le_of_ble_eq_true rfl)⟩ dX0_ageHand_49 ?_
      refine r_aload_n C dX0_ageHand_52 rfl rfl ?_
      refine r_get C (j := 12) rfl in_X0 (GA_o GA_pG) (by decide) fl_X0_32 rfl rfl dX0_ageHand_53 ?_
      refine r_irem C dX0_ageHand_56 (fun q => by rw [q] at c_39; exact absurd c_39 (by decide)) ?_
      refine r_if_ne C 67 dX0_ageHand_57 (by decide) (fun c_57 => ?_) (fun c_57 => ?_)
      · refine r_iinc C (v := 1) dX0_ageHand_67 rfl rfl (by decide) ?_
        refine r_goto C 8 dX0_ageHand_70 (by decide) ?_
        refine V.heap (h2 := (pG G h g (g_age S a (i + 1)))) (by simp only [pG_pG]; exact congrArg (pG G h g) (by simp only [g_age]; simp [g_age1, g_hand, c_39, e_39, c_57])) ?_
        refine V.sub [(0, .ref g), (1, .int a), (2, .int (g_held S a)), (3, .int (nI (i + 1)))] ⟨rfl, rfl, rfl, (by rw [← nI_1 i]; rfl), trivial⟩ ?_
        exact ih_i
      · refine r_aload_n C dX0_ageHand_60 rfl rfl ?_
        refine r_iload C dX0_ageHand_61 rfl ?_
        refine r_iload_n C dX0_ageHand_63 rfl rfl ?_
        refine r_cVv C (c_X0_rust GA_pG) lk_X0_130 rfl (GA_o GA_pG) rfl rfl ⟨(Nat.le_of_ble_eq_true rfl), (Nat.le_of_ble_eq_true rfl), (Nat.le_of_ble_eq_true rfl), (Nat.le_of_ble_eq_true rfl), (Nat.le_of_ble_eq_true rfl)⟩ dX0_ageHand_64 ?_
        refine r_iinc C (v := 1) dX0_ageHand_67 rfl rfl (by decide) ?_
        refine r_goto C 8 dX0_ageHand_70 (by decide) ?_
        refine V.heap (h2 := (pG G h g (g_age S a (i + 1)))) (by simp only [pG_pG]; exact congrArg (pG G h g) (by simp only [g_age]; simp [g_age1, g_hand, c_39, e_39, c_57])) ?_
        refine V.sub [(0, .ref g), (1, .int a), (2, .int (g_held S a)), (3, .int (nI (i + 1)))] ⟨rfl, rfl, rfl, (by rw [← nI_1 i]; rfl), trivial⟩ ?_
        exact ih_i

set_option maxHeartbeats 800000 in
set_option maxRecDepth 100000 in
theorem c_X0_endTurn {G : ga_} {l : Launch} {h : HP} {sz : Nat} {g : Nat} {S : gS}  (w : GA G h g S)  : Mf G l yX0_endTurn cX0_endTurn 2 (some .int) 3 71 0 0 [.ref g] h sz (some (.int (g_endA S))) (pG G h g (g_end S)) sz := by
  refine Mg.ofV [(0, .ref g)] (by decide) (Nat.le_of_ble_eq_true rfl) rfl ?_
  intro p e s m args below meth c C
  refine r_aload_n C dX0_endTurn_0 rfl rfl ?_
  refine r_dup C dX0_endTurn_1 rfl ?_
  refine r_get C (j := 8) rfl in_X0 (GA_o w) (by decide) fl_X0_49 rfl rfl dX0_endTurn_2 ?_
  refine r_iconst C (v := 1) dX0_endTurn_5 rfl ?_
  refine r_iadd C dX0_endTurn_6 ?_
  refine r_put C (j := 8) tyX0 tyX0_ok nmX0 rfl in_X0 (GA_o w) (by decide) fl_X0_49 rfl rfl rfl (by first | rfl | decide) (by first | rfl | decide) (Nat.le_of_ble_eq_true rfl) dX0_endTurn_7 ?_
  refine V.heap (pG_num w 3 _ rfl) ?_
  refine r_aload_n C dX0_endTurn_10 rfl rfl ?_
  refine r_aload_n C dX0_endTurn_11 rfl rfl ?_
  refine r_get C (j := 6) rfl in_X0 (GA_o GA_pG) (by decide) fl_X0_43 rfl rfl dX0_endTurn_12 ?_
  refine r_cVi C (c_X0_heldBy GA_pG) lk_X0_92 rfl (GA_o GA_pG) rfl rfl ⟨(Nat.le_of_ble_eq_true rfl), (Nat.le_of_ble_eq_true rfl), (Nat.le_of_ble_eq_true rfl), (Nat.le_of_ble_eq_true rfl), (Nat.le_of_ble_eq_true rfl)⟩ dX0_endTurn_15 ?_
  refine r_if_eq C 32 dX0_endTurn_18 (by decide) (fun c_18 => ?_) (fun c_18 => ?_)
  · refine r_iconst C (v := 1) dX0_endTurn_32 rfl ?_
    refine r_goto C 37 dX0_endTurn_33 (by decide) ?_
    refine r_istore_n C dX0_endTurn_37 rfl (by decide) ?_
    refine r_aload_n C dX0_endTurn_38 rfl rfl ?_
    refine r_aload_n C dX0_endTurn_39 rfl rfl ?_
    refine r_get C (j := 6) rfl in_X0 (GA_o GA_pG) (by decide) fl_X0_43 rfl rfl dX0_endTurn_40 ?_
    refine r_cVv C (c_X0_ageHand GA_pG) lk_X0_127 rfl (GA_o GA_pG) rfl rfl ⟨(Nat.le_of_ble_eq_true rfl), (Nat.le_of_ble_eq_true rfl), (Nat.le_of_ble_eq_true rfl), (Nat.le_of_ble_eq_true rfl), (Nat.le_of_ble_eq_true rfl)⟩ dX0_endTurn_43 ?_
    refine r_iload_n C dX0_endTurn_46 rfl rfl ?_
    refine r_if_eq C 58 dX0_endTurn_47 (by decide) (fun c => absurd c (by decide)) (fun _ => ?_)
    refine r_aload_n C dX0_endTurn_50 rfl rfl ?_
    refine r_iconst C (v := -1) dX0_endTurn_51 rfl ?_
    refine r_put C (j := 6) tyX0 tyX0_ok nmX0 rfl in_X0 (GA_o GA_pG) (by decide) fl_X0_43 rfl rfl rfl (by first | rfl | decide) (by first | rfl | decide) (Nat.le_of_ble_eq_true rfl) dX0_endTurn_52 ?_
    refine V.heap (pG_num GA_pG 1 _ rfl) ?_
    refine r_bipush C (v := 11) dX0_endTurn_55 rfl ?_
    exact r_iret C rfl (Nat.le_of_ble_eq_true rfl) (Nat.le_of_ble_eq_true rfl) ⟨by simp [g_end, g_endA, g_ended, g_end0, g_next, c_18], by (try simp only [pG_pG]); exact congrArg (pG G h g) (by simp [g_end, g_endA, g_ended, g_end0, g_next, c_18]), rfl⟩ dX0_endTurn_57
  · refine r_aload_n C dX0_endTurn_21 rfl rfl ?_
    refine r_get C (j := 9) rfl in_X0 (GA_o GA_pG) (by decide) fl_X0_52 rfl rfl dX0_endTurn_22 ?_
    refine r_aload_n C dX0_endTurn_25 rfl rfl ?_
    refine r_get C (j := 5) rfl in_X0 (GA_o GA_pG) (by decide) fl_X0_40 rfl rfl dX0_endTurn_26 ?_
    refine r_icmp_lt C 36 dX0_endTurn_29 (by decide) (fun c_29 => ?_) (fun c_29 => ?_)
    · have e_29 := i32_nle c_29
      refine r_iconst C (v := 0) dX0_endTurn_36 rfl ?_
      refine r_istore_n C dX0_endTurn_37 rfl (by decide) ?_
      refine r_aload_n C dX0_endTurn_38 rfl rfl ?_
      refine r_aload_n C dX0_endTurn_39 rfl rfl ?_
      refine r_get C (j := 6) rfl in_X0 (GA_o GA_pG) (by decide) fl_X0_43 rfl rfl dX0_endTurn_40 ?_
      refine r_cVv C (c_X0_ageHand GA_pG) lk_X0_127 rfl (GA_o GA_pG) rfl rfl ⟨(Nat.le_of_ble_eq_true rfl), (Nat.le_of_ble_eq_true rfl), (Nat.le_of_ble_eq_true rfl), (Nat.le_of_ble_eq_true rfl), (Nat.le_of_ble_eq_true rfl)⟩ dX0_endTurn_43 ?_
      refine r_iload_n C dX0_endTurn_46 rfl rfl ?_
      refine r_if_eq C 58 dX0_endTurn_47 (by decide) (fun _ => ?_) (fun c => absurd rfl c)
      refine r_aload_n C dX0_endTurn_58 rfl rfl ?_
      refine r_aload_n C dX0_endTurn_59 rfl rfl ?_
      refine r_get C (j := 6) rfl in_X0 (GA_o GA_pG) (by decide) fl_X0_43 rfl rfl dX0_endTurn_60 ?_
      refine r_iconst C (v := 1) dX0_endTurn_63 rfl ?_
      refine r_iadd C dX0_endTurn_64 ?_
      refine r_aload_n C dX0_endTurn_65 rfl rfl ?_
      refine r_get C (j := 5) rfl in_X0 (GA_o GA_pG) (by decide) fl_X0_40 rfl rfl dX0_endTurn_66 ?_
      refine r_icmp_ge C 81 dX0_endTurn_69 (by decide) (fun c_69 => ?_) (fun c_69 => ?_)
      · have e_69 := i32_nlt c_69
        refine r_iconst C (v := 0) dX0_endTurn_81 rfl ?_
        refine r_put C (j := 6) tyX0 tyX0_ok nmX0 rfl in_X0 (GA_o GA_pG) (by decide) fl_X0_43 rfl rfl rfl (by first | rfl | decide) (by first | rfl | decide) (Nat.le_of_ble_eq_true rfl) dX0_endTurn_82 ?_
        refine V.heap (pG_num GA_pG 1 _ rfl) ?_
        refine r_bipush C (v := 10) dX0_endTurn_85 rfl ?_
        exact r_iret C rfl (Nat.le_of_ble_eq_true rfl) (Nat.le_of_ble_eq_true rfl) ⟨by simp [g_end, g_endA, g_ended, g_end0, g_next, c_18, c_29, e_29, c_69, e_69], by (try simp only [pG_pG]); exact congrArg (pG G h g) (by simp [g_end, g_endA, g_ended, g_end0, g_next, c_18, c_29, e_29, c_69, e_69]), rfl⟩ dX0_endTurn_87
      · have e_69 := i32_lt c_69
        refine r_aload_n C dX0_endTurn_72 rfl rfl ?_
        refine r_get C (j := 6) rfl in_X0 (GA_o GA_pG) (by decide) fl_X0_43 rfl rfl dX0_endTurn_73 ?_
        refine r_iconst C (v := 1) dX0_endTurn_76 rfl ?_
        refine r_iadd C dX0_endTurn_77 ?_
        refine r_goto C 82 dX0_endTurn_78 (by decide) ?_
        refine r_put C (j := 6) tyX0 tyX0_ok nmX0 rfl in_X0 (GA_o GA_pG) (by decide) fl_X0_43 rfl rfl rfl (by first | rfl | decide) (by first | rfl | decide) (Nat.le_of_ble_eq_true rfl) dX0_endTurn_82 ?_
        refine V.heap (pG_num GA_pG 1 _ rfl) ?_
        refine r_bipush C (v := 10) dX0_endTurn_85 rfl ?_
        exact r_iret C rfl (Nat.le_of_ble_eq_true rfl) (Nat.le_of_ble_eq_true rfl) ⟨by simp [g_end, g_endA, g_ended, g_end0, g_next, c_18, c_29, e_29, c_69, e_69], by (try simp only [pG_pG]); exact congrArg (pG G h g) (by simp [g_end, g_endA, g_ended, g_end0, g_next, c_18, c_29, e_29, c_69, e_69]), rfl⟩ dX0_endTurn_87
    · have e_29 := i32_le c_29
      refine r_iconst C (v := 1) dX0_endTurn_32 rfl ?_
      refine r_goto C 37 dX0_endTurn_33 (by decide) ?_
      refine r_istore_n C dX0_endTurn_37 rfl (by decide) ?_
      refine r_aload_n C dX0_endTurn_38 rfl rfl ?_
      refine r_aload_n C dX0_endTurn_39 rfl rfl ?_
      refine r_get C (j := 6) rfl in_X0 (GA_o GA_pG) (by decide) fl_X0_43 rfl rfl dX0_endTurn_40 ?_
      refine r_cVv C (c_X0_ageHand GA_pG) lk_X0_127 rfl (GA_o GA_pG) rfl rfl ⟨(Nat.le_of_ble_eq_true rfl), (Nat.le_of_ble_eq_true rfl), (Nat.le_of_ble_eq_true rfl), (Nat.le_of_ble_eq_true rfl), (Nat.le_of_ble_eq_true rfl)⟩ dX0_endTurn_43 ?_
      refine r_iload_n C dX0_endTurn_46 rfl rfl ?_
      refine r_if_eq C 58 dX0_endTurn_47 (by decide) (fun c => absurd c (by decide)) (fun _ => ?_)
      refine r_aload_n C dX0_endTurn_50 rfl rfl ?_
      refine r_iconst C (v := -1) dX0_endTurn_51 rfl ?_
      refine r_put C (j := 6) tyX0 tyX0_ok nmX0 rfl in_X0 (GA_o GA_pG) (by decide) fl_X0_43 rfl rfl rfl (by first | rfl | decide) (by first | rfl | decide) (Nat.le_of_ble_eq_true rfl) dX0_endTurn_52 ?_
      refine V.heap (pG_num GA_pG 1 _ rfl) ?_
      refine r_bipush C (v := 11) dX0_endTurn_55 rfl ?_
      exact r_iret C rfl (Nat.le_of_ble_eq_true rfl) (Nat.le_of_ble_eq_true rfl) ⟨by simp [g_end, g_endA, g_ended, g_end0, g_next, c_18, c_29, e_29], by (try simp only [pG_pG]); exact congrArg (pG G h g) (by simp [g_end, g_endA, g_ended, g_end0, g_next, c_18, c_29, e_29]), rfl⟩ dX0_endTurn_57

set_option maxHeartbeats 800000 in
set_option maxRecDepth 100000 in
theorem c_X0_takeFromStock {G : ga_} {l : Launch} {h : HP} {sz : Nat} {g : Nat} {S : gS} {a : Int32}  (w : GA G h g S)  : Mf G l yX0_takeFromStock cX0_takeFromStock 3 (some .int) 2 44 0 0 [.ref g, .int a] h sz (some (.int (g_takeT S a))) (pG G h g (g_take S a)) sz := by
  refine Mg.ofV [(0, .ref g), (1, .int a)] (by decide) (Nat.le_of_ble_eq_true rfl) rfl ?_
  intro p e s m args below meth c C
  refine r_aload_n C dX0_takeFromStock_0 rfl rfl ?_
  refine r_get C (j := 4) rfl in_X0 (GA_o w) (by decide) fl_X0_29 rfl rfl dX0_takeFromStock_1 ?_
  refine r_iconst C (v := 0) dX0_takeFromStock_4 rfl ?_
  refine r_aload_n C dX0_takeFromStock_5 rfl rfl ?_
  refine r_get C (j := 7) rfl in_X0 (GA_o w) (by decide) fl_X0_46 rfl rfl dX0_takeFromStock_6 ?_
  refine r_cVi C (c_at4 w) lk_X0_84 rfl (GA_t4 w) rfl rfl ⟨(Nat.le_of_ble_eq_true rfl), (Nat.le_of_ble_eq_true rfl), (Nat.le_of_ble_eq_true rfl), (Nat.le_of_ble_eq_true rfl), (Nat.le_of_ble_eq_true rfl)⟩ dX0_takeFromStock_9 ?_
  refine r_istore_n C dX0_takeFromStock_12 rfl (by decide) ?_
  refine r_aload_n C dX0_takeFromStock_13 rfl rfl ?_
  refine r_dup C dX0_takeFromStock_14 rfl ?_
  refine r_get C (j := 7) rfl in_X0 (GA_o w) (by decide) fl_X0_46 rfl rfl dX0_takeFromStock_15 ?_
  refine r_iconst C (v := 1) dX0_takeFromStock_18 rfl ?_
  refine r_iadd C dX0_takeFromStock_19 ?_
  refine r_put C (j := 7) tyX0 tyX0_ok nmX0 rfl in_X0 (GA_o w) (by decide) fl_X0_46 rfl rfl rfl (by first | rfl | decide) (by first | rfl | decide) (Nat.le_of_ble_eq_true rfl) dX0_takeFromStock_20 ?_
  refine V.heap (pG_num w 2 _ rfl) ?_
  refine r_aload_n C dX0_takeFromStock_23 rfl rfl ?_
  refine r_get C (j := 0) rfl in_X0 (GA_o GA_pG) (by decide) fl_X0_14 rfl rfl dX0_takeFromStock_24 ?_
  refine r_iload_n C dX0_takeFromStock_27 rfl rfl ?_
  refine r_iconst C (v := 2) dX0_takeFromStock_28 rfl ?_
  refine r_iconst C (v := 1) dX0_takeFromStock_29 rfl ?_
  refine r_cVv C (c_put0 GA_pG) lk_X0_77 rfl (GA_t0 GA_pG) rfl rfl ⟨(Nat.le_of_ble_eq_true rfl), (Nat.le_of_ble_eq_true rfl), (Nat.le_of_ble_eq_true rfl), (Nat.le_of_ble_eq_true rfl), (Nat.le_of_ble_eq_true rfl)⟩ dX0_takeFromStock_30 ?_
  refine r_aload_n C dX0_takeFromStock_33 rfl rfl ?_
  refine r_get C (j := 0) rfl in_X0 (GA_o GA_pG) (by decide) fl_X0_14 rfl rfl dX0_takeFromStock_34 ?_
  refine r_iload_n C dX0_takeFromStock_37 rfl rfl ?_
  refine r_iconst C (v := 3) dX0_takeFromStock_38 rfl ?_
  refine r_iload_n C dX0_takeFromStock_39 rfl rfl ?_
  refine r_cVv C (c_put0 GA_pG) lk_X0_77 rfl (GA_t0 GA_pG) rfl rfl ⟨(Nat.le_of_ble_eq_true rfl), (Nat.le_of_ble_eq_true rfl), (Nat.le_of_ble_eq_true rfl), (Nat.le_of_ble_eq_true rfl), (Nat.le_of_ble_eq_true rfl)⟩ dX0_takeFromStock_40 ?_
  refine r_aload_n C dX0_takeFromStock_43 rfl rfl ?_
  refine r_get C (j := 1) rfl in_X0 (GA_o GA_pG) (by decide) fl_X0_20 rfl rfl dX0_takeFromStock_44 ?_
  refine r_iload_n C dX0_takeFromStock_47 rfl rfl ?_
  refine r_aload_n C dX0_takeFromStock_48 rfl rfl ?_
  refine r_iload_n C dX0_takeFromStock_49 rfl rfl ?_
  refine r_cVi C (c_X0_heldBy GA_pG) lk_X0_92 rfl (GA_o GA_pG) rfl rfl ⟨(Nat.le_of_ble_eq_true rfl), (Nat.le_of_ble_eq_true rfl), (Nat.le_of_ble_eq_true rfl), (Nat.le_of_ble_eq_true rfl), (Nat.le_of_ble_eq_true rfl)⟩ dX0_takeFromStock_50 ?_
  refine r_iload_n C dX0_takeFromStock_53 rfl rfl ?_
  refine r_cVv C (c_put1 GA_pG) lk_X0_77 rfl (GA_t1 GA_pG) rfl rfl ⟨(Nat.le_of_ble_eq_true rfl), (Nat.le_of_ble_eq_true rfl), (Nat.le_of_ble_eq_true rfl), (Nat.le_of_ble_eq_true rfl), (Nat.le_of_ble_eq_true rfl)⟩ dX0_takeFromStock_54 ?_
  refine r_aload_n C dX0_takeFromStock_57 rfl rfl ?_
  refine r_get C (j := 2) rfl in_X0 (GA_o GA_pG) (by decide) fl_X0_23 rfl rfl dX0_takeFromStock_58 ?_
  refine r_iload_n C dX0_takeFromStock_61 rfl rfl ?_
  refine r_iconst C (v := 0) dX0_takeFromStock_62 rfl ?_
  refine r_iconst C (v := 1) dX0_takeFromStock_63 rfl ?_
  refine r_cVv C (c_increase2 GA_pG) lk_X0_95 rfl (GA_t2 GA_pG) rfl rfl ⟨(Nat.le_of_ble_eq_true rfl), (Nat.le_of_ble_eq_true rfl), (Nat.le_of_ble_eq_true rfl), (Nat.le_of_ble_eq_true rfl), (Nat.le_of_ble_eq_true rfl)⟩ dX0_takeFromStock_64 ?_
  refine r_iload_n C dX0_takeFromStock_67 rfl rfl ?_
  exact r_iret C rfl (Nat.le_of_ble_eq_true rfl) (Nat.le_of_ble_eq_true rfl) ⟨rfl, by simp only [pG_pG]; rfl, rfl⟩ dX0_takeFromStock_68

set_option maxHeartbeats 800000 in
set_option maxRecDepth 100000 in
theorem c_X0_takeFromHand {G : ga_} {l : Launch} {h : HP} {sz : Nat} {g : Nat} {S : gS} {a b : Int32} {q : Nat} (w : GA G h g S) (hb : b = nI q) (hq : q < 2147483648) : Mf G l yX0_takeFromHand cX0_takeFromHand 6 (some .int) 2 44 0 0 [.ref g, .int a, .int b] h sz (some (.int (tAt 28 112 (S 1) a b))) (pG G h g (g_from S a q)) sz := by
  refine Mg.ofV [(0, .ref g), (1, .int a), (2, .int b)] (by decide) (Nat.le_of_ble_eq_true rfl) rfl ?_
  intro p e s m args below meth c C
  refine r_aload_n C dX0_takeFromHand_0 rfl rfl ?_
  refine r_get C (j := 1) rfl in_X0 (GA_o w) (by decide) fl_X0_20 rfl rfl dX0_takeFromHand_1 ?_
  refine r_iload_n C dX0_takeFromHand_4 rfl rfl ?_
  refine r_iload_n C dX0_takeFromHand_5 rfl rfl ?_
  refine r_cVi C (c_at1 w) lk_X0_84 rfl (GA_t1 w) rfl rfl ⟨(Nat.le_of_ble_eq_true rfl), (Nat.le_of_ble_eq_true rfl), (Nat.le_of_ble_eq_true rfl), (Nat.le_of_ble_eq_true rfl), (Nat.le_of_ble_eq_true rfl)⟩ dX0_takeFromHand_6 ?_
  refine r_istore_n C dX0_takeFromHand_9 rfl (by decide) ?_
  refine r_aload_n C dX0_takeFromHand_10 rfl rfl ?_
  refine r_iload_n C dX0_takeFromHand_11 rfl rfl ?_
  refine r_cVi C (c_X0_heldBy w) lk_X0_92 rfl (GA_o w) rfl rfl ⟨(Nat.le_of_ble_eq_true rfl), (Nat.le_of_ble_eq_true rfl), (Nat.le_of_ble_eq_true rfl), (Nat.le_of_ble_eq_true rfl), (Nat.le_of_ble_eq_true rfl)⟩ dX0_takeFromHand_12 ?_
  refine r_iconst C (v := 1) dX0_takeFromHand_15 rfl ?_
  refine r_isub C dX0_takeFromHand_16 ?_
  refine r_istore C dX0_takeFromHand_17 (by decide) ?_
  refine r_iload_n C dX0_takeFromHand_19 rfl rfl ?_
  refine r_istore C dX0_takeFromHand_20 (by decide) ?_
  refine V.heap (pG_id w).symm ?_
  refine V.sub [(0, .ref g), (1, .int a), (2, .int b), (3, .int (tAt 28 112 (S 1) a b)), (4, .int (g_held S a - 1)), (5, .int (nI (q + 0)))] ⟨rfl, rfl, rfl, rfl, rfl, by rw [hb]; rfl, trivial⟩ ?_
  refine down_ (P := fun i => V p l e ⟨2, 0, 0, 44⟩ s m args below meth c G 6 (Qg G below args s 0 0 (fun v1 h1 s1 => v1 = (some (.int (tAt 28 112 (S 1) a b))) ∧ h1 = (pG G h g (g_from S a q)) ∧ s1 = sz)) (pG G h g (g_th S a q i)) sz 0 0 22 [(0, .ref g), (1, .int a), (2, .int b), (3, .int (tAt 28 112 (S 1) a b)), (4, .int (g_held S a - 1)), (5, .int (nI (q + i)))] []) ((g_held S a - 1).toNatClampNeg - q) ?_ ?_
  · refine r_iload C dX0_takeFromHand_22 rfl ?_
    refine r_iload C dX0_takeFromHand_24 rfl ?_
    refine r_icmp_ge C 57 dX0_takeFromHand_26 (by decide) (fun _ => ?_) (fun c => absurd (tn_le2 (by have := tn_lt (g_held S a - 1); omega) (by omega)) c)
    refine r_aload_n C dX0_takeFromHand_57 rfl rfl ?_
    refine r_get C (j := 2) rfl in_X0 (GA_o GA_pG) (by decide) fl_X0_23 rfl rfl dX0_takeFromHand_58 ?_
    refine r_iload_n C dX0_takeFromHand_61 rfl rfl ?_
    refine r_iconst C (v := 0) dX0_takeFromHand_62 rfl ?_
    refine r_iconst C (v := -1) dX0_takeFromHand_63 rfl ?_
    refine r_cVv C (c_increase2 GA_pG) lk_X0_95 rfl (GA_t2 GA_pG) rfl rfl ⟨(Nat.le_of_ble_eq_true rfl), (Nat.le_of_ble_eq_true rfl), (Nat.le_of_ble_eq_true rfl), (Nat.le_of_ble_eq_true rfl), (Nat.le_of_ble_eq_true rfl)⟩ dX0_takeFromHand_64 ?_
    refine r_iload_n C dX0_takeFromHand_67 rfl rfl ?_
    exact r_iret C rfl (Nat.le_of_ble_eq_true rfl) (Nat.le_of_ble_eq_true rfl) ⟨rfl, by simp only [pG_pG]; rfl, rfl⟩ dX0_takeFromHand_68
  · intro i h_i ih_i
    refine r_iload C dX0_takeFromHand_22 rfl ?_
    refine r_iload C dX0_takeFromHand_24 rfl ?_
    refine r_icmp_ge C 57 dX0_takeFromHand_26 (by decide) (fun c => absurd c (tn_nle (by omega))) (fun _ => ?_)
    refine r_aload_n C dX0_takeFromHand_29 rfl rfl ?_
    refine r_get C (j := 1) rfl in_X0 (GA_o GA_pG) (by decide) fl_X0_20 rfl rfl dX0_takeFromHand_30 ?_
    refine r_iload_n C dX0_takeFromHand_33 rfl rfl ?_
    refine r_iload C dX0_takeFromHand_34 rfl ?_
    refine r_aload_n C dX0_takeFromHand_36 rfl rfl ?_
    refine r_get C (j := 1) rfl in_X0 (GA_o GA_pG) (by decide) fl_X0_20 rfl rfl dX0_takeFromHand_37 ?_
    refine r_iload_n C dX0_takeFromHand_40 rfl rfl ?_
    refine r_iload C dX0_takeFromHand_41 rfl ?_
    refine r_iconst C (v := 1) dX0_takeFromHand_43 rfl ?_
    refine r_iadd C dX0_takeFromHand_44 ?_
    refine r_cVi C (c_at1 GA_pG) lk_X0_84 rfl (GA_t1 GA_pG) rfl rfl ⟨(Nat.le_of_ble_eq_true rfl), (Nat.le_of_ble_eq_true rfl), (Nat.le_of_ble_eq_true rfl), (Nat.le_of_ble_eq_true rfl), (Nat.le_of_ble_eq_true rfl)⟩ dX0_takeFromHand_45 ?_
    refine r_cVv C (c_put1 GA_pG) lk_X0_77 rfl (GA_t1 GA_pG) rfl rfl ⟨(Nat.le_of_ble_eq_true rfl), (Nat.le_of_ble_eq_true rfl), (Nat.le_of_ble_eq_true rfl), (Nat.le_of_ble_eq_true rfl), (Nat.le_of_ble_eq_true rfl)⟩ dX0_takeFromHand_48 ?_
    refine r_iinc C (v := 1) dX0_takeFromHand_51 rfl rfl (by decide) ?_
    refine r_goto C 22 dX0_takeFromHand_54 (by decide) ?_
    refine V.heap (h2 := (pG G h g (g_th S a q (i + 1)))) (by simp only [pG_pG]; rfl) ?_
    refine V.sub [(0, .ref g), (1, .int a), (2, .int b), (3, .int (tAt 28 112 (S 1) a b)), (4, .int (g_held S a - 1)), (5, .int (nI (q + (i + 1))))] ⟨rfl, rfl, rfl, rfl, rfl, by rw [show q + (i + 1) = q + i + 1 by omega, ← nI_1 (q + i)]; rfl, trivial⟩ ?_
    exact ih_i

set_option maxHeartbeats 800000 in
set_option maxRecDepth 100000 in
theorem c_X0_putAtEnd {G : ga_} {l : Launch} {h : HP} {sz : Nat} {g : Nat} {S : gS} {a b d : Int32}  (w : GA G h g S)  : Mf G l yX0_putAtEnd cX0_putAtEnd 6 none 1 24 0 0 [.ref g, .int a, .int b, .int d] h sz none (pG G h g (g_putE S a b d)) sz := by
  refine Mg.ofV [(0, .ref g), (1, .int a), (2, .int b), (3, .int d)] (by decide) (Nat.le_of_ble_eq_true rfl) rfl ?_
  intro p e s m args below meth c C
  refine r_aload_n C dX0_putAtEnd_0 rfl rfl ?_
  refine r_get C (j := 0) rfl in_X0 (GA_o w) (by decide) fl_X0_14 rfl rfl dX0_putAtEnd_1 ?_
  refine r_iload_n C dX0_putAtEnd_4 rfl rfl ?_
  refine r_iconst C (v := 0) dX0_putAtEnd_5 rfl ?_
  refine r_cVi C (c_at0 w) lk_X0_84 rfl (GA_t0 w) rfl rfl ⟨(Nat.le_of_ble_eq_true rfl), (Nat.le_of_ble_eq_true rfl), (Nat.le_of_ble_eq_true rfl), (Nat.le_of_ble_eq_true rfl), (Nat.le_of_ble_eq_true rfl)⟩ dX0_putAtEnd_6 ?_
  refine r_istore C dX0_putAtEnd_9 (by decide) ?_
  refine r_aload_n C dX0_putAtEnd_11 rfl rfl ?_
  refine r_get C (j := 0) rfl in_X0 (GA_o w) (by decide) fl_X0_14 rfl rfl dX0_putAtEnd_12 ?_
  refine r_iload_n C dX0_putAtEnd_15 rfl rfl ?_
  refine r_iconst C (v := 1) dX0_putAtEnd_16 rfl ?_
  refine r_cVi C (c_at0 w) lk_X0_84 rfl (GA_t0 w) rfl rfl ⟨(Nat.le_of_ble_eq_true rfl), (Nat.le_of_ble_eq_true rfl), (Nat.le_of_ble_eq_true rfl), (Nat.le_of_ble_eq_true rfl), (Nat.le_of_ble_eq_true rfl)⟩ dX0_putAtEnd_17 ?_
  refine r_istore C dX0_putAtEnd_20 (by decide) ?_
  refine r_aload_n C dX0_putAtEnd_22 rfl rfl ?_
  refine r_get C (j := 3) rfl in_X0 (GA_o w) (by decide) fl_X0_26 rfl rfl dX0_putAtEnd_23 ?_
  refine r_iload_n C dX0_putAtEnd_26 rfl rfl ?_
  refine r_iconst C (v := 0) dX0_putAtEnd_27 rfl ?_
  refine r_cVi C (c_at3 w) lk_X0_84 rfl (GA_t3 w) rfl rfl ⟨(Nat.le_of_ble_eq_true rfl), (Nat.le_of_ble_eq_true rfl), (Nat.le_of_ble_eq_true rfl), (Nat.le_of_ble_eq_true rfl), (Nat.le_of_ble_eq_true rfl)⟩ dX0_putAtEnd_28 ?_
  refine r_if_ne C 59 dX0_putAtEnd_31 (by decide) (fun c_31 => ?_) (fun c_31 => ?_)
  · refine r_aload_n C dX0_putAtEnd_59 rfl rfl ?_
    refine r_get C (j := 3) rfl in_X0 (GA_o w) (by decide) fl_X0_26 rfl rfl dX0_putAtEnd_60 ?_
    refine r_iload_n C dX0_putAtEnd_63 rfl rfl ?_
    refine r_iconst C (v := 1) dX0_putAtEnd_64 rfl ?_
    refine r_iload_n C dX0_putAtEnd_65 rfl rfl ?_
    refine r_iadd C dX0_putAtEnd_66 ?_
    refine r_iload C dX0_putAtEnd_67 rfl ?_
    refine r_aload_n C dX0_putAtEnd_69 rfl rfl ?_
    refine r_get C (j := 3) rfl in_X0 (GA_o w) (by decide) fl_X0_26 rfl rfl dX0_putAtEnd_70 ?_
    refine r_iload_n C dX0_putAtEnd_73 rfl rfl ?_
    refine r_iconst C (v := 1) dX0_putAtEnd_74 rfl ?_
    refine r_iload_n C dX0_putAtEnd_75 rfl rfl ?_
    refine r_iadd C dX0_putAtEnd_76 ?_
    refine r_cVi C (c_at3 w) lk_X0_84 rfl (GA_t3 w) rfl rfl ⟨(Nat.le_of_ble_eq_true rfl), (Nat.le_of_ble_eq_true rfl), (Nat.le_of_ble_eq_true rfl), (Nat.le_of_ble_eq_true rfl), (Nat.le_of_ble_eq_true rfl)⟩ dX0_putAtEnd_77 ?_
    refine r_icmp_ne C 88 dX0_putAtEnd_80 (by decide) (fun c_80 => ?_) (fun c_80 => ?_)
    · refine r_iload C dX0_putAtEnd_88 rfl ?_
      refine r_cVv C (c_put3 w) lk_X0_77 rfl (GA_t3 w) rfl rfl ⟨(Nat.le_of_ble_eq_true rfl), (Nat.le_of_ble_eq_true rfl), (Nat.le_of_ble_eq_true rfl), (Nat.le_of_ble_eq_true rfl), (Nat.le_of_ble_eq_true rfl)⟩ dX0_putAtEnd_90 ?_
      refine r_aload_n C dX0_putAtEnd_93 rfl rfl ?_
      refine r_get C (j := 3) rfl in_X0 (GA_o GA_pG) (by decide) fl_X0_26 rfl rfl dX0_putAtEnd_94 ?_
      refine r_iload_n C dX0_putAtEnd_97 rfl rfl ?_
      refine r_iconst C (v := 0) dX0_putAtEnd_98 rfl ?_
      refine r_iconst C (v := 1) dX0_putAtEnd_99 rfl ?_
      refine r_cVv C (c_increase3 GA_pG) lk_X0_95 rfl (GA_t3 GA_pG) rfl rfl ⟨(Nat.le_of_ble_eq_true rfl), (Nat.le_of_ble_eq_true rfl), (Nat.le_of_ble_eq_true rfl), (Nat.le_of_ble_eq_true rfl), (Nat.le_of_ble_eq_true rfl)⟩ dX0_putAtEnd_100 ?_
      refine r_aload_n C dX0_putAtEnd_103 rfl rfl ?_
      refine r_get C (j := 3) rfl in_X0 (GA_o GA_pG) (by decide) fl_X0_26 rfl rfl dX0_putAtEnd_104 ?_
      refine r_iload_n C dX0_putAtEnd_107 rfl rfl ?_
      refine r_iconst C (v := 3) dX0_putAtEnd_108 rfl ?_
      refine r_iload_n C dX0_putAtEnd_109 rfl rfl ?_
      refine r_cVv C (c_put3 GA_pG) lk_X0_77 rfl (GA_t3 GA_pG) rfl rfl ⟨(Nat.le_of_ble_eq_true rfl), (Nat.le_of_ble_eq_true rfl), (Nat.le_of_ble_eq_true rfl), (Nat.le_of_ble_eq_true rfl), (Nat.le_of_ble_eq_true rfl)⟩ dX0_putAtEnd_110 ?_
      exact r_vret C rfl (Nat.le_of_ble_eq_true rfl) (Nat.le_of_ble_eq_true rfl) ⟨rfl, by (try simp only [pG_pG]); exact congrArg (pG G h g) (by simp [g_putE, c_31, c_80]), rfl⟩ dX0_putAtEnd_113
    · refine r_iload C dX0_putAtEnd_83 rfl ?_
      refine r_goto C 90 dX0_putAtEnd_85 (by decide) ?_
      refine r_cVv C (c_put3 w) lk_X0_77 rfl (GA_t3 w) rfl rfl ⟨(Nat.le_of_ble_eq_true rfl), (Nat.le_of_ble_eq_true rfl), (Nat.le_of_ble_eq_true rfl), (Nat.le_of_ble_eq_true rfl), (Nat.le_of_ble_eq_true rfl)⟩ dX0_putAtEnd_90 ?_
      refine r_aload_n C dX0_putAtEnd_93 rfl rfl ?_
      refine r_get C (j := 3) rfl in_X0 (GA_o GA_pG) (by decide) fl_X0_26 rfl rfl dX0_putAtEnd_94 ?_
      refine r_iload_n C dX0_putAtEnd_97 rfl rfl ?_
      refine r_iconst C (v := 0) dX0_putAtEnd_98 rfl ?_
      refine r_iconst C (v := 1) dX0_putAtEnd_99 rfl ?_
      refine r_cVv C (c_increase3 GA_pG) lk_X0_95 rfl (GA_t3 GA_pG) rfl rfl ⟨(Nat.le_of_ble_eq_true rfl), (Nat.le_of_ble_eq_true rfl), (Nat.le_of_ble_eq_true rfl), (Nat.le_of_ble_eq_true rfl), (Nat.le_of_ble_eq_true rfl)⟩ dX0_putAtEnd_100 ?_
      refine r_aload_n C dX0_putAtEnd_103 rfl rfl ?_
      refine r_get C (j := 3) rfl in_X0 (GA_o GA_pG) (by decide) fl_X0_26 rfl rfl dX0_putAtEnd_104 ?_
      refine r_iload_n C dX0_putAtEnd_107 rfl rfl ?_
      refine r_iconst C (v := 3) dX0_putAtEnd_108 rfl ?_
      refine r_iload_n C dX0_putAtEnd_109 rfl rfl ?_
      refine r_cVv C (c_put3 GA_pG) lk_X0_77 rfl (GA_t3 GA_pG) rfl rfl ⟨(Nat.le_of_ble_eq_true rfl), (Nat.le_of_ble_eq_true rfl), (Nat.le_of_ble_eq_true rfl), (Nat.le_of_ble_eq_true rfl), (Nat.le_of_ble_eq_true rfl)⟩ dX0_putAtEnd_110 ?_
      exact r_vret C rfl (Nat.le_of_ble_eq_true rfl) (Nat.le_of_ble_eq_true rfl) ⟨rfl, by (try simp only [pG_pG]); exact congrArg (pG G h g) (by simp [g_putE, c_31, c_80]), rfl⟩ dX0_putAtEnd_113
  · refine r_aload_n C dX0_putAtEnd_34 rfl rfl ?_
    refine r_get C (j := 3) rfl in_X0 (GA_o w) (by decide) fl_X0_26 rfl rfl dX0_putAtEnd_35 ?_
    refine r_iload_n C dX0_putAtEnd_38 rfl rfl ?_
    refine r_iconst C (v := 1) dX0_putAtEnd_39 rfl ?_
    refine r_iload C dX0_putAtEnd_40 rfl ?_
    refine r_cVv C (c_put3 w) lk_X0_77 rfl (GA_t3 w) rfl rfl ⟨(Nat.le_of_ble_eq_true rfl), (Nat.le_of_ble_eq_true rfl), (Nat.le_of_ble_eq_true rfl), (Nat.le_of_ble_eq_true rfl), (Nat.le_of_ble_eq_true rfl)⟩ dX0_putAtEnd_42 ?_
    refine r_aload_n C dX0_putAtEnd_45 rfl rfl ?_
    refine r_get C (j := 3) rfl in_X0 (GA_o GA_pG) (by decide) fl_X0_26 rfl rfl dX0_putAtEnd_46 ?_
    refine r_iload_n C dX0_putAtEnd_49 rfl rfl ?_
    refine r_iconst C (v := 2) dX0_putAtEnd_50 rfl ?_
    refine r_iload C dX0_putAtEnd_51 rfl ?_
    refine r_cVv C (c_put3 GA_pG) lk_X0_77 rfl (GA_t3 GA_pG) rfl rfl ⟨(Nat.le_of_ble_eq_true rfl), (Nat.le_of_ble_eq_true rfl), (Nat.le_of_ble_eq_true rfl), (Nat.le_of_ble_eq_true rfl), (Nat.le_of_ble_eq_true rfl)⟩ dX0_putAtEnd_53 ?_
    refine r_goto C 93 dX0_putAtEnd_56 (by decide) ?_
    refine r_aload_n C dX0_putAtEnd_93 rfl rfl ?_
    refine r_get C (j := 3) rfl in_X0 (GA_o GA_pG) (by decide) fl_X0_26 rfl rfl dX0_putAtEnd_94 ?_
    refine r_iload_n C dX0_putAtEnd_97 rfl rfl ?_
    refine r_iconst C (v := 0) dX0_putAtEnd_98 rfl ?_
    refine r_iconst C (v := 1) dX0_putAtEnd_99 rfl ?_
    refine r_cVv C (c_increase3 GA_pG) lk_X0_95 rfl (GA_t3 GA_pG) rfl rfl ⟨(Nat.le_of_ble_eq_true rfl), (Nat.le_of_ble_eq_true rfl), (Nat.le_of_ble_eq_true rfl), (Nat.le_of_ble_eq_true rfl), (Nat.le_of_ble_eq_true rfl)⟩ dX0_putAtEnd_100 ?_
    refine r_aload_n C dX0_putAtEnd_103 rfl rfl ?_
    refine r_get C (j := 3) rfl in_X0 (GA_o GA_pG) (by decide) fl_X0_26 rfl rfl dX0_putAtEnd_104 ?_
    refine r_iload_n C dX0_putAtEnd_107 rfl rfl ?_
    refine r_iconst C (v := 3) dX0_putAtEnd_108 rfl ?_
    refine r_iload_n C dX0_putAtEnd_109 rfl rfl ?_
    refine r_cVv C (c_put3 GA_pG) lk_X0_77 rfl (GA_t3 GA_pG) rfl rfl ⟨(Nat.le_of_ble_eq_true rfl), (Nat.le_of_ble_eq_true rfl), (Nat.le_of_ble_eq_true rfl), (Nat.le_of_ble_eq_true rfl), (Nat.le_of_ble_eq_true rfl)⟩ dX0_putAtEnd_110 ?_
    exact r_vret C rfl (Nat.le_of_ble_eq_true rfl) (Nat.le_of_ble_eq_true rfl) ⟨rfl, by (try simp only [pG_pG]); exact congrArg (pG G h g) (by simp [g_putE, c_31]), rfl⟩ dX0_putAtEnd_113

set_option maxHeartbeats 800000 in
set_option maxRecDepth 100000 in
theorem c_X0_oilTile {G : ga_} {l : Launch} {h : HP} {sz : Nat} {g : Nat} {S : gS} {a : Int32}  (w : GA G h g S)  : Mf G l yX0_oilTile cX0_oilTile 4 (some .int) 1 24 0 0 [.ref g, .int a] h sz (some (.int (g_oilA S a))) (pG G h g (g_oil S a)) sz := by
  refine Mg.ofV [(0, .ref g), (1, .int a)] (by decide) (Nat.le_of_ble_eq_true rfl) rfl ?_
  intro p e s m args below meth c C
  refine r_aload_n C dX0_oilTile_0 rfl rfl ?_
  refine r_cVi C (c_X0_isOver w) lk_X0_112 rfl (GA_o w) rfl rfl ⟨(Nat.le_of_ble_eq_true rfl), (Nat.le_of_ble_eq_true rfl), (Nat.le_of_ble_eq_true rfl), (Nat.le_of_ble_eq_true rfl), (Nat.le_of_ble_eq_true rfl)⟩ dX0_oilTile_1 ?_
  refine r_if_eq C 9 dX0_oilTile_4 (by decide) (fun c_4 => ?_) (fun c_4 => ?_)
  · have c_4 := bI_f c_4
    refine r_aload_n C dX0_oilTile_9 rfl rfl ?_
    refine r_get C (j := 1) rfl in_X0 (GA_o w) (by decide) fl_X0_20 rfl rfl dX0_oilTile_10 ?_
    refine r_aload_n C dX0_oilTile_13 rfl rfl ?_
    refine r_get C (j := 6) rfl in_X0 (GA_o w) (by decide) fl_X0_43 rfl rfl dX0_oilTile_14 ?_
    refine r_iload_n C dX0_oilTile_17 rfl rfl ?_
    refine r_cVi C (c_at1 w) lk_X0_84 rfl (GA_t1 w) rfl rfl ⟨(Nat.le_of_ble_eq_true rfl), (Nat.le_of_ble_eq_true rfl), (Nat.le_of_ble_eq_true rfl), (Nat.le_of_ble_eq_true rfl), (Nat.le_of_ble_eq_true rfl)⟩ dX0_oilTile_18 ?_
    refine r_istore_n C dX0_oilTile_21 rfl (by decide) ?_
    refine r_aload_n C dX0_oilTile_22 rfl rfl ?_
    refine r_get C (j := 0) rfl in_X0 (GA_o w) (by decide) fl_X0_14 rfl rfl dX0_oilTile_23 ?_
    refine r_iload_n C dX0_oilTile_26 rfl rfl ?_
    refine r_iconst C (v := 4) dX0_oilTile_27 rfl ?_
    refine r_cVi C (c_at0 w) lk_X0_84 rfl (GA_t0 w) rfl rfl ⟨(Nat.le_of_ble_eq_true rfl), (Nat.le_of_ble_eq_true rfl), (Nat.le_of_ble_eq_true rfl), (Nat.le_of_ble_eq_true rfl), (Nat.le_of_ble_eq_true rfl)⟩ dX0_oilTile_28 ?_
    refine r_istore_n C dX0_oilTile_31 rfl (by decide) ?_
    refine r_aload_n C dX0_oilTile_32 rfl rfl ?_
    refine r_get C (j := 0) rfl in_X0 (GA_o w) (by decide) fl_X0_14 rfl rfl dX0_oilTile_33 ?_
    refine r_iload_n C dX0_oilTile_36 rfl rfl ?_
    refine r_iconst C (v := 4) dX0_oilTile_37 rfl ?_
    refine r_iconst C (v := 0) dX0_oilTile_38 rfl ?_
    refine r_cVv C (c_put0 w) lk_X0_77 rfl (GA_t0 w) rfl rfl ⟨(Nat.le_of_ble_eq_true rfl), (Nat.le_of_ble_eq_true rfl), (Nat.le_of_ble_eq_true rfl), (Nat.le_of_ble_eq_true rfl), (Nat.le_of_ble_eq_true rfl)⟩ dX0_oilTile_39 ?_
    refine r_iload_n C dX0_oilTile_42 rfl rfl ?_
    exact r_iret C rfl (Nat.le_of_ble_eq_true rfl) (Nat.le_of_ble_eq_true rfl) ⟨by simp [g_oil, g_oilA, g_hand, c_4], by (try simp only [pG_pG]); exact congrArg (pG G h g) (by simp [g_oil, g_oilA, g_hand, c_4]), rfl⟩ dX0_oilTile_43
  · have c_4 := bI_t c_4
    refine r_iconst C (v := -1) dX0_oilTile_7 rfl ?_
    exact r_iret C rfl (Nat.le_of_ble_eq_true rfl) (Nat.le_of_ble_eq_true rfl) ⟨by simp [g_oil, g_oilA, g_hand, c_4], by rw [show (g_oil S a) = S by simp [g_oil, g_oilA, g_hand, c_4]]; exact (pG_id w).symm, rfl⟩ dX0_oilTile_8

set_option maxHeartbeats 800000 in
set_option maxRecDepth 100000 in
theorem c_X0_turnToDraw {G : ga_} {l : Launch} {h : HP} {sz : Nat} {g : Nat} {S : gS}  (w : GA G h g S)  : Mf G l yX0_turnToDraw cX0_turnToDraw 2 (some .int) 4 92 0 0 [.ref g] h sz (some (.int (g_drawA S))) (pG G h g (g_draw S)) sz := by
  refine Mg.ofV [(0, .ref g)] (by decide) (Nat.le_of_ble_eq_true rfl) rfl ?_
  intro p e s m args below meth c C
  refine r_aload_n C dX0_turnToDraw_0 rfl rfl ?_
  refine r_cVi C (c_X0_isOver w) lk_X0_112 rfl (GA_o w) rfl rfl ⟨(Nat.le_of_ble_eq_true rfl), (Nat.le_of_ble_eq_true rfl), (Nat.le_of_ble_eq_true rfl), (Nat.le_of_ble_eq_true rfl), (Nat.le_of_ble_eq_true rfl)⟩ dX0_turnToDraw_1 ?_
  refine r_if_ne C 14 dX0_turnToDraw_4 (by decide) (fun c_4 => ?_) (fun c_4 => ?_)
  · have c_4 := bI_t c_4
    refine r_aload_n C dX0_turnToDraw_14 rfl rfl ?_
    refine r_dup C dX0_turnToDraw_15 rfl ?_
    refine r_get C (j := 10) rfl in_X0 (GA_o w) (by decide) fl_X0_55 rfl rfl dX0_turnToDraw_16 ?_
    refine r_iconst C (v := 1) dX0_turnToDraw_19 rfl ?_
    refine r_iadd C dX0_turnToDraw_20 ?_
    refine r_put C (j := 10) tyX0 tyX0_ok nmX0 rfl in_X0 (GA_o w) (by decide) fl_X0_55 rfl rfl rfl (by first | rfl | decide) (by first | rfl | decide) (Nat.le_of_ble_eq_true rfl) dX0_turnToDraw_21 ?_
    refine V.heap (pG_num w 5 _ rfl) ?_
    refine r_bipush C (v := 100) dX0_turnToDraw_24 rfl ?_
    refine r_aload_n C dX0_turnToDraw_26 rfl rfl ?_
    refine r_cVi C (c_X0_isOver GA_pG) lk_X0_112 rfl (GA_o GA_pG) rfl rfl ⟨(Nat.le_of_ble_eq_true rfl), (Nat.le_of_ble_eq_true rfl), (Nat.le_of_ble_eq_true rfl), (Nat.le_of_ble_eq_true rfl), (Nat.le_of_ble_eq_true rfl)⟩ dX0_turnToDraw_27 ?_
    refine r_if_eq C 37 dX0_turnToDraw_30 (by decide) (fun c_30 => ?_) (fun c_30 => ?_)
    · have c_30 := bI_f c_30
      refine r_iconst C (v := 4) dX0_turnToDraw_37 rfl ?_
      refine r_iadd C dX0_turnToDraw_38 ?_
      exact r_iret C rfl (Nat.le_of_ble_eq_true rfl) (Nat.le_of_ble_eq_true rfl) ⟨by simp [g_draw, g_drawA, g_draw2, g_draw1, g_draw0, g_ref, c_4, c_30], by (try simp only [pG_pG]); exact congrArg (pG G h g) (by simp [g_draw, g_drawA, g_draw2, g_draw1, g_draw0, g_ref, c_4, c_30]), rfl⟩ dX0_turnToDraw_39
    · have c_30 := bI_t c_30
      refine r_iconst C (v := 1) dX0_turnToDraw_33 rfl ?_
      refine r_goto C 38 dX0_turnToDraw_34 (by decide) ?_
      refine r_iadd C dX0_turnToDraw_38 ?_
      exact r_iret C rfl (Nat.le_of_ble_eq_true rfl) (Nat.le_of_ble_eq_true rfl) ⟨by simp [g_draw, g_drawA, g_draw2, g_draw1, g_draw0, g_ref, c_4, c_30], by (try simp only [pG_pG]); exact congrArg (pG G h g) (by simp [g_draw, g_drawA, g_draw2, g_draw1, g_draw0, g_ref, c_4, c_30]), rfl⟩ dX0_turnToDraw_39
  · have c_4 := bI_f c_4
    refine r_aload_n C dX0_turnToDraw_7 rfl rfl ?_
    refine r_cVi C (c_X0_stockSize w) lk_X0_116 rfl (GA_o w) rfl rfl ⟨(Nat.le_of_ble_eq_true rfl), (Nat.le_of_ble_eq_true rfl), (Nat.le_of_ble_eq_true rfl), (Nat.le_of_ble_eq_true rfl), (Nat.le_of_ble_eq_true rfl)⟩ dX0_turnToDraw_8 ?_
    refine r_if_ne C 40 dX0_turnToDraw_11 (by decide) (fun c_11 => ?_) (fun c_11 => ?_)
    · refine r_aload_n C dX0_turnToDraw_40 rfl rfl ?_
      refine r_iconst C (v := 0) dX0_turnToDraw_41 rfl ?_
      refine r_put C (j := 9) tyX0 tyX0_ok nmX0 rfl in_X0 (GA_o w) (by decide) fl_X0_52 rfl rfl rfl (by first | rfl | decide) (by first | rfl | decide) (Nat.le_of_ble_eq_true rfl) dX0_turnToDraw_42 ?_
      refine V.heap (pG_num w 4 _ rfl) ?_
      refine r_aload_n C dX0_turnToDraw_45 rfl rfl ?_
      refine r_aload_n C dX0_turnToDraw_46 rfl rfl ?_
      refine r_get C (j := 6) rfl in_X0 (GA_o GA_pG) (by decide) fl_X0_43 rfl rfl dX0_turnToDraw_47 ?_
      refine r_cVi C (c_X0_takeFromStock GA_pG) lk_X0_88 rfl (GA_o GA_pG) rfl rfl ⟨(Nat.le_of_ble_eq_true rfl), (Nat.le_of_ble_eq_true rfl), (Nat.le_of_ble_eq_true rfl), (Nat.le_of_ble_eq_true rfl), (Nat.le_of_ble_eq_true rfl)⟩ dX0_turnToDraw_50 ?_
      refine r_istore_n C dX0_turnToDraw_53 rfl (by decide) ?_
      refine r_aload_n C dX0_turnToDraw_54 rfl rfl ?_
      refine r_get C (j := 2) rfl in_X0 (GA_o GA_pG) (by decide) fl_X0_23 rfl rfl dX0_turnToDraw_55 ?_
      refine r_aload_n C dX0_turnToDraw_58 rfl rfl ?_
      refine r_get C (j := 6) rfl in_X0 (GA_o GA_pG) (by decide) fl_X0_43 rfl rfl dX0_turnToDraw_59 ?_
      refine r_iconst C (v := 3) dX0_turnToDraw_62 rfl ?_
      refine r_iconst C (v := 1) dX0_turnToDraw_63 rfl ?_
      refine r_cVv C (c_increase2 GA_pG) lk_X0_95 rfl (GA_t2 GA_pG) rfl rfl ⟨(Nat.le_of_ble_eq_true rfl), (Nat.le_of_ble_eq_true rfl), (Nat.le_of_ble_eq_true rfl), (Nat.le_of_ble_eq_true rfl), (Nat.le_of_ble_eq_true rfl)⟩ dX0_turnToDraw_64 ?_
      refine r_aload_n C dX0_turnToDraw_67 rfl rfl ?_
      refine r_cVi C (c_X0_endTurn GA_pG) lk_X0_108 rfl (GA_o GA_pG) rfl rfl ⟨(Nat.le_of_ble_eq_true rfl), (Nat.le_of_ble_eq_true rfl), (Nat.le_of_ble_eq_true rfl), (Nat.le_of_ble_eq_true rfl), (Nat.le_of_ble_eq_true rfl)⟩ dX0_turnToDraw_68 ?_
      refine r_pop C dX0_turnToDraw_71 rfl ?_
      refine r_iload_n C dX0_turnToDraw_72 rfl rfl ?_
      exact r_iret C rfl (Nat.le_of_ble_eq_true rfl) (Nat.le_of_ble_eq_true rfl) ⟨by simp [g_draw, g_drawA, g_draw2, g_draw1, g_draw0, g_ref, c_4, c_11], by (try simp only [pG_pG]); exact congrArg (pG G h g) (by simp [g_draw, g_drawA, g_draw2, g_draw1, g_draw0, g_ref, c_4, c_11]), rfl⟩ dX0_turnToDraw_73
    · refine r_aload_n C dX0_turnToDraw_14 rfl rfl ?_
      refine r_dup C dX0_turnToDraw_15 rfl ?_
      refine r_get C (j := 10) rfl in_X0 (GA_o w) (by decide) fl_X0_55 rfl rfl dX0_turnToDraw_16 ?_
      refine r_iconst C (v := 1) dX0_turnToDraw_19 rfl ?_
      refine r_iadd C dX0_turnToDraw_20 ?_
      refine r_put C (j := 10) tyX0 tyX0_ok nmX0 rfl in_X0 (GA_o w) (by decide) fl_X0_55 rfl rfl rfl (by first | rfl | decide) (by first | rfl | decide) (Nat.le_of_ble_eq_true rfl) dX0_turnToDraw_21 ?_
      refine V.heap (pG_num w 5 _ rfl) ?_
      refine r_bipush C (v := 100) dX0_turnToDraw_24 rfl ?_
      refine r_aload_n C dX0_turnToDraw_26 rfl rfl ?_
      refine r_cVi C (c_X0_isOver GA_pG) lk_X0_112 rfl (GA_o GA_pG) rfl rfl ⟨(Nat.le_of_ble_eq_true rfl), (Nat.le_of_ble_eq_true rfl), (Nat.le_of_ble_eq_true rfl), (Nat.le_of_ble_eq_true rfl), (Nat.le_of_ble_eq_true rfl)⟩ dX0_turnToDraw_27 ?_
      refine r_if_eq C 37 dX0_turnToDraw_30 (by decide) (fun c_30 => ?_) (fun c_30 => ?_)
      · have c_30 := bI_f c_30
        refine r_iconst C (v := 4) dX0_turnToDraw_37 rfl ?_
        refine r_iadd C dX0_turnToDraw_38 ?_
        exact r_iret C rfl (Nat.le_of_ble_eq_true rfl) (Nat.le_of_ble_eq_true rfl) ⟨by simp [g_draw, g_drawA, g_draw2, g_draw1, g_draw0, g_ref, c_4, c_11, c_30], by (try simp only [pG_pG]); exact congrArg (pG G h g) (by simp [g_draw, g_drawA, g_draw2, g_draw1, g_draw0, g_ref, c_4, c_11, c_30]), rfl⟩ dX0_turnToDraw_39
      · have c_30 := bI_t c_30
        refine r_iconst C (v := 1) dX0_turnToDraw_33 rfl ?_
        refine r_goto C 38 dX0_turnToDraw_34 (by decide) ?_
        refine r_iadd C dX0_turnToDraw_38 ?_
        exact r_iret C rfl (Nat.le_of_ble_eq_true rfl) (Nat.le_of_ble_eq_true rfl) ⟨by simp [g_draw, g_drawA, g_draw2, g_draw1, g_draw0, g_ref, c_4, c_11, c_30], by (try simp only [pG_pG]); exact congrArg (pG G h g) (by simp [g_draw, g_drawA, g_draw2, g_draw1, g_draw0, g_ref, c_4, c_11, c_30]), rfl⟩ dX0_turnToDraw_39

set_option maxHeartbeats 800000 in
set_option maxRecDepth 100000 in
theorem c_X0_turnToPass {G : ga_} {l : Launch} {h : HP} {sz : Nat} {g : Nat} {S : gS}  (w : GA G h g S)  : Mf G l yX0_turnToPass cX0_turnToPass 1 (some .int) 4 92 0 0 [.ref g] h sz (some (.int (g_passA S))) (pG G h g (g_pass S)) sz := by
  refine Mg.ofV [(0, .ref g)] (by decide) (Nat.le_of_ble_eq_true rfl) rfl ?_
  intro p e s m args below meth c C
  refine r_aload_n C dX0_turnToPass_0 rfl rfl ?_
  refine r_cVi C (c_X0_isOver w) lk_X0_112 rfl (GA_o w) rfl rfl ⟨(Nat.le_of_ble_eq_true rfl), (Nat.le_of_ble_eq_true rfl), (Nat.le_of_ble_eq_true rfl), (Nat.le_of_ble_eq_true rfl), (Nat.le_of_ble_eq_true rfl)⟩ dX0_turnToPass_1 ?_
  refine r_if_ne C 14 dX0_turnToPass_4 (by decide) (fun c_4 => ?_) (fun c_4 => ?_)
  · have c_4 := bI_t c_4
    refine r_aload_n C dX0_turnToPass_14 rfl rfl ?_
    refine r_dup C dX0_turnToPass_15 rfl ?_
    refine r_get C (j := 10) rfl in_X0 (GA_o w) (by decide) fl_X0_55 rfl rfl dX0_turnToPass_16 ?_
    refine r_iconst C (v := 1) dX0_turnToPass_19 rfl ?_
    refine r_iadd C dX0_turnToPass_20 ?_
    refine r_put C (j := 10) tyX0 tyX0_ok nmX0 rfl in_X0 (GA_o w) (by decide) fl_X0_55 rfl rfl rfl (by first | rfl | decide) (by first | rfl | decide) (Nat.le_of_ble_eq_true rfl) dX0_turnToPass_21 ?_
    refine V.heap (pG_num w 5 _ rfl) ?_
    refine r_aload_n C dX0_turnToPass_24 rfl rfl ?_
    refine r_cVi C (c_X0_isOver GA_pG) lk_X0_112 rfl (GA_o GA_pG) rfl rfl ⟨(Nat.le_of_ble_eq_true rfl), (Nat.le_of_ble_eq_true rfl), (Nat.le_of_ble_eq_true rfl), (Nat.le_of_ble_eq_true rfl), (Nat.le_of_ble_eq_true rfl)⟩ dX0_turnToPass_25 ?_
    refine r_if_eq C 35 dX0_turnToPass_28 (by decide) (fun c_28 => ?_) (fun c_28 => ?_)
    · have c_28 := bI_f c_28
      refine r_iconst C (v := 5) dX0_turnToPass_35 rfl ?_
      exact r_iret C rfl (Nat.le_of_ble_eq_true rfl) (Nat.le_of_ble_eq_true rfl) ⟨by simp [g_pass, g_passA, g_ref, c_4, c_28], by (try simp only [pG_pG]); exact congrArg (pG G h g) (by simp [g_pass, g_passA, g_ref, c_4, c_28]), rfl⟩ dX0_turnToPass_36
    · have c_28 := bI_t c_28
      refine r_iconst C (v := 1) dX0_turnToPass_31 rfl ?_
      refine r_goto C 36 dX0_turnToPass_32 (by decide) ?_
      exact r_iret C rfl (Nat.le_of_ble_eq_true rfl) (Nat.le_of_ble_eq_true rfl) ⟨by simp [g_pass, g_passA, g_ref, c_4, c_28], by (try simp only [pG_pG]); exact congrArg (pG G h g) (by simp [g_pass, g_passA, g_ref, c_4, c_28]), rfl⟩ dX0_turnToPass_36
  · have c_4 := bI_f c_4
    refine r_aload_n C dX0_turnToPass_7 rfl rfl ?_
    refine r_cVi C (c_X0_stockSize w) lk_X0_116 rfl (GA_o w) rfl rfl ⟨(Nat.le_of_ble_eq_true rfl), (Nat.le_of_ble_eq_true rfl), (Nat.le_of_ble_eq_true rfl), (Nat.le_of_ble_eq_true rfl), (Nat.le_of_ble_eq_true rfl)⟩ dX0_turnToPass_8 ?_
    refine r_if_le C 37 dX0_turnToPass_11 (by decide) (fun c_11 => ?_) (fun c_11 => ?_)
    · have e_11 := i32_nlt c_11
      refine r_aload_n C dX0_turnToPass_37 rfl rfl ?_
      refine r_dup C dX0_turnToPass_38 rfl ?_
      refine r_get C (j := 9) rfl in_X0 (GA_o w) (by decide) fl_X0_52 rfl rfl dX0_turnToPass_39 ?_
      refine r_iconst C (v := 1) dX0_turnToPass_42 rfl ?_
      refine r_iadd C dX0_turnToPass_43 ?_
      refine r_put C (j := 9) tyX0 tyX0_ok nmX0 rfl in_X0 (GA_o w) (by decide) fl_X0_52 rfl rfl rfl (by first | rfl | decide) (by first | rfl | decide) (Nat.le_of_ble_eq_true rfl) dX0_turnToPass_44 ?_
      refine V.heap (pG_num w 4 _ rfl) ?_
      refine r_aload_n C dX0_turnToPass_47 rfl rfl ?_
      refine r_cVi C (c_X0_endTurn GA_pG) lk_X0_108 rfl (GA_o GA_pG) rfl rfl ⟨(Nat.le_of_ble_eq_true rfl), (Nat.le_of_ble_eq_true rfl), (Nat.le_of_ble_eq_true rfl), (Nat.le_of_ble_eq_true rfl), (Nat.le_of_ble_eq_true rfl)⟩ dX0_turnToPass_48 ?_
      exact r_iret C rfl (Nat.le_of_ble_eq_true rfl) (Nat.le_of_ble_eq_true rfl) ⟨by simp [g_pass, g_passA, g_ref, c_4, c_11, e_11], by (try simp only [pG_pG]); exact congrArg (pG G h g) (by simp [g_pass, g_passA, g_ref, c_4, c_11, e_11]), rfl⟩ dX0_turnToPass_51
    · have e_11 := i32_lt c_11
      refine r_aload_n C dX0_turnToPass_14 rfl rfl ?_
      refine r_dup C dX0_turnToPass_15 rfl ?_
      refine r_get C (j := 10) rfl in_X0 (GA_o w) (by decide) fl_X0_55 rfl rfl dX0_turnToPass_16 ?_
      refine r_iconst C (v := 1) dX0_turnToPass_19 rfl ?_
      refine r_iadd C dX0_turnToPass_20 ?_
      refine r_put C (j := 10) tyX0 tyX0_ok nmX0 rfl in_X0 (GA_o w) (by decide) fl_X0_55 rfl rfl rfl (by first | rfl | decide) (by first | rfl | decide) (Nat.le_of_ble_eq_true rfl) dX0_turnToPass_21 ?_
      refine V.heap (pG_num w 5 _ rfl) ?_
      refine r_aload_n C dX0_turnToPass_24 rfl rfl ?_
      refine r_cVi C (c_X0_isOver GA_pG) lk_X0_112 rfl (GA_o GA_pG) rfl rfl ⟨(Nat.le_of_ble_eq_true rfl), (Nat.le_of_ble_eq_true rfl), (Nat.le_of_ble_eq_true rfl), (Nat.le_of_ble_eq_true rfl), (Nat.le_of_ble_eq_true rfl)⟩ dX0_turnToPass_25 ?_
      refine r_if_eq C 35 dX0_turnToPass_28 (by decide) (fun c_28 => ?_) (fun c_28 => ?_)
      · have c_28 := bI_f c_28
        refine r_iconst C (v := 5) dX0_turnToPass_35 rfl ?_
        exact r_iret C rfl (Nat.le_of_ble_eq_true rfl) (Nat.le_of_ble_eq_true rfl) ⟨by simp [g_pass, g_passA, g_ref, c_4, c_11, e_11, c_28], by (try simp only [pG_pG]); exact congrArg (pG G h g) (by simp [g_pass, g_passA, g_ref, c_4, c_11, e_11, c_28]), rfl⟩ dX0_turnToPass_36
      · have c_28 := bI_t c_28
        refine r_iconst C (v := 1) dX0_turnToPass_31 rfl ?_
        refine r_goto C 36 dX0_turnToPass_32 (by decide) ?_
        exact r_iret C rfl (Nat.le_of_ble_eq_true rfl) (Nat.le_of_ble_eq_true rfl) ⟨by simp [g_pass, g_passA, g_ref, c_4, c_11, e_11, c_28], by (try simp only [pG_pG]); exact congrArg (pG G h g) (by simp [g_pass, g_passA, g_ref, c_4, c_11, e_11, c_28]), rfl⟩ dX0_turnToPass_36

set_option maxHeartbeats 800000 in
set_option maxRecDepth 100000 in
theorem c_X0_turnToLay {G : ga_} {l : Launch} {h : HP} {sz : Nat} {g : Nat} {S : gS} {a b d : Int32}  (w : GA G h g S)  : Mf G l yX0_turnToLay cX0_turnToLay 6 (some .int) 4 92 0 0 [.ref g, .int a, .int b, .int d] h sz (some (.int (g_layA S a b d))) (pG G h g (g_lay S a b d)) sz := by
  refine Mg.ofV [(0, .ref g), (1, .int a), (2, .int b), (3, .int d)] (by decide) (Nat.le_of_ble_eq_true rfl) rfl ?_
  intro p e s m args below meth c C
  refine r_aload_n C dX0_turnToLay_0 rfl rfl ?_
  refine r_iload_n C dX0_turnToLay_1 rfl rfl ?_
  refine r_iload_n C dX0_turnToLay_2 rfl rfl ?_
  refine r_iload_n C dX0_turnToLay_3 rfl rfl ?_
  refine r_cVi C (c_X0_reasonAgainst w) lk_X0_98 rfl (GA_o w) rfl rfl ⟨(Nat.le_of_ble_eq_true rfl), (Nat.le_of_ble_eq_true rfl), (Nat.le_of_ble_eq_true rfl), (Nat.le_of_ble_eq_true rfl), (Nat.le_of_ble_eq_true rfl)⟩ dX0_turnToLay_4 ?_
  refine r_istore C dX0_turnToLay_7 (by decide) ?_
  refine r_iload C dX0_turnToLay_9 rfl ?_
  refine r_if_eq C 27 dX0_turnToLay_11 (by decide) (fun c_11 => ?_) (fun c_11 => ?_)
  · refine r_aload_n C dX0_turnToLay_27 rfl rfl ?_
    refine r_iconst C (v := 0) dX0_turnToLay_28 rfl ?_
    refine r_put C (j := 9) tyX0 tyX0_ok nmX0 rfl in_X0 (GA_o w) (by decide) fl_X0_52 rfl rfl rfl (by first | rfl | decide) (by first | rfl | decide) (Nat.le_of_ble_eq_true rfl) dX0_turnToLay_29 ?_
    refine V.heap (pG_num w 4 _ rfl) ?_
    refine r_aload_n C dX0_turnToLay_32 rfl rfl ?_
    refine r_aload_n C dX0_turnToLay_33 rfl rfl ?_
    refine r_get C (j := 6) rfl in_X0 (GA_o GA_pG) (by decide) fl_X0_43 rfl rfl dX0_turnToLay_34 ?_
    refine r_iload_n C dX0_turnToLay_37 rfl rfl ?_
    refine r_cVi C (c_X0_takeFromHand GA_pG (reason_0 c_11) (tn_lt _)) lk_X0_102 rfl (GA_o GA_pG) rfl rfl ⟨(Nat.le_of_ble_eq_true rfl), (Nat.le_of_ble_eq_true rfl), (Nat.le_of_ble_eq_true rfl), (Nat.le_of_ble_eq_true rfl), (Nat.le_of_ble_eq_true rfl)⟩ dX0_turnToLay_38 ?_
    refine r_istore C dX0_turnToLay_41 (by decide) ?_
    refine r_aload_n C dX0_turnToLay_43 rfl rfl ?_
    refine r_get C (j := 0) rfl in_X0 (GA_o GA_pG) (by decide) fl_X0_14 rfl rfl dX0_turnToLay_44 ?_
    refine r_iload C dX0_turnToLay_47 rfl ?_
    refine r_iconst C (v := 2) dX0_turnToLay_49 rfl ?_
    refine r_iconst C (v := 2) dX0_turnToLay_50 rfl ?_
    refine r_cVv C (c_put0 GA_pG) lk_X0_77 rfl (GA_t0 GA_pG) rfl rfl ⟨(Nat.le_of_ble_eq_true rfl), (Nat.le_of_ble_eq_true rfl), (Nat.le_of_ble_eq_true rfl), (Nat.le_of_ble_eq_true rfl), (Nat.le_of_ble_eq_true rfl)⟩ dX0_turnToLay_51 ?_
    refine r_aload_n C dX0_turnToLay_54 rfl rfl ?_
    refine r_get C (j := 0) rfl in_X0 (GA_o GA_pG) (by decide) fl_X0_14 rfl rfl dX0_turnToLay_55 ?_
    refine r_iload C dX0_turnToLay_58 rfl ?_
    refine r_iconst C (v := 5) dX0_turnToLay_60 rfl ?_
    refine r_iload_n C dX0_turnToLay_61 rfl rfl ?_
    refine r_cVv C (c_put0 GA_pG) lk_X0_77 rfl (GA_t0 GA_pG) rfl rfl ⟨(Nat.le_of_ble_eq_true rfl), (Nat.le_of_ble_eq_true rfl), (Nat.le_of_ble_eq_true rfl), (Nat.le_of_ble_eq_true rfl), (Nat.le_of_ble_eq_true rfl)⟩ dX0_turnToLay_62 ?_
    refine r_aload_n C dX0_turnToLay_65 rfl rfl ?_
    refine r_get C (j := 2) rfl in_X0 (GA_o GA_pG) (by decide) fl_X0_23 rfl rfl dX0_turnToLay_66 ?_
    refine r_aload_n C dX0_turnToLay_69 rfl rfl ?_
    refine r_get C (j := 6) rfl in_X0 (GA_o GA_pG) (by decide) fl_X0_43 rfl rfl dX0_turnToLay_70 ?_
    refine r_iconst C (v := 2) dX0_turnToLay_73 rfl ?_
    refine r_iconst C (v := 1) dX0_turnToLay_74 rfl ?_
    refine r_cVv C (c_increase2 GA_pG) lk_X0_95 rfl (GA_t2 GA_pG) rfl rfl ⟨(Nat.le_of_ble_eq_true rfl), (Nat.le_of_ble_eq_true rfl), (Nat.le_of_ble_eq_true rfl), (Nat.le_of_ble_eq_true rfl), (Nat.le_of_ble_eq_true rfl)⟩ dX0_turnToLay_75 ?_
    refine r_aload_n C dX0_turnToLay_78 rfl rfl ?_
    refine r_iload C dX0_turnToLay_79 rfl ?_
    refine r_iload_n C dX0_turnToLay_81 rfl rfl ?_
    refine r_iload_n C dX0_turnToLay_82 rfl rfl ?_
    refine r_cVv C (c_X0_putAtEnd GA_pG) lk_X0_105 rfl (GA_o GA_pG) rfl rfl ⟨(Nat.le_of_ble_eq_true rfl), (Nat.le_of_ble_eq_true rfl), (Nat.le_of_ble_eq_true rfl), (Nat.le_of_ble_eq_true rfl), (Nat.le_of_ble_eq_true rfl)⟩ dX0_turnToLay_83 ?_
    refine r_aload_n C dX0_turnToLay_86 rfl rfl ?_
    refine r_cVi C (c_X0_endTurn GA_pG) lk_X0_108 rfl (GA_o GA_pG) rfl rfl ⟨(Nat.le_of_ble_eq_true rfl), (Nat.le_of_ble_eq_true rfl), (Nat.le_of_ble_eq_true rfl), (Nat.le_of_ble_eq_true rfl), (Nat.le_of_ble_eq_true rfl)⟩ dX0_turnToLay_87 ?_
    exact r_iret C rfl (Nat.le_of_ble_eq_true rfl) (Nat.le_of_ble_eq_true rfl) ⟨by simp [g_lay, g_layA, g_lay3, g_lay2, g_lay1, g_layT, g_ref, c_11], by (try simp only [pG_pG]); exact congrArg (pG G h g) (by simp [g_lay, g_layA, g_lay3, g_lay2, g_lay1, g_layT, g_ref, c_11]), rfl⟩ dX0_turnToLay_90
  · refine r_aload_n C dX0_turnToLay_14 rfl rfl ?_
    refine r_dup C dX0_turnToLay_15 rfl ?_
    refine r_get C (j := 10) rfl in_X0 (GA_o w) (by decide) fl_X0_55 rfl rfl dX0_turnToLay_16 ?_
    refine r_iconst C (v := 1) dX0_turnToLay_19 rfl ?_
    refine r_iadd C dX0_turnToLay_20 ?_
    refine r_put C (j := 10) tyX0 tyX0_ok nmX0 rfl in_X0 (GA_o w) (by decide) fl_X0_55 rfl rfl rfl (by first | rfl | decide) (by first | rfl | decide) (Nat.le_of_ble_eq_true rfl) dX0_turnToLay_21 ?_
    refine V.heap (pG_num w 5 _ rfl) ?_
    refine r_iload C dX0_turnToLay_24 rfl ?_
    exact r_iret C rfl (Nat.le_of_ble_eq_true rfl) (Nat.le_of_ble_eq_true rfl) ⟨by simp [g_lay, g_layA, g_lay3, g_lay2, g_lay1, g_layT, g_ref, c_11], by (try simp only [pG_pG]); exact congrArg (pG G h g) (by simp [g_lay, g_layA, g_lay3, g_lay2, g_lay1, g_layT, g_ref, c_11]), rfl⟩ dX0_turnToLay_26
end
section
/-! GAME: beginning, becoming another, making one -/
/-- the number of the first tile whose first half is a -/
def tT : Nat → Nat
  | 0 => 0
  | a + 1 => tT a + (7 - a)
def g_mt1 (S : gS) (t a b : Int32) : gS := gP (gP (gP (gP (gP S 0 t 0 a) 0 t 1 b) 0 t 2 0) 0 t 3 (-1)) 0 t 5 (-1)
def g_mtI (S : gS) (a : Nat) : Nat → gS
  | 0 => S
  | k + 1 => g_mt1 (g_mtI S a k) (nI (tT a + k)) (nI a) (nI (a + k))
def g_mtO (S : gS) : Nat → gS
  | 0 => gZ S 0
  | a + 1 => g_mtI (g_mtO S a) a (7 - a)
def g_mr1 (S : gS) (r : Int32) : gS := gP (gP (gP (gP S 3 r 0 0) 3 r 1 (-1)) 3 r 2 (-1)) 3 r 3 (-1)
def g_mr (S : gS) : Nat → gS
  | 0 => S
  | i + 1 => g_mr1 (g_mr S i) (nI i)
def g_dI (S : gS) (p : Int32) : Nat → gS
  | 0 => S
  | i + 1 => g_take (g_dI S p i) p
def g_dO (S : gS) : Nat → gS
  | 0 => S
  | i + 1 => g_dI (g_dO S i) (nI i) 5
theorem tT_le {a : Nat} (h : a ≤ 7) : tT a ≤ 28 := by
  match a, h with
  | 0, _ => decide
  | 1, _ => decide
  | 2, _ => decide
  | 3, _ => decide
  | 4, _ => decide
  | 5, _ => decide
  | 6, _ => decide
  | 7, _ => decide
set_option maxHeartbeats 800000 in
set_option maxRecDepth 100000 in
theorem c_X0_makeTiles {G : ga_} {l : Launch} {h : HP} {sz : Nat} {g : Nat} {S : gS}  (w : GA G h g S)  : Mf G l yX0_makeTiles cX0_makeTiles 4 none 2 43 0 0 [.ref g] h sz none (pG G h g (g_mtO S 7)) sz := by
  refine Mg.ofV [(0, .ref g)] (by decide) (Nat.le_of_ble_eq_true rfl) rfl ?_
  intro p e s m args below meth c C
  refine r_aload_n C dX0_makeTiles_0 rfl rfl ?_
  refine r_get C (j := 0) rfl in_X0 (GA_o w) (by decide) fl_X0_14 rfl rfl dX0_makeTiles_1 ?_
  refine r_cVv C (c_clear0 w) lk_X0_61 rfl (GA_t0 w) rfl rfl ⟨(Nat.le_of_ble_eq_true rfl), (Nat.le_of_ble_eq_true rfl), (Nat.le_of_ble_eq_true rfl), (Nat.le_of_ble_eq_true rfl), (Nat.le_of_ble_eq_true rfl)⟩ dX0_makeTiles_4 ?_
  refine r_iconst C (v := 0) dX0_makeTiles_7 rfl ?_
  refine r_istore_n C dX0_makeTiles_8 rfl (by decide) ?_
  refine r_iconst C (v := 0) dX0_makeTiles_9 rfl ?_
  refine r_istore_n C dX0_makeTiles_10 rfl (by decide) ?_
  refine V.sub [(0, .ref g), (1, .int (nI (tT 0))), (2, .int (nI 0))] ⟨rfl, rfl, rfl, trivial⟩ ?_
  refine down_ (P := fun i => V p l e ⟨2, 0, 0, 43⟩ s m args below meth c G 4 (Qg G below args s 0 0 (fun v1 h1 s1 => v1 = none ∧ h1 = (pG G h g (g_mtO S 7)) ∧ s1 = sz)) (pG G h g (g_mtO S i)) sz 0 0 11 [(0, .ref g), (1, .int (nI (tT i))), (2, .int (nI i))] []) (7) ?_ ?_
  · refine r_iload_n C dX0_makeTiles_11 rfl rfl ?_
    refine r_bipush C (v := 7) dX0_makeTiles_12 rfl ?_
    refine r_icmp_ge C 90 dX0_makeTiles_14 (by decide) (fun _ => ?_) (fun c => absurd (by decide) c)
    exact r_vret C rfl (Nat.le_of_ble_eq_true rfl) (Nat.le_of_ble_eq_true rfl) ⟨rfl, rfl, rfl⟩ dX0_makeTiles_90
  · intro i h_i ih_i
    refine r_iload_n C dX0_makeTiles_11 rfl rfl ?_
    refine r_bipush C (v := 7) dX0_makeTiles_12 rfl ?_
    refine r_icmp_ge C 90 dX0_makeTiles_14 (by decide) (fun c => absurd c (nI_ge (b := 7) h_i (by decide))) (fun _ => ?_)
    refine r_iload_n C dX0_makeTiles_17 rfl rfl ?_
    refine r_istore_n C dX0_makeTiles_18 rfl (by decide) ?_
    refine V.sub [(0, .ref g), (1, .int (nI (tT i + 0))), (2, .int (nI i)), (3, .int (nI (i + 0)))] ⟨rfl, rfl, rfl, rfl, trivial⟩ ?_
    refine down_ (P := fun j => V p l e ⟨2, 0, 0, 43⟩ s m args below meth c G 4 (Qg G below args s 0 0 (fun v1 h1 s1 => v1 = none ∧ h1 = (pG G h g (g_mtO S 7)) ∧ s1 = sz)) (pG G h g (g_mtI (g_mtO S i) i j)) sz 0 0 19 [(0, .ref g), (1, .int (nI (tT i + j))), (2, .int (nI i)), (3, .int (nI (i + j)))] []) (7 - i) ?_ ?_
    · refine r_iload_n C dX0_makeTiles_19 rfl rfl ?_
      refine r_bipush C (v := 7) dX0_makeTiles_20 rfl ?_
      refine r_icmp_ge C 84 dX0_makeTiles_22 (by decide) (fun _ => ?_) (fun c => absurd (tn_le2 (x := 7) (by omega) (by show 7 ≤ i + (7 - i); omega)) c)
      refine r_iinc C (v := 1) dX0_makeTiles_84 rfl rfl (by decide) ?_
      refine r_goto C 11 dX0_makeTiles_87 (by decide) ?_
      refine V.sub [(0, .ref g), (1, .int (nI (tT (i + 1)))), (2, .int (nI (i + 1)))] ⟨rfl, rfl, (by rw [← nI_1 i]; rfl), trivial⟩ ?_
      exact ih_i
    · intro j h_j ih_j
      refine r_iload_n C dX0_makeTiles_19 rfl rfl ?_
      refine r_bipush C (v := 7) dX0_makeTiles_20 rfl ?_
      refine r_icmp_ge C 84 dX0_makeTiles_22 (by decide) (fun c => absurd c (tn_nle (x := 7) (by show i + j < 7; omega))) (fun _ => ?_)
      refine r_aload_n C dX0_makeTiles_25 rfl rfl ?_
      refine r_get C (j := 0) rfl in_X0 (GA_o GA_pG) (by decide) fl_X0_14 rfl rfl dX0_makeTiles_26 ?_
      refine r_iload_n C dX0_makeTiles_29 rfl rfl ?_
      refine r_iconst C (v := 0) dX0_makeTiles_30 rfl ?_
      refine r_iload_n C dX0_makeTiles_31 rfl rfl ?_
      refine r_cVv C (c_put0 GA_pG) lk_X0_77 rfl (GA_t0 GA_pG) rfl rfl ⟨(Nat.le_of_ble_eq_true rfl), (Nat.le_of_ble_eq_true rfl), (Nat.le_of_ble_eq_true rfl), (Nat.le_of_ble_eq_true rfl), (Nat.le_of_ble_eq_true rfl)⟩ dX0_makeTiles_32 ?_
      refine r_aload_n C dX0_makeTiles_35 rfl rfl ?_
      refine r_get C (j := 0) rfl in_X0 (GA_o GA_pG) (by decide) fl_X0_14 rfl rfl dX0_makeTiles_36 ?_
      refine r_iload_n C dX0_makeTiles_39 rfl rfl ?_
      refine r_iconst C (v := 1) dX0_makeTiles_40 rfl ?_
      refine r_iload_n C dX0_makeTiles_41 rfl rfl ?_
      refine r_cVv C (c_put0 GA_pG) lk_X0_77 rfl (GA_t0 GA_pG) rfl rfl ⟨(Nat.le_of_ble_eq_true rfl), (Nat.le_of_ble_eq_true rfl), (Nat.le_of_ble_eq_true rfl), (Nat.le_of_ble_eq_true rfl), (Nat.le_of_ble_eq_true rfl)⟩ dX0_makeTiles_42 ?_
      refine r_aload_n C dX0_makeTiles_45 rfl rfl ?_
      refine r_get C (j := 0) rfl in_X0 (GA_o GA_pG) (by decide) fl_X0_14 rfl rfl dX0_makeTiles_46 ?_
      refine r_iload_n C dX0_makeTiles_49 rfl rfl ?_
      refine r_iconst C (v := 2) dX0_makeTiles_50 rfl ?_
      refine r_iconst C (v := 0) dX0_makeTiles_51 rfl ?_
      refine r_cVv C (c_put0 GA_pG) lk_X0_77 rfl (GA_t0 GA_pG) rfl rfl ⟨(Nat.le_of_ble_eq_true rfl), (Nat.le_of_ble_eq_true rfl), (Nat.le_of_ble_eq_true rfl), (Nat.le_of_ble_eq_true rfl), (Nat.le_of_ble_eq_true rfl)⟩ dX0_makeTiles_52 ?_
      refine r_aload_n C dX0_makeTiles_55 rfl rfl ?_
      refine r_get C (j := 0) rfl in_X0 (GA_o GA_pG) (by decide) fl_X0_14 rfl rfl dX0_makeTiles_56 ?_
      refine r_iload_n C dX0_makeTiles_59 rfl rfl ?_
      refine r_iconst C (v := 3) dX0_makeTiles_60 rfl ?_
      refine r_iconst C (v := -1) dX0_makeTiles_61 rfl ?_
      refine r_cVv C (c_put0 GA_pG) lk_X0_77 rfl (GA_t0 GA_pG) rfl rfl ⟨(Nat.le_of_ble_eq_true rfl), (Nat.le_of_ble_eq_true rfl), (Nat.le_of_ble_eq_true rfl), (Nat.le_of_ble_eq_true rfl), (Nat.le_of_ble_eq_true rfl)⟩ dX0_makeTiles_62 ?_
      refine r_aload_n C dX0_makeTiles_65 rfl rfl ?_
      refine r_get C (j := 0) rfl in_X0 (GA_o GA_pG) (by decide) fl_X0_14 rfl rfl dX0_makeTiles_66 ?_
      refine r_iload_n C dX0_makeTiles_69 rfl rfl ?_
      refine r_iconst C (v := 5) dX0_makeTiles_70 rfl ?_
      refine r_iconst C (v := -1) dX0_makeTiles_71 rfl ?_
      refine r_cVv C (c_put0 GA_pG) lk_X0_77 rfl (GA_t0 GA_pG) rfl rfl ⟨(Nat.le_of_ble_eq_true rfl), (Nat.le_of_ble_eq_true rfl), (Nat.le_of_ble_eq_true rfl), (Nat.le_of_ble_eq_true rfl), (Nat.le_of_ble_eq_true rfl)⟩ dX0_makeTiles_72 ?_
      refine r_iinc C (v := 1) dX0_makeTiles_75 rfl rfl (by decide) ?_
      refine r_iinc C (v := 1) dX0_makeTiles_78 rfl rfl (by decide) ?_
      refine r_goto C 19 dX0_makeTiles_81 (by decide) ?_
      refine V.heap (h2 := (pG G h g (g_mtI (g_mtO S i) i (j + 1)))) (by simp only [pG_pG]; rfl) ?_
      refine V.sub [(0, .ref g), (1, .int (nI (tT i + (j + 1)))), (2, .int (nI i)), (3, .int (nI (i + (j + 1))))] ⟨rfl, by rw [show tT i + (j + 1) = tT i + j + 1 by omega, ← nI_1 (tT i + j)]; rfl, rfl, by rw [show i + (j + 1) = i + j + 1 by omega, ← nI_1 (i + j)]; rfl, trivial⟩ ?_
      exact ih_j

set_option maxHeartbeats 800000 in
set_option maxRecDepth 100000 in
theorem c_X0_makeRows {G : ga_} {l : Launch} {h : HP} {sz : Nat} {g : Nat} {S : gS}  (w : GA G h g S)  : Mf G l yX0_makeRows cX0_makeRows 2 none 1 24 0 0 [.ref g] h sz none (pG G h g (g_mr S 3)) sz := by
  refine Mg.ofV [(0, .ref g)] (by decide) (Nat.le_of_ble_eq_true rfl) rfl ?_
  intro p e s m args below meth c C
  refine r_iconst C (v := 0) dX0_makeRows_0 rfl ?_
  refine r_istore_n C dX0_makeRows_1 rfl (by decide) ?_
  refine V.heap (pG_id w).symm ?_
  refine V.sub [(0, .ref g), (1, .int (nI 0))] ⟨rfl, rfl, trivial⟩ ?_
  refine down_ (P := fun i => V p l e ⟨1, 0, 0, 24⟩ s m args below meth c G 2 (Qg G below args s 0 0 (fun v1 h1 s1 => v1 = none ∧ h1 = (pG G h g (g_mr S 3)) ∧ s1 = sz)) (pG G h g (g_mr S i)) sz 0 0 2 [(0, .ref g), (1, .int (nI i))] []) (3) ?_ ?_
  · refine r_iload_n C dX0_makeRows_2 rfl rfl ?_
    refine r_iconst C (v := 3) dX0_makeRows_3 rfl ?_
    refine r_icmp_ge C 53 dX0_makeRows_4 (by decide) (fun _ => ?_) (fun c => absurd (by decide) c)
    exact r_vret C rfl (Nat.le_of_ble_eq_true rfl) (Nat.le_of_ble_eq_true rfl) ⟨rfl, rfl, rfl⟩ dX0_makeRows_53
  · intro i h_i ih_i
    refine r_iload_n C dX0_makeRows_2 rfl rfl ?_
    refine r_iconst C (v := 3) dX0_makeRows_3 rfl ?_
    refine r_icmp_ge C 53 dX0_makeRows_4 (by decide) (fun c => absurd c (nI_ge (b := 3) h_i (by decide))) (fun _ => ?_)
    refine r_aload_n C dX0_makeRows_7 rfl rfl ?_
    refine r_get C (j := 3) rfl in_X0 (GA_o GA_pG) (by decide) fl_X0_26 rfl rfl dX0_makeRows_8 ?_
    refine r_iload_n C dX0_makeRows_11 rfl rfl ?_
    refine r_iconst C (v := 0) dX0_makeRows_12 rfl ?_
    refine r_iconst C (v := 0) dX0_makeRows_13 rfl ?_
    refine r_cVv C (c_put3 GA_pG) lk_X0_77 rfl (GA_t3 GA_pG) rfl rfl ⟨(Nat.le_of_ble_eq_true rfl), (Nat.le_of_ble_eq_true rfl), (Nat.le_of_ble_eq_true rfl), (Nat.le_of_ble_eq_true rfl), (Nat.le_of_ble_eq_true rfl)⟩ dX0_makeRows_14 ?_
    refine r_aload_n C dX0_makeRows_17 rfl rfl ?_
    refine r_get C (j := 3) rfl in_X0 (GA_o GA_pG) (by decide) fl_X0_26 rfl rfl dX0_makeRows_18 ?_
    refine r_iload_n C dX0_makeRows_21 rfl rfl ?_
    refine r_iconst C (v := 1) dX0_makeRows_22 rfl ?_
    refine r_iconst C (v := -1) dX0_makeRows_23 rfl ?_
    refine r_cVv C (c_put3 GA_pG) lk_X0_77 rfl (GA_t3 GA_pG) rfl rfl ⟨(Nat.le_of_ble_eq_true rfl), (Nat.le_of_ble_eq_true rfl), (Nat.le_of_ble_eq_true rfl), (Nat.le_of_ble_eq_true rfl), (Nat.le_of_ble_eq_true rfl)⟩ dX0_makeRows_24 ?_
    refine r_aload_n C dX0_makeRows_27 rfl rfl ?_
    refine r_get C (j := 3) rfl in_X0 (GA_o GA_pG) (by decide) fl_X0_26 rfl rfl dX0_makeRows_28 ?_
    refine r_iload_n C dX0_makeRows_31 rfl rfl ?_
    refine r_iconst C (v := 2) dX0_makeRows_32 rfl ?_
    refine r_iconst C (v := -1) dX0_makeRows_33 rfl ?_
    refine r_cVv C (c_put3 GA_pG) lk_X0_77 rfl (GA_t3 GA_pG) rfl rfl ⟨(Nat.le_of_ble_eq_true rfl), (Nat.le_of_ble_eq_true rfl), (Nat.le_of_ble_eq_true rfl), (Nat.le_of_ble_eq_true rfl), (Nat.le_of_ble_eq_true rfl)⟩ dX0_makeRows_34 ?_
    refine r_aload_n C dX0_makeRows_37 rfl rfl ?_
    refine r_get C (j := 3) rfl in_X0 (GA_o GA_pG) (by decide) fl_X0_26 rfl rfl dX0_makeRows_38 ?_
    refine r_iload_n C dX0_makeRows_41 rfl rfl ?_
    refine r_iconst C (v := 3) dX0_makeRows_42 rfl ?_
    refine r_iconst C (v := -1) dX0_makeRows_43 rfl ?_
    refine r_cVv C (c_put3 GA_pG) lk_X0_77 rfl (GA_t3 GA_pG) rfl rfl ⟨(Nat.le_of_ble_eq_true rfl), (Nat.le_of_ble_eq_true rfl), (Nat.le_of_ble_eq_true rfl), (Nat.le_of_ble_eq_true rfl), (Nat.le_of_ble_eq_true rfl)⟩ dX0_makeRows_44 ?_
    refine r_iinc C (v := 1) dX0_makeRows_47 rfl rfl (by decide) ?_
    refine r_goto C 2 dX0_makeRows_50 (by decide) ?_
    refine V.heap (h2 := (pG G h g (g_mr S (i + 1)))) (by simp only [pG_pG]; rfl) ?_
    refine V.sub [(0, .ref g), (1, .int (nI (i + 1)))] ⟨rfl, (by rw [← nI_1 i]; rfl), trivial⟩ ?_
    exact ih_i

theorem g_dI_n (S : gS) (p : Int32) (i : Nat) : g_dI S p i 5 0 = S 5 0 := by
  induction i with
  | zero => rfl
  | succ i ih => exact ih
theorem g_dO_n (S : gS) (i : Nat) : g_dO S i 5 0 = S 5 0 := by
  induction i with
  | zero => rfl
  | succ i ih => exact (g_dI_n _ _ 5).trans ih
set_option maxHeartbeats 800000 in
set_option maxRecDepth 100000 in
theorem c_X0_deal {G : ga_} {l : Launch} {h : HP} {sz : Nat} {g : Nat} {S : gS}  (w : GA G h g S)  : Mf G l yX0_deal cX0_deal 3 none 3 66 0 0 [.ref g] h sz none (pG G h g (g_dO S (S 5 0).toNatClampNeg)) sz := by
  refine Mg.ofV [(0, .ref g)] (by decide) (Nat.le_of_ble_eq_true rfl) rfl ?_
  intro p e s m args below meth c C
  refine r_iconst C (v := 0) dX0_deal_0 rfl ?_
  refine r_istore_n C dX0_deal_1 rfl (by decide) ?_
  refine V.heap (pG_id w).symm ?_
  refine V.sub [(0, .ref g), (1, .int (nI 0))] ⟨rfl, rfl, trivial⟩ ?_
  refine down_ (P := fun i => V p l e ⟨3, 0, 0, 66⟩ s m args below meth c G 3 (Qg G below args s 0 0 (fun v1 h1 s1 => v1 = none ∧ h1 = (pG G h g (g_dO S (S 5 0).toNatClampNeg)) ∧ s1 = sz)) (pG G h g (g_dO S i)) sz 0 0 2 [(0, .ref g), (1, .int (nI i))] []) ((S 5 0).toNatClampNeg) ?_ ?_
  · refine r_iload_n C dX0_deal_2 rfl rfl ?_
    refine r_aload_n C dX0_deal_3 rfl rfl ?_
    refine r_get C (j := 5) rfl in_X0 (GA_o GA_pG) (by decide) fl_X0_40 rfl rfl dX0_deal_4 ?_
    refine r_icmp_ge C 35 dX0_deal_7 (by decide) (fun _ => ?_) (fun c => absurd (by rw [g_dO_n]; exact tn_le _) c)
    exact r_vret C rfl (Nat.le_of_ble_eq_true rfl) (Nat.le_of_ble_eq_true rfl) ⟨rfl, rfl, rfl⟩ dX0_deal_35
  · intro i h_i ih_i
    refine r_iload_n C dX0_deal_2 rfl rfl ?_
    refine r_aload_n C dX0_deal_3 rfl rfl ?_
    refine r_get C (j := 5) rfl in_X0 (GA_o GA_pG) (by decide) fl_X0_40 rfl rfl dX0_deal_4 ?_
    refine r_icmp_ge C 35 dX0_deal_7 (by decide) (fun c => absurd c (by rw [g_dO_n]; exact tn_nle h_i)) (fun _ => ?_)
    refine r_iconst C (v := 0) dX0_deal_10 rfl ?_
    refine r_istore_n C dX0_deal_11 rfl (by decide) ?_
    refine V.sub [(0, .ref g), (1, .int (nI i)), (2, .int (nI 0))] ⟨rfl, rfl, rfl, trivial⟩ ?_
    refine down_ (P := fun j => V p l e ⟨3, 0, 0, 66⟩ s m args below meth c G 3 (Qg G below args s 0 0 (fun v1 h1 s1 => v1 = none ∧ h1 = (pG G h g (g_dO S (S 5 0).toNatClampNeg)) ∧ s1 = sz)) (pG G h g (g_dI (g_dO S i) (nI i) j)) sz 0 0 12 [(0, .ref g), (1, .int (nI i)), (2, .int (nI j))] []) (5) ?_ ?_
    · refine r_iload_n C dX0_deal_12 rfl rfl ?_
      refine r_iconst C (v := 5) dX0_deal_13 rfl ?_
      refine r_icmp_ge C 29 dX0_deal_14 (by decide) (fun _ => ?_) (fun c => absurd (by decide) c)
      refine r_iinc C (v := 1) dX0_deal_29 rfl rfl (by decide) ?_
      refine r_goto C 2 dX0_deal_32 (by decide) ?_
      refine V.sub [(0, .ref g), (1, .int (nI (i + 1)))] ⟨rfl, (by rw [← nI_1 i]; rfl), trivial⟩ ?_
      exact ih_i
    · intro j h_j ih_j
      refine r_iload_n C dX0_deal_12 rfl rfl ?_
      refine r_iconst C (v := 5) dX0_deal_13 rfl ?_
      refine r_icmp_ge C 29 dX0_deal_14 (by decide) (fun c => absurd c (nI_ge (b := 5) h_j (by decide))) (fun _ => ?_)
      refine r_aload_n C dX0_deal_17 rfl rfl ?_
      refine r_iload_n C dX0_deal_18 rfl rfl ?_
      refine r_cVi C (c_X0_takeFromStock GA_pG) lk_X0_88 rfl (GA_o GA_pG) rfl rfl ⟨(Nat.le_of_ble_eq_true rfl), (Nat.le_of_ble_eq_true rfl), (Nat.le_of_ble_eq_true rfl), (Nat.le_of_ble_eq_true rfl), (Nat.le_of_ble_eq_true rfl)⟩ dX0_deal_19 ?_
      refine r_pop C dX0_deal_22 rfl ?_
      refine r_iinc C (v := 1) dX0_deal_23 rfl rfl (by decide) ?_
      refine r_goto C 12 dX0_deal_26 (by decide) ?_
      refine V.heap (h2 := (pG G h g (g_dI (g_dO S i) (nI i) (j + 1)))) (by simp only [pG_pG]; rfl) ?_
      refine V.sub [(0, .ref g), (1, .int (nI i)), (2, .int (nI (j + 1)))] ⟨rfl, rfl, (by rw [← nI_1 j]; rfl), trivial⟩ ?_
      exact ih_j

/-- v (a tile's lot and its number, as one) goes to the place p or one ahead -/
def i_ins (v : Int32) : Nat → gS → gS
  | 0, S => gP S 4 0 (nI 0) v
  | p + 1, S => if v < tAt 28 28 (S 4) 0 (nI (p + 1) - 1) then i_ins v p (gP S 4 0 (nI (p + 1)) (tAt 28 28 (S 4) 0 (nI (p + 1) - 1))) else gP S 4 0 (nI (p + 1)) v
set_option maxHeartbeats 800000 in
set_option maxRecDepth 100000 in
theorem c_X0_insertInOrder {G : ga_} {l : Launch} {h : HP} {sz : Nat} {g : Nat} {S : gS} {v : Int32} {t : Nat} (w : GA G h g S) (htt : t < 28) : Mf G l yX0_insertInOrder cX0_insertInOrder 4 none 1 24 0 0 [.ref g, .int v, .int (nI t)] h sz none (pG G h g (i_ins v t S)) sz := by
  refine Mg.ofV [(0, .ref g), (1, .int v), (2, .int (nI t))] (by decide) (Nat.le_of_ble_eq_true rfl) rfl ?_
  intro p e s m args below meth c C

  have loop : ∀ (q : Nat) (S1 : gS), q < 28 → pG G h g (i_ins v q S1) = (pG G h g (i_ins v t S)) → V p l e ⟨1, 0, 0, 24⟩ s m args below meth c G 4 (Qg G below args s 0 0 (fun v1 h1 s1 => v1 = none ∧ h1 = (pG G h g (i_ins v t S)) ∧ s1 = sz)) (pG G h g S1) sz 0 0 2 [(0, .ref g), (1, .int v), (3, .int (nI q))] [] := by
    intro q
    induction q with
    | zero =>
      intro S1 hq hr
      refine r_iload_n C dX0_insertInOrder_2 rfl rfl ?_
      refine r_if_le C 47 dX0_insertInOrder_3 (by decide) (fun _ => ?_) (fun c => absurd (show nI 0 ≤ 0 by decide) c)
      refine r_aload_n C dX0_insertInOrder_47 rfl rfl ?_
      refine r_get C (j := 4) rfl in_X0 (GA_o GA_pG) (by decide) fl_X0_29 rfl rfl dX0_insertInOrder_48 ?_
      refine r_iconst C (v := 0) dX0_insertInOrder_51 rfl ?_
      refine r_iload_n C dX0_insertInOrder_52 rfl rfl ?_
      refine r_iload_n C dX0_insertInOrder_53 rfl rfl ?_
      refine r_cVv C (c_put4 GA_pG) lk_X0_77 rfl (GA_t4 GA_pG) rfl rfl ⟨(Nat.le_of_ble_eq_true rfl), (Nat.le_of_ble_eq_true rfl), (Nat.le_of_ble_eq_true rfl), (Nat.le_of_ble_eq_true rfl), (Nat.le_of_ble_eq_true rfl)⟩ dX0_insertInOrder_54 ?_
      refine V.heap (pG_pG _ _ _ _ _) ?_
      exact r_vret C rfl (Nat.le_of_ble_eq_true rfl) (Nat.le_of_ble_eq_true rfl) ⟨rfl, by rw [← hr]; rfl, rfl⟩ dX0_insertInOrder_57
    | succ q ih =>
      intro S1 hq hr
      refine r_iload_n C dX0_insertInOrder_2 rfl rfl ?_
      refine r_if_le C 47 dX0_insertInOrder_3 (by decide) (fun c => absurd c (nI_nle (by omega) (by omega))) (fun _ => ?_)
      refine r_aload_n C dX0_insertInOrder_6 rfl rfl ?_
      refine r_get C (j := 4) rfl in_X0 (GA_o GA_pG) (by decide) fl_X0_29 rfl rfl dX0_insertInOrder_7 ?_
      refine r_iconst C (v := 0) dX0_insertInOrder_10 rfl ?_
      refine r_iload_n C dX0_insertInOrder_11 rfl rfl ?_
      refine r_iconst C (v := 1) dX0_insertInOrder_12 rfl ?_
      refine r_isub C dX0_insertInOrder_13 ?_
      refine r_cVi C (c_at4 GA_pG) lk_X0_84 rfl (GA_t4 GA_pG) rfl rfl ⟨(Nat.le_of_ble_eq_true rfl), (Nat.le_of_ble_eq_true rfl), (Nat.le_of_ble_eq_true rfl), (Nat.le_of_ble_eq_true rfl), (Nat.le_of_ble_eq_true rfl)⟩ dX0_insertInOrder_14 ?_
      refine r_iload_n C dX0_insertInOrder_17 rfl rfl ?_
      refine r_icmp_le C 47 dX0_insertInOrder_18 (by decide) (fun c_18 => ?_) (fun c_18 => ?_)
      · have e_18 := i32_nlt c_18
        refine r_aload_n C dX0_insertInOrder_47 rfl rfl ?_
        refine r_get C (j := 4) rfl in_X0 (GA_o GA_pG) (by decide) fl_X0_29 rfl rfl dX0_insertInOrder_48 ?_
        refine r_iconst C (v := 0) dX0_insertInOrder_51 rfl ?_
        refine r_iload_n C dX0_insertInOrder_52 rfl rfl ?_
        refine r_iload_n C dX0_insertInOrder_53 rfl rfl ?_
        refine r_cVv C (c_put4 GA_pG) lk_X0_77 rfl (GA_t4 GA_pG) rfl rfl ⟨(Nat.le_of_ble_eq_true rfl), (Nat.le_of_ble_eq_true rfl), (Nat.le_of_ble_eq_true rfl), (Nat.le_of_ble_eq_true rfl), (Nat.le_of_ble_eq_true rfl)⟩ dX0_insertInOrder_54 ?_
        refine V.heap (pG_pG _ _ _ _ _) ?_
        exact r_vret C rfl (Nat.le_of_ble_eq_true rfl) (Nat.le_of_ble_eq_true rfl) ⟨rfl, by rw [← hr]; simp only [i_ins]; rw [if_neg e_18], rfl⟩ dX0_insertInOrder_57
      · have e_18 := i32_lt c_18
        refine r_aload_n C dX0_insertInOrder_21 rfl rfl ?_
        refine r_get C (j := 4) rfl in_X0 (GA_o GA_pG) (by decide) fl_X0_29 rfl rfl dX0_insertInOrder_22 ?_
        refine r_iconst C (v := 0) dX0_insertInOrder_25 rfl ?_
        refine r_iload_n C dX0_insertInOrder_26 rfl rfl ?_
        refine r_aload_n C dX0_insertInOrder_27 rfl rfl ?_
        refine r_get C (j := 4) rfl in_X0 (GA_o GA_pG) (by decide) fl_X0_29 rfl rfl dX0_insertInOrder_28 ?_
        refine r_iconst C (v := 0) dX0_insertInOrder_31 rfl ?_
        refine r_iload_n C dX0_insertInOrder_32 rfl rfl ?_
        refine r_iconst C (v := 1) dX0_insertInOrder_33 rfl ?_
        refine r_isub C dX0_insertInOrder_34 ?_
        refine r_cVi C (c_at4 GA_pG) lk_X0_84 rfl (GA_t4 GA_pG) rfl rfl ⟨(Nat.le_of_ble_eq_true rfl), (Nat.le_of_ble_eq_true rfl), (Nat.le_of_ble_eq_true rfl), (Nat.le_of_ble_eq_true rfl), (Nat.le_of_ble_eq_true rfl)⟩ dX0_insertInOrder_35 ?_
        refine r_cVv C (c_put4 GA_pG) lk_X0_77 rfl (GA_t4 GA_pG) rfl rfl ⟨(Nat.le_of_ble_eq_true rfl), (Nat.le_of_ble_eq_true rfl), (Nat.le_of_ble_eq_true rfl), (Nat.le_of_ble_eq_true rfl), (Nat.le_of_ble_eq_true rfl)⟩ dX0_insertInOrder_38 ?_
        refine V.heap (pG_pG _ _ _ _ _) ?_
        refine r_iinc C (v := -1) dX0_insertInOrder_41 rfl rfl (by decide) ?_
        refine r_goto C 2 dX0_insertInOrder_44 (by decide) ?_
        refine V.sub [(0, .ref g), (1, .int v), (3, .int (nI q))] ⟨rfl, rfl, by rw [show nI (q + 1) + -1 = nI q from pk_m1 q]; rfl, trivial⟩ ?_
        exact ih _ (by omega) (by rw [← hr]; simp only [i_ins]; rw [if_pos e_18])
  refine r_iload_n C dX0_insertInOrder_0 rfl rfl ?_
  refine r_istore_n C dX0_insertInOrder_1 rfl (by decide) ?_
  refine V.heap (pG_id w).symm ?_
  refine V.sub [(0, .ref g), (1, .int v), (3, .int (nI t))] ⟨rfl, rfl, rfl, trivial⟩ ?_
  exact loop t S htt rfl
def i_lot (x : Int32) : Int32 := x * 421 + 1663 - (x * 421 + 1663) / 10000 * 10000
def i_ord1 (t : Nat) (S : gS) : gS := i_ins (i_lot (S 5 6) * 28 + nI t) t (gc S 6 (i_lot (S 5 6)))
def i_ord (S : gS) (x : Int32) : Nat → gS
  | 0 => gc S 6 x
  | t + 1 => i_ord1 t (i_ord S x t)
def i_m28 (v : Int32) : Int32 := v - v / 28 * 28
/-- the lots go out again: the tiles are left -/
def i_mod (S : gS) : Nat → gS
  | 0 => S
  | p + 1 => gP (i_mod S p) 4 0 (nI p) (i_m28 (tAt 28 28 ((i_mod S p) 4) 0 (nI p)))
def s_0 (S : gS) (n : Int32) : gS := gc (gc (gc (gc (gc S 0 n) 1 0) 2 0) 3 0) 4 0
def s_1 (S : gS) (n : Int32) : gS := g_mr (g_mtO (gZ (gZ (s_0 S n) 1) 2) 7) 3
def s_2 (S : gS) (n x : Int32) : gS := i_mod (i_ord (s_1 S n) x 28) 28
def s_3 (S : gS) (n x : Int32) : gS := g_dO (s_2 S n x) ((s_2 S n x) 5 0).toNatClampNeg
set_option maxHeartbeats 800000 in
set_option maxRecDepth 100000 in
theorem c_X0_orderStock {G : ga_} {l : Launch} {h : HP} {sz : Nat} {g : Nat} {S : gS} {x : Int32}  (w : GA G h g S)  : Mf G l yX0_orderStock cX0_orderStock 3 none 2 47 0 0 [.ref g, .int x] h sz none (pG G h g (i_mod (i_ord S x 28) 28)) sz := by
  refine Mg.ofV [(0, .ref g), (1, .int x)] (by decide) (Nat.le_of_ble_eq_true rfl) rfl ?_
  intro p e s m args below meth c C
  refine r_aload_n C dX0_orderStock_0 rfl rfl ?_
  refine r_iload_n C dX0_orderStock_1 rfl rfl ?_
  refine r_put C (j := 11) tyX0 tyX0_ok nmX0 rfl in_X0 (GA_o w) (by decide) fl_X0_58 rfl rfl rfl (by first | rfl | decide) (by first | rfl | decide) (Nat.le_of_ble_eq_true rfl) dX0_orderStock_2 ?_
  refine V.heap (pG_num w 6 _ rfl) ?_
  refine r_iconst C (v := 0) dX0_orderStock_5 rfl ?_
  refine r_istore_n C dX0_orderStock_6 rfl (by decide) ?_
  refine V.sub [(0, .ref g), (2, .int (nI 0))] ⟨rfl, rfl, trivial⟩ ?_
  refine down_ (P := fun i => V p l e ⟨2, 0, 0, 47⟩ s m args below meth c G 3 (Qg G below args s 0 0 (fun v1 h1 s1 => v1 = none ∧ h1 = (pG G h g (i_mod (i_ord S x 28) 28)) ∧ s1 = sz)) (pG G h g (i_ord S x i)) sz 0 0 7 [(0, .ref g), (2, .int (nI i))] []) (28) ?_ ?_
  · refine r_iload_n C dX0_orderStock_7 rfl rfl ?_
    refine r_bipush C (v := 28) dX0_orderStock_8 rfl ?_
    refine r_icmp_ge C 53 dX0_orderStock_10 (by decide) (fun _ => ?_) (fun c => absurd (by decide) c)
    refine r_iconst C (v := 0) dX0_orderStock_53 rfl ?_
    refine r_istore_n C dX0_orderStock_54 rfl (by decide) ?_
    refine V.sub [(0, .ref g), (2, .int (nI 0))] ⟨rfl, rfl, trivial⟩ ?_
    refine down_ (P := fun j => V p l e ⟨2, 0, 0, 47⟩ s m args below meth c G 3 (Qg G below args s 0 0 (fun v1 h1 s1 => v1 = none ∧ h1 = (pG G h g (i_mod (i_ord S x 28) 28)) ∧ s1 = sz)) (pG G h g (i_mod (i_ord S x 28) j)) sz 0 0 55 [(0, .ref g), (2, .int (nI j))] []) (28) ?_ ?_
    · refine r_iload_n C dX0_orderStock_55 rfl rfl ?_
      refine r_bipush C (v := 28) dX0_orderStock_56 rfl ?_
      refine r_icmp_ge C 88 dX0_orderStock_58 (by decide) (fun _ => ?_) (fun c => absurd (by decide) c)
      exact r_vret C rfl (Nat.le_of_ble_eq_true rfl) (Nat.le_of_ble_eq_true rfl) ⟨rfl, rfl, rfl⟩ dX0_orderStock_88
    · intro j h_j ih_j
      refine r_iload_n C dX0_orderStock_55 rfl rfl ?_
      refine r_bipush C (v := 28) dX0_orderStock_56 rfl ?_
      refine r_icmp_ge C 88 dX0_orderStock_58 (by decide) (fun c => absurd c (nI_ge (b := 28) h_j (by decide))) (fun _ => ?_)
      refine r_aload_n C dX0_orderStock_61 rfl rfl ?_
      refine r_get C (j := 4) rfl in_X0 (GA_o GA_pG) (by decide) fl_X0_29 rfl rfl dX0_orderStock_62 ?_
      refine r_iconst C (v := 0) dX0_orderStock_65 rfl ?_
      refine r_iload_n C dX0_orderStock_66 rfl rfl ?_
      refine r_aload_n C dX0_orderStock_67 rfl rfl ?_
      refine r_get C (j := 4) rfl in_X0 (GA_o GA_pG) (by decide) fl_X0_29 rfl rfl dX0_orderStock_68 ?_
      refine r_iconst C (v := 0) dX0_orderStock_71 rfl ?_
      refine r_iload_n C dX0_orderStock_72 rfl rfl ?_
      refine r_cVi C (c_at4 GA_pG) lk_X0_84 rfl (GA_t4 GA_pG) rfl rfl ⟨(Nat.le_of_ble_eq_true rfl), (Nat.le_of_ble_eq_true rfl), (Nat.le_of_ble_eq_true rfl), (Nat.le_of_ble_eq_true rfl), (Nat.le_of_ble_eq_true rfl)⟩ dX0_orderStock_73 ?_
      refine r_bipush C (v := 28) dX0_orderStock_76 rfl ?_
      refine r_irem C dX0_orderStock_78 (by decide) ?_
      refine r_cVv C (c_put4 GA_pG) lk_X0_77 rfl (GA_t4 GA_pG) rfl rfl ⟨(Nat.le_of_ble_eq_true rfl), (Nat.le_of_ble_eq_true rfl), (Nat.le_of_ble_eq_true rfl), (Nat.le_of_ble_eq_true rfl), (Nat.le_of_ble_eq_true rfl)⟩ dX0_orderStock_79 ?_
      refine V.heap (pG_pG _ _ _ _ _) ?_
      refine r_iinc C (v := 1) dX0_orderStock_82 rfl rfl (by decide) ?_
      refine r_goto C 55 dX0_orderStock_85 (by decide) ?_
      refine V.heap (h2 := (pG G h g (i_mod (i_ord S x 28) (j + 1)))) (rfl) ?_
      refine V.sub [(0, .ref g), (2, .int (nI (j + 1)))] ⟨rfl, (by rw [← nI_1 j]; rfl), trivial⟩ ?_
      exact ih_j
  · intro i h_i ih_i
    refine r_iload_n C dX0_orderStock_7 rfl rfl ?_
    refine r_bipush C (v := 28) dX0_orderStock_8 rfl ?_
    refine r_icmp_ge C 53 dX0_orderStock_10 (by decide) (fun c => absurd c (nI_ge (b := 28) h_i (by decide))) (fun _ => ?_)
    refine r_aload_n C dX0_orderStock_13 rfl rfl ?_
    refine r_aload_n C dX0_orderStock_14 rfl rfl ?_
    refine r_get C (j := 11) rfl in_X0 (GA_o GA_pG) (by decide) fl_X0_58 rfl rfl dX0_orderStock_15 ?_
    refine r_sipush C (v := 421) dX0_orderStock_18 rfl ?_
    refine r_imul C dX0_orderStock_21 ?_
    refine r_sipush C (v := 1663) dX0_orderStock_22 rfl ?_
    refine r_iadd C dX0_orderStock_25 ?_
    refine r_sipush C (v := 10000) dX0_orderStock_26 rfl ?_
    refine r_irem C dX0_orderStock_29 (by decide) ?_
    refine r_put C (j := 11) tyX0 tyX0_ok nmX0 rfl in_X0 (GA_o GA_pG) (by decide) fl_X0_58 rfl rfl rfl (by first | rfl | decide) (by first | rfl | decide) (Nat.le_of_ble_eq_true rfl) dX0_orderStock_30 ?_
    refine V.heap (pG_num GA_pG 6 _ rfl) ?_
    refine V.heap (pG_pG _ _ _ _ _) ?_
    refine r_aload_n C dX0_orderStock_33 rfl rfl ?_
    refine r_aload_n C dX0_orderStock_34 rfl rfl ?_
    refine r_get C (j := 11) rfl in_X0 (GA_o GA_pG) (by decide) fl_X0_58 rfl rfl dX0_orderStock_35 ?_
    refine r_bipush C (v := 28) dX0_orderStock_38 rfl ?_
    refine r_imul C dX0_orderStock_40 ?_
    refine r_iload_n C dX0_orderStock_41 rfl rfl ?_
    refine r_iadd C dX0_orderStock_42 ?_
    refine r_iload_n C dX0_orderStock_43 rfl rfl ?_
    refine r_cVv C (c_X0_insertInOrder GA_pG h_i) lk_X0_81 rfl (GA_o GA_pG) rfl rfl ⟨(Nat.le_of_ble_eq_true rfl), (Nat.le_of_ble_eq_true rfl), (Nat.le_of_ble_eq_true rfl), (Nat.le_of_ble_eq_true rfl), (Nat.le_of_ble_eq_true rfl)⟩ dX0_orderStock_44 ?_
    refine V.heap (pG_pG _ _ _ _ _) ?_
    refine r_iinc C (v := 1) dX0_orderStock_47 rfl rfl (by decide) ?_
    refine r_goto C 7 dX0_orderStock_50 (by decide) ?_
    refine V.heap (h2 := (pG G h g (i_ord S x (i + 1)))) (rfl) ?_
    refine V.sub [(0, .ref g), (2, .int (nI (i + 1)))] ⟨rfl, (by rw [← nI_1 i]; rfl), trivial⟩ ?_
    exact ih_i

set_option maxHeartbeats 800000 in
set_option maxRecDepth 100000 in
theorem c_X0_start {G : ga_} {l : Launch} {h : HP} {sz : Nat} {g : Nat} {S : gS} {n x : Int32}  (w : GA G h g S)  : Mf G l yX0_start cX0_start 3 none 4 88 0 0 [.ref g, .int n, .int x] h sz none (pG G h g (s_3 S n x)) sz := by
  refine Mg.ofV [(0, .ref g), (1, .int n), (2, .int x)] (by decide) (Nat.le_of_ble_eq_true rfl) rfl ?_
  intro p e s m args below meth c C
  refine r_aload_n C dX0_start_0 rfl rfl ?_
  refine r_iload_n C dX0_start_1 rfl rfl ?_
  refine r_put C (j := 5) tyX0 tyX0_ok nmX0 rfl in_X0 (GA_o w) (by decide) fl_X0_40 rfl rfl rfl (by first | rfl | decide) (by first | rfl | decide) (Nat.le_of_ble_eq_true rfl) dX0_start_2 ?_
  refine V.heap (pG_num w 0 _ rfl) ?_
  refine r_aload_n C dX0_start_5 rfl rfl ?_
  refine r_iconst C (v := 0) dX0_start_6 rfl ?_
  refine r_put C (j := 6) tyX0 tyX0_ok nmX0 rfl in_X0 (GA_o GA_pG) (by decide) fl_X0_43 rfl rfl rfl (by first | rfl | decide) (by first | rfl | decide) (Nat.le_of_ble_eq_true rfl) dX0_start_7 ?_
  refine V.heap (pG_num GA_pG 1 _ rfl) ?_
  refine V.heap (pG_pG _ _ _ _ _) ?_
  refine r_aload_n C dX0_start_10 rfl rfl ?_
  refine r_iconst C (v := 0) dX0_start_11 rfl ?_
  refine r_put C (j := 7) tyX0 tyX0_ok nmX0 rfl in_X0 (GA_o GA_pG) (by decide) fl_X0_46 rfl rfl rfl (by first | rfl | decide) (by first | rfl | decide) (Nat.le_of_ble_eq_true rfl) dX0_start_12 ?_
  refine V.heap (pG_num GA_pG 2 _ rfl) ?_
  refine V.heap (pG_pG _ _ _ _ _) ?_
  refine r_aload_n C dX0_start_15 rfl rfl ?_
  refine r_iconst C (v := 0) dX0_start_16 rfl ?_
  refine r_put C (j := 8) tyX0 tyX0_ok nmX0 rfl in_X0 (GA_o GA_pG) (by decide) fl_X0_49 rfl rfl rfl (by first | rfl | decide) (by first | rfl | decide) (Nat.le_of_ble_eq_true rfl) dX0_start_17 ?_
  refine V.heap (pG_num GA_pG 3 _ rfl) ?_
  refine V.heap (pG_pG _ _ _ _ _) ?_
  refine r_aload_n C dX0_start_20 rfl rfl ?_
  refine r_iconst C (v := 0) dX0_start_21 rfl ?_
  refine r_put C (j := 9) tyX0 tyX0_ok nmX0 rfl in_X0 (GA_o GA_pG) (by decide) fl_X0_52 rfl rfl rfl (by first | rfl | decide) (by first | rfl | decide) (Nat.le_of_ble_eq_true rfl) dX0_start_22 ?_
  refine V.heap (pG_num GA_pG 4 _ rfl) ?_
  refine V.heap (pG_pG _ _ _ _ _) ?_
  refine r_aload_n C dX0_start_25 rfl rfl ?_
  refine r_get C (j := 1) rfl in_X0 (GA_o GA_pG) (by decide) fl_X0_20 rfl rfl dX0_start_26 ?_
  refine r_cVv C (c_clear1 GA_pG) lk_X0_61 rfl (GA_t1 GA_pG) rfl rfl ⟨(Nat.le_of_ble_eq_true rfl), (Nat.le_of_ble_eq_true rfl), (Nat.le_of_ble_eq_true rfl), (Nat.le_of_ble_eq_true rfl), (Nat.le_of_ble_eq_true rfl)⟩ dX0_start_29 ?_
  refine V.heap (pG_pG _ _ _ _ _) ?_
  refine r_aload_n C dX0_start_32 rfl rfl ?_
  refine r_get C (j := 2) rfl in_X0 (GA_o GA_pG) (by decide) fl_X0_23 rfl rfl dX0_start_33 ?_
  refine r_cVv C (c_clear2 GA_pG) lk_X0_61 rfl (GA_t2 GA_pG) rfl rfl ⟨(Nat.le_of_ble_eq_true rfl), (Nat.le_of_ble_eq_true rfl), (Nat.le_of_ble_eq_true rfl), (Nat.le_of_ble_eq_true rfl), (Nat.le_of_ble_eq_true rfl)⟩ dX0_start_36 ?_
  refine V.heap (pG_pG _ _ _ _ _) ?_
  refine r_aload_n C dX0_start_39 rfl rfl ?_
  refine r_cVv C (c_X0_makeTiles GA_pG) lk_X0_64 rfl (GA_o GA_pG) rfl rfl ⟨(Nat.le_of_ble_eq_true rfl), (Nat.le_of_ble_eq_true rfl), (Nat.le_of_ble_eq_true rfl), (Nat.le_of_ble_eq_true rfl), (Nat.le_of_ble_eq_true rfl)⟩ dX0_start_40 ?_
  refine V.heap (pG_pG _ _ _ _ _) ?_
  refine r_aload_n C dX0_start_43 rfl rfl ?_
  refine r_cVv C (c_X0_makeRows GA_pG) lk_X0_67 rfl (GA_o GA_pG) rfl rfl ⟨(Nat.le_of_ble_eq_true rfl), (Nat.le_of_ble_eq_true rfl), (Nat.le_of_ble_eq_true rfl), (Nat.le_of_ble_eq_true rfl), (Nat.le_of_ble_eq_true rfl)⟩ dX0_start_44 ?_
  refine V.heap (pG_pG _ _ _ _ _) ?_
  refine r_aload_n C dX0_start_47 rfl rfl ?_
  refine r_iload_n C dX0_start_48 rfl rfl ?_
  refine r_cVv C (c_X0_orderStock GA_pG) lk_X0_70 rfl (GA_o GA_pG) rfl rfl ⟨(Nat.le_of_ble_eq_true rfl), (Nat.le_of_ble_eq_true rfl), (Nat.le_of_ble_eq_true rfl), (Nat.le_of_ble_eq_true rfl), (Nat.le_of_ble_eq_true rfl)⟩ dX0_start_49 ?_
  refine V.heap (pG_pG _ _ _ _ _) ?_
  refine r_aload_n C dX0_start_52 rfl rfl ?_
  refine r_cVv C (c_X0_deal GA_pG) lk_X0_74 rfl (GA_o GA_pG) rfl rfl ⟨(Nat.le_of_ble_eq_true rfl), (Nat.le_of_ble_eq_true rfl), (Nat.le_of_ble_eq_true rfl), (Nat.le_of_ble_eq_true rfl), (Nat.le_of_ble_eq_true rfl)⟩ dX0_start_53 ?_
  refine V.heap (pG_pG _ _ _ _ _) ?_
  exact r_vret C rfl (Nat.le_of_ble_eq_true rfl) (Nat.le_of_ble_eq_true rfl) ⟨rfl, by simp only [s_3, s_2, s_1, s_0], rfl⟩ dX0_start_56
end
section
/-! MAKING: Table(rows, columns), Game(), Game.become -/
theorem tab_made {G : ga_} {h : HP} {t sz N : Nat} {c0 : Int32} (hts : t < sz) : up_ (up_ (up_ h t (ob_ 2 [.int c0, .null])) sz (aI_ G N (fun _ => 0))) t (ob_ 2 [.int c0, .ref sz]) = up_ (up_ h t (ob_ 2 [.int c0, .ref sz])) sz (aI_ G N (fun _ => 0)) := by
  funext q
  by_cases e1 : q = t
  · subst e1; rw [up_s, up_n (Nat.ne_of_lt hts), up_s]
  · rw [up_n e1]
    by_cases e2 : q = sz
    · subst e2; rw [up_s, up_s]
    · rw [up_n e2, up_n e2, up_n e1, up_n e1]
set_option maxHeartbeats 800000 in
set_option maxRecDepth 100000 in
theorem c_X2_init {G : ga_} {l : Launch} {h : HP} {sz : Nat} {t N : Nat} {r c0 : Int32} (hT : h t = some (ob_ 2 [.int 0, .null])) (hts : t < sz) (hN : r * c0 = nI N) (hn : N < 1000000) : Mf G l yX2_init cX2_init 3 none 1 14 1 N [.ref t, .int r, .int c0] h sz none (up_ (up_ h t (ob_ 2 [.int c0, .ref sz])) sz (aI_ G N (fun _ => 0))) (sz + 1) := by
  refine Mg.ofV [(0, .ref t), (1, .int r), (2, .int c0)] (by decide) (Nat.le_of_ble_eq_true rfl) rfl ?_
  intro p e s m args below meth c C

  have hm : (if r * c0 < 0 then (0 : Int32) else r * c0) = nI N := by rw [hN, if_neg (nI_pos (by omega))]
  refine r_aload_n C dX2_init_0 rfl rfl ?_
  refine r_objInit C jl_X2_3 oi_inst oi_code (Nat.le_of_ble_eq_true rfl) (Nat.le_of_ble_eq_true rfl) dX2_init_1 ?_
  refine r_aload_n C dX2_init_4 rfl rfl ?_
  refine r_iload_n C dX2_init_5 rfl rfl ?_
  refine r_putF C (j := 0) tyX2 tyX2_ok nmX2 rfl in_X2 (hT) (by decide) fl_X2_9 rfl rfl rfl rfl rfl (by first | rfl | decide) (by first | rfl | decide) (Nat.le_of_ble_eq_true rfl) dX2_init_6 ?_
  refine r_aload_n C dX2_init_9 rfl rfl ?_
  refine r_iload_n C dX2_init_10 rfl rfl ?_
  refine r_iload_n C dX2_init_11 rfl rfl ?_
  refine r_imul C dX2_init_12 ?_
  refine r_iconst C (v := 0) dX2_init_13 rfl ?_
  refine r_mmax C jl_X2_15 mx_st ma_ii mx_code (Nat.le_of_ble_eq_true rfl) (Nat.le_of_ble_eq_true rfl) (Nat.zero_le _) (Nat.zero_le _) dX2_init_14 ?_
  rw [hm]
  refine r_newaI C ac_int (nI_pos (by omega)) (nI_clamp (by omega)) (by omega) (by show 0 + 1 ≤ 1; omega) (by show 0 + N ≤ N; omega) dX2_init_17 ?_
  refine r_putF C (j := 1) tyX2 tyX2_ok nmX2 rfl in_X2 ((by rw [up_n (Nat.ne_of_lt hts), up_s])) (by decide) fl_X2_21 rfl rfl rfl rfl rfl (by first | rfl | decide) (by first | rfl | decide) (Nat.le_of_ble_eq_true rfl) dX2_init_19 ?_
  exact r_vret C rfl (by show 0 + 1 ≤ 1; omega) (by show 0 + N ≤ N; omega) ⟨rfl, tab_made hts, rfl⟩ dX2_init_22
/-- a game as it is made -/
def gS0 : gS := fun j k => if j = 5 ∧ k = 7 then 3 else 0
theorem gz0 {G : ga_} {g : Nat} : gC G g gS0 0 = ob_ 0 [.ref (g + 1), .ref (g + 3), .ref (g + 5), .ref (g + 7), .ref (g + 9), .int 0, .int 0, .int 0, .int 0, .int 0, .int 0, .int 0, .int 3] := rfl
theorem gz1 {G : ga_} {g : Nat} : gC G g gS0 1 = ob_ 2 [.int 7, .ref (g + 2)] := rfl
theorem gz2 {G : ga_} {g : Nat} : gC G g gS0 2 = aI_ G 196 (fun _ => 0) := rfl
theorem gz3 {G : ga_} {g : Nat} : gC G g gS0 3 = ob_ 2 [.int 28, .ref (g + 4)] := rfl
theorem gz4 {G : ga_} {g : Nat} : gC G g gS0 4 = aI_ G 112 (fun _ => 0) := rfl
theorem gz5 {G : ga_} {g : Nat} : gC G g gS0 5 = ob_ 2 [.int 4, .ref (g + 6)] := rfl
theorem gz6 {G : ga_} {g : Nat} : gC G g gS0 6 = aI_ G 16 (fun _ => 0) := rfl
theorem gz7 {G : ga_} {g : Nat} : gC G g gS0 7 = ob_ 2 [.int 4, .ref (g + 8)] := rfl
theorem gz8 {G : ga_} {g : Nat} : gC G g gS0 8 = aI_ G 12 (fun _ => 0) := rfl
theorem gz9 {G : ga_} {g : Nat} : gC G g gS0 9 = ob_ 2 [.int 28, .ref (g + 10)] := rfl
theorem gz10 {G : ga_} {g : Nat} : gC G g gS0 10 = aI_ G 28 (fun _ => 0) := rfl
theorem init_heap {G : ga_} {h : HP} {g : Nat} {f0 f1 f2 f3 f4 f5 f6 f7 f8 f9 f10 : va_E} {H : HP} (e0 : f0 = gC G g gS0 0) (e1 : f1 = gC G g gS0 1) (e2 : f2 = gC G g gS0 2) (e3 : f3 = gC G g gS0 3) (e4 : f4 = gC G g gS0 4) (e5 : f5 = gC G g gS0 5) (e6 : f6 = gC G g gS0 6) (e7 : f7 = gC G g gS0 7) (e8 : f8 = gC G g gS0 8) (e9 : f9 = gC G g gS0 9) (e10 : f10 = gC G g gS0 10)
    (hH : ∀ a, H a = if a = g then some f0 else if a = g + 1 then some f1 else if a = g + 2 then some f2 else if a = g + 3 then some f3 else if a = g + 4 then some f4 else if a = g + 5 then some f5 else if a = g + 6 then some f6 else if a = g + 7 then some f7 else if a = g + 8 then some f8 else if a = g + 9 then some f9 else if a = g + 10 then some f10 else h a) : H = pG G h g gS0 := by
  funext a
  rw [hH]
  by_cases c : g ≤ a ∧ a < g + 11
  · rw [pG_in c.1 c.2]
    obtain ⟨j, rfl⟩ : ∃ j, a = g + j := ⟨a - g, by omega⟩
    rw [Nat.add_sub_cancel_left]
    subst e0 e1 e2 e3 e4 e5 e6 e7 e8 e9 e10
    have hj : j < 11 := by omega
    revert j
    intro j _ hj
    match j, hj with
    | 0, _ => simp
    | 1, _ => simp
    | 2, _ => simp
    | 3, _ => simp
    | 4, _ => simp
    | 5, _ => simp
    | 6, _ => simp
    | 7, _ => simp
    | 8, _ => simp
    | 9, _ => simp
    | 10, _ => simp
  · rw [pG_out (by omega)]
    rw [if_neg (by omega), if_neg (by omega), if_neg (by omega), if_neg (by omega), if_neg (by omega), if_neg (by omega), if_neg (by omega), if_neg (by omega), if_neg (by omega), if_neg (by omega), if_neg (by omega)]
set_option maxHeartbeats 800000 in
set_option maxRecDepth 100000 in
theorem c_X0_init {G : ga_} {l : Launch} {h : HP} {g : Nat} (hG : h g = some (ob_ 0 [.null, .null, .null, .null, .null, .int 0, .int 0, .int 0, .int 0, .int 0, .int 0, .int 0, .int 0])) : Mf G l yX0_init cX0_init 1 none 2 36 10 374 [.ref g] h (g + 1) none (pG G h g gS0) (g + 11) := by
  refine Mg.ofV [(0, .ref g)] (by decide) (Nat.le_of_ble_eq_true rfl) rfl ?_
  intro p e s m args below meth c C

  refine r_aload_n C dX0_init_0 rfl rfl ?_
  refine r_objInit C jl_X0_3 oi_inst oi_code (Nat.le_of_ble_eq_true rfl) (Nat.le_of_ble_eq_true rfl) dX0_init_1 ?_
  refine r_aload_n C dX0_init_4 rfl rfl ?_
  refine r_new C (ci := 2) (fs := [.int 0, .null]) tyX2 tyX2_ok rfl in_X2 cl_X0_9 iz_X2 ii_X2 (fun j hj => by rcases (show j = 0 ∨ j = 1 by omega) with rfl | rfl <;> rfl) (Nat.le_of_ble_eq_true rfl) (Nat.le_of_ble_eq_true rfl) dX0_init_5 ?_
  refine r_dup C dX0_init_8 rfl ?_
  refine r_bipush C (v := 28) dX0_init_9 rfl ?_
  refine r_bipush C (v := 7) dX0_init_11 rfl ?_
  refine r_cIv C (c_X2_init (N := 196) (by simp [up_, Nat.add_assoc]) (by omega) (by decide) (by decide)) lk_X0_11 rfl rfl ⟨(Nat.le_of_ble_eq_true rfl), (Nat.le_of_ble_eq_true rfl), (Nat.le_of_ble_eq_true rfl), (Nat.le_of_ble_eq_true rfl), (Nat.le_of_ble_eq_true rfl)⟩ dX0_init_13 ?_
  refine r_putF C (j := 0) tyX0 tyX0_ok nmX0 rfl in_X0 ((show _ = some (ob_ 0 [.null, .null, .null, .null, .null, .int 0, .int 0, .int 0, .int 0, .int 0, .int 0, .int 0, .int 0]) by simp [up_, hG, Nat.add_assoc])) (by decide) fl_X0_14 rfl rfl rfl rfl rfl (by first | rfl | decide) (by first | rfl | decide) (Nat.le_of_ble_eq_true rfl) dX0_init_16 ?_
  refine r_aload_n C dX0_init_19 rfl rfl ?_
  refine r_new C (ci := 2) (fs := [.int 0, .null]) tyX2 tyX2_ok rfl in_X2 cl_X0_9 iz_X2 ii_X2 (fun j hj => by rcases (show j = 0 ∨ j = 1 by omega) with rfl | rfl <;> rfl) (Nat.le_of_ble_eq_true rfl) (Nat.le_of_ble_eq_true rfl) dX0_init_20 ?_
  refine r_dup C dX0_init_23 rfl ?_
  refine r_iconst C (v := 4) dX0_init_24 rfl ?_
  refine r_bipush C (v := 28) dX0_init_25 rfl ?_
  refine r_cIv C (c_X2_init (N := 112) (by simp [up_, Nat.add_assoc]) (by omega) (by decide) (by decide)) lk_X0_11 rfl rfl ⟨(Nat.le_of_ble_eq_true rfl), (Nat.le_of_ble_eq_true rfl), (Nat.le_of_ble_eq_true rfl), (Nat.le_of_ble_eq_true rfl), (Nat.le_of_ble_eq_true rfl)⟩ dX0_init_27 ?_
  refine r_putF C (j := 1) tyX0 tyX0_ok nmX0 rfl in_X0 ((show _ = some (ob_ 0 [.ref (g + 1), .null, .null, .null, .null, .int 0, .int 0, .int 0, .int 0, .int 0, .int 0, .int 0, .int 0]) by simp [up_, hG, Nat.add_assoc])) (by decide) fl_X0_20 rfl rfl rfl rfl rfl (by first | rfl | decide) (by first | rfl | decide) (Nat.le_of_ble_eq_true rfl) dX0_init_30 ?_
  refine r_aload_n C dX0_init_33 rfl rfl ?_
  refine r_new C (ci := 2) (fs := [.int 0, .null]) tyX2 tyX2_ok rfl in_X2 cl_X0_9 iz_X2 ii_X2 (fun j hj => by rcases (show j = 0 ∨ j = 1 by omega) with rfl | rfl <;> rfl) (Nat.le_of_ble_eq_true rfl) (Nat.le_of_ble_eq_true rfl) dX0_init_34 ?_
  refine r_dup C dX0_init_37 rfl ?_
  refine r_iconst C (v := 4) dX0_init_38 rfl ?_
  refine r_iconst C (v := 4) dX0_init_39 rfl ?_
  refine r_cIv C (c_X2_init (N := 16) (by simp [up_, Nat.add_assoc]) (by omega) (by decide) (by decide)) lk_X0_11 rfl rfl ⟨(Nat.le_of_ble_eq_true rfl), (Nat.le_of_ble_eq_true rfl), (Nat.le_of_ble_eq_true rfl), (Nat.le_of_ble_eq_true rfl), (Nat.le_of_ble_eq_true rfl)⟩ dX0_init_40 ?_
  refine r_putF C (j := 2) tyX0 tyX0_ok nmX0 rfl in_X0 ((show _ = some (ob_ 0 [.ref (g + 1), .ref (g + 3), .null, .null, .null, .int 0, .int 0, .int 0, .int 0, .int 0, .int 0, .int 0, .int 0]) by simp [up_, hG, Nat.add_assoc])) (by decide) fl_X0_23 rfl rfl rfl rfl rfl (by first | rfl | decide) (by first | rfl | decide) (Nat.le_of_ble_eq_true rfl) dX0_init_43 ?_
  refine r_aload_n C dX0_init_46 rfl rfl ?_
  refine r_new C (ci := 2) (fs := [.int 0, .null]) tyX2 tyX2_ok rfl in_X2 cl_X0_9 iz_X2 ii_X2 (fun j hj => by rcases (show j = 0 ∨ j = 1 by omega) with rfl | rfl <;> rfl) (Nat.le_of_ble_eq_true rfl) (Nat.le_of_ble_eq_true rfl) dX0_init_47 ?_
  refine r_dup C dX0_init_50 rfl ?_
  refine r_iconst C (v := 3) dX0_init_51 rfl ?_
  refine r_iconst C (v := 4) dX0_init_52 rfl ?_
  refine r_cIv C (c_X2_init (N := 12) (by simp [up_, Nat.add_assoc]) (by omega) (by decide) (by decide)) lk_X0_11 rfl rfl ⟨(Nat.le_of_ble_eq_true rfl), (Nat.le_of_ble_eq_true rfl), (Nat.le_of_ble_eq_true rfl), (Nat.le_of_ble_eq_true rfl), (Nat.le_of_ble_eq_true rfl)⟩ dX0_init_53 ?_
  refine r_putF C (j := 3) tyX0 tyX0_ok nmX0 rfl in_X0 ((show _ = some (ob_ 0 [.ref (g + 1), .ref (g + 3), .ref (g + 5), .null, .null, .int 0, .int 0, .int 0, .int 0, .int 0, .int 0, .int 0, .int 0]) by simp [up_, hG, Nat.add_assoc])) (by decide) fl_X0_26 rfl rfl rfl rfl rfl (by first | rfl | decide) (by first | rfl | decide) (Nat.le_of_ble_eq_true rfl) dX0_init_56 ?_
  refine r_aload_n C dX0_init_59 rfl rfl ?_
  refine r_new C (ci := 2) (fs := [.int 0, .null]) tyX2 tyX2_ok rfl in_X2 cl_X0_9 iz_X2 ii_X2 (fun j hj => by rcases (show j = 0 ∨ j = 1 by omega) with rfl | rfl <;> rfl) (Nat.le_of_ble_eq_true rfl) (Nat.le_of_ble_eq_true rfl) dX0_init_60 ?_
  refine r_dup C dX0_init_63 rfl ?_
  refine r_iconst C (v := 1) dX0_init_64 rfl ?_
  refine r_bipush C (v := 28) dX0_init_65 rfl ?_
  refine r_cIv C (c_X2_init (N := 28) (by simp [up_, Nat.add_assoc]) (by omega) (by decide) (by decide)) lk_X0_11 rfl rfl ⟨(Nat.le_of_ble_eq_true rfl), (Nat.le_of_ble_eq_true rfl), (Nat.le_of_ble_eq_true rfl), (Nat.le_of_ble_eq_true rfl), (Nat.le_of_ble_eq_true rfl)⟩ dX0_init_67 ?_
  refine r_putF C (j := 4) tyX0 tyX0_ok nmX0 rfl in_X0 ((show _ = some (ob_ 0 [.ref (g + 1), .ref (g + 3), .ref (g + 5), .ref (g + 7), .null, .int 0, .int 0, .int 0, .int 0, .int 0, .int 0, .int 0, .int 0]) by simp [up_, hG, Nat.add_assoc])) (by decide) fl_X0_29 rfl rfl rfl rfl rfl (by first | rfl | decide) (by first | rfl | decide) (Nat.le_of_ble_eq_true rfl) dX0_init_70 ?_
  refine r_aload_n C dX0_init_73 rfl rfl ?_
  refine r_iconst C (v := 3) dX0_init_74 rfl ?_
  refine r_put C (j := 12) tyX0 tyX0_ok nmX0 rfl in_X0 ((show _ = some (ob_ 0 [.ref (g + 1), .ref (g + 3), .ref (g + 5), .ref (g + 7), .ref (g + 9), .int 0, .int 0, .int 0, .int 0, .int 0, .int 0, .int 0, .int 0]) by simp [up_, hG, Nat.add_assoc])) (by decide) fl_X0_32 rfl rfl rfl (by first | rfl | decide) (by first | rfl | decide) (Nat.le_of_ble_eq_true rfl) dX0_init_75 ?_
  refine r_vret C rfl (Nat.le_of_ble_eq_true rfl) (Nat.le_of_ble_eq_true rfl) ⟨rfl, ?_, rfl⟩ dX0_init_78
  refine init_heap rfl rfl rfl rfl rfl rfl rfl rfl rfl rfl rfl (fun a => ?_)
  simp only [up_, gz0, gz1, gz2, gz3, gz4, gz5, gz6, gz7, gz8, gz9, gz10, Nat.add_assoc, Nat.reduceAdd]
  by_cases c0 : a = g
  · subst c0; simp
  by_cases c1 : a = g + 1
  · subst c1; simp
  by_cases c2 : a = g + 2
  · subst c2; simp
  by_cases c3 : a = g + 3
  · subst c3; simp
  by_cases c4 : a = g + 4
  · subst c4; simp
  by_cases c5 : a = g + 5
  · subst c5; simp
  by_cases c6 : a = g + 6
  · subst c6; simp
  by_cases c7 : a = g + 7
  · subst c7; simp
  by_cases c8 : a = g + 8
  · subst c8; simp
  by_cases c9 : a = g + 9
  · subst c9; simp
  by_cases c10 : a = g + 10
  · subst c10; simp
  simp [c0, c1, c2, c3, c4, c5, c6, c7, c8, c9, c10]
theorem GA_other {G : ga_} {h : HP} {g g2 : Nat} {S S2 : gS} (w2 : GA G h g2 S2) (hd : g2 + 11 ≤ g ∨ g + 11 ≤ g2) : GA G (pG G h g S) g2 S2 := fun j hj => by rw [pG_out (by omega)]; exact w2 j hj
def g_bt (S S2 : gS) : gS := gu (gu (gu (gu (gu S 0 (va_cpy (S2 0) (S 0) 0 0 196)) 1 (va_cpy (S2 1) (S 1) 0 0 112)) 2 (va_cpy (S2 2) (S 2) 0 0 16)) 3 (va_cpy (S2 3) (S 3) 0 0 12)) 4 (va_cpy (S2 4) (S 4) 0 0 28)
def g_bec (S S2 : gS) : gS := gc (gc (gc (gc (gc (gc (gc (gc (g_bt S S2) 0 (S2 5 0)) 1 (S2 5 1)) 2 (S2 5 2)) 3 (S2 5 3)) 4 (S2 5 4)) 5 (S2 5 5)) 6 (S2 5 6)) 7 (S2 5 7)
set_option maxHeartbeats 800000 in
set_option maxRecDepth 100000 in
theorem c_X0_become {G : ga_} {l : Launch} {h : HP} {sz : Nat} {g g2 : Nat} {S S2 : gS} (w : GA G h g S) (w2 : GA G h g2 S2) (hd : g2 + 11 ≤ g ∨ g + 11 ≤ g2) : Mf G l yX0_become cX0_become 2 none 2 51 0 0 [.ref g, .ref g2] h sz none (pG G h g (g_bec S S2)) sz := by
  refine Mg.ofV [(0, .ref g), (1, .ref g2)] (by decide) (Nat.le_of_ble_eq_true rfl) rfl ?_
  intro p e s m args below meth c C

  refine r_aload_n C dX0_become_0 rfl rfl ?_
  refine r_ifnonnull C 5 dX0_become_1 (by decide) ?_
  refine r_aload_n C dX0_become_5 rfl rfl ?_
  refine r_get C (j := 0) rfl in_X0 (GA_o w) (by decide) fl_X0_14 rfl rfl dX0_become_6 ?_
  refine r_aload_n C dX0_become_9 rfl rfl ?_
  refine r_get C (j := 0) rfl in_X0 (GA_o w2) (by decide) fl_X0_14 rfl rfl dX0_become_10 ?_
  refine r_cVv C (c_become0 w w2) lk_X0_36 rfl (GA_t0 w) rfl rfl ⟨(Nat.le_of_ble_eq_true rfl), (Nat.le_of_ble_eq_true rfl), (Nat.le_of_ble_eq_true rfl), (Nat.le_of_ble_eq_true rfl), (Nat.le_of_ble_eq_true rfl)⟩ dX0_become_13 ?_
  refine r_aload_n C dX0_become_16 rfl rfl ?_
  refine r_get C (j := 1) rfl in_X0 (GA_o GA_pG) (by decide) fl_X0_20 rfl rfl dX0_become_17 ?_
  refine r_aload_n C dX0_become_20 rfl rfl ?_
  refine r_get C (j := 1) rfl in_X0 (GA_o (GA_other w2 hd)) (by decide) fl_X0_20 rfl rfl dX0_become_21 ?_
  refine r_cVv C (c_become1 GA_pG (GA_other w2 hd)) lk_X0_36 rfl (GA_t1 GA_pG) rfl rfl ⟨(Nat.le_of_ble_eq_true rfl), (Nat.le_of_ble_eq_true rfl), (Nat.le_of_ble_eq_true rfl), (Nat.le_of_ble_eq_true rfl), (Nat.le_of_ble_eq_true rfl)⟩ dX0_become_24 ?_
  refine V.heap (pG_pG _ _ _ _ _) ?_
  refine r_aload_n C dX0_become_27 rfl rfl ?_
  refine r_get C (j := 2) rfl in_X0 (GA_o GA_pG) (by decide) fl_X0_23 rfl rfl dX0_become_28 ?_
  refine r_aload_n C dX0_become_31 rfl rfl ?_
  refine r_get C (j := 2) rfl in_X0 (GA_o (GA_other w2 hd)) (by decide) fl_X0_23 rfl rfl dX0_become_32 ?_
  refine r_cVv C (c_become2 GA_pG (GA_other w2 hd)) lk_X0_36 rfl (GA_t2 GA_pG) rfl rfl ⟨(Nat.le_of_ble_eq_true rfl), (Nat.le_of_ble_eq_true rfl), (Nat.le_of_ble_eq_true rfl), (Nat.le_of_ble_eq_true rfl), (Nat.le_of_ble_eq_true rfl)⟩ dX0_become_35 ?_
  refine V.heap (pG_pG _ _ _ _ _) ?_
  refine r_aload_n C dX0_become_38 rfl rfl ?_
  refine r_get C (j := 3) rfl in_X0 (GA_o GA_pG) (by decide) fl_X0_26 rfl rfl dX0_become_39 ?_
  refine r_aload_n C dX0_become_42 rfl rfl ?_
  refine r_get C (j := 3) rfl in_X0 (GA_o (GA_other w2 hd)) (by decide) fl_X0_26 rfl rfl dX0_become_43 ?_
  refine r_cVv C (c_become3 GA_pG (GA_other w2 hd)) lk_X0_36 rfl (GA_t3 GA_pG) rfl rfl ⟨(Nat.le_of_ble_eq_true rfl), (Nat.le_of_ble_eq_true rfl), (Nat.le_of_ble_eq_true rfl), (Nat.le_of_ble_eq_true rfl), (Nat.le_of_ble_eq_true rfl)⟩ dX0_become_46 ?_
  refine V.heap (pG_pG _ _ _ _ _) ?_
  refine r_aload_n C dX0_become_49 rfl rfl ?_
  refine r_get C (j := 4) rfl in_X0 (GA_o GA_pG) (by decide) fl_X0_29 rfl rfl dX0_become_50 ?_
  refine r_aload_n C dX0_become_53 rfl rfl ?_
  refine r_get C (j := 4) rfl in_X0 (GA_o (GA_other w2 hd)) (by decide) fl_X0_29 rfl rfl dX0_become_54 ?_
  refine r_cVv C (c_become4 GA_pG (GA_other w2 hd)) lk_X0_36 rfl (GA_t4 GA_pG) rfl rfl ⟨(Nat.le_of_ble_eq_true rfl), (Nat.le_of_ble_eq_true rfl), (Nat.le_of_ble_eq_true rfl), (Nat.le_of_ble_eq_true rfl), (Nat.le_of_ble_eq_true rfl)⟩ dX0_become_57 ?_
  refine V.heap (pG_pG _ _ _ _ _) ?_
  refine r_aload_n C dX0_become_60 rfl rfl ?_
  refine r_aload_n C dX0_become_61 rfl rfl ?_
  refine r_get C (j := 5) rfl in_X0 (GA_o (GA_other w2 hd)) (by decide) fl_X0_40 rfl rfl dX0_become_62 ?_
  refine r_put C (j := 5) tyX0 tyX0_ok nmX0 rfl in_X0 (GA_o GA_pG) (by decide) fl_X0_40 rfl rfl rfl (by first | rfl | decide) (by first | rfl | decide) (Nat.le_of_ble_eq_true rfl) dX0_become_65 ?_
  refine V.heap (pG_num GA_pG 0 _ rfl) ?_
  refine V.heap (pG_pG _ _ _ _ _) ?_
  refine r_aload_n C dX0_become_68 rfl rfl ?_
  refine r_aload_n C dX0_become_69 rfl rfl ?_
  refine r_get C (j := 6) rfl in_X0 (GA_o (GA_other w2 hd)) (by decide) fl_X0_43 rfl rfl dX0_become_70 ?_
  refine r_put C (j := 6) tyX0 tyX0_ok nmX0 rfl in_X0 (GA_o GA_pG) (by decide) fl_X0_43 rfl rfl rfl (by first | rfl | decide) (by first | rfl | decide) (Nat.le_of_ble_eq_true rfl) dX0_become_73 ?_
  refine V.heap (pG_num GA_pG 1 _ rfl) ?_
  refine V.heap (pG_pG _ _ _ _ _) ?_
  refine r_aload_n C dX0_become_76 rfl rfl ?_
  refine r_aload_n C dX0_become_77 rfl rfl ?_
  refine r_get C (j := 7) rfl in_X0 (GA_o (GA_other w2 hd)) (by decide) fl_X0_46 rfl rfl dX0_become_78 ?_
  refine r_put C (j := 7) tyX0 tyX0_ok nmX0 rfl in_X0 (GA_o GA_pG) (by decide) fl_X0_46 rfl rfl rfl (by first | rfl | decide) (by first | rfl | decide) (Nat.le_of_ble_eq_true rfl) dX0_become_81 ?_
  refine V.heap (pG_num GA_pG 2 _ rfl) ?_
  refine V.heap (pG_pG _ _ _ _ _) ?_
  refine r_aload_n C dX0_become_84 rfl rfl ?_
  refine r_aload_n C dX0_become_85 rfl rfl ?_
  refine r_get C (j := 8) rfl in_X0 (GA_o (GA_other w2 hd)) (by decide) fl_X0_49 rfl rfl dX0_become_86 ?_
  refine r_put C (j := 8) tyX0 tyX0_ok nmX0 rfl in_X0 (GA_o GA_pG) (by decide) fl_X0_49 rfl rfl rfl (by first | rfl | decide) (by first | rfl | decide) (Nat.le_of_ble_eq_true rfl) dX0_become_89 ?_
  refine V.heap (pG_num GA_pG 3 _ rfl) ?_
  refine V.heap (pG_pG _ _ _ _ _) ?_
  refine r_aload_n C dX0_become_92 rfl rfl ?_
  refine r_aload_n C dX0_become_93 rfl rfl ?_
  refine r_get C (j := 9) rfl in_X0 (GA_o (GA_other w2 hd)) (by decide) fl_X0_52 rfl rfl dX0_become_94 ?_
  refine r_put C (j := 9) tyX0 tyX0_ok nmX0 rfl in_X0 (GA_o GA_pG) (by decide) fl_X0_52 rfl rfl rfl (by first | rfl | decide) (by first | rfl | decide) (Nat.le_of_ble_eq_true rfl) dX0_become_97 ?_
  refine V.heap (pG_num GA_pG 4 _ rfl) ?_
  refine V.heap (pG_pG _ _ _ _ _) ?_
  refine r_aload_n C dX0_become_100 rfl rfl ?_
  refine r_aload_n C dX0_become_101 rfl rfl ?_
  refine r_get C (j := 10) rfl in_X0 (GA_o (GA_other w2 hd)) (by decide) fl_X0_55 rfl rfl dX0_become_102 ?_
  refine r_put C (j := 10) tyX0 tyX0_ok nmX0 rfl in_X0 (GA_o GA_pG) (by decide) fl_X0_55 rfl rfl rfl (by first | rfl | decide) (by first | rfl | decide) (Nat.le_of_ble_eq_true rfl) dX0_become_105 ?_
  refine V.heap (pG_num GA_pG 5 _ rfl) ?_
  refine V.heap (pG_pG _ _ _ _ _) ?_
  refine r_aload_n C dX0_become_108 rfl rfl ?_
  refine r_aload_n C dX0_become_109 rfl rfl ?_
  refine r_get C (j := 11) rfl in_X0 (GA_o (GA_other w2 hd)) (by decide) fl_X0_58 rfl rfl dX0_become_110 ?_
  refine r_put C (j := 11) tyX0 tyX0_ok nmX0 rfl in_X0 (GA_o GA_pG) (by decide) fl_X0_58 rfl rfl rfl (by first | rfl | decide) (by first | rfl | decide) (Nat.le_of_ble_eq_true rfl) dX0_become_113 ?_
  refine V.heap (pG_num GA_pG 6 _ rfl) ?_
  refine V.heap (pG_pG _ _ _ _ _) ?_
  refine r_aload_n C dX0_become_116 rfl rfl ?_
  refine r_aload_n C dX0_become_117 rfl rfl ?_
  refine r_get C (j := 12) rfl in_X0 (GA_o (GA_other w2 hd)) (by decide) fl_X0_32 rfl rfl dX0_become_118 ?_
  refine r_put C (j := 12) tyX0 tyX0_ok nmX0 rfl in_X0 (GA_o GA_pG) (by decide) fl_X0_32 rfl rfl rfl (by first | rfl | decide) (by first | rfl | decide) (Nat.le_of_ble_eq_true rfl) dX0_become_121 ?_
  refine V.heap (pG_num GA_pG 7 _ rfl) ?_
  refine V.heap (pG_pG _ _ _ _ _) ?_
  exact r_vret C rfl (Nat.le_of_ble_eq_true rfl) (Nat.le_of_ble_eq_true rfl) ⟨rfl, rfl, rfl⟩ dX0_become_124
end
section
/-! decode rows, as printed -/
theorem dX1_init_0 : decode cX1_init 0 = .ok (.aload_n 0, 1) := by decide +kernel
theorem dX1_init_1 : decode cX1_init 1 = .ok (.invokespecial 3, 3) := by decide +kernel
theorem dX1_init_4 : decode cX1_init 4 = .ok (.aload_n 0, 1) := by decide +kernel
theorem dX1_init_5 : decode cX1_init 5 = .ok (.bipush 6, 2) := by decide +kernel
theorem dX1_init_7 : decode cX1_init 7 = .ok (.anewarray 9, 3) := by decide +kernel
theorem dX1_init_10 : decode cX1_init 10 = .ok (.putfield 11, 3) := by decide +kernel
theorem dX1_init_13 : decode cX1_init 13 = .ok (.return_, 1) := by decide +kernel
theorem dX1_remember_0 : decode cX1_remember 0 = .ok (.aload_n 0, 1) := by decide +kernel
theorem dX1_remember_1 : decode cX1_remember 1 = .ok (.getfield 17, 3) := by decide +kernel
theorem dX1_remember_4 : decode cX1_remember 4 = .ok (.ifCond .lt 15, 3) := by decide +kernel
theorem dX1_remember_7 : decode cX1_remember 7 = .ok (.aload_n 0, 1) := by decide +kernel
theorem dX1_remember_8 : decode cX1_remember 8 = .ok (.getfield 17, 3) := by decide +kernel
theorem dX1_remember_11 : decode cX1_remember 11 = .ok (.aload_n 0, 1) := by decide +kernel
theorem dX1_remember_12 : decode cX1_remember 12 = .ok (.getfield 11, 3) := by decide +kernel
theorem dX1_remember_15 : decode cX1_remember 15 = .ok (.arraylength, 1) := by decide +kernel
theorem dX1_remember_16 : decode cX1_remember 16 = .ok (.if_icmp .lt 4, 3) := by decide +kernel
theorem dX1_remember_19 : decode cX1_remember 19 = .ok (.return_, 1) := by decide +kernel
theorem dX1_remember_20 : decode cX1_remember 20 = .ok (.aload_n 0, 1) := by decide +kernel
theorem dX1_remember_21 : decode cX1_remember 21 = .ok (.getfield 11, 3) := by decide +kernel
theorem dX1_remember_24 : decode cX1_remember 24 = .ok (.aload_n 0, 1) := by decide +kernel
theorem dX1_remember_25 : decode cX1_remember 25 = .ok (.getfield 17, 3) := by decide +kernel
theorem dX1_remember_28 : decode cX1_remember 28 = .ok (.aaload, 1) := by decide +kernel
theorem dX1_remember_29 : decode cX1_remember 29 = .ok (.astore_n 2, 1) := by decide +kernel
theorem dX1_remember_30 : decode cX1_remember 30 = .ok (.aload_n 2, 1) := by decide +kernel
theorem dX1_remember_31 : decode cX1_remember 31 = .ok (.ifnonnull 21, 3) := by decide +kernel
theorem dX1_remember_34 : decode cX1_remember 34 = .ok (.new 9, 3) := by decide +kernel
theorem dX1_remember_37 : decode cX1_remember 37 = .ok (.dup, 1) := by decide +kernel
theorem dX1_remember_38 : decode cX1_remember 38 = .ok (.invokespecial 21, 3) := by decide +kernel
theorem dX1_remember_41 : decode cX1_remember 41 = .ok (.astore_n 2, 1) := by decide +kernel
theorem dX1_remember_42 : decode cX1_remember 42 = .ok (.aload_n 0, 1) := by decide +kernel
theorem dX1_remember_43 : decode cX1_remember 43 = .ok (.getfield 11, 3) := by decide +kernel
theorem dX1_remember_46 : decode cX1_remember 46 = .ok (.aload_n 0, 1) := by decide +kernel
theorem dX1_remember_47 : decode cX1_remember 47 = .ok (.getfield 17, 3) := by decide +kernel
theorem dX1_remember_50 : decode cX1_remember 50 = .ok (.aload_n 2, 1) := by decide +kernel
theorem dX1_remember_51 : decode cX1_remember 51 = .ok (.aastore, 1) := by decide +kernel
theorem dX1_remember_52 : decode cX1_remember 52 = .ok (.aload_n 2, 1) := by decide +kernel
theorem dX1_remember_53 : decode cX1_remember 53 = .ok (.aload_n 1, 1) := by decide +kernel
theorem dX1_remember_54 : decode cX1_remember 54 = .ok (.invokevirtual 22, 3) := by decide +kernel
theorem dX1_remember_57 : decode cX1_remember 57 = .ok (.aload_n 0, 1) := by decide +kernel
theorem dX1_remember_58 : decode cX1_remember 58 = .ok (.aload_n 0, 1) := by decide +kernel
theorem dX1_remember_59 : decode cX1_remember 59 = .ok (.getfield 17, 3) := by decide +kernel
theorem dX1_remember_62 : decode cX1_remember 62 = .ok (.iconst 1, 1) := by decide +kernel
theorem dX1_remember_63 : decode cX1_remember 63 = .ok (.iadd, 1) := by decide +kernel
theorem dX1_remember_64 : decode cX1_remember 64 = .ok (.aload_n 0, 1) := by decide +kernel
theorem dX1_remember_65 : decode cX1_remember 65 = .ok (.getfield 11, 3) := by decide +kernel
theorem dX1_remember_68 : decode cX1_remember 68 = .ok (.arraylength, 1) := by decide +kernel
theorem dX1_remember_69 : decode cX1_remember 69 = .ok (.if_icmp .ge 12, 3) := by decide +kernel
theorem dX1_remember_72 : decode cX1_remember 72 = .ok (.aload_n 0, 1) := by decide +kernel
theorem dX1_remember_73 : decode cX1_remember 73 = .ok (.getfield 17, 3) := by decide +kernel
theorem dX1_remember_76 : decode cX1_remember 76 = .ok (.iconst 1, 1) := by decide +kernel
theorem dX1_remember_77 : decode cX1_remember 77 = .ok (.iadd, 1) := by decide +kernel
theorem dX1_remember_78 : decode cX1_remember 78 = .ok (.goto 4, 3) := by decide +kernel
theorem dX1_remember_81 : decode cX1_remember 81 = .ok (.iconst 0, 1) := by decide +kernel
theorem dX1_remember_82 : decode cX1_remember 82 = .ok (.putfield 17, 3) := by decide +kernel
theorem dX1_remember_85 : decode cX1_remember 85 = .ok (.aload_n 0, 1) := by decide +kernel
theorem dX1_remember_86 : decode cX1_remember 86 = .ok (.aload_n 0, 1) := by decide +kernel
theorem dX1_remember_87 : decode cX1_remember 87 = .ok (.getfield 26, 3) := by decide +kernel
theorem dX1_remember_90 : decode cX1_remember 90 = .ok (.iconst 1, 1) := by decide +kernel
theorem dX1_remember_91 : decode cX1_remember 91 = .ok (.iadd, 1) := by decide +kernel
theorem dX1_remember_92 : decode cX1_remember 92 = .ok (.aload_n 0, 1) := by decide +kernel
theorem dX1_remember_93 : decode cX1_remember 93 = .ok (.getfield 11, 3) := by decide +kernel
theorem dX1_remember_96 : decode cX1_remember 96 = .ok (.arraylength, 1) := by decide +kernel
theorem dX1_remember_97 : decode cX1_remember 97 = .ok (.invokestatic 29, 3) := by decide +kernel
theorem dX1_remember_100 : decode cX1_remember 100 = .ok (.putfield 26, 3) := by decide +kernel
theorem dX1_remember_103 : decode cX1_remember 103 = .ok (.return_, 1) := by decide +kernel
theorem dX1_restore_0 : decode cX1_restore 0 = .ok (.aload_n 0, 1) := by decide +kernel
theorem dX1_restore_1 : decode cX1_restore 1 = .ok (.getfield 17, 3) := by decide +kernel
theorem dX1_restore_4 : decode cX1_restore 4 = .ok (.ifCond .le 12, 3) := by decide +kernel
theorem dX1_restore_7 : decode cX1_restore 7 = .ok (.aload_n 0, 1) := by decide +kernel
theorem dX1_restore_8 : decode cX1_restore 8 = .ok (.getfield 17, 3) := by decide +kernel
theorem dX1_restore_11 : decode cX1_restore 11 = .ok (.iconst 1, 1) := by decide +kernel
theorem dX1_restore_12 : decode cX1_restore 12 = .ok (.isub, 1) := by decide +kernel
theorem dX1_restore_13 : decode cX1_restore 13 = .ok (.goto 10, 3) := by decide +kernel
theorem dX1_restore_16 : decode cX1_restore 16 = .ok (.aload_n 0, 1) := by decide +kernel
theorem dX1_restore_17 : decode cX1_restore 17 = .ok (.getfield 11, 3) := by decide +kernel
theorem dX1_restore_20 : decode cX1_restore 20 = .ok (.arraylength, 1) := by decide +kernel
theorem dX1_restore_21 : decode cX1_restore 21 = .ok (.iconst 1, 1) := by decide +kernel
theorem dX1_restore_22 : decode cX1_restore 22 = .ok (.isub, 1) := by decide +kernel
theorem dX1_restore_23 : decode cX1_restore 23 = .ok (.istore_n 2, 1) := by decide +kernel
theorem dX1_restore_24 : decode cX1_restore 24 = .ok (.aload_n 0, 1) := by decide +kernel
theorem dX1_restore_25 : decode cX1_restore 25 = .ok (.getfield 26, 3) := by decide +kernel
theorem dX1_restore_28 : decode cX1_restore 28 = .ok (.ifCond .le 20, 3) := by decide +kernel
theorem dX1_restore_31 : decode cX1_restore 31 = .ok (.iload_n 2, 1) := by decide +kernel
theorem dX1_restore_32 : decode cX1_restore 32 = .ok (.ifCond .lt 16, 3) := by decide +kernel
theorem dX1_restore_35 : decode cX1_restore 35 = .ok (.iload_n 2, 1) := by decide +kernel
theorem dX1_restore_36 : decode cX1_restore 36 = .ok (.aload_n 0, 1) := by decide +kernel
theorem dX1_restore_37 : decode cX1_restore 37 = .ok (.getfield 11, 3) := by decide +kernel
theorem dX1_restore_40 : decode cX1_restore 40 = .ok (.arraylength, 1) := by decide +kernel
theorem dX1_restore_41 : decode cX1_restore 41 = .ok (.if_icmp .ge 7, 3) := by decide +kernel
theorem dX1_restore_44 : decode cX1_restore 44 = .ok (.aload_n 1, 1) := by decide +kernel
theorem dX1_restore_45 : decode cX1_restore 45 = .ok (.ifnonnull 4, 3) := by decide +kernel
theorem dX1_restore_48 : decode cX1_restore 48 = .ok (.return_, 1) := by decide +kernel
theorem dX1_restore_49 : decode cX1_restore 49 = .ok (.aload_n 1, 1) := by decide +kernel
theorem dX1_restore_50 : decode cX1_restore 50 = .ok (.aload_n 0, 1) := by decide +kernel
theorem dX1_restore_51 : decode cX1_restore 51 = .ok (.getfield 11, 3) := by decide +kernel
theorem dX1_restore_54 : decode cX1_restore 54 = .ok (.iload_n 2, 1) := by decide +kernel
theorem dX1_restore_55 : decode cX1_restore 55 = .ok (.aaload, 1) := by decide +kernel
theorem dX1_restore_56 : decode cX1_restore 56 = .ok (.invokevirtual 22, 3) := by decide +kernel
theorem dX1_restore_59 : decode cX1_restore 59 = .ok (.aload_n 0, 1) := by decide +kernel
theorem dX1_restore_60 : decode cX1_restore 60 = .ok (.iload_n 2, 1) := by decide +kernel
theorem dX1_restore_61 : decode cX1_restore 61 = .ok (.putfield 17, 3) := by decide +kernel
theorem dX1_restore_64 : decode cX1_restore 64 = .ok (.aload_n 0, 1) := by decide +kernel
theorem dX1_restore_65 : decode cX1_restore 65 = .ok (.dup, 1) := by decide +kernel
theorem dX1_restore_66 : decode cX1_restore 66 = .ok (.getfield 26, 3) := by decide +kernel
theorem dX1_restore_69 : decode cX1_restore 69 = .ok (.iconst 1, 1) := by decide +kernel
theorem dX1_restore_70 : decode cX1_restore 70 = .ok (.isub, 1) := by decide +kernel
theorem dX1_restore_71 : decode cX1_restore 71 = .ok (.putfield 26, 3) := by decide +kernel
theorem dX1_restore_74 : decode cX1_restore 74 = .ok (.return_, 1) := by decide +kernel
theorem dX3_init_0 : decode cX3_init 0 = .ok (.aload_n 0, 1) := by decide +kernel
theorem dX3_init_1 : decode cX3_init 1 = .ok (.invokespecial 3, 3) := by decide +kernel
theorem dX3_init_4 : decode cX3_init 4 = .ok (.aload_n 0, 1) := by decide +kernel
theorem dX3_init_5 : decode cX3_init 5 = .ok (.bipush 60, 2) := by decide +kernel
theorem dX3_init_7 : decode cX3_init 7 = .ok (.newarray .char, 2) := by decide +kernel
theorem dX3_init_9 : decode cX3_init 9 = .ok (.putfield 9, 3) := by decide +kernel
theorem dX3_init_12 : decode cX3_init 12 = .ok (.return_, 1) := by decide +kernel
theorem dX4_init_0 : decode cX4_init 0 = .ok (.aload_n 0, 1) := by decide +kernel
theorem dX4_init_1 : decode cX4_init 1 = .ok (.invokespecial 3, 3) := by decide +kernel
theorem dX4_init_4 : decode cX4_init 4 = .ok (.aload_n 0, 1) := by decide +kernel
theorem dX4_init_5 : decode cX4_init 5 = .ok (.new 9, 3) := by decide +kernel
theorem dX4_init_8 : decode cX4_init 8 = .ok (.dup, 1) := by decide +kernel
theorem dX4_init_9 : decode cX4_init 9 = .ok (.bipush 10, 2) := by decide +kernel
theorem dX4_init_11 : decode cX4_init 11 = .ok (.iconst 2, 1) := by decide +kernel
theorem dX4_init_12 : decode cX4_init 12 = .ok (.invokespecial 11, 3) := by decide +kernel
theorem dX4_init_15 : decode cX4_init 15 = .ok (.putfield 14, 3) := by decide +kernel
theorem dX4_init_18 : decode cX4_init 18 = .ok (.aload_n 0, 1) := by decide +kernel
theorem dX4_init_19 : decode cX4_init 19 = .ok (.sipush 1024, 3) := by decide +kernel
theorem dX4_init_22 : decode cX4_init 22 = .ok (.newarray .int, 2) := by decide +kernel
theorem dX4_init_24 : decode cX4_init 24 = .ok (.putfield 20, 3) := by decide +kernel
theorem dX4_init_27 : decode cX4_init 27 = .ok (.return_, 1) := by decide +kernel
theorem dX4_take_0 : decode cX4_take 0 = .ok (.aload_n 0, 1) := by decide +kernel
theorem dX4_take_1 : decode cX4_take 1 = .ok (.iconst 0, 1) := by decide +kernel
theorem dX4_take_2 : decode cX4_take 2 = .ok (.putfield 24, 3) := by decide +kernel
theorem dX4_take_5 : decode cX4_take 5 = .ok (.aload_n 1, 1) := by decide +kernel
theorem dX4_take_6 : decode cX4_take 6 = .ok (.ifnonnull 4, 3) := by decide +kernel
theorem dX4_take_9 : decode cX4_take 9 = .ok (.return_, 1) := by decide +kernel
theorem dX4_take_10 : decode cX4_take 10 = .ok (.aload_n 0, 1) := by decide +kernel
theorem dX4_take_11 : decode cX4_take 11 = .ok (.aload_n 1, 1) := by decide +kernel
theorem dX4_take_12 : decode cX4_take 12 = .ok (.iload_n 2, 1) := by decide +kernel
theorem dX4_take_13 : decode cX4_take 13 = .ok (.invokevirtual 28, 3) := by decide +kernel
theorem dX4_take_16 : decode cX4_take 16 = .ok (.putfield 24, 3) := by decide +kernel
theorem dX4_take_19 : decode cX4_take 19 = .ok (.iconst 0, 1) := by decide +kernel
theorem dX4_take_20 : decode cX4_take 20 = .ok (.istore_n 3, 1) := by decide +kernel
theorem dX4_take_21 : decode cX4_take 21 = .ok (.iload_n 3, 1) := by decide +kernel
theorem dX4_take_22 : decode cX4_take 22 = .ok (.aload_n 0, 1) := by decide +kernel
theorem dX4_take_23 : decode cX4_take 23 = .ok (.getfield 24, 3) := by decide +kernel
theorem dX4_take_26 : decode cX4_take 26 = .ok (.if_icmp .ge 68, 3) := by decide +kernel
theorem dX4_take_29 : decode cX4_take 29 = .ok (.iload_n 3, 1) := by decide +kernel
theorem dX4_take_30 : decode cX4_take 30 = .ok (.bipush 10, 2) := by decide +kernel
theorem dX4_take_32 : decode cX4_take 32 = .ok (.if_icmp .ge 62, 3) := by decide +kernel
theorem dX4_take_35 : decode cX4_take 35 = .ok (.aload_n 1, 1) := by decide +kernel
theorem dX4_take_36 : decode cX4_take 36 = .ok (.getfield 34, 3) := by decide +kernel
theorem dX4_take_39 : decode cX4_take 39 = .ok (.iload_n 2, 1) := by decide +kernel
theorem dX4_take_40 : decode cX4_take 40 = .ok (.iload_n 3, 1) := by decide +kernel
theorem dX4_take_41 : decode cX4_take 41 = .ok (.invokevirtual 37, 3) := by decide +kernel
theorem dX4_take_44 : decode cX4_take 44 = .ok (.istore 4, 2) := by decide +kernel
theorem dX4_take_46 : decode cX4_take 46 = .ok (.aload_n 0, 1) := by decide +kernel
theorem dX4_take_47 : decode cX4_take 47 = .ok (.getfield 14, 3) := by decide +kernel
theorem dX4_take_50 : decode cX4_take 50 = .ok (.iload_n 3, 1) := by decide +kernel
theorem dX4_take_51 : decode cX4_take 51 = .ok (.iconst 0, 1) := by decide +kernel
theorem dX4_take_52 : decode cX4_take 52 = .ok (.iconst 1, 1) := by decide +kernel
theorem dX4_take_53 : decode cX4_take 53 = .ok (.aload_n 1, 1) := by decide +kernel
theorem dX4_take_54 : decode cX4_take 54 = .ok (.getfield 41, 3) := by decide +kernel
theorem dX4_take_57 : decode cX4_take 57 = .ok (.iload 4, 2) := by decide +kernel
theorem dX4_take_59 : decode cX4_take 59 = .ok (.iconst 0, 1) := by decide +kernel
theorem dX4_take_60 : decode cX4_take 60 = .ok (.invokevirtual 37, 3) := by decide +kernel
theorem dX4_take_63 : decode cX4_take 63 = .ok (.ishl, 1) := by decide +kernel
theorem dX4_take_64 : decode cX4_take 64 = .ok (.invokevirtual 44, 3) := by decide +kernel
theorem dX4_take_67 : decode cX4_take 67 = .ok (.aload_n 0, 1) := by decide +kernel
theorem dX4_take_68 : decode cX4_take 68 = .ok (.getfield 14, 3) := by decide +kernel
theorem dX4_take_71 : decode cX4_take 71 = .ok (.iload_n 3, 1) := by decide +kernel
theorem dX4_take_72 : decode cX4_take 72 = .ok (.iconst 1, 1) := by decide +kernel
theorem dX4_take_73 : decode cX4_take 73 = .ok (.iconst 1, 1) := by decide +kernel
theorem dX4_take_74 : decode cX4_take 74 = .ok (.aload_n 1, 1) := by decide +kernel
theorem dX4_take_75 : decode cX4_take 75 = .ok (.getfield 41, 3) := by decide +kernel
theorem dX4_take_78 : decode cX4_take 78 = .ok (.iload 4, 2) := by decide +kernel
theorem dX4_take_80 : decode cX4_take 80 = .ok (.iconst 1, 1) := by decide +kernel
theorem dX4_take_81 : decode cX4_take 81 = .ok (.invokevirtual 37, 3) := by decide +kernel
theorem dX4_take_84 : decode cX4_take 84 = .ok (.ishl, 1) := by decide +kernel
theorem dX4_take_85 : decode cX4_take 85 = .ok (.invokevirtual 44, 3) := by decide +kernel
theorem dX4_take_88 : decode cX4_take 88 = .ok (.iinc 3 1, 3) := by decide +kernel
theorem dX4_take_91 : decode cX4_take 91 = .ok (.goto (-70), 3) := by decide +kernel
theorem dX4_take_94 : decode cX4_take 94 = .ok (.return_, 1) := by decide +kernel
theorem dX4_isTooLarge_0 : decode cX4_isTooLarge 0 = .ok (.aload_n 0, 1) := by decide +kernel
theorem dX4_isTooLarge_1 : decode cX4_isTooLarge 1 = .ok (.getfield 24, 3) := by decide +kernel
theorem dX4_isTooLarge_4 : decode cX4_isTooLarge 4 = .ok (.bipush 10, 2) := by decide +kernel
theorem dX4_isTooLarge_6 : decode cX4_isTooLarge 6 = .ok (.if_icmp .le 7, 3) := by decide +kernel
theorem dX4_isTooLarge_9 : decode cX4_isTooLarge 9 = .ok (.iconst 1, 1) := by decide +kernel
theorem dX4_isTooLarge_10 : decode cX4_isTooLarge 10 = .ok (.goto 4, 3) := by decide +kernel
theorem dX4_isTooLarge_13 : decode cX4_isTooLarge 13 = .ok (.iconst 0, 1) := by decide +kernel
theorem dX4_isTooLarge_14 : decode cX4_isTooLarge 14 = .ok (.ireturn, 1) := by decide +kernel
theorem dX4_tryFrom_0 : decode cX4_tryFrom 0 = .ok (.aload_n 0, 1) := by decide +kernel
theorem dX4_tryFrom_1 : decode cX4_tryFrom 1 = .ok (.invokevirtual 48, 3) := by decide +kernel
theorem dX4_tryFrom_4 : decode cX4_tryFrom 4 = .ok (.ifCond .eq 4, 3) := by decide +kernel
theorem dX4_tryFrom_7 : decode cX4_tryFrom 7 = .ok (.return_, 1) := by decide +kernel
theorem dX4_tryFrom_8 : decode cX4_tryFrom 8 = .ok (.iconst 1, 1) := by decide +kernel
theorem dX4_tryFrom_9 : decode cX4_tryFrom 9 = .ok (.aload_n 0, 1) := by decide +kernel
theorem dX4_tryFrom_10 : decode cX4_tryFrom 10 = .ok (.getfield 24, 3) := by decide +kernel
theorem dX4_tryFrom_13 : decode cX4_tryFrom 13 = .ok (.ishl, 1) := by decide +kernel
theorem dX4_tryFrom_14 : decode cX4_tryFrom 14 = .ok (.istore_n 2, 1) := by decide +kernel
theorem dX4_tryFrom_15 : decode cX4_tryFrom 15 = .ok (.iconst 0, 1) := by decide +kernel
theorem dX4_tryFrom_16 : decode cX4_tryFrom 16 = .ok (.istore_n 3, 1) := by decide +kernel
theorem dX4_tryFrom_17 : decode cX4_tryFrom 17 = .ok (.iload_n 3, 1) := by decide +kernel
theorem dX4_tryFrom_18 : decode cX4_tryFrom 18 = .ok (.iload_n 2, 1) := by decide +kernel
theorem dX4_tryFrom_19 : decode cX4_tryFrom 19 = .ok (.if_icmp .ge 35, 3) := by decide +kernel
theorem dX4_tryFrom_22 : decode cX4_tryFrom 22 = .ok (.iload_n 3, 1) := by decide +kernel
theorem dX4_tryFrom_23 : decode cX4_tryFrom 23 = .ok (.aload_n 0, 1) := by decide +kernel
theorem dX4_tryFrom_24 : decode cX4_tryFrom 24 = .ok (.getfield 20, 3) := by decide +kernel
theorem dX4_tryFrom_27 : decode cX4_tryFrom 27 = .ok (.arraylength, 1) := by decide +kernel
theorem dX4_tryFrom_28 : decode cX4_tryFrom 28 = .ok (.if_icmp .ge 26, 3) := by decide +kernel
theorem dX4_tryFrom_31 : decode cX4_tryFrom 31 = .ok (.aload_n 0, 1) := by decide +kernel
theorem dX4_tryFrom_32 : decode cX4_tryFrom 32 = .ok (.getfield 20, 3) := by decide +kernel
theorem dX4_tryFrom_35 : decode cX4_tryFrom 35 = .ok (.iload_n 3, 1) := by decide +kernel
theorem dX4_tryFrom_36 : decode cX4_tryFrom 36 = .ok (.iload_n 3, 1) := by decide +kernel
theorem dX4_tryFrom_37 : decode cX4_tryFrom 37 = .ok (.ifCond .ne 9, 3) := by decide +kernel
theorem dX4_tryFrom_40 : decode cX4_tryFrom 40 = .ok (.iconst 1, 1) := by decide +kernel
theorem dX4_tryFrom_41 : decode cX4_tryFrom 41 = .ok (.iload_n 1, 1) := by decide +kernel
theorem dX4_tryFrom_42 : decode cX4_tryFrom 42 = .ok (.ishl, 1) := by decide +kernel
theorem dX4_tryFrom_43 : decode cX4_tryFrom 43 = .ok (.goto 4, 3) := by decide +kernel
theorem dX4_tryFrom_46 : decode cX4_tryFrom 46 = .ok (.iconst 0, 1) := by decide +kernel
theorem dX4_tryFrom_47 : decode cX4_tryFrom 47 = .ok (.iastore, 1) := by decide +kernel
theorem dX4_tryFrom_48 : decode cX4_tryFrom 48 = .ok (.iinc 3 1, 3) := by decide +kernel
theorem dX4_tryFrom_51 : decode cX4_tryFrom 51 = .ok (.goto (-34), 3) := by decide +kernel
theorem dX4_tryFrom_54 : decode cX4_tryFrom 54 = .ok (.iconst 0, 1) := by decide +kernel
theorem dX4_tryFrom_55 : decode cX4_tryFrom 55 = .ok (.istore_n 3, 1) := by decide +kernel
theorem dX4_tryFrom_56 : decode cX4_tryFrom 56 = .ok (.iload_n 3, 1) := by decide +kernel
theorem dX4_tryFrom_57 : decode cX4_tryFrom 57 = .ok (.iload_n 2, 1) := by decide +kernel
theorem dX4_tryFrom_58 : decode cX4_tryFrom 58 = .ok (.if_icmp .ge 32, 3) := by decide +kernel
theorem dX4_tryFrom_61 : decode cX4_tryFrom 61 = .ok (.iload_n 3, 1) := by decide +kernel
theorem dX4_tryFrom_62 : decode cX4_tryFrom 62 = .ok (.aload_n 0, 1) := by decide +kernel
theorem dX4_tryFrom_63 : decode cX4_tryFrom 63 = .ok (.getfield 20, 3) := by decide +kernel
theorem dX4_tryFrom_66 : decode cX4_tryFrom 66 = .ok (.arraylength, 1) := by decide +kernel
theorem dX4_tryFrom_67 : decode cX4_tryFrom 67 = .ok (.if_icmp .ge 23, 3) := by decide +kernel
theorem dX4_tryFrom_70 : decode cX4_tryFrom 70 = .ok (.aload_n 0, 1) := by decide +kernel
theorem dX4_tryFrom_71 : decode cX4_tryFrom 71 = .ok (.getfield 20, 3) := by decide +kernel
theorem dX4_tryFrom_74 : decode cX4_tryFrom 74 = .ok (.iload_n 3, 1) := by decide +kernel
theorem dX4_tryFrom_75 : decode cX4_tryFrom 75 = .ok (.iaload, 1) := by decide +kernel
theorem dX4_tryFrom_76 : decode cX4_tryFrom 76 = .ok (.ifCond .eq 8, 3) := by decide +kernel
theorem dX4_tryFrom_79 : decode cX4_tryFrom 79 = .ok (.aload_n 0, 1) := by decide +kernel
theorem dX4_tryFrom_80 : decode cX4_tryFrom 80 = .ok (.iload_n 3, 1) := by decide +kernel
theorem dX4_tryFrom_81 : decode cX4_tryFrom 81 = .ok (.invokevirtual 52, 3) := by decide +kernel
theorem dX4_tryFrom_84 : decode cX4_tryFrom 84 = .ok (.iinc 3 1, 3) := by decide +kernel
theorem dX4_tryFrom_87 : decode cX4_tryFrom 87 = .ok (.goto (-31), 3) := by decide +kernel
theorem dX4_tryFrom_90 : decode cX4_tryFrom 90 = .ok (.return_, 1) := by decide +kernel
theorem dX4_goOnFrom_0 : decode cX4_goOnFrom 0 = .ok (.iconst 0, 1) := by decide +kernel
theorem dX4_goOnFrom_1 : decode cX4_goOnFrom 1 = .ok (.istore_n 2, 1) := by decide +kernel
theorem dX4_goOnFrom_2 : decode cX4_goOnFrom 2 = .ok (.iload_n 2, 1) := by decide +kernel
theorem dX4_goOnFrom_3 : decode cX4_goOnFrom 3 = .ok (.aload_n 0, 1) := by decide +kernel
theorem dX4_goOnFrom_4 : decode cX4_goOnFrom 4 = .ok (.getfield 24, 3) := by decide +kernel
theorem dX4_goOnFrom_7 : decode cX4_goOnFrom 7 = .ok (.if_icmp .ge 66, 3) := by decide +kernel
theorem dX4_goOnFrom_10 : decode cX4_goOnFrom 10 = .ok (.iload_n 1, 1) := by decide +kernel
theorem dX4_goOnFrom_11 : decode cX4_goOnFrom 11 = .ok (.iconst 1, 1) := by decide +kernel
theorem dX4_goOnFrom_12 : decode cX4_goOnFrom 12 = .ok (.iload_n 2, 1) := by decide +kernel
theorem dX4_goOnFrom_13 : decode cX4_goOnFrom 13 = .ok (.ishl, 1) := by decide +kernel
theorem dX4_goOnFrom_14 : decode cX4_goOnFrom 14 = .ok (.ior, 1) := by decide +kernel
theorem dX4_goOnFrom_15 : decode cX4_goOnFrom 15 = .ok (.istore_n 3, 1) := by decide +kernel
theorem dX4_goOnFrom_16 : decode cX4_goOnFrom 16 = .ok (.iload_n 3, 1) := by decide +kernel
theorem dX4_goOnFrom_17 : decode cX4_goOnFrom 17 = .ok (.iload_n 1, 1) := by decide +kernel
theorem dX4_goOnFrom_18 : decode cX4_goOnFrom 18 = .ok (.if_icmp .eq 49, 3) := by decide +kernel
theorem dX4_goOnFrom_21 : decode cX4_goOnFrom 21 = .ok (.iload_n 1, 1) := by decide +kernel
theorem dX4_goOnFrom_22 : decode cX4_goOnFrom 22 = .ok (.ifCond .lt 45, 3) := by decide +kernel
theorem dX4_goOnFrom_25 : decode cX4_goOnFrom 25 = .ok (.iload_n 1, 1) := by decide +kernel
theorem dX4_goOnFrom_26 : decode cX4_goOnFrom 26 = .ok (.aload_n 0, 1) := by decide +kernel
theorem dX4_goOnFrom_27 : decode cX4_goOnFrom 27 = .ok (.getfield 20, 3) := by decide +kernel
theorem dX4_goOnFrom_30 : decode cX4_goOnFrom 30 = .ok (.arraylength, 1) := by decide +kernel
theorem dX4_goOnFrom_31 : decode cX4_goOnFrom 31 = .ok (.if_icmp .ge 36, 3) := by decide +kernel
theorem dX4_goOnFrom_34 : decode cX4_goOnFrom 34 = .ok (.iload_n 3, 1) := by decide +kernel
theorem dX4_goOnFrom_35 : decode cX4_goOnFrom 35 = .ok (.ifCond .lt 32, 3) := by decide +kernel
theorem dX4_goOnFrom_38 : decode cX4_goOnFrom 38 = .ok (.iload_n 3, 1) := by decide +kernel
theorem dX4_goOnFrom_39 : decode cX4_goOnFrom 39 = .ok (.aload_n 0, 1) := by decide +kernel
theorem dX4_goOnFrom_40 : decode cX4_goOnFrom 40 = .ok (.getfield 20, 3) := by decide +kernel
theorem dX4_goOnFrom_43 : decode cX4_goOnFrom 43 = .ok (.arraylength, 1) := by decide +kernel
theorem dX4_goOnFrom_44 : decode cX4_goOnFrom 44 = .ok (.if_icmp .ge 23, 3) := by decide +kernel
theorem dX4_goOnFrom_47 : decode cX4_goOnFrom 47 = .ok (.aload_n 0, 1) := by decide +kernel
theorem dX4_goOnFrom_48 : decode cX4_goOnFrom 48 = .ok (.getfield 20, 3) := by decide +kernel
theorem dX4_goOnFrom_51 : decode cX4_goOnFrom 51 = .ok (.iload_n 3, 1) := by decide +kernel
theorem dX4_goOnFrom_52 : decode cX4_goOnFrom 52 = .ok (.dup2, 1) := by decide +kernel
theorem dX4_goOnFrom_53 : decode cX4_goOnFrom 53 = .ok (.iaload, 1) := by decide +kernel
theorem dX4_goOnFrom_54 : decode cX4_goOnFrom 54 = .ok (.aload_n 0, 1) := by decide +kernel
theorem dX4_goOnFrom_55 : decode cX4_goOnFrom 55 = .ok (.iload_n 2, 1) := by decide +kernel
theorem dX4_goOnFrom_56 : decode cX4_goOnFrom 56 = .ok (.aload_n 0, 1) := by decide +kernel
theorem dX4_goOnFrom_57 : decode cX4_goOnFrom 57 = .ok (.getfield 20, 3) := by decide +kernel
theorem dX4_goOnFrom_60 : decode cX4_goOnFrom 60 = .ok (.iload_n 1, 1) := by decide +kernel
theorem dX4_goOnFrom_61 : decode cX4_goOnFrom 61 = .ok (.iaload, 1) := by decide +kernel
theorem dX4_goOnFrom_62 : decode cX4_goOnFrom 62 = .ok (.invokevirtual 56, 3) := by decide +kernel
theorem dX4_goOnFrom_65 : decode cX4_goOnFrom 65 = .ok (.ior, 1) := by decide +kernel
theorem dX4_goOnFrom_66 : decode cX4_goOnFrom 66 = .ok (.iastore, 1) := by decide +kernel
theorem dX4_goOnFrom_67 : decode cX4_goOnFrom 67 = .ok (.iinc 2 1, 3) := by decide +kernel
theorem dX4_goOnFrom_70 : decode cX4_goOnFrom 70 = .ok (.goto (-68), 3) := by decide +kernel
theorem dX4_goOnFrom_73 : decode cX4_goOnFrom 73 = .ok (.return_, 1) := by decide +kernel
theorem dX4_openBehind_0 : decode cX4_openBehind 0 = .ok (.aload_n 0, 1) := by decide +kernel
theorem dX4_openBehind_1 : decode cX4_openBehind 1 = .ok (.getfield 14, 3) := by decide +kernel
theorem dX4_openBehind_4 : decode cX4_openBehind 4 = .ok (.iload_n 1, 1) := by decide +kernel
theorem dX4_openBehind_5 : decode cX4_openBehind 5 = .ok (.iconst 0, 1) := by decide +kernel
theorem dX4_openBehind_6 : decode cX4_openBehind 6 = .ok (.invokevirtual 37, 3) := by decide +kernel
theorem dX4_openBehind_9 : decode cX4_openBehind 9 = .ok (.istore_n 3, 1) := by decide +kernel
theorem dX4_openBehind_10 : decode cX4_openBehind 10 = .ok (.aload_n 0, 1) := by decide +kernel
theorem dX4_openBehind_11 : decode cX4_openBehind 11 = .ok (.getfield 14, 3) := by decide +kernel
theorem dX4_openBehind_14 : decode cX4_openBehind 14 = .ok (.iload_n 1, 1) := by decide +kernel
theorem dX4_openBehind_15 : decode cX4_openBehind 15 = .ok (.iconst 1, 1) := by decide +kernel
theorem dX4_openBehind_16 : decode cX4_openBehind 16 = .ok (.invokevirtual 37, 3) := by decide +kernel
theorem dX4_openBehind_19 : decode cX4_openBehind 19 = .ok (.istore 4, 2) := by decide +kernel
theorem dX4_openBehind_21 : decode cX4_openBehind 21 = .ok (.iconst 0, 1) := by decide +kernel
theorem dX4_openBehind_22 : decode cX4_openBehind 22 = .ok (.istore 5, 2) := by decide +kernel
theorem dX4_openBehind_24 : decode cX4_openBehind 24 = .ok (.iload_n 2, 1) := by decide +kernel
theorem dX4_openBehind_25 : decode cX4_openBehind 25 = .ok (.iload_n 3, 1) := by decide +kernel
theorem dX4_openBehind_26 : decode cX4_openBehind 26 = .ok (.iand, 1) := by decide +kernel
theorem dX4_openBehind_27 : decode cX4_openBehind 27 = .ok (.ifCond .eq 10, 3) := by decide +kernel
theorem dX4_openBehind_30 : decode cX4_openBehind 30 = .ok (.iload 5, 2) := by decide +kernel
theorem dX4_openBehind_32 : decode cX4_openBehind 32 = .ok (.iload 4, 2) := by decide +kernel
theorem dX4_openBehind_34 : decode cX4_openBehind 34 = .ok (.ior, 1) := by decide +kernel
theorem dX4_openBehind_35 : decode cX4_openBehind 35 = .ok (.istore 5, 2) := by decide +kernel
theorem dX4_openBehind_37 : decode cX4_openBehind 37 = .ok (.iload_n 2, 1) := by decide +kernel
theorem dX4_openBehind_38 : decode cX4_openBehind 38 = .ok (.iload 4, 2) := by decide +kernel
theorem dX4_openBehind_40 : decode cX4_openBehind 40 = .ok (.iand, 1) := by decide +kernel
theorem dX4_openBehind_41 : decode cX4_openBehind 41 = .ok (.ifCond .eq 9, 3) := by decide +kernel
theorem dX4_openBehind_44 : decode cX4_openBehind 44 = .ok (.iload 5, 2) := by decide +kernel
theorem dX4_openBehind_46 : decode cX4_openBehind 46 = .ok (.iload_n 3, 1) := by decide +kernel
theorem dX4_openBehind_47 : decode cX4_openBehind 47 = .ok (.ior, 1) := by decide +kernel
theorem dX4_openBehind_48 : decode cX4_openBehind 48 = .ok (.istore 5, 2) := by decide +kernel
theorem dX4_openBehind_50 : decode cX4_openBehind 50 = .ok (.iload 5, 2) := by decide +kernel
theorem dX4_openBehind_52 : decode cX4_openBehind 52 = .ok (.ireturn, 1) := by decide +kernel
theorem dX4_mostTiles_0 : decode cX4_mostTiles 0 = .ok (.aload_n 0, 1) := by decide +kernel
theorem dX4_mostTiles_1 : decode cX4_mostTiles 1 = .ok (.invokevirtual 48, 3) := by decide +kernel
theorem dX4_mostTiles_4 : decode cX4_mostTiles 4 = .ok (.ifCond .eq 5, 3) := by decide +kernel
theorem dX4_mostTiles_7 : decode cX4_mostTiles 7 = .ok (.iconst (-1), 1) := by decide +kernel
theorem dX4_mostTiles_8 : decode cX4_mostTiles 8 = .ok (.ireturn, 1) := by decide +kernel
theorem dX4_mostTiles_9 : decode cX4_mostTiles 9 = .ok (.iconst 0, 1) := by decide +kernel
theorem dX4_mostTiles_10 : decode cX4_mostTiles 10 = .ok (.istore_n 1, 1) := by decide +kernel
theorem dX4_mostTiles_11 : decode cX4_mostTiles 11 = .ok (.iconst 1, 1) := by decide +kernel
theorem dX4_mostTiles_12 : decode cX4_mostTiles 12 = .ok (.aload_n 0, 1) := by decide +kernel
theorem dX4_mostTiles_13 : decode cX4_mostTiles 13 = .ok (.getfield 24, 3) := by decide +kernel
theorem dX4_mostTiles_16 : decode cX4_mostTiles 16 = .ok (.ishl, 1) := by decide +kernel
theorem dX4_mostTiles_17 : decode cX4_mostTiles 17 = .ok (.istore_n 2, 1) := by decide +kernel
theorem dX4_mostTiles_18 : decode cX4_mostTiles 18 = .ok (.iconst 0, 1) := by decide +kernel
theorem dX4_mostTiles_19 : decode cX4_mostTiles 19 = .ok (.istore_n 3, 1) := by decide +kernel
theorem dX4_mostTiles_20 : decode cX4_mostTiles 20 = .ok (.iload_n 3, 1) := by decide +kernel
theorem dX4_mostTiles_21 : decode cX4_mostTiles 21 = .ok (.iload_n 2, 1) := by decide +kernel
theorem dX4_mostTiles_22 : decode cX4_mostTiles 22 = .ok (.if_icmp .ge 36, 3) := by decide +kernel
theorem dX4_mostTiles_25 : decode cX4_mostTiles 25 = .ok (.iload_n 3, 1) := by decide +kernel
theorem dX4_mostTiles_26 : decode cX4_mostTiles 26 = .ok (.aload_n 0, 1) := by decide +kernel
theorem dX4_mostTiles_27 : decode cX4_mostTiles 27 = .ok (.getfield 20, 3) := by decide +kernel
theorem dX4_mostTiles_30 : decode cX4_mostTiles 30 = .ok (.arraylength, 1) := by decide +kernel
theorem dX4_mostTiles_31 : decode cX4_mostTiles 31 = .ok (.if_icmp .ge 27, 3) := by decide +kernel
theorem dX4_mostTiles_34 : decode cX4_mostTiles 34 = .ok (.aload_n 0, 1) := by decide +kernel
theorem dX4_mostTiles_35 : decode cX4_mostTiles 35 = .ok (.getfield 20, 3) := by decide +kernel
theorem dX4_mostTiles_38 : decode cX4_mostTiles 38 = .ok (.iload_n 3, 1) := by decide +kernel
theorem dX4_mostTiles_39 : decode cX4_mostTiles 39 = .ok (.iaload, 1) := by decide +kernel
theorem dX4_mostTiles_40 : decode cX4_mostTiles 40 = .ok (.ifCond .eq 12, 3) := by decide +kernel
theorem dX4_mostTiles_43 : decode cX4_mostTiles 43 = .ok (.iload_n 1, 1) := by decide +kernel
theorem dX4_mostTiles_44 : decode cX4_mostTiles 44 = .ok (.iload_n 3, 1) := by decide +kernel
theorem dX4_mostTiles_45 : decode cX4_mostTiles 45 = .ok (.invokestatic 59, 3) := by decide +kernel
theorem dX4_mostTiles_48 : decode cX4_mostTiles 48 = .ok (.invokestatic 64, 3) := by decide +kernel
theorem dX4_mostTiles_51 : decode cX4_mostTiles 51 = .ok (.istore_n 1, 1) := by decide +kernel
theorem dX4_mostTiles_52 : decode cX4_mostTiles 52 = .ok (.iinc 3 1, 3) := by decide +kernel
theorem dX4_mostTiles_55 : decode cX4_mostTiles 55 = .ok (.goto (-35), 3) := by decide +kernel
theorem dX4_mostTiles_58 : decode cX4_mostTiles 58 = .ok (.iload_n 1, 1) := by decide +kernel
theorem dX4_mostTiles_59 : decode cX4_mostTiles 59 = .ok (.ireturn, 1) := by decide +kernel
theorem dX4_wholeByTrying_0 : decode cX4_wholeByTrying 0 = .ok (.aload_n 0, 1) := by decide +kernel
theorem dX4_wholeByTrying_1 : decode cX4_wholeByTrying 1 = .ok (.invokevirtual 48, 3) := by decide +kernel
theorem dX4_wholeByTrying_4 : decode cX4_wholeByTrying 4 = .ok (.ifCond .eq 5, 3) := by decide +kernel
theorem dX4_wholeByTrying_7 : decode cX4_wholeByTrying 7 = .ok (.iconst (-1), 1) := by decide +kernel
theorem dX4_wholeByTrying_8 : decode cX4_wholeByTrying 8 = .ok (.ireturn, 1) := by decide +kernel
theorem dX4_wholeByTrying_9 : decode cX4_wholeByTrying 9 = .ok (.iconst 1, 1) := by decide +kernel
theorem dX4_wholeByTrying_10 : decode cX4_wholeByTrying 10 = .ok (.aload_n 0, 1) := by decide +kernel
theorem dX4_wholeByTrying_11 : decode cX4_wholeByTrying 11 = .ok (.getfield 24, 3) := by decide +kernel
theorem dX4_wholeByTrying_14 : decode cX4_wholeByTrying 14 = .ok (.ishl, 1) := by decide +kernel
theorem dX4_wholeByTrying_15 : decode cX4_wholeByTrying 15 = .ok (.iconst 1, 1) := by decide +kernel
theorem dX4_wholeByTrying_16 : decode cX4_wholeByTrying 16 = .ok (.isub, 1) := by decide +kernel
theorem dX4_wholeByTrying_17 : decode cX4_wholeByTrying 17 = .ok (.istore_n 1, 1) := by decide +kernel
theorem dX4_wholeByTrying_18 : decode cX4_wholeByTrying 18 = .ok (.iload_n 1, 1) := by decide +kernel
theorem dX4_wholeByTrying_19 : decode cX4_wholeByTrying 19 = .ok (.ifCond .lt 25, 3) := by decide +kernel
theorem dX4_wholeByTrying_22 : decode cX4_wholeByTrying 22 = .ok (.iload_n 1, 1) := by decide +kernel
theorem dX4_wholeByTrying_23 : decode cX4_wholeByTrying 23 = .ok (.aload_n 0, 1) := by decide +kernel
theorem dX4_wholeByTrying_24 : decode cX4_wholeByTrying 24 = .ok (.getfield 20, 3) := by decide +kernel
theorem dX4_wholeByTrying_27 : decode cX4_wholeByTrying 27 = .ok (.arraylength, 1) := by decide +kernel
theorem dX4_wholeByTrying_28 : decode cX4_wholeByTrying 28 = .ok (.if_icmp .ge 16, 3) := by decide +kernel
theorem dX4_wholeByTrying_31 : decode cX4_wholeByTrying 31 = .ok (.aload_n 0, 1) := by decide +kernel
theorem dX4_wholeByTrying_32 : decode cX4_wholeByTrying 32 = .ok (.getfield 20, 3) := by decide +kernel
theorem dX4_wholeByTrying_35 : decode cX4_wholeByTrying 35 = .ok (.iload_n 1, 1) := by decide +kernel
theorem dX4_wholeByTrying_36 : decode cX4_wholeByTrying 36 = .ok (.iaload, 1) := by decide +kernel
theorem dX4_wholeByTrying_37 : decode cX4_wholeByTrying 37 = .ok (.ifCond .eq 7, 3) := by decide +kernel
theorem dX4_wholeByTrying_40 : decode cX4_wholeByTrying 40 = .ok (.iconst 1, 1) := by decide +kernel
theorem dX4_wholeByTrying_41 : decode cX4_wholeByTrying 41 = .ok (.goto 4, 3) := by decide +kernel
theorem dX4_wholeByTrying_44 : decode cX4_wholeByTrying 44 = .ok (.iconst 0, 1) := by decide +kernel
theorem dX4_wholeByTrying_45 : decode cX4_wholeByTrying 45 = .ok (.ireturn, 1) := by decide +kernel
theorem dX4_wholeByCounting_0 : decode cX4_wholeByCounting 0 = .ok (.aload_n 0, 1) := by decide +kernel
theorem dX4_wholeByCounting_1 : decode cX4_wholeByCounting 1 = .ok (.invokevirtual 48, 3) := by decide +kernel
theorem dX4_wholeByCounting_4 : decode cX4_wholeByCounting 4 = .ok (.ifCond .eq 5, 3) := by decide +kernel
theorem dX4_wholeByCounting_7 : decode cX4_wholeByCounting 7 = .ok (.iconst (-1), 1) := by decide +kernel
theorem dX4_wholeByCounting_8 : decode cX4_wholeByCounting 8 = .ok (.ireturn, 1) := by decide +kernel
theorem dX4_wholeByCounting_9 : decode cX4_wholeByCounting 9 = .ok (.aload_n 0, 1) := by decide +kernel
theorem dX4_wholeByCounting_10 : decode cX4_wholeByCounting 10 = .ok (.iload_n 1, 1) := by decide +kernel
theorem dX4_wholeByCounting_11 : decode cX4_wholeByCounting 11 = .ok (.invokevirtual 69, 3) := by decide +kernel
theorem dX4_wholeByCounting_14 : decode cX4_wholeByCounting 14 = .ok (.ifCond .eq 15, 3) := by decide +kernel
theorem dX4_wholeByCounting_17 : decode cX4_wholeByCounting 17 = .ok (.aload_n 0, 1) := by decide +kernel
theorem dX4_wholeByCounting_18 : decode cX4_wholeByCounting 18 = .ok (.iload_n 1, 1) := by decide +kernel
theorem dX4_wholeByCounting_19 : decode cX4_wholeByCounting 19 = .ok (.invokevirtual 73, 3) := by decide +kernel
theorem dX4_wholeByCounting_22 : decode cX4_wholeByCounting 22 = .ok (.ifCond .eq 7, 3) := by decide +kernel
theorem dX4_wholeByCounting_25 : decode cX4_wholeByCounting 25 = .ok (.iconst 1, 1) := by decide +kernel
theorem dX4_wholeByCounting_26 : decode cX4_wholeByCounting 26 = .ok (.goto 4, 3) := by decide +kernel
theorem dX4_wholeByCounting_29 : decode cX4_wholeByCounting 29 = .ok (.iconst 0, 1) := by decide +kernel
theorem dX4_wholeByCounting_30 : decode cX4_wholeByCounting 30 = .ok (.ireturn, 1) := by decide +kernel
theorem dX4_hangsTogetherWith_0 : decode cX4_hangsTogetherWith 0 = .ok (.iconst 1, 1) := by decide +kernel
theorem dX4_hangsTogetherWith_1 : decode cX4_hangsTogetherWith 1 = .ok (.iload_n 1, 1) := by decide +kernel
theorem dX4_hangsTogetherWith_2 : decode cX4_hangsTogetherWith 2 = .ok (.ishl, 1) := by decide +kernel
theorem dX4_hangsTogetherWith_3 : decode cX4_hangsTogetherWith 3 = .ok (.istore_n 2, 1) := by decide +kernel
theorem dX4_hangsTogetherWith_4 : decode cX4_hangsTogetherWith 4 = .ok (.iconst 0, 1) := by decide +kernel
theorem dX4_hangsTogetherWith_5 : decode cX4_hangsTogetherWith 5 = .ok (.istore_n 3, 1) := by decide +kernel
theorem dX4_hangsTogetherWith_6 : decode cX4_hangsTogetherWith 6 = .ok (.iload_n 3, 1) := by decide +kernel
theorem dX4_hangsTogetherWith_7 : decode cX4_hangsTogetherWith 7 = .ok (.bipush 7, 2) := by decide +kernel
theorem dX4_hangsTogetherWith_9 : decode cX4_hangsTogetherWith 9 = .ok (.if_icmp .ge 37, 3) := by decide +kernel
theorem dX4_hangsTogetherWith_12 : decode cX4_hangsTogetherWith 12 = .ok (.iconst 0, 1) := by decide +kernel
theorem dX4_hangsTogetherWith_13 : decode cX4_hangsTogetherWith 13 = .ok (.istore 4, 2) := by decide +kernel
theorem dX4_hangsTogetherWith_15 : decode cX4_hangsTogetherWith 15 = .ok (.iload 4, 2) := by decide +kernel
theorem dX4_hangsTogetherWith_17 : decode cX4_hangsTogetherWith 17 = .ok (.aload_n 0, 1) := by decide +kernel
theorem dX4_hangsTogetherWith_18 : decode cX4_hangsTogetherWith 18 = .ok (.getfield 24, 3) := by decide +kernel
theorem dX4_hangsTogetherWith_21 : decode cX4_hangsTogetherWith 21 = .ok (.if_icmp .ge 19, 3) := by decide +kernel
theorem dX4_hangsTogetherWith_24 : decode cX4_hangsTogetherWith 24 = .ok (.iload_n 2, 1) := by decide +kernel
theorem dX4_hangsTogetherWith_25 : decode cX4_hangsTogetherWith 25 = .ok (.aload_n 0, 1) := by decide +kernel
theorem dX4_hangsTogetherWith_26 : decode cX4_hangsTogetherWith 26 = .ok (.iload 4, 2) := by decide +kernel
theorem dX4_hangsTogetherWith_28 : decode cX4_hangsTogetherWith 28 = .ok (.iload_n 2, 1) := by decide +kernel
theorem dX4_hangsTogetherWith_29 : decode cX4_hangsTogetherWith 29 = .ok (.invokevirtual 56, 3) := by decide +kernel
theorem dX4_hangsTogetherWith_32 : decode cX4_hangsTogetherWith 32 = .ok (.ior, 1) := by decide +kernel
theorem dX4_hangsTogetherWith_33 : decode cX4_hangsTogetherWith 33 = .ok (.istore_n 2, 1) := by decide +kernel
theorem dX4_hangsTogetherWith_34 : decode cX4_hangsTogetherWith 34 = .ok (.iinc 4 1, 3) := by decide +kernel
theorem dX4_hangsTogetherWith_37 : decode cX4_hangsTogetherWith 37 = .ok (.goto (-22), 3) := by decide +kernel
theorem dX4_hangsTogetherWith_40 : decode cX4_hangsTogetherWith 40 = .ok (.iinc 3 1, 3) := by decide +kernel
theorem dX4_hangsTogetherWith_43 : decode cX4_hangsTogetherWith 43 = .ok (.goto (-37), 3) := by decide +kernel
theorem dX4_hangsTogetherWith_46 : decode cX4_hangsTogetherWith 46 = .ok (.iconst 0, 1) := by decide +kernel
theorem dX4_hangsTogetherWith_47 : decode cX4_hangsTogetherWith 47 = .ok (.istore_n 3, 1) := by decide +kernel
theorem dX4_hangsTogetherWith_48 : decode cX4_hangsTogetherWith 48 = .ok (.iload_n 3, 1) := by decide +kernel
theorem dX4_hangsTogetherWith_49 : decode cX4_hangsTogetherWith 49 = .ok (.aload_n 0, 1) := by decide +kernel
theorem dX4_hangsTogetherWith_50 : decode cX4_hangsTogetherWith 50 = .ok (.getfield 24, 3) := by decide +kernel
theorem dX4_hangsTogetherWith_53 : decode cX4_hangsTogetherWith 53 = .ok (.if_icmp .ge 20, 3) := by decide +kernel
theorem dX4_hangsTogetherWith_56 : decode cX4_hangsTogetherWith 56 = .ok (.aload_n 0, 1) := by decide +kernel
theorem dX4_hangsTogetherWith_57 : decode cX4_hangsTogetherWith 57 = .ok (.iload_n 3, 1) := by decide +kernel
theorem dX4_hangsTogetherWith_58 : decode cX4_hangsTogetherWith 58 = .ok (.iload_n 2, 1) := by decide +kernel
theorem dX4_hangsTogetherWith_59 : decode cX4_hangsTogetherWith 59 = .ok (.invokevirtual 56, 3) := by decide +kernel
theorem dX4_hangsTogetherWith_62 : decode cX4_hangsTogetherWith 62 = .ok (.ifCond .ne 5, 3) := by decide +kernel
theorem dX4_hangsTogetherWith_65 : decode cX4_hangsTogetherWith 65 = .ok (.iconst 0, 1) := by decide +kernel
theorem dX4_hangsTogetherWith_66 : decode cX4_hangsTogetherWith 66 = .ok (.ireturn, 1) := by decide +kernel
theorem dX4_hangsTogetherWith_67 : decode cX4_hangsTogetherWith 67 = .ok (.iinc 3 1, 3) := by decide +kernel
theorem dX4_hangsTogetherWith_70 : decode cX4_hangsTogetherWith 70 = .ok (.goto (-22), 3) := by decide +kernel
theorem dX4_hangsTogetherWith_73 : decode cX4_hangsTogetherWith 73 = .ok (.iconst 1, 1) := by decide +kernel
theorem dX4_hangsTogetherWith_74 : decode cX4_hangsTogetherWith 74 = .ok (.ireturn, 1) := by decide +kernel
theorem dX4_oddGradesAllow_0 : decode cX4_oddGradesAllow 0 = .ok (.iconst 0, 1) := by decide +kernel
theorem dX4_oddGradesAllow_1 : decode cX4_oddGradesAllow 1 = .ok (.istore_n 2, 1) := by decide +kernel
theorem dX4_oddGradesAllow_2 : decode cX4_oddGradesAllow 2 = .ok (.iconst 0, 1) := by decide +kernel
theorem dX4_oddGradesAllow_3 : decode cX4_oddGradesAllow 3 = .ok (.istore_n 3, 1) := by decide +kernel
theorem dX4_oddGradesAllow_4 : decode cX4_oddGradesAllow 4 = .ok (.iload_n 3, 1) := by decide +kernel
theorem dX4_oddGradesAllow_5 : decode cX4_oddGradesAllow 5 = .ok (.aload_n 0, 1) := by decide +kernel
theorem dX4_oddGradesAllow_6 : decode cX4_oddGradesAllow 6 = .ok (.getfield 24, 3) := by decide +kernel
theorem dX4_oddGradesAllow_9 : decode cX4_oddGradesAllow 9 = .ok (.if_icmp .ge 31, 3) := by decide +kernel
theorem dX4_oddGradesAllow_12 : decode cX4_oddGradesAllow 12 = .ok (.iload_n 2, 1) := by decide +kernel
theorem dX4_oddGradesAllow_13 : decode cX4_oddGradesAllow 13 = .ok (.aload_n 0, 1) := by decide +kernel
theorem dX4_oddGradesAllow_14 : decode cX4_oddGradesAllow 14 = .ok (.getfield 14, 3) := by decide +kernel
theorem dX4_oddGradesAllow_17 : decode cX4_oddGradesAllow 17 = .ok (.iload_n 3, 1) := by decide +kernel
theorem dX4_oddGradesAllow_18 : decode cX4_oddGradesAllow 18 = .ok (.iconst 0, 1) := by decide +kernel
theorem dX4_oddGradesAllow_19 : decode cX4_oddGradesAllow 19 = .ok (.invokevirtual 37, 3) := by decide +kernel
theorem dX4_oddGradesAllow_22 : decode cX4_oddGradesAllow 22 = .ok (.aload_n 0, 1) := by decide +kernel
theorem dX4_oddGradesAllow_23 : decode cX4_oddGradesAllow 23 = .ok (.getfield 14, 3) := by decide +kernel
theorem dX4_oddGradesAllow_26 : decode cX4_oddGradesAllow 26 = .ok (.iload_n 3, 1) := by decide +kernel
theorem dX4_oddGradesAllow_27 : decode cX4_oddGradesAllow 27 = .ok (.iconst 1, 1) := by decide +kernel
theorem dX4_oddGradesAllow_28 : decode cX4_oddGradesAllow 28 = .ok (.invokevirtual 37, 3) := by decide +kernel
theorem dX4_oddGradesAllow_31 : decode cX4_oddGradesAllow 31 = .ok (.ixor, 1) := by decide +kernel
theorem dX4_oddGradesAllow_32 : decode cX4_oddGradesAllow 32 = .ok (.ixor, 1) := by decide +kernel
theorem dX4_oddGradesAllow_33 : decode cX4_oddGradesAllow 33 = .ok (.istore_n 2, 1) := by decide +kernel
theorem dX4_oddGradesAllow_34 : decode cX4_oddGradesAllow 34 = .ok (.iinc 3 1, 3) := by decide +kernel
theorem dX4_oddGradesAllow_37 : decode cX4_oddGradesAllow 37 = .ok (.goto (-33), 3) := by decide +kernel
theorem dX4_oddGradesAllow_40 : decode cX4_oddGradesAllow 40 = .ok (.iload_n 2, 1) := by decide +kernel
theorem dX4_oddGradesAllow_41 : decode cX4_oddGradesAllow 41 = .ok (.ifCond .eq 19, 3) := by decide +kernel
theorem dX4_oddGradesAllow_44 : decode cX4_oddGradesAllow 44 = .ok (.iload_n 2, 1) := by decide +kernel
theorem dX4_oddGradesAllow_45 : decode cX4_oddGradesAllow 45 = .ok (.invokestatic 59, 3) := by decide +kernel
theorem dX4_oddGradesAllow_48 : decode cX4_oddGradesAllow 48 = .ok (.iconst 2, 1) := by decide +kernel
theorem dX4_oddGradesAllow_49 : decode cX4_oddGradesAllow 49 = .ok (.if_icmp .ne 15, 3) := by decide +kernel
theorem dX4_oddGradesAllow_52 : decode cX4_oddGradesAllow 52 = .ok (.iload_n 2, 1) := by decide +kernel
theorem dX4_oddGradesAllow_53 : decode cX4_oddGradesAllow 53 = .ok (.iconst 1, 1) := by decide +kernel
theorem dX4_oddGradesAllow_54 : decode cX4_oddGradesAllow 54 = .ok (.iload_n 1, 1) := by decide +kernel
theorem dX4_oddGradesAllow_55 : decode cX4_oddGradesAllow 55 = .ok (.ishl, 1) := by decide +kernel
theorem dX4_oddGradesAllow_56 : decode cX4_oddGradesAllow 56 = .ok (.iand, 1) := by decide +kernel
theorem dX4_oddGradesAllow_57 : decode cX4_oddGradesAllow 57 = .ok (.ifCond .eq 7, 3) := by decide +kernel
theorem dX4_oddGradesAllow_60 : decode cX4_oddGradesAllow 60 = .ok (.iconst 1, 1) := by decide +kernel
theorem dX4_oddGradesAllow_61 : decode cX4_oddGradesAllow 61 = .ok (.goto 4, 3) := by decide +kernel
theorem dX4_oddGradesAllow_64 : decode cX4_oddGradesAllow 64 = .ok (.iconst 0, 1) := by decide +kernel
theorem dX4_oddGradesAllow_65 : decode cX4_oddGradesAllow 65 = .ok (.ireturn, 1) := by decide +kernel
end
section
theorem fa_or_ (a b : Nat) : nI a ||| nI b = nI (a ||| b) := by
  apply Int32.toBitVec_inj.mp
  simp [nI, Int32.toBitVec_or, Int32.toBitVec_ofNat]
/-! TRAINS at tr: the object, its table of halves (two columns, ten rows; cells hf), the row open (of), how many tiles n -/
def pT (G : ga_) (h : HP) (tr : Nat) (hf : Nat → Int32) (of : Nat → Int32) (n : Int32) : HP := up_ (up_ (up_ (up_ h tr (ob_ 4 [.ref (tr + 1), .ref (tr + 3), .int n])) (tr + 1) (ob_ 2 [.int 2, .ref (tr + 2)])) (tr + 2) (aI_ G 20 hf)) (tr + 3) (aI_ G 1024 of)
def TA (G : ga_) (h : HP) (tr : Nat) (hf : Nat → Int32) (of : Nat → Int32) (n : Int32) : Prop := h tr = some (ob_ 4 [.ref (tr + 1), .ref (tr + 3), .int n]) ∧ h (tr + 1) = some (ob_ 2 [.int 2, .ref (tr + 2)]) ∧ h (tr + 2) = some (aI_ G 20 hf) ∧ h (tr + 3) = some (aI_ G 1024 of)
theorem TA_pT {G : ga_} {h : HP} {tr : Nat} {hf of : Nat → Int32} {n : Int32} : TA G (pT G h tr hf of n) tr hf of n := by
  refine ⟨?_, ?_, ?_, ?_⟩ <;> simp [pT, up_]
theorem pT_out {G : ga_} {h : HP} {tr a : Nat} {hf of : Nat → Int32} {n : Int32} (ha : a < tr ∨ tr + 4 ≤ a) : pT G h tr hf of n a = h a := by
  unfold pT; rw [up_n (by omega), up_n (by omega), up_n (by omega), up_n (by omega)]
theorem pT_eq {G : ga_} {h H : HP} {tr : Nat} {hf of : Nat → Int32} {n : Int32} (w : TA G H tr hf of n) (ho : ∀ a, (a < tr ∨ tr + 4 ≤ a) → H a = h a) : H = pT G h tr hf of n := by
  obtain ⟨w0, w1, w2, w3⟩ := w
  funext a
  by_cases c0 : a = tr
  · subst c0; rw [w0]; simp [pT, up_]
  · by_cases c1 : a = tr + 1
    · subst c1; rw [w1]; simp [pT, up_]
    · by_cases c2 : a = tr + 2
      · subst c2; rw [w2]; simp [pT, up_]
      · by_cases c3 : a = tr + 3
        · subst c3; rw [w3]; simp [pT, up_]
        · rw [ho a (by omega), pT_out (by omega)]
theorem pT_id {G : ga_} {h : HP} {tr : Nat} {hf of : Nat → Int32} {n : Int32} (w : TA G h tr hf of n) : pT G h tr hf of n = h := (pT_eq w (fun _ _ => rfl)).symm
theorem pT_pT {G : ga_} {h : HP} {tr : Nat} {hf of hf2 of2 : Nat → Int32} {n n2 : Int32} : pT G (pT G h tr hf of n) tr hf2 of2 n2 = pT G h tr hf2 of2 n2 := pT_eq TA_pT (fun a ha => by rw [pT_out ha, pT_out ha])
theorem pT_n {G : ga_} {h : HP} {tr : Nat} {hf of : Nat → Int32} {n n2 : Int32} : up_ (pT G h tr hf of n) tr (ob_ 4 [.ref (tr + 1), .ref (tr + 3), .int n2]) = pT G h tr hf of n2 :=
  pT_eq (by refine ⟨?_, ?_, ?_, ?_⟩ <;> simp [pT, up_]) (fun a ha => by rw [up_n (by omega), pT_out ha])
theorem pT_h {G : ga_} {h : HP} {tr : Nat} {hf of f : Nat → Int32} {n : Int32} : up_ (pT G h tr hf of n) (tr + 2) (aI_ G 20 f) = pT G h tr f of n :=
  pT_eq (by refine ⟨?_, ?_, ?_, ?_⟩ <;> simp [pT, up_]) (fun a ha => by rw [up_n (by omega), pT_out ha])
theorem pT_o {G : ga_} {h : HP} {tr : Nat} {hf of f : Nat → Int32} {n : Int32} : up_ (pT G h tr hf of n) (tr + 3) (aI_ G 1024 f) = pT G h tr hf f n :=
  pT_eq (by refine ⟨?_, ?_, ?_, ?_⟩ <;> simp [pT, up_]) (fun a ha => by rw [up_n (by omega), pT_out ha])
theorem GA_T {G : ga_} {h : HP} {g tr : Nat} {S : gS} {hf of : Nat → Int32} {n : Int32} (w : GA G h g S) (d : g + 11 ≤ tr ∨ tr + 4 ≤ g) : GA G (pT G h tr hf of n) g S := fun j hj => by rw [pT_out (by omega)]; exact w j hj
def t_half (hf : Nat → Int32) (i k : Int32) : Int32 := tAt 2 20 hf i k
def t_ob (hf : Nat → Int32) (i b : Int32) : Int32 := if b &&& t_half hf i 1 = 0 then (if b &&& t_half hf i 0 = 0 then 0 else 0 ||| t_half hf i 1) else (if b &&& t_half hf i 0 = 0 then 0 else 0 ||| t_half hf i 1) ||| t_half hf i 0
def t_tk (S : gS) (p : Int32) (hf : Nat → Int32) : Nat → Nat → Int32
  | 0 => hf
  | i + 1 => tPut 2 20 (tPut 2 20 (t_tk S p hf i) (nI i) 0 (1 <<< (tAt 7 196 (S 0) (g_hand S p (nI i)) 0 &&& 31))) (nI i) 1 (1 <<< (tAt 7 196 (S 0) (g_hand S p (nI i)) 1 &&& 31))
def t_large (n : Int32) : Bool := decide (10 < n)
def t_fill (g : Int32) : Nat → (Nat → Int32) → Nat → Int32
  | 0, f => f
  | i + 1, f => upd (t_fill g i f) i (if i = 0 then 1 <<< (g &&& 31) else 0)
def t_go (hf : Nat → Int32) (c : Nat) (f : Nat → Int32) : Nat → Nat → Int32
  | 0 => f
  | i + 1 => if c ||| 2 ^ i = c then t_go hf c f i else upd (t_go hf c f i) (c ||| 2 ^ i) (t_go hf c f i (c ||| 2 ^ i) ||| t_ob hf (nI i) (t_go hf c f i c))
def t_try (hf : Nat → Int32) (k : Nat) (f : Nat → Int32) : Nat → Nat → Int32
  | 0 => f
  | c + 1 => if t_try hf k f c c = 0 then t_try hf k f c else t_go hf c (t_try hf k f c) k
def t_of (hf : Nat → Int32) (k : Nat) (g : Int32) (f : Nat → Int32) : Nat → Int32 := if 10 < k then f else t_try hf k (t_fill g (2 ^ k) f) (2 ^ k)
def j_b1 (x : Int32) : Int32 := x - ((x.toUInt32 >>> ((1 : Int32).toUInt32 &&& Int32.toUInt32 31)).toInt32 &&& 1431655765)
def j_b2 (x : Int32) : Int32 := (x &&& 858993459) + ((x.toUInt32 >>> ((2 : Int32).toUInt32 &&& Int32.toUInt32 31)).toInt32 &&& 858993459)
def j_b3 (x : Int32) : Int32 := (x + (x.toUInt32 >>> ((4 : Int32).toUInt32 &&& Int32.toUInt32 31)).toInt32) &&& 252645135
def j_b4 (x : Int32) : Int32 := x + (x.toUInt32 >>> ((8 : Int32).toUInt32 &&& Int32.toUInt32 31)).toInt32
def j_b5 (x : Int32) : Int32 := x + (x.toUInt32 >>> ((16 : Int32).toUInt32 &&& Int32.toUInt32 31)).toInt32
def j_bc (x : Int32) : Int32 := j_b5 (j_b4 (j_b3 (j_b2 (j_b1 x)))) &&& 63
def t_mx (of : Nat → Int32) : Nat → Int32
  | 0 => 0
  | c + 1 => if of c = 0 then t_mx of c else if t_mx of c < j_bc (nI c) then j_bc (nI c) else t_mx of c
def t_most (of : Nat → Int32) (k : Nat) : Int32 := if 10 < k then -1 else t_mx of (2 ^ k)
def t_whole (of : Nat → Int32) (k : Nat) : Int32 := if 10 < k then -1 else if of (2 ^ k - 1) = 0 then 0 else 1
def t_re1 (hf : Nat → Int32) (r : Int32) : Nat → Int32
  | 0 => r
  | i + 1 => t_re1 hf r i ||| t_ob hf (nI i) (t_re1 hf r i)
def t_re (hf : Nat → Int32) (k : Nat) (g : Int32) : Nat → Int32
  | 0 => 1 <<< (g &&& 31)
  | i + 1 => t_re1 hf (t_re hf k g i) k
def t_hang (hf : Nat → Int32) (k : Nat) (g : Int32) : Bool := !anyB (fun i => decide (t_ob hf (nI i) (t_re hf k g 7) = 0)) k
def t_odd (hf : Nat → Int32) : Nat → Int32
  | 0 => 0
  | i + 1 => t_odd hf i ^^^ (t_half hf (nI i) 0 ^^^ t_half hf (nI i) 1)
def t_oddOk (hf : Nat → Int32) (k : Nat) (g : Int32) : Bool := decide (t_odd hf k = 0) || (decide (j_bc (t_odd hf k) = 2) && !decide (t_odd hf k &&& (1 <<< (g &&& 31)) = 0))
def t_count (hf : Nat → Int32) (k : Nat) (g : Int32) : Int32 := if 10 < k then -1 else bI (t_hang hf k g && t_oddOk hf k g)
theorem large_ok {n : Int32} {k : Nat} (hn : n = nI k) (hk : k < 2147483648) : t_large n = decide (10 < k) := by
  subst hn
  simp only [t_large]
  rw [show (10 : Int32) = nI 10 from rfl, decide_eq_decide, nI_ltI (by decide) hk]
theorem sh_ok : ∀ k, k < 11 → (1 : Int32) <<< (nI k &&& 31) = nI (2 ^ k) := by decide +kernel
theorem or_lt {c i : Nat} (hc : c < 1024) (hi : i < 10) : c ||| 2 ^ i < 1024 := Nat.or_lt_two_pow (n := 10) hc (Nat.lt_of_lt_of_le (Nat.pow_lt_pow_right (by decide) hi) (Nat.le_refl _))
theorem p2_le {k : Nat} (h : k ≤ 10) : 2 ^ k ≤ 1024 := Nat.pow_le_pow_right (by decide) h
theorem or_ok {c i : Nat} (hi : i < 11) : nI c ||| ((1 : Int32) <<< (nI i &&& 31)) = nI (c ||| 2 ^ i) := by rw [sh_ok i hi, fa_or_]
set_option maxHeartbeats 800000 in
set_option maxRecDepth 100000 in
theorem c_J6_bitCount_0f7a4 {G : ga_} {l : Launch} {h : HP} {sz : Nat} {x : Int32}  : Mf G l yJ6_bitCount_0f7a4 cJ6_bitCount_0f7a4 1 (some .int) 0 0 0 0 [.int x] h sz (some (.int (j_bc x))) h sz := by
  refine Mg.ofV [(0, .int x)] (by decide) (Nat.le_of_ble_eq_true rfl) rfl ?_
  intro p e s m args below meth c C

  refine r_iload_n C dJ6_bitCount_0f7a4_0 rfl rfl ?_
  refine r_iload_n C dJ6_bitCount_0f7a4_1 rfl rfl ?_
  refine r_iconst C (v := 1) dJ6_bitCount_0f7a4_2 rfl ?_
  refine r_iushr C dJ6_bitCount_0f7a4_3 ?_
  refine r_ldc_w C kc_J6_265 dJ6_bitCount_0f7a4_4 ?_
  refine r_iand C dJ6_bitCount_0f7a4_7 ?_
  refine r_isub C dJ6_bitCount_0f7a4_8 ?_
  refine r_istore_n C dJ6_bitCount_0f7a4_9 rfl (by decide) ?_
  refine V.sub [(0, .int (j_b1 x))] ⟨rfl, trivial⟩ ?_
  refine r_iload_n C dJ6_bitCount_0f7a4_10 rfl rfl ?_
  refine r_ldc_w C kc_J6_266 dJ6_bitCount_0f7a4_11 ?_
  refine r_iand C dJ6_bitCount_0f7a4_14 ?_
  refine r_iload_n C dJ6_bitCount_0f7a4_15 rfl rfl ?_
  refine r_iconst C (v := 2) dJ6_bitCount_0f7a4_16 rfl ?_
  refine r_iushr C dJ6_bitCount_0f7a4_17 ?_
  refine r_ldc_w C kc_J6_266 dJ6_bitCount_0f7a4_18 ?_
  refine r_iand C dJ6_bitCount_0f7a4_21 ?_
  refine r_iadd C dJ6_bitCount_0f7a4_22 ?_
  refine r_istore_n C dJ6_bitCount_0f7a4_23 rfl (by decide) ?_
  refine V.sub [(0, .int (j_b2 (j_b1 x)))] ⟨rfl, trivial⟩ ?_
  refine r_iload_n C dJ6_bitCount_0f7a4_24 rfl rfl ?_
  refine r_iload_n C dJ6_bitCount_0f7a4_25 rfl rfl ?_
  refine r_iconst C (v := 4) dJ6_bitCount_0f7a4_26 rfl ?_
  refine r_iushr C dJ6_bitCount_0f7a4_27 ?_
  refine r_iadd C dJ6_bitCount_0f7a4_28 ?_
  refine r_ldc_w C kc_J6_267 dJ6_bitCount_0f7a4_29 ?_
  refine r_iand C dJ6_bitCount_0f7a4_32 ?_
  refine r_istore_n C dJ6_bitCount_0f7a4_33 rfl (by decide) ?_
  refine V.sub [(0, .int (j_b3 (j_b2 (j_b1 x))))] ⟨rfl, trivial⟩ ?_
  refine r_iload_n C dJ6_bitCount_0f7a4_34 rfl rfl ?_
  refine r_iload_n C dJ6_bitCount_0f7a4_35 rfl rfl ?_
  refine r_bipush C (v := 8) dJ6_bitCount_0f7a4_36 rfl ?_
  refine r_iushr C dJ6_bitCount_0f7a4_38 ?_
  refine r_iadd C dJ6_bitCount_0f7a4_39 ?_
  refine r_istore_n C dJ6_bitCount_0f7a4_40 rfl (by decide) ?_
  refine V.sub [(0, .int (j_b4 (j_b3 (j_b2 (j_b1 x)))))] ⟨rfl, trivial⟩ ?_
  refine r_iload_n C dJ6_bitCount_0f7a4_41 rfl rfl ?_
  refine r_iload_n C dJ6_bitCount_0f7a4_42 rfl rfl ?_
  refine r_bipush C (v := 16) dJ6_bitCount_0f7a4_43 rfl ?_
  refine r_iushr C dJ6_bitCount_0f7a4_45 ?_
  refine r_iadd C dJ6_bitCount_0f7a4_46 ?_
  refine r_istore_n C dJ6_bitCount_0f7a4_47 rfl (by decide) ?_
  refine V.sub [(0, .int (j_b5 (j_b4 (j_b3 (j_b2 (j_b1 x))))))] ⟨rfl, trivial⟩ ?_
  refine r_iload_n C dJ6_bitCount_0f7a4_48 rfl rfl ?_
  refine r_bipush C (v := 63) dJ6_bitCount_0f7a4_49 rfl ?_
  refine r_iand C dJ6_bitCount_0f7a4_51 ?_
  exact r_iret C rfl (Nat.le_of_ble_eq_true rfl) (Nat.le_of_ble_eq_true rfl) ⟨rfl, rfl, rfl⟩ dJ6_bitCount_0f7a4_52
set_option maxHeartbeats 800000 in
set_option maxRecDepth 100000 in
theorem c_X4_isTooLarge {G : ga_} {l : Launch} {h : HP} {sz : Nat} {tr : Nat} {hf of : Nat → Int32} {n : Int32}  (w : TA G h tr hf of n)  : Mf G l yX4_isTooLarge cX4_isTooLarge 1 (some .boolean) 0 0 0 0 [.ref tr] h sz (some (.int (bI (t_large n)))) h sz := by
  refine Mg.ofV [(0, .ref tr)] (by decide) (Nat.le_of_ble_eq_true rfl) rfl ?_
  intro p e s m args below meth c C
  refine r_aload_n C dX4_isTooLarge_0 rfl rfl ?_
  refine r_get C (j := 2) rfl in_X4 (w.1) (by decide) fl_X4_24 rfl rfl dX4_isTooLarge_1 ?_
  refine r_bipush C (v := 10) dX4_isTooLarge_4 rfl ?_
  refine r_icmp_le C 13 dX4_isTooLarge_6 (by decide) (fun c_6 => ?_) (fun c_6 => ?_)
  · have e_6 := i32_nlt c_6
    refine r_iconst C (v := 0) dX4_isTooLarge_13 rfl ?_
    exact r_zret C rfl (by first | exact Or.inl rfl | exact Or.inr rfl | exact bI_01 _) (Nat.le_of_ble_eq_true rfl) (Nat.le_of_ble_eq_true rfl) ⟨by simp [t_large, bI, c_6, e_6], rfl, rfl⟩ dX4_isTooLarge_14
  · have e_6 := i32_lt c_6
    refine r_iconst C (v := 1) dX4_isTooLarge_9 rfl ?_
    refine r_goto C 14 dX4_isTooLarge_10 (by decide) ?_
    exact r_zret C rfl (by first | exact Or.inl rfl | exact Or.inr rfl | exact bI_01 _) (Nat.le_of_ble_eq_true rfl) (Nat.le_of_ble_eq_true rfl) ⟨by simp [t_large, bI, c_6, e_6], rfl, rfl⟩ dX4_isTooLarge_14

set_option maxHeartbeats 800000 in
set_option maxRecDepth 100000 in
theorem c_X4_openBehind {G : ga_} {l : Launch} {h : HP} {sz : Nat} {tr : Nat} {hf of : Nat → Int32} {n : Int32} {a b : Int32}  (w : TA G h tr hf of n)  : Mf G l yX4_openBehind cX4_openBehind 6 (some .int) 1 23 0 0 [.ref tr, .int a, .int b] h sz (some (.int (t_ob hf a b))) h sz := by
  refine Mg.ofV [(0, .ref tr), (1, .int a), (2, .int b)] (by decide) (Nat.le_of_ble_eq_true rfl) rfl ?_
  intro p e s m args below meth c C
  refine r_aload_n C dX4_openBehind_0 rfl rfl ?_
  refine r_get C (j := 0) rfl in_X4 (w.1) (by decide) fl_X4_14 rfl rfl dX4_openBehind_1 ?_
  refine r_iload_n C dX4_openBehind_4 rfl rfl ?_
  refine r_iconst C (v := 0) dX4_openBehind_5 rfl ?_
  refine r_cVi C (c_X2_at w.2.1 w.2.2.1 (by decide)) lk_X4_37 rfl (w.2.1) rfl rfl ⟨(Nat.le_of_ble_eq_true rfl), (Nat.le_of_ble_eq_true rfl), (Nat.le_of_ble_eq_true rfl), (Nat.le_of_ble_eq_true rfl), (Nat.le_of_ble_eq_true rfl)⟩ dX4_openBehind_6 ?_
  refine r_istore_n C dX4_openBehind_9 rfl (by decide) ?_
  refine r_aload_n C dX4_openBehind_10 rfl rfl ?_
  refine r_get C (j := 0) rfl in_X4 (w.1) (by decide) fl_X4_14 rfl rfl dX4_openBehind_11 ?_
  refine r_iload_n C dX4_openBehind_14 rfl rfl ?_
  refine r_iconst C (v := 1) dX4_openBehind_15 rfl ?_
  refine r_cVi C (c_X2_at w.2.1 w.2.2.1 (by decide)) lk_X4_37 rfl (w.2.1) rfl rfl ⟨(Nat.le_of_ble_eq_true rfl), (Nat.le_of_ble_eq_true rfl), (Nat.le_of_ble_eq_true rfl), (Nat.le_of_ble_eq_true rfl), (Nat.le_of_ble_eq_true rfl)⟩ dX4_openBehind_16 ?_
  refine r_istore C dX4_openBehind_19 (by decide) ?_
  refine r_iconst C (v := 0) dX4_openBehind_21 rfl ?_
  refine r_istore C dX4_openBehind_22 (by decide) ?_
  refine r_iload_n C dX4_openBehind_24 rfl rfl ?_
  refine r_iload_n C dX4_openBehind_25 rfl rfl ?_
  refine r_iand C dX4_openBehind_26 ?_
  refine r_if_eq C 37 dX4_openBehind_27 (by decide) (fun c_27 => ?_) (fun c_27 => ?_)
  · refine r_iload_n C dX4_openBehind_37 rfl rfl ?_
    refine r_iload C dX4_openBehind_38 rfl ?_
    refine r_iand C dX4_openBehind_40 ?_
    refine r_if_eq C 50 dX4_openBehind_41 (by decide) (fun c_41 => ?_) (fun c_41 => ?_)
    · refine r_iload C dX4_openBehind_50 rfl ?_
      exact r_iret C rfl (Nat.le_of_ble_eq_true rfl) (Nat.le_of_ble_eq_true rfl) ⟨by simp [t_ob, t_half, c_27, c_41], rfl, rfl⟩ dX4_openBehind_52
    · refine r_iload C dX4_openBehind_44 rfl ?_
      refine r_iload_n C dX4_openBehind_46 rfl rfl ?_
      refine r_ior C dX4_openBehind_47 ?_
      refine r_istore C dX4_openBehind_48 (by decide) ?_
      refine r_iload C dX4_openBehind_50 rfl ?_
      exact r_iret C rfl (Nat.le_of_ble_eq_true rfl) (Nat.le_of_ble_eq_true rfl) ⟨by simp [t_ob, t_half, c_27, c_41], rfl, rfl⟩ dX4_openBehind_52
  · refine r_iload C dX4_openBehind_30 rfl ?_
    refine r_iload C dX4_openBehind_32 rfl ?_
    refine r_ior C dX4_openBehind_34 ?_
    refine r_istore C dX4_openBehind_35 (by decide) ?_
    refine r_iload_n C dX4_openBehind_37 rfl rfl ?_
    refine r_iload C dX4_openBehind_38 rfl ?_
    refine r_iand C dX4_openBehind_40 ?_
    refine r_if_eq C 50 dX4_openBehind_41 (by decide) (fun c_41 => ?_) (fun c_41 => ?_)
    · refine r_iload C dX4_openBehind_50 rfl ?_
      exact r_iret C rfl (Nat.le_of_ble_eq_true rfl) (Nat.le_of_ble_eq_true rfl) ⟨by simp [t_ob, t_half, c_27, c_41], rfl, rfl⟩ dX4_openBehind_52
    · refine r_iload C dX4_openBehind_44 rfl ?_
      refine r_iload_n C dX4_openBehind_46 rfl rfl ?_
      refine r_ior C dX4_openBehind_47 ?_
      refine r_istore C dX4_openBehind_48 (by decide) ?_
      refine r_iload C dX4_openBehind_50 rfl ?_
      exact r_iret C rfl (Nat.le_of_ble_eq_true rfl) (Nat.le_of_ble_eq_true rfl) ⟨by simp [t_ob, t_half, c_27, c_41], rfl, rfl⟩ dX4_openBehind_52

set_option maxHeartbeats 800000 in
set_option maxRecDepth 100000 in
theorem c_X4_take {G : ga_} {l : Launch} {h : HP} {sz : Nat} {tr : Nat} {hf of : Nat → Int32} {n : Int32} {a : Int32} {g : Nat} {S : gS} (w : TA G h tr hf of n) (wg : GA G h g S) (d : g + 11 ≤ tr ∨ tr + 4 ≤ g) : Mf G l yX4_take cX4_take 5 none 2 44 0 0 [.ref tr, .ref g, .int a] h sz none (pT G h tr (t_tk S a hf (min (g_held S a).toNatClampNeg 10)) of (g_held S a)) sz := by
  refine Mg.ofV [(0, .ref tr), (1, .ref g), (2, .int a)] (by decide) (Nat.le_of_ble_eq_true rfl) rfl ?_
  intro p e s m args below meth c C
  refine V.heap (pT_id w).symm ?_
  refine r_aload_n C dX4_take_0 rfl rfl ?_
  refine r_iconst C (v := 0) dX4_take_1 rfl ?_
  refine r_put C (j := 2) tyX4 tyX4_ok nmX4 rfl in_X4 (TA_pT.1) (by decide) fl_X4_24 rfl rfl rfl (by first | rfl | decide) (by first | rfl | decide) (Nat.le_of_ble_eq_true rfl) dX4_take_2 ?_
  refine V.heap pT_n ?_
  refine r_aload_n C dX4_take_5 rfl rfl ?_
  refine r_ifnonnull C 10 dX4_take_6 (by decide) ?_
  refine r_aload_n C dX4_take_10 rfl rfl ?_
  refine r_aload_n C dX4_take_11 rfl rfl ?_
  refine r_iload_n C dX4_take_12 rfl rfl ?_
  refine r_cVi C (c_X0_heldBy (GA_T wg d)) lk_X4_28 rfl (GA_o (GA_T wg d)) rfl rfl ⟨(Nat.le_of_ble_eq_true rfl), (Nat.le_of_ble_eq_true rfl), (Nat.le_of_ble_eq_true rfl), (Nat.le_of_ble_eq_true rfl), (Nat.le_of_ble_eq_true rfl)⟩ dX4_take_13 ?_
  refine r_put C (j := 2) tyX4 tyX4_ok nmX4 rfl in_X4 (TA_pT.1) (by decide) fl_X4_24 rfl rfl rfl (by first | rfl | decide) (by first | rfl | decide) (Nat.le_of_ble_eq_true rfl) dX4_take_16 ?_
  refine V.heap pT_n ?_
  refine r_iconst C (v := 0) dX4_take_19 rfl ?_
  refine r_istore_n C dX4_take_20 rfl (by decide) ?_
  refine V.sub [(0, .ref tr), (1, .ref g), (2, .int a), (3, .int (nI 0))] ⟨rfl, rfl, rfl, rfl, trivial⟩ ?_
  refine down_ (P := fun i => V p l e ⟨2, 0, 0, 44⟩ s m args below meth c G 5 (Qg G below args s 0 0 (fun v1 h1 s1 => v1 = none ∧ h1 = (pT G h tr (t_tk S a hf (min (g_held S a).toNatClampNeg 10)) of (g_held S a)) ∧ s1 = sz)) (pT G h tr (t_tk S a hf i) of (g_held S a)) sz 0 0 21 [(0, .ref tr), (1, .ref g), (2, .int a), (3, .int (nI i))] []) (min (g_held S a).toNatClampNeg 10) ?_ ?_
  · refine r_iload_n C dX4_take_21 rfl rfl ?_
    refine r_aload_n C dX4_take_22 rfl rfl ?_
    refine r_get C (j := 2) rfl in_X4 (TA_pT.1) (by decide) fl_X4_24 rfl rfl dX4_take_23 ?_
    refine r_icmp_ge C 94 dX4_take_26 (by decide) (fun c_26 => ?_) (fun c_26 => ?_)
    · have e_26 := i32_nlt c_26
      exact r_vret C rfl (Nat.le_of_ble_eq_true rfl) (Nat.le_of_ble_eq_true rfl) ⟨rfl, rfl, rfl⟩ dX4_take_94
    · have e_26 := i32_lt c_26
      refine r_iload_n C dX4_take_29 rfl rfl ?_
      refine r_bipush C (v := 10) dX4_take_30 rfl ?_
      refine r_icmp_ge C 94 dX4_take_32 (by decide) (fun _ => ?_) (fun c => absurd (nI_le (a := 10) (by have c := mt (tn_le2 (x := g_held S a) (i := min (g_held S a).toNatClampNeg 10) (by omega)) c_26; omega) (by omega)) c)
      exact r_vret C rfl (Nat.le_of_ble_eq_true rfl) (Nat.le_of_ble_eq_true rfl) ⟨rfl, rfl, rfl⟩ dX4_take_94
  · intro i h_i ih_i
    refine r_iload_n C dX4_take_21 rfl rfl ?_
    refine r_aload_n C dX4_take_22 rfl rfl ?_
    refine r_get C (j := 2) rfl in_X4 (TA_pT.1) (by decide) fl_X4_24 rfl rfl dX4_take_23 ?_
    refine r_icmp_ge C 94 dX4_take_26 (by decide) (fun c => absurd c (tn_nle (by omega))) (fun _ => ?_)
    refine r_iload_n C dX4_take_29 rfl rfl ?_
    refine r_bipush C (v := 10) dX4_take_30 rfl ?_
    refine r_icmp_ge C 94 dX4_take_32 (by decide) (fun c => absurd c (nI_ge (b := 10) (by omega) (by decide))) (fun _ => ?_)
    refine r_aload_n C dX4_take_35 rfl rfl ?_
    refine r_getN C (j := 1) rfl in_X0 (GA_o (GA_T wg d)) (by decide) fn_X4_34 rfl rfl dX4_take_36 ?_
    refine r_iload_n C dX4_take_39 rfl rfl ?_
    refine r_iload_n C dX4_take_40 rfl rfl ?_
    refine r_cVi C (c_at1 (GA_T wg d)) lk_X4_37 rfl (GA_t1 (GA_T wg d)) rfl rfl ⟨(Nat.le_of_ble_eq_true rfl), (Nat.le_of_ble_eq_true rfl), (Nat.le_of_ble_eq_true rfl), (Nat.le_of_ble_eq_true rfl), (Nat.le_of_ble_eq_true rfl)⟩ dX4_take_41 ?_
    refine r_istore C dX4_take_44 (by decide) ?_
    refine r_aload_n C dX4_take_46 rfl rfl ?_
    refine r_get C (j := 0) rfl in_X4 (TA_pT.1) (by decide) fl_X4_14 rfl rfl dX4_take_47 ?_
    refine r_iload_n C dX4_take_50 rfl rfl ?_
    refine r_iconst C (v := 0) dX4_take_51 rfl ?_
    refine r_iconst C (v := 1) dX4_take_52 rfl ?_
    refine r_aload_n C dX4_take_53 rfl rfl ?_
    refine r_getN C (j := 0) rfl in_X0 (GA_o (GA_T wg d)) (by decide) fn_X4_41 rfl rfl dX4_take_54 ?_
    refine r_iload C dX4_take_57 rfl ?_
    refine r_iconst C (v := 0) dX4_take_59 rfl ?_
    refine r_cVi C (c_at0 (GA_T wg d)) lk_X4_37 rfl (GA_t0 (GA_T wg d)) rfl rfl ⟨(Nat.le_of_ble_eq_true rfl), (Nat.le_of_ble_eq_true rfl), (Nat.le_of_ble_eq_true rfl), (Nat.le_of_ble_eq_true rfl), (Nat.le_of_ble_eq_true rfl)⟩ dX4_take_60 ?_
    refine r_ishl C dX4_take_63 ?_
    refine r_cVv C (c_X2_put TA_pT.2.1 TA_pT.2.2.1 (by decide)) lk_X4_44 rfl (TA_pT.2.1) rfl rfl ⟨(Nat.le_of_ble_eq_true rfl), (Nat.le_of_ble_eq_true rfl), (Nat.le_of_ble_eq_true rfl), (Nat.le_of_ble_eq_true rfl), (Nat.le_of_ble_eq_true rfl)⟩ dX4_take_64 ?_
    refine V.heap pT_h ?_
    refine r_aload_n C dX4_take_67 rfl rfl ?_
    refine r_get C (j := 0) rfl in_X4 (TA_pT.1) (by decide) fl_X4_14 rfl rfl dX4_take_68 ?_
    refine r_iload_n C dX4_take_71 rfl rfl ?_
    refine r_iconst C (v := 1) dX4_take_72 rfl ?_
    refine r_iconst C (v := 1) dX4_take_73 rfl ?_
    refine r_aload_n C dX4_take_74 rfl rfl ?_
    refine r_getN C (j := 0) rfl in_X0 (GA_o (GA_T wg d)) (by decide) fn_X4_41 rfl rfl dX4_take_75 ?_
    refine r_iload C dX4_take_78 rfl ?_
    refine r_iconst C (v := 1) dX4_take_80 rfl ?_
    refine r_cVi C (c_at0 (GA_T wg d)) lk_X4_37 rfl (GA_t0 (GA_T wg d)) rfl rfl ⟨(Nat.le_of_ble_eq_true rfl), (Nat.le_of_ble_eq_true rfl), (Nat.le_of_ble_eq_true rfl), (Nat.le_of_ble_eq_true rfl), (Nat.le_of_ble_eq_true rfl)⟩ dX4_take_81 ?_
    refine r_ishl C dX4_take_84 ?_
    refine r_cVv C (c_X2_put TA_pT.2.1 TA_pT.2.2.1 (by decide)) lk_X4_44 rfl (TA_pT.2.1) rfl rfl ⟨(Nat.le_of_ble_eq_true rfl), (Nat.le_of_ble_eq_true rfl), (Nat.le_of_ble_eq_true rfl), (Nat.le_of_ble_eq_true rfl), (Nat.le_of_ble_eq_true rfl)⟩ dX4_take_85 ?_
    refine V.heap pT_h ?_
    refine r_iinc C (v := 1) dX4_take_88 rfl rfl (by decide) ?_
    refine r_goto C 21 dX4_take_91 (by decide) ?_
    refine V.sub [(0, .ref tr), (1, .ref g), (2, .int a), (3, .int (nI (i + 1)))] ⟨rfl, rfl, rfl, (by rw [← nI_1 i]; rfl), trivial⟩ ?_
    exact ih_i

theorem gb_t {c i : Nat} (hc : c < 1024) (hi : i < 10) (h : nI c ||| ((1 : Int32) <<< (nI i &&& 31)) = nI c) : c ||| 2 ^ i = c := by
  rw [or_ok (by omega)] at h
  exact (nI_eq (by have := or_lt hc hi; omega) (by omega)).mp h
theorem gb_f {c i : Nat} (hc : c < 1024) (hi : i < 10) (h : ¬ nI c ||| ((1 : Int32) <<< (nI i &&& 31)) = nI c) : ¬ c ||| 2 ^ i = c := fun q => h (by rw [or_ok (by omega), q])
set_option maxHeartbeats 800000 in
set_option maxRecDepth 100000 in
theorem c_X4_goOnFrom {G : ga_} {l : Launch} {h : HP} {sz : Nat} {tr : Nat} {hf of : Nat → Int32} {n : Int32} {k c0 : Nat} (w : TA G h tr hf of n) (hn : n = nI k) (hk : k ≤ 10) (hc : c0 < 1024) : Mf G l yX4_goOnFrom cX4_goOnFrom 4 none 2 48 0 0 [.ref tr, .int (nI c0)] h sz none (pT G h tr hf (t_go hf c0 of k) n) sz := by
  refine Mg.ofV [(0, .ref tr), (1, .int (nI c0))] (by decide) (Nat.le_of_ble_eq_true rfl) rfl ?_
  intro p e s m args below meth c C
  refine r_iconst C (v := 0) dX4_goOnFrom_0 rfl ?_
  refine r_istore_n C dX4_goOnFrom_1 rfl (by decide) ?_
  refine V.heap (pT_id w).symm ?_
  refine V.sub [(0, .ref tr), (1, .int (nI c0)), (2, .int (nI 0))] ⟨rfl, rfl, rfl, trivial⟩ ?_
  refine down_ (P := fun i => V p l e ⟨2, 0, 0, 48⟩ s m args below meth c G 4 (Qg G below args s 0 0 (fun v1 h1 s1 => v1 = none ∧ h1 = (pT G h tr hf (t_go hf c0 of k) n) ∧ s1 = sz)) (pT G h tr hf (t_go hf c0 of i) n) sz 0 0 2 [(0, .ref tr), (1, .int (nI c0)), (2, .int (nI i))] []) (k) ?_ ?_
  · refine r_iload_n C dX4_goOnFrom_2 rfl rfl ?_
    refine r_aload_n C dX4_goOnFrom_3 rfl rfl ?_
    refine r_get C (j := 2) rfl in_X4 (TA_pT.1) (by decide) fl_X4_24 rfl rfl dX4_goOnFrom_4 ?_
    refine r_icmp_ge C 73 dX4_goOnFrom_7 (by decide) (fun _ => ?_) (fun c => absurd (by rw [hn]; exact Int32.le_refl _) c)
    exact r_vret C rfl (Nat.le_of_ble_eq_true rfl) (Nat.le_of_ble_eq_true rfl) ⟨rfl, rfl, rfl⟩ dX4_goOnFrom_73
  · intro i h_i ih_i
    refine r_iload_n C dX4_goOnFrom_2 rfl rfl ?_
    refine r_aload_n C dX4_goOnFrom_3 rfl rfl ?_
    refine r_get C (j := 2) rfl in_X4 (TA_pT.1) (by decide) fl_X4_24 rfl rfl dX4_goOnFrom_4 ?_
    refine r_icmp_ge C 73 dX4_goOnFrom_7 (by decide) (fun c => absurd c (by rw [hn]; exact nI_ge h_i (by omega))) (fun _ => ?_)
    refine r_iload_n C dX4_goOnFrom_10 rfl rfl ?_
    refine r_iconst C (v := 1) dX4_goOnFrom_11 rfl ?_
    refine r_iload_n C dX4_goOnFrom_12 rfl rfl ?_
    refine r_ishl C dX4_goOnFrom_13 ?_
    refine r_ior C dX4_goOnFrom_14 ?_
    refine r_istore_n C dX4_goOnFrom_15 rfl (by decide) ?_
    refine r_iload_n C dX4_goOnFrom_16 rfl rfl ?_
    refine r_iload_n C dX4_goOnFrom_17 rfl rfl ?_
    refine r_icmp_eq C 67 dX4_goOnFrom_18 (by decide) (fun c_18 => ?_) (fun c_18 => ?_)
    · refine r_iinc C (v := 1) dX4_goOnFrom_67 rfl rfl (by decide) ?_
      refine r_goto C 2 dX4_goOnFrom_70 (by decide) ?_
      refine V.heap (h2 := (pT G h tr hf (t_go hf c0 of (i + 1)) n)) (by simp only [t_go]; rw [if_pos (gb_t (by omega) (by omega) c_18)]) ?_
      refine V.sub [(0, .ref tr), (1, .int (nI c0)), (2, .int (nI (i + 1)))] ⟨rfl, rfl, (by rw [← nI_1 i]; rfl), trivial⟩ ?_
      exact ih_i
    · refine r_iload_n C dX4_goOnFrom_21 rfl rfl ?_
      refine r_if_lt C 67 dX4_goOnFrom_22 (by decide) (fun c => absurd c (nI_pos (by omega))) (fun _ => ?_)
      refine r_iload_n C dX4_goOnFrom_25 rfl rfl ?_
      refine r_aload_n C dX4_goOnFrom_26 rfl rfl ?_
      refine r_get C (j := 1) rfl in_X4 (TA_pT.1) (by decide) fl_X4_20 rfl rfl dX4_goOnFrom_27 ?_
      refine r_alenI C (TA_pT.2.2.2) dX4_goOnFrom_30 ?_
      refine r_icmp_ge C 67 dX4_goOnFrom_31 (by decide) (fun c => absurd c (nI_ge hc (by decide))) (fun _ => ?_)
      refine r_iload_n C dX4_goOnFrom_34 rfl rfl ?_
      refine r_if_lt C 67 dX4_goOnFrom_35 (by decide) (fun c => absurd c (by rw [or_ok (by omega)]; exact nI_pos (by have := or_lt hc (show i < 10 by omega); omega))) (fun _ => ?_)
      refine r_iload_n C dX4_goOnFrom_38 rfl rfl ?_
      refine r_aload_n C dX4_goOnFrom_39 rfl rfl ?_
      refine r_get C (j := 1) rfl in_X4 (TA_pT.1) (by decide) fl_X4_20 rfl rfl dX4_goOnFrom_40 ?_
      refine r_alenI C (TA_pT.2.2.2) dX4_goOnFrom_43 ?_
      refine r_icmp_ge C 67 dX4_goOnFrom_44 (by decide) (fun c => absurd c (by rw [or_ok (by omega)]; exact nI_ge (or_lt hc (show i < 10 by omega)) (by decide))) (fun _ => ?_)
      refine r_aload_n C dX4_goOnFrom_47 rfl rfl ?_
      refine r_get C (j := 1) rfl in_X4 (TA_pT.1) (by decide) fl_X4_20 rfl rfl dX4_goOnFrom_48 ?_
      refine r_iload_n C dX4_goOnFrom_51 rfl rfl ?_
      refine r_dup2 C dX4_goOnFrom_52 rfl rfl ?_
      refine r_iald C (TA_pT.2.2.2) (by rw [or_ok (by omega)]; exact vp_in_nI (or_lt hc (show i < 10 by omega)) (by decide)) dX4_goOnFrom_53 ?_
      refine r_aload_n C dX4_goOnFrom_54 rfl rfl ?_
      refine r_iload_n C dX4_goOnFrom_55 rfl rfl ?_
      refine r_aload_n C dX4_goOnFrom_56 rfl rfl ?_
      refine r_get C (j := 1) rfl in_X4 (TA_pT.1) (by decide) fl_X4_20 rfl rfl dX4_goOnFrom_57 ?_
      refine r_iload_n C dX4_goOnFrom_60 rfl rfl ?_
      refine r_iald C (TA_pT.2.2.2) (vp_in_nI hc (by decide)) dX4_goOnFrom_61 ?_
      refine r_cVi C (c_X4_openBehind TA_pT) lk_X4_56 rfl (TA_pT.1) rfl rfl ⟨(Nat.le_of_ble_eq_true rfl), (Nat.le_of_ble_eq_true rfl), (Nat.le_of_ble_eq_true rfl), (Nat.le_of_ble_eq_true rfl), (Nat.le_of_ble_eq_true rfl)⟩ dX4_goOnFrom_62 ?_
      refine r_ior C dX4_goOnFrom_65 ?_
      refine r_iast C (TA_pT.2.2.2) (by rw [or_ok (by omega)]; exact vp_in_nI (or_lt hc (show i < 10 by omega)) (by decide)) dX4_goOnFrom_66 ?_
      refine r_iinc C (v := 1) dX4_goOnFrom_67 rfl rfl (by decide) ?_
      refine r_goto C 2 dX4_goOnFrom_70 (by decide) ?_
      refine V.heap (h2 := (pT G h tr hf (t_go hf c0 of (i + 1)) n)) (by rw [pT_o, or_ok (by omega), nI_clamp (by have := or_lt hc (show i < 10 by omega); omega), nI_clamp (by omega)]; simp only [t_go]; rw [if_neg (gb_f (by omega) (by omega) c_18)]) ?_
      refine V.sub [(0, .ref tr), (1, .int (nI c0)), (2, .int (nI (i + 1)))] ⟨rfl, rfl, (by rw [← nI_1 i]; rfl), trivial⟩ ?_
      exact ih_i

set_option maxHeartbeats 800000 in
set_option maxRecDepth 100000 in
theorem c_X4_tryFrom {G : ga_} {l : Launch} {h : HP} {sz : Nat} {tr : Nat} {hf of : Nat → Int32} {n : Int32} {a : Int32} {k : Nat} (w : TA G h tr hf of n) (hn : n = nI k) (hkk : k < 2147483648) : Mf G l yX4_tryFrom cX4_tryFrom 4 none 3 71 0 0 [.ref tr, .int a] h sz none (pT G h tr hf (t_of hf k a of) n) sz := by
  refine Mg.ofV [(0, .ref tr), (1, .int a)] (by decide) (Nat.le_of_ble_eq_true rfl) rfl ?_
  intro p e s m args below meth c C
  refine r_aload_n C dX4_tryFrom_0 rfl rfl ?_
  refine r_cVi C (c_X4_isTooLarge w) lk_X4_48 rfl (w.1) rfl rfl ⟨(Nat.le_of_ble_eq_true rfl), (Nat.le_of_ble_eq_true rfl), (Nat.le_of_ble_eq_true rfl), (Nat.le_of_ble_eq_true rfl), (Nat.le_of_ble_eq_true rfl)⟩ dX4_tryFrom_1 ?_
  refine r_if_eq C 8 dX4_tryFrom_4 (by decide) (fun c_4 => ?_) (fun c_4 => ?_)
  · have c_4 := bI_f c_4
    have hk : k ≤ 10 := by
      rw [large_ok hn hkk] at c_4
      have := of_decide_eq_false c_4
      omega
    refine V.heap (pT_id w).symm ?_
    refine r_iconst C (v := 1) dX4_tryFrom_8 rfl ?_
    refine r_aload_n C dX4_tryFrom_9 rfl rfl ?_
    refine r_get C (j := 2) rfl in_X4 (TA_pT.1) (by decide) fl_X4_24 rfl rfl dX4_tryFrom_10 ?_
    refine r_ishl C dX4_tryFrom_13 ?_
    refine r_istore_n C dX4_tryFrom_14 rfl (by decide) ?_
    refine r_iconst C (v := 0) dX4_tryFrom_15 rfl ?_
    refine r_istore_n C dX4_tryFrom_16 rfl (by decide) ?_
    refine V.sub [(0, .ref tr), (1, .int a), (2, .int (nI (2 ^ k))), (3, .int (nI 0))] ⟨rfl, rfl, by rw [hn, sh_ok k (by omega)]; rfl, rfl, trivial⟩ ?_
    refine down_ (P := fun i => V p l e ⟨3, 0, 0, 71⟩ s m args below meth c G 4 (Qg G below args s 0 0 (fun v1 h1 s1 => v1 = none ∧ h1 = (pT G h tr hf (t_of hf k a of) n) ∧ s1 = sz)) (pT G h tr hf (t_fill a i of) n) sz 0 0 17 [(0, .ref tr), (1, .int a), (2, .int (nI (2 ^ k))), (3, .int (nI i))] []) (2 ^ k) ?_ ?_
    · refine r_iload_n C dX4_tryFrom_17 rfl rfl ?_
      refine r_iload_n C dX4_tryFrom_18 rfl rfl ?_
      refine r_icmp_ge C 54 dX4_tryFrom_19 (by decide) (fun _ => ?_) (fun c => absurd (Int32.le_refl _) c)
      refine r_iconst C (v := 0) dX4_tryFrom_54 rfl ?_
      refine r_istore_n C dX4_tryFrom_55 rfl (by decide) ?_
      refine V.sub [(0, .ref tr), (1, .int a), (2, .int (nI (2 ^ k))), (3, .int (nI 0))] ⟨rfl, rfl, rfl, rfl, trivial⟩ ?_
      refine down_ (P := fun j => V p l e ⟨3, 0, 0, 71⟩ s m args below meth c G 4 (Qg G below args s 0 0 (fun v1 h1 s1 => v1 = none ∧ h1 = (pT G h tr hf (t_of hf k a of) n) ∧ s1 = sz)) (pT G h tr hf (t_try hf k (t_fill a (2 ^ k) of) j) n) sz 0 0 56 [(0, .ref tr), (1, .int a), (2, .int (nI (2 ^ k))), (3, .int (nI j))] []) (2 ^ k) ?_ ?_
      · refine r_iload_n C dX4_tryFrom_56 rfl rfl ?_
        refine r_iload_n C dX4_tryFrom_57 rfl rfl ?_
        refine r_icmp_ge C 90 dX4_tryFrom_58 (by decide) (fun _ => ?_) (fun c => absurd (Int32.le_refl _) c)
        exact r_vret C rfl (Nat.le_of_ble_eq_true rfl) (Nat.le_of_ble_eq_true rfl) ⟨rfl, by rw [show t_of hf k a of = t_try hf k (t_fill a (2 ^ k) of) (2 ^ k) by simp only [t_of]; rw [if_neg (by omega)]], rfl⟩ dX4_tryFrom_90
      · intro j h_j ih_j
        refine r_iload_n C dX4_tryFrom_56 rfl rfl ?_
        refine r_iload_n C dX4_tryFrom_57 rfl rfl ?_
        refine r_icmp_ge C 90 dX4_tryFrom_58 (by decide) (fun c => absurd c (nI_ge h_j (by have := p2_le hk; omega))) (fun _ => ?_)
        refine r_iload_n C dX4_tryFrom_61 rfl rfl ?_
        refine r_aload_n C dX4_tryFrom_62 rfl rfl ?_
        refine r_get C (j := 1) rfl in_X4 (TA_pT.1) (by decide) fl_X4_20 rfl rfl dX4_tryFrom_63 ?_
        refine r_alenI C (TA_pT.2.2.2) dX4_tryFrom_66 ?_
        refine r_icmp_ge C 90 dX4_tryFrom_67 (by decide) (fun c => absurd c (nI_ge (b := 1024) (by have := p2_le hk; omega) (by decide))) (fun _ => ?_)
        refine r_aload_n C dX4_tryFrom_70 rfl rfl ?_
        refine r_get C (j := 1) rfl in_X4 (TA_pT.1) (by decide) fl_X4_20 rfl rfl dX4_tryFrom_71 ?_
        refine r_iload_n C dX4_tryFrom_74 rfl rfl ?_
        refine r_iald C (TA_pT.2.2.2) (vp_in_nI (by have := p2_le hk; omega) (by decide)) dX4_tryFrom_75 ?_
        refine r_if_eq C 84 dX4_tryFrom_76 (by decide) (fun c_76 => ?_) (fun c_76 => ?_)
        · refine r_iinc C (v := 1) dX4_tryFrom_84 rfl rfl (by decide) ?_
          refine r_goto C 56 dX4_tryFrom_87 (by decide) ?_
          refine V.heap (h2 := (pT G h tr hf (t_try hf k (t_fill a (2 ^ k) of) (j + 1)) n)) (by simp only [t_try]; rw [nI_clamp (by have := p2_le hk; omega)] at c_76; rw [if_pos c_76]) ?_
          refine V.sub [(0, .ref tr), (1, .int a), (2, .int (nI (2 ^ k))), (3, .int (nI (j + 1)))] ⟨rfl, rfl, rfl, (by rw [← nI_1 j]; rfl), trivial⟩ ?_
          exact ih_j
        · refine r_aload_n C dX4_tryFrom_79 rfl rfl ?_
          refine r_iload_n C dX4_tryFrom_80 rfl rfl ?_
          refine r_cVv C (c_X4_goOnFrom TA_pT hn hk (by have := p2_le hk; omega)) lk_X4_52 rfl (TA_pT.1) rfl rfl ⟨(Nat.le_of_ble_eq_true rfl), (Nat.le_of_ble_eq_true rfl), (Nat.le_of_ble_eq_true rfl), (Nat.le_of_ble_eq_true rfl), (Nat.le_of_ble_eq_true rfl)⟩ dX4_tryFrom_81 ?_
          refine r_iinc C (v := 1) dX4_tryFrom_84 rfl rfl (by decide) ?_
          refine r_goto C 56 dX4_tryFrom_87 (by decide) ?_
          refine V.heap (h2 := (pT G h tr hf (t_try hf k (t_fill a (2 ^ k) of) (j + 1)) n)) (by rw [pT_pT]; simp only [t_try]; rw [nI_clamp (by have := p2_le hk; omega)] at c_76; rw [if_neg c_76]) ?_
          refine V.sub [(0, .ref tr), (1, .int a), (2, .int (nI (2 ^ k))), (3, .int (nI (j + 1)))] ⟨rfl, rfl, rfl, (by rw [← nI_1 j]; rfl), trivial⟩ ?_
          exact ih_j
    · intro i h_i ih_i
      refine r_iload_n C dX4_tryFrom_17 rfl rfl ?_
      refine r_iload_n C dX4_tryFrom_18 rfl rfl ?_
      refine r_icmp_ge C 54 dX4_tryFrom_19 (by decide) (fun c => absurd c (nI_ge h_i (by have := p2_le hk; omega))) (fun _ => ?_)
      refine r_iload_n C dX4_tryFrom_22 rfl rfl ?_
      refine r_aload_n C dX4_tryFrom_23 rfl rfl ?_
      refine r_get C (j := 1) rfl in_X4 (TA_pT.1) (by decide) fl_X4_20 rfl rfl dX4_tryFrom_24 ?_
      refine r_alenI C (TA_pT.2.2.2) dX4_tryFrom_27 ?_
      refine r_icmp_ge C 54 dX4_tryFrom_28 (by decide) (fun c => absurd c (nI_ge (b := 1024) (by have := p2_le hk; omega) (by decide))) (fun _ => ?_)
      refine r_aload_n C dX4_tryFrom_31 rfl rfl ?_
      refine r_get C (j := 1) rfl in_X4 (TA_pT.1) (by decide) fl_X4_20 rfl rfl dX4_tryFrom_32 ?_
      refine r_iload_n C dX4_tryFrom_35 rfl rfl ?_
      refine r_iload_n C dX4_tryFrom_36 rfl rfl ?_
      refine r_if_ne C 46 dX4_tryFrom_37 (by decide) (fun c_37 => ?_) (fun c_37 => ?_)
      · refine r_iconst C (v := 0) dX4_tryFrom_46 rfl ?_
        refine r_iast C (TA_pT.2.2.2) (vp_in_nI (by have := p2_le hk; omega) (by decide)) dX4_tryFrom_47 ?_
        refine r_iinc C (v := 1) dX4_tryFrom_48 rfl rfl (by decide) ?_
        refine r_goto C 17 dX4_tryFrom_51 (by decide) ?_
        refine V.heap (h2 := (pT G h tr hf (t_fill a (i + 1) of) n)) (by rw [pT_o, nI_clamp (by have := p2_le hk; omega)]; simp only [t_fill]; rw [if_neg (fun q => c_37 (by rw [q]; rfl))]) ?_
        refine V.sub [(0, .ref tr), (1, .int a), (2, .int (nI (2 ^ k))), (3, .int (nI (i + 1)))] ⟨rfl, rfl, rfl, (by rw [← nI_1 i]; rfl), trivial⟩ ?_
        exact ih_i
      · refine r_iconst C (v := 1) dX4_tryFrom_40 rfl ?_
        refine r_iload_n C dX4_tryFrom_41 rfl rfl ?_
        refine r_ishl C dX4_tryFrom_42 ?_
        refine r_goto C 47 dX4_tryFrom_43 (by decide) ?_
        refine r_iast C (TA_pT.2.2.2) (vp_in_nI (by have := p2_le hk; omega) (by decide)) dX4_tryFrom_47 ?_
        refine r_iinc C (v := 1) dX4_tryFrom_48 rfl rfl (by decide) ?_
        refine r_goto C 17 dX4_tryFrom_51 (by decide) ?_
        refine V.heap (h2 := (pT G h tr hf (t_fill a (i + 1) of) n)) (by rw [pT_o, nI_clamp (by have := p2_le hk; omega)]; simp only [t_fill]; rw [if_pos ((nI_eq (b := 0) (by have := p2_le hk; omega) (by decide)).mp c_37)]) ?_
        refine V.sub [(0, .ref tr), (1, .int a), (2, .int (nI (2 ^ k))), (3, .int (nI (i + 1)))] ⟨rfl, rfl, rfl, (by rw [← nI_1 i]; rfl), trivial⟩ ?_
        exact ih_i
  · have c_4 := bI_t c_4
    exact r_vret C rfl (Nat.le_of_ble_eq_true rfl) (Nat.le_of_ble_eq_true rfl) ⟨rfl, by rw [show t_of hf k a of = of by simp only [t_of]; rw [large_ok hn hkk] at c_4; rw [if_pos (of_decide_eq_true c_4)]]; exact (pT_id w).symm, rfl⟩ dX4_tryFrom_7

set_option maxHeartbeats 800000 in
set_option maxRecDepth 100000 in
theorem c_X4_mostTiles {G : ga_} {l : Launch} {h : HP} {sz : Nat} {tr : Nat} {hf of : Nat → Int32} {n : Int32} {k : Nat} (w : TA G h tr hf of n) (hn : n = nI k) (hkk : k < 2147483648) : Mf G l yX4_mostTiles cX4_mostTiles 4 (some .int) 1 20 0 0 [.ref tr] h sz (some (.int (t_most of k))) h sz := by
  refine Mg.ofV [(0, .ref tr)] (by decide) (Nat.le_of_ble_eq_true rfl) rfl ?_
  intro p e s m args below meth c C
  refine r_aload_n C dX4_mostTiles_0 rfl rfl ?_
  refine r_cVi C (c_X4_isTooLarge w) lk_X4_48 rfl (w.1) rfl rfl ⟨(Nat.le_of_ble_eq_true rfl), (Nat.le_of_ble_eq_true rfl), (Nat.le_of_ble_eq_true rfl), (Nat.le_of_ble_eq_true rfl), (Nat.le_of_ble_eq_true rfl)⟩ dX4_mostTiles_1 ?_
  refine r_if_eq C 9 dX4_mostTiles_4 (by decide) (fun c_4 => ?_) (fun c_4 => ?_)
  · have c_4 := bI_f c_4
    have hk : k ≤ 10 := by
      rw [large_ok hn hkk] at c_4
      have := of_decide_eq_false c_4
      omega
    refine r_iconst C (v := 0) dX4_mostTiles_9 rfl ?_
    refine r_istore_n C dX4_mostTiles_10 rfl (by decide) ?_
    refine r_iconst C (v := 1) dX4_mostTiles_11 rfl ?_
    refine r_aload_n C dX4_mostTiles_12 rfl rfl ?_
    refine r_get C (j := 2) rfl in_X4 (w.1) (by decide) fl_X4_24 rfl rfl dX4_mostTiles_13 ?_
    refine r_ishl C dX4_mostTiles_16 ?_
    refine r_istore_n C dX4_mostTiles_17 rfl (by decide) ?_
    refine r_iconst C (v := 0) dX4_mostTiles_18 rfl ?_
    refine r_istore_n C dX4_mostTiles_19 rfl (by decide) ?_
    refine V.sub [(0, .ref tr), (1, .int (t_mx of 0)), (2, .int (nI (2 ^ k))), (3, .int (nI 0))] ⟨rfl, rfl, by rw [hn, sh_ok k (by omega)]; rfl, rfl, trivial⟩ ?_
    refine down_ (P := fun i => V p l e ⟨1, 0, 0, 20⟩ s m args below meth c G 4 (Qg G below args s 0 0 (fun v1 h1 s1 => v1 = (some (.int (t_most of k))) ∧ h1 = h ∧ s1 = sz)) h sz 0 0 20 [(0, .ref tr), (1, .int (t_mx of i)), (2, .int (nI (2 ^ k))), (3, .int (nI i))] []) (2 ^ k) ?_ ?_
    · refine r_iload_n C dX4_mostTiles_20 rfl rfl ?_
      refine r_iload_n C dX4_mostTiles_21 rfl rfl ?_
      refine r_icmp_ge C 58 dX4_mostTiles_22 (by decide) (fun _ => ?_) (fun c => absurd (Int32.le_refl _) c)
      refine r_iload_n C dX4_mostTiles_58 rfl rfl ?_
      exact r_iret C rfl (Nat.le_of_ble_eq_true rfl) (Nat.le_of_ble_eq_true rfl) ⟨by simp only [t_most]; rw [if_neg (by omega)], rfl, rfl⟩ dX4_mostTiles_59
    · intro i h_i ih_i
      refine r_iload_n C dX4_mostTiles_20 rfl rfl ?_
      refine r_iload_n C dX4_mostTiles_21 rfl rfl ?_
      refine r_icmp_ge C 58 dX4_mostTiles_22 (by decide) (fun c => absurd c (nI_ge h_i (by have := p2_le hk; omega))) (fun _ => ?_)
      refine r_iload_n C dX4_mostTiles_25 rfl rfl ?_
      refine r_aload_n C dX4_mostTiles_26 rfl rfl ?_
      refine r_get C (j := 1) rfl in_X4 (w.1) (by decide) fl_X4_20 rfl rfl dX4_mostTiles_27 ?_
      refine r_alenI C (w.2.2.2) dX4_mostTiles_30 ?_
      refine r_icmp_ge C 58 dX4_mostTiles_31 (by decide) (fun c => absurd c (nI_ge (b := 1024) (by have := p2_le hk; omega) (by decide))) (fun _ => ?_)
      refine r_aload_n C dX4_mostTiles_34 rfl rfl ?_
      refine r_get C (j := 1) rfl in_X4 (w.1) (by decide) fl_X4_20 rfl rfl dX4_mostTiles_35 ?_
      refine r_iload_n C dX4_mostTiles_38 rfl rfl ?_
      refine r_iald C (w.2.2.2) (vp_in_nI (by have := p2_le hk; omega) (by decide)) dX4_mostTiles_39 ?_
      refine r_if_eq C 52 dX4_mostTiles_40 (by decide) (fun c_40 => ?_) (fun c_40 => ?_)
      · refine r_iinc C (v := 1) dX4_mostTiles_52 rfl rfl (by decide) ?_
        refine r_goto C 20 dX4_mostTiles_55 (by decide) ?_
        rw [nI_clamp (by have := p2_le hk; omega)] at c_40
        refine V.sub [(0, .ref tr), (1, .int (t_mx of (i + 1))), (2, .int (nI (2 ^ k))), (3, .int (nI (i + 1)))] ⟨rfl, by simp only [t_mx]; rw [if_pos c_40]; rfl, rfl, (by rw [← nI_1 i]; rfl), trivial⟩ ?_
        exact ih_i
      · refine r_iload_n C dX4_mostTiles_43 rfl rfl ?_
        refine r_iload_n C dX4_mostTiles_44 rfl rfl ?_
        refine r_cSi C (c_J6_bitCount_0f7a4) lk_X4_59 rfl rfl ⟨(Nat.le_of_ble_eq_true rfl), (Nat.le_of_ble_eq_true rfl), (Nat.le_of_ble_eq_true rfl), (Nat.le_of_ble_eq_true rfl), (Nat.le_of_ble_eq_true rfl)⟩ dX4_mostTiles_45 ?_
        refine r_mmax C jl_X4_64 mx_st ma_ii mx_code (Nat.le_of_ble_eq_true rfl) (Nat.le_of_ble_eq_true rfl) (Nat.zero_le _) (Nat.zero_le _) dX4_mostTiles_48 ?_
        refine r_istore_n C dX4_mostTiles_51 rfl (by decide) ?_
        refine r_iinc C (v := 1) dX4_mostTiles_52 rfl rfl (by decide) ?_
        refine r_goto C 20 dX4_mostTiles_55 (by decide) ?_
        rw [nI_clamp (by have := p2_le hk; omega)] at c_40
        refine V.sub [(0, .ref tr), (1, .int (t_mx of (i + 1))), (2, .int (nI (2 ^ k))), (3, .int (nI (i + 1)))] ⟨rfl, by simp only [t_mx]; rw [if_neg c_40]; rfl, rfl, (by rw [← nI_1 i]; rfl), trivial⟩ ?_
        exact ih_i
  · have c_4 := bI_t c_4
    refine r_iconst C (v := -1) dX4_mostTiles_7 rfl ?_
    exact r_iret C rfl (Nat.le_of_ble_eq_true rfl) (Nat.le_of_ble_eq_true rfl) ⟨by rw [large_ok hn hkk] at c_4; simp only [t_most]; rw [if_pos (of_decide_eq_true c_4)], rfl, rfl⟩ dX4_mostTiles_8
end
section
/-! TRAINS, the rest -/
theorem p2_pos (k : Nat) : 1 ≤ 2 ^ k := Nat.one_le_two_pow
theorem all_ok {k : Nat} (h : k ≤ 10) : nI (2 ^ k) - 1 = nI (2 ^ k - 1) := pk_sub (p2_pos k)
set_option maxHeartbeats 800000 in
set_option maxRecDepth 100000 in
theorem c_X4_wholeByTrying {G : ga_} {l : Launch} {h : HP} {sz : Nat} {tr : Nat} {hf of : Nat → Int32} {n : Int32} {k : Nat} (w : TA G h tr hf of n) (hn : n = nI k) (hkk : k < 2147483648) : Mf G l yX4_wholeByTrying cX4_wholeByTrying 2 (some .int) 1 20 0 0 [.ref tr] h sz (some (.int (t_whole of k))) h sz := by
  refine Mg.ofV [(0, .ref tr)] (by decide) (Nat.le_of_ble_eq_true rfl) rfl ?_
  intro p e s m args below meth c C
  refine r_aload_n C dX4_wholeByTrying_0 rfl rfl ?_
  refine r_cVi C (c_X4_isTooLarge w) lk_X4_48 rfl (w.1) rfl rfl ⟨(Nat.le_of_ble_eq_true rfl), (Nat.le_of_ble_eq_true rfl), (Nat.le_of_ble_eq_true rfl), (Nat.le_of_ble_eq_true rfl), (Nat.le_of_ble_eq_true rfl)⟩ dX4_wholeByTrying_1 ?_
  refine r_if_eq C 9 dX4_wholeByTrying_4 (by decide) (fun c_4 => ?_) (fun c_4 => ?_)
  · have c_4 := bI_f c_4
    have hk : k ≤ 10 := by
      rw [large_ok hn hkk] at c_4
      have := of_decide_eq_false c_4
      omega
    refine r_iconst C (v := 1) dX4_wholeByTrying_9 rfl ?_
    refine r_aload_n C dX4_wholeByTrying_10 rfl rfl ?_
    refine r_get C (j := 2) rfl in_X4 (w.1) (by decide) fl_X4_24 rfl rfl dX4_wholeByTrying_11 ?_
    refine r_ishl C dX4_wholeByTrying_14 ?_
    refine r_iconst C (v := 1) dX4_wholeByTrying_15 rfl ?_
    refine r_isub C dX4_wholeByTrying_16 ?_
    refine r_istore_n C dX4_wholeByTrying_17 rfl (by decide) ?_
    refine V.sub [(0, .ref tr), (1, .int (nI (2 ^ k - 1)))] ⟨rfl, by rw [hn, sh_ok k (by omega), all_ok hk]; rfl, trivial⟩ ?_
    refine r_iload_n C dX4_wholeByTrying_18 rfl rfl ?_
    refine r_if_lt C 44 dX4_wholeByTrying_19 (by decide) (fun c => absurd c (nI_pos (by have := p2_le hk; omega))) (fun _ => ?_)
    refine r_iload_n C dX4_wholeByTrying_22 rfl rfl ?_
    refine r_aload_n C dX4_wholeByTrying_23 rfl rfl ?_
    refine r_get C (j := 1) rfl in_X4 (w.1) (by decide) fl_X4_20 rfl rfl dX4_wholeByTrying_24 ?_
    refine r_alenI C (w.2.2.2) dX4_wholeByTrying_27 ?_
    refine r_icmp_ge C 44 dX4_wholeByTrying_28 (by decide) (fun c => absurd c (nI_ge (b := 1024) (by have := p2_le hk; have := p2_pos k; omega) (by decide))) (fun _ => ?_)
    refine r_aload_n C dX4_wholeByTrying_31 rfl rfl ?_
    refine r_get C (j := 1) rfl in_X4 (w.1) (by decide) fl_X4_20 rfl rfl dX4_wholeByTrying_32 ?_
    refine r_iload_n C dX4_wholeByTrying_35 rfl rfl ?_
    refine r_iald C (w.2.2.2) (vp_in_nI (by have := p2_le hk; have := p2_pos k; omega) (by decide)) dX4_wholeByTrying_36 ?_
    refine r_if_eq C 44 dX4_wholeByTrying_37 (by decide) (fun c_37 => ?_) (fun c_37 => ?_)
    · refine r_iconst C (v := 0) dX4_wholeByTrying_44 rfl ?_
      exact r_iret C rfl (Nat.le_of_ble_eq_true rfl) (Nat.le_of_ble_eq_true rfl) ⟨by rw [nI_clamp (by have := p2_le hk; omega)] at c_37; simp only [t_whole]; rw [if_neg (by omega), if_pos c_37], rfl, rfl⟩ dX4_wholeByTrying_45
    · refine r_iconst C (v := 1) dX4_wholeByTrying_40 rfl ?_
      refine r_goto C 45 dX4_wholeByTrying_41 (by decide) ?_
      exact r_iret C rfl (Nat.le_of_ble_eq_true rfl) (Nat.le_of_ble_eq_true rfl) ⟨by rw [nI_clamp (by have := p2_le hk; omega)] at c_37; simp only [t_whole]; rw [if_neg (by omega), if_neg c_37], rfl, rfl⟩ dX4_wholeByTrying_45
  · have c_4 := bI_t c_4
    refine r_iconst C (v := -1) dX4_wholeByTrying_7 rfl ?_
    exact r_iret C rfl (Nat.le_of_ble_eq_true rfl) (Nat.le_of_ble_eq_true rfl) ⟨by rw [large_ok hn hkk] at c_4; simp only [t_whole]; rw [if_pos (of_decide_eq_true c_4)], rfl, rfl⟩ dX4_wholeByTrying_8

set_option maxHeartbeats 800000 in
set_option maxRecDepth 100000 in
theorem c_X4_hangsTogetherWith {G : ga_} {l : Launch} {h : HP} {sz : Nat} {tr : Nat} {hf of : Nat → Int32} {n : Int32} {a : Int32} {k : Nat} (w : TA G h tr hf of n) (hn : n = nI k) (hkk : k < 2147483648) : Mf G l yX4_hangsTogetherWith cX4_hangsTogetherWith 5 (some .boolean) 2 48 0 0 [.ref tr, .int a] h sz (some (.int (bI (t_hang hf k a)))) h sz := by
  refine Mg.ofV [(0, .ref tr), (1, .int a)] (by decide) (Nat.le_of_ble_eq_true rfl) rfl ?_
  intro p e s m args below meth c C
  refine r_iconst C (v := 1) dX4_hangsTogetherWith_0 rfl ?_
  refine r_iload_n C dX4_hangsTogetherWith_1 rfl rfl ?_
  refine r_ishl C dX4_hangsTogetherWith_2 ?_
  refine r_istore_n C dX4_hangsTogetherWith_3 rfl (by decide) ?_
  refine r_iconst C (v := 0) dX4_hangsTogetherWith_4 rfl ?_
  refine r_istore_n C dX4_hangsTogetherWith_5 rfl (by decide) ?_
  refine V.sub [(0, .ref tr), (1, .int a), (2, .int (t_re hf k a 0)), (3, .int (nI 0))] ⟨rfl, rfl, rfl, rfl, trivial⟩ ?_
  refine down_ (P := fun i => V p l e ⟨2, 0, 0, 48⟩ s m args below meth c G 5 (Qg G below args s 0 0 (fun v1 h1 s1 => v1 = (some (.int (bI (t_hang hf k a)))) ∧ h1 = h ∧ s1 = sz)) h sz 0 0 6 [(0, .ref tr), (1, .int a), (2, .int (t_re hf k a i)), (3, .int (nI i))] []) (7) ?_ ?_
  · refine r_iload_n C dX4_hangsTogetherWith_6 rfl rfl ?_
    refine r_bipush C (v := 7) dX4_hangsTogetherWith_7 rfl ?_
    refine r_icmp_ge C 46 dX4_hangsTogetherWith_9 (by decide) (fun _ => ?_) (fun c => absurd (by decide) c)
    refine r_iconst C (v := 0) dX4_hangsTogetherWith_46 rfl ?_
    refine r_istore_n C dX4_hangsTogetherWith_47 rfl (by decide) ?_
    refine V.sub [(0, .ref tr), (2, .int (t_re hf k a 7)), (3, .int (nI 0))] ⟨rfl, rfl, rfl, trivial⟩ ?_
    refine downI_ (I := fun q => anyB (fun i => decide (t_ob hf (nI i) (t_re hf k a 7) = 0)) q = false) (P := fun q => V p l e ⟨2, 0, 0, 48⟩ s m args below meth c G 5 (Qg G below args s 0 0 (fun v1 h1 s1 => v1 = (some (.int (bI (t_hang hf k a)))) ∧ h1 = h ∧ s1 = sz)) h sz 0 0 48 [(0, .ref tr), (2, .int (t_re hf k a 7)), (3, .int (nI q))] []) (k) ?_ ?_ (rfl)
    · intro I_q
      refine r_iload_n C dX4_hangsTogetherWith_48 rfl rfl ?_
      refine r_aload_n C dX4_hangsTogetherWith_49 rfl rfl ?_
      refine r_get C (j := 2) rfl in_X4 (w.1) (by decide) fl_X4_24 rfl rfl dX4_hangsTogetherWith_50 ?_
      refine r_icmp_ge C 73 dX4_hangsTogetherWith_53 (by decide) (fun _ => ?_) (fun c => absurd (by rw [hn]; exact Int32.le_refl _) c)
      refine r_iconst C (v := 1) dX4_hangsTogetherWith_73 rfl ?_
      exact r_zret C rfl (by first | exact Or.inl rfl | exact Or.inr rfl | exact bI_01 _) (Nat.le_of_ble_eq_true rfl) (Nat.le_of_ble_eq_true rfl) ⟨by simp only [t_hang]; rw [I_q]; rfl, rfl, rfl⟩ dX4_hangsTogetherWith_74
    · intro q h_q I_q ih_q
      refine r_iload_n C dX4_hangsTogetherWith_48 rfl rfl ?_
      refine r_aload_n C dX4_hangsTogetherWith_49 rfl rfl ?_
      refine r_get C (j := 2) rfl in_X4 (w.1) (by decide) fl_X4_24 rfl rfl dX4_hangsTogetherWith_50 ?_
      refine r_icmp_ge C 73 dX4_hangsTogetherWith_53 (by decide) (fun c => absurd c (by rw [hn]; exact nI_ge h_q hkk)) (fun _ => ?_)
      refine r_aload_n C dX4_hangsTogetherWith_56 rfl rfl ?_
      refine r_iload_n C dX4_hangsTogetherWith_57 rfl rfl ?_
      refine r_iload_n C dX4_hangsTogetherWith_58 rfl rfl ?_
      refine r_cVi C (c_X4_openBehind w) lk_X4_56 rfl (w.1) rfl rfl ⟨(Nat.le_of_ble_eq_true rfl), (Nat.le_of_ble_eq_true rfl), (Nat.le_of_ble_eq_true rfl), (Nat.le_of_ble_eq_true rfl), (Nat.le_of_ble_eq_true rfl)⟩ dX4_hangsTogetherWith_59 ?_
      refine r_if_ne C 67 dX4_hangsTogetherWith_62 (by decide) (fun c_62 => ?_) (fun c_62 => ?_)
      · refine r_iinc C (v := 1) dX4_hangsTogetherWith_67 rfl rfl (by decide) ?_
        refine r_goto C 48 dX4_hangsTogetherWith_70 (by decide) ?_
        refine V.sub [(0, .ref tr), (2, .int (t_re hf k a 7)), (3, .int (nI (q + 1)))] ⟨rfl, rfl, (by rw [← nI_1 q]; rfl), trivial⟩ ?_
        exact ih_q (by simp only [anyB, I_q, Bool.false_or]; exact decide_eq_false c_62)
      · refine r_iconst C (v := 0) dX4_hangsTogetherWith_65 rfl ?_
        exact r_zret C rfl (by first | exact Or.inl rfl | exact Or.inr rfl | exact bI_01 _) (Nat.le_of_ble_eq_true rfl) (Nat.le_of_ble_eq_true rfl) ⟨by simp only [t_hang]; rw [any_t h_q (decide_eq_true c_62)]; rfl, rfl, rfl⟩ dX4_hangsTogetherWith_66
  · intro i h_i ih_i
    refine r_iload_n C dX4_hangsTogetherWith_6 rfl rfl ?_
    refine r_bipush C (v := 7) dX4_hangsTogetherWith_7 rfl ?_
    refine r_icmp_ge C 46 dX4_hangsTogetherWith_9 (by decide) (fun c => absurd c (nI_ge (b := 7) h_i (by decide))) (fun _ => ?_)
    refine r_iconst C (v := 0) dX4_hangsTogetherWith_12 rfl ?_
    refine r_istore C dX4_hangsTogetherWith_13 (by decide) ?_
    refine V.sub [(0, .ref tr), (1, .int a), (2, .int (t_re1 hf (t_re hf k a i) 0)), (3, .int (nI i)), (4, .int (nI 0))] ⟨rfl, rfl, rfl, rfl, rfl, trivial⟩ ?_
    refine down_ (P := fun j => V p l e ⟨2, 0, 0, 48⟩ s m args below meth c G 5 (Qg G below args s 0 0 (fun v1 h1 s1 => v1 = (some (.int (bI (t_hang hf k a)))) ∧ h1 = h ∧ s1 = sz)) h sz 0 0 15 [(0, .ref tr), (1, .int a), (2, .int (t_re1 hf (t_re hf k a i) j)), (3, .int (nI i)), (4, .int (nI j))] []) (k) ?_ ?_
    · refine r_iload C dX4_hangsTogetherWith_15 rfl ?_
      refine r_aload_n C dX4_hangsTogetherWith_17 rfl rfl ?_
      refine r_get C (j := 2) rfl in_X4 (w.1) (by decide) fl_X4_24 rfl rfl dX4_hangsTogetherWith_18 ?_
      refine r_icmp_ge C 40 dX4_hangsTogetherWith_21 (by decide) (fun _ => ?_) (fun c => absurd (by rw [hn]; exact Int32.le_refl _) c)
      refine r_iinc C (v := 1) dX4_hangsTogetherWith_40 rfl rfl (by decide) ?_
      refine r_goto C 6 dX4_hangsTogetherWith_43 (by decide) ?_
      refine V.sub [(0, .ref tr), (1, .int a), (2, .int (t_re hf k a (i + 1))), (3, .int (nI (i + 1)))] ⟨rfl, rfl, rfl, (by rw [← nI_1 i]; rfl), trivial⟩ ?_
      exact ih_i
    · intro j h_j ih_j
      refine r_iload C dX4_hangsTogetherWith_15 rfl ?_
      refine r_aload_n C dX4_hangsTogetherWith_17 rfl rfl ?_
      refine r_get C (j := 2) rfl in_X4 (w.1) (by decide) fl_X4_24 rfl rfl dX4_hangsTogetherWith_18 ?_
      refine r_icmp_ge C 40 dX4_hangsTogetherWith_21 (by decide) (fun c => absurd c (by rw [hn]; exact nI_ge h_j hkk)) (fun _ => ?_)
      refine r_iload_n C dX4_hangsTogetherWith_24 rfl rfl ?_
      refine r_aload_n C dX4_hangsTogetherWith_25 rfl rfl ?_
      refine r_iload C dX4_hangsTogetherWith_26 rfl ?_
      refine r_iload_n C dX4_hangsTogetherWith_28 rfl rfl ?_
      refine r_cVi C (c_X4_openBehind w) lk_X4_56 rfl (w.1) rfl rfl ⟨(Nat.le_of_ble_eq_true rfl), (Nat.le_of_ble_eq_true rfl), (Nat.le_of_ble_eq_true rfl), (Nat.le_of_ble_eq_true rfl), (Nat.le_of_ble_eq_true rfl)⟩ dX4_hangsTogetherWith_29 ?_
      refine r_ior C dX4_hangsTogetherWith_32 ?_
      refine r_istore_n C dX4_hangsTogetherWith_33 rfl (by decide) ?_
      refine r_iinc C (v := 1) dX4_hangsTogetherWith_34 rfl rfl (by decide) ?_
      refine r_goto C 15 dX4_hangsTogetherWith_37 (by decide) ?_
      refine V.sub [(0, .ref tr), (1, .int a), (2, .int (t_re1 hf (t_re hf k a i) (j + 1))), (3, .int (nI i)), (4, .int (nI (j + 1)))] ⟨rfl, rfl, rfl, rfl, (by rw [← nI_1 j]; rfl), trivial⟩ ?_
      exact ih_j

set_option maxHeartbeats 800000 in
set_option maxRecDepth 100000 in
theorem c_X4_oddGradesAllow {G : ga_} {l : Launch} {h : HP} {sz : Nat} {tr : Nat} {hf of : Nat → Int32} {n : Int32} {a : Int32} {k : Nat} (w : TA G h tr hf of n) (hn : n = nI k) (hkk : k < 2147483648) : Mf G l yX4_oddGradesAllow cX4_oddGradesAllow 4 (some .boolean) 1 23 0 0 [.ref tr, .int a] h sz (some (.int (bI (t_oddOk hf k a)))) h sz := by
  refine Mg.ofV [(0, .ref tr), (1, .int a)] (by decide) (Nat.le_of_ble_eq_true rfl) rfl ?_
  intro p e s m args below meth c C
  refine r_iconst C (v := 0) dX4_oddGradesAllow_0 rfl ?_
  refine r_istore_n C dX4_oddGradesAllow_1 rfl (by decide) ?_
  refine r_iconst C (v := 0) dX4_oddGradesAllow_2 rfl ?_
  refine r_istore_n C dX4_oddGradesAllow_3 rfl (by decide) ?_
  refine V.sub [(0, .ref tr), (1, .int a), (2, .int (t_odd hf 0)), (3, .int (nI 0))] ⟨rfl, rfl, rfl, rfl, trivial⟩ ?_
  refine down_ (P := fun i => V p l e ⟨1, 0, 0, 23⟩ s m args below meth c G 4 (Qg G below args s 0 0 (fun v1 h1 s1 => v1 = (some (.int (bI (t_oddOk hf k a)))) ∧ h1 = h ∧ s1 = sz)) h sz 0 0 4 [(0, .ref tr), (1, .int a), (2, .int (t_odd hf i)), (3, .int (nI i))] []) (k) ?_ ?_
  · refine r_iload_n C dX4_oddGradesAllow_4 rfl rfl ?_
    refine r_aload_n C dX4_oddGradesAllow_5 rfl rfl ?_
    refine r_get C (j := 2) rfl in_X4 (w.1) (by decide) fl_X4_24 rfl rfl dX4_oddGradesAllow_6 ?_
    refine r_icmp_ge C 40 dX4_oddGradesAllow_9 (by decide) (fun _ => ?_) (fun c => absurd (by rw [hn]; exact Int32.le_refl _) c)
    refine r_iload_n C dX4_oddGradesAllow_40 rfl rfl ?_
    refine r_if_eq C 60 dX4_oddGradesAllow_41 (by decide) (fun c_41 => ?_) (fun c_41 => ?_)
    · refine r_iconst C (v := 1) dX4_oddGradesAllow_60 rfl ?_
      refine r_goto C 65 dX4_oddGradesAllow_61 (by decide) ?_
      exact r_zret C rfl (by first | exact Or.inl rfl | exact Or.inr rfl | exact bI_01 _) (Nat.le_of_ble_eq_true rfl) (Nat.le_of_ble_eq_true rfl) ⟨by simp [t_oddOk, bI, c_41], rfl, rfl⟩ dX4_oddGradesAllow_65
    · refine r_iload_n C dX4_oddGradesAllow_44 rfl rfl ?_
      refine r_cSi C (c_J6_bitCount_0f7a4) lk_X4_59 rfl rfl ⟨(Nat.le_of_ble_eq_true rfl), (Nat.le_of_ble_eq_true rfl), (Nat.le_of_ble_eq_true rfl), (Nat.le_of_ble_eq_true rfl), (Nat.le_of_ble_eq_true rfl)⟩ dX4_oddGradesAllow_45 ?_
      refine r_iconst C (v := 2) dX4_oddGradesAllow_48 rfl ?_
      refine r_icmp_ne C 64 dX4_oddGradesAllow_49 (by decide) (fun c_49 => ?_) (fun c_49 => ?_)
      · refine r_iconst C (v := 0) dX4_oddGradesAllow_64 rfl ?_
        exact r_zret C rfl (by first | exact Or.inl rfl | exact Or.inr rfl | exact bI_01 _) (Nat.le_of_ble_eq_true rfl) (Nat.le_of_ble_eq_true rfl) ⟨by simp [t_oddOk, bI, c_41, c_49], rfl, rfl⟩ dX4_oddGradesAllow_65
      · refine r_iload_n C dX4_oddGradesAllow_52 rfl rfl ?_
        refine r_iconst C (v := 1) dX4_oddGradesAllow_53 rfl ?_
        refine r_iload_n C dX4_oddGradesAllow_54 rfl rfl ?_
        refine r_ishl C dX4_oddGradesAllow_55 ?_
        refine r_iand C dX4_oddGradesAllow_56 ?_
        refine r_if_eq C 64 dX4_oddGradesAllow_57 (by decide) (fun c_57 => ?_) (fun c_57 => ?_)
        · refine r_iconst C (v := 0) dX4_oddGradesAllow_64 rfl ?_
          exact r_zret C rfl (by first | exact Or.inl rfl | exact Or.inr rfl | exact bI_01 _) (Nat.le_of_ble_eq_true rfl) (Nat.le_of_ble_eq_true rfl) ⟨by simp [t_oddOk, bI, c_41, c_49, c_57], rfl, rfl⟩ dX4_oddGradesAllow_65
        · refine r_iconst C (v := 1) dX4_oddGradesAllow_60 rfl ?_
          refine r_goto C 65 dX4_oddGradesAllow_61 (by decide) ?_
          exact r_zret C rfl (by first | exact Or.inl rfl | exact Or.inr rfl | exact bI_01 _) (Nat.le_of_ble_eq_true rfl) (Nat.le_of_ble_eq_true rfl) ⟨by simp [t_oddOk, bI, c_41, c_49, c_57], rfl, rfl⟩ dX4_oddGradesAllow_65
  · intro i h_i ih_i
    refine r_iload_n C dX4_oddGradesAllow_4 rfl rfl ?_
    refine r_aload_n C dX4_oddGradesAllow_5 rfl rfl ?_
    refine r_get C (j := 2) rfl in_X4 (w.1) (by decide) fl_X4_24 rfl rfl dX4_oddGradesAllow_6 ?_
    refine r_icmp_ge C 40 dX4_oddGradesAllow_9 (by decide) (fun c => absurd c (by rw [hn]; exact nI_ge h_i hkk)) (fun _ => ?_)
    refine r_iload_n C dX4_oddGradesAllow_12 rfl rfl ?_
    refine r_aload_n C dX4_oddGradesAllow_13 rfl rfl ?_
    refine r_get C (j := 0) rfl in_X4 (w.1) (by decide) fl_X4_14 rfl rfl dX4_oddGradesAllow_14 ?_
    refine r_iload_n C dX4_oddGradesAllow_17 rfl rfl ?_
    refine r_iconst C (v := 0) dX4_oddGradesAllow_18 rfl ?_
    refine r_cVi C (c_X2_at w.2.1 w.2.2.1 (by decide)) lk_X4_37 rfl (w.2.1) rfl rfl ⟨(Nat.le_of_ble_eq_true rfl), (Nat.le_of_ble_eq_true rfl), (Nat.le_of_ble_eq_true rfl), (Nat.le_of_ble_eq_true rfl), (Nat.le_of_ble_eq_true rfl)⟩ dX4_oddGradesAllow_19 ?_
    refine r_aload_n C dX4_oddGradesAllow_22 rfl rfl ?_
    refine r_get C (j := 0) rfl in_X4 (w.1) (by decide) fl_X4_14 rfl rfl dX4_oddGradesAllow_23 ?_
    refine r_iload_n C dX4_oddGradesAllow_26 rfl rfl ?_
    refine r_iconst C (v := 1) dX4_oddGradesAllow_27 rfl ?_
    refine r_cVi C (c_X2_at w.2.1 w.2.2.1 (by decide)) lk_X4_37 rfl (w.2.1) rfl rfl ⟨(Nat.le_of_ble_eq_true rfl), (Nat.le_of_ble_eq_true rfl), (Nat.le_of_ble_eq_true rfl), (Nat.le_of_ble_eq_true rfl), (Nat.le_of_ble_eq_true rfl)⟩ dX4_oddGradesAllow_28 ?_
    refine r_ixor C dX4_oddGradesAllow_31 ?_
    refine r_ixor C dX4_oddGradesAllow_32 ?_
    refine r_istore_n C dX4_oddGradesAllow_33 rfl (by decide) ?_
    refine r_iinc C (v := 1) dX4_oddGradesAllow_34 rfl rfl (by decide) ?_
    refine r_goto C 4 dX4_oddGradesAllow_37 (by decide) ?_
    refine V.sub [(0, .ref tr), (1, .int a), (2, .int (t_odd hf (i + 1))), (3, .int (nI (i + 1)))] ⟨rfl, rfl, rfl, (by rw [← nI_1 i]; rfl), trivial⟩ ?_
    exact ih_i

set_option maxHeartbeats 800000 in
set_option maxRecDepth 100000 in
theorem c_X4_wholeByCounting {G : ga_} {l : Launch} {h : HP} {sz : Nat} {tr : Nat} {hf of : Nat → Int32} {n : Int32} {a : Int32} {k : Nat} (w : TA G h tr hf of n) (hn : n = nI k) (hkk : k < 2147483648) : Mf G l yX4_wholeByCounting cX4_wholeByCounting 2 (some .int) 3 72 0 0 [.ref tr, .int a] h sz (some (.int (t_count hf k a))) h sz := by
  refine Mg.ofV [(0, .ref tr), (1, .int a)] (by decide) (Nat.le_of_ble_eq_true rfl) rfl ?_
  intro p e s m args below meth c C
  refine r_aload_n C dX4_wholeByCounting_0 rfl rfl ?_
  refine r_cVi C (c_X4_isTooLarge w) lk_X4_48 rfl (w.1) rfl rfl ⟨(Nat.le_of_ble_eq_true rfl), (Nat.le_of_ble_eq_true rfl), (Nat.le_of_ble_eq_true rfl), (Nat.le_of_ble_eq_true rfl), (Nat.le_of_ble_eq_true rfl)⟩ dX4_wholeByCounting_1 ?_
  refine r_if_eq C 9 dX4_wholeByCounting_4 (by decide) (fun c_4 => ?_) (fun c_4 => ?_)
  · have c_4 := bI_f c_4
    refine r_aload_n C dX4_wholeByCounting_9 rfl rfl ?_
    refine r_iload_n C dX4_wholeByCounting_10 rfl rfl ?_
    refine r_cVi C (c_X4_hangsTogetherWith w hn hkk) lk_X4_69 rfl (w.1) rfl rfl ⟨(Nat.le_of_ble_eq_true rfl), (Nat.le_of_ble_eq_true rfl), (Nat.le_of_ble_eq_true rfl), (Nat.le_of_ble_eq_true rfl), (Nat.le_of_ble_eq_true rfl)⟩ dX4_wholeByCounting_11 ?_
    refine r_if_eq C 29 dX4_wholeByCounting_14 (by decide) (fun c_14 => ?_) (fun c_14 => ?_)
    · have c_14 := bI_f c_14
      refine r_iconst C (v := 0) dX4_wholeByCounting_29 rfl ?_
      exact r_iret C rfl (Nat.le_of_ble_eq_true rfl) (Nat.le_of_ble_eq_true rfl) ⟨by rw [large_ok hn hkk] at c_4; simp only [t_count]; rw [if_neg (of_decide_eq_false c_4)]; simp [bI, c_14], rfl, rfl⟩ dX4_wholeByCounting_30
    · have c_14 := bI_t c_14
      refine r_aload_n C dX4_wholeByCounting_17 rfl rfl ?_
      refine r_iload_n C dX4_wholeByCounting_18 rfl rfl ?_
      refine r_cVi C (c_X4_oddGradesAllow w hn hkk) lk_X4_73 rfl (w.1) rfl rfl ⟨(Nat.le_of_ble_eq_true rfl), (Nat.le_of_ble_eq_true rfl), (Nat.le_of_ble_eq_true rfl), (Nat.le_of_ble_eq_true rfl), (Nat.le_of_ble_eq_true rfl)⟩ dX4_wholeByCounting_19 ?_
      refine r_if_eq C 29 dX4_wholeByCounting_22 (by decide) (fun c_22 => ?_) (fun c_22 => ?_)
      · have c_22 := bI_f c_22
        refine r_iconst C (v := 0) dX4_wholeByCounting_29 rfl ?_
        exact r_iret C rfl (Nat.le_of_ble_eq_true rfl) (Nat.le_of_ble_eq_true rfl) ⟨by rw [large_ok hn hkk] at c_4; simp only [t_count]; rw [if_neg (of_decide_eq_false c_4)]; simp [bI, c_14, c_22], rfl, rfl⟩ dX4_wholeByCounting_30
      · have c_22 := bI_t c_22
        refine r_iconst C (v := 1) dX4_wholeByCounting_25 rfl ?_
        refine r_goto C 30 dX4_wholeByCounting_26 (by decide) ?_
        exact r_iret C rfl (Nat.le_of_ble_eq_true rfl) (Nat.le_of_ble_eq_true rfl) ⟨by rw [large_ok hn hkk] at c_4; simp only [t_count]; rw [if_neg (of_decide_eq_false c_4)]; simp [bI, c_14, c_22], rfl, rfl⟩ dX4_wholeByCounting_30
  · have c_4 := bI_t c_4
    refine r_iconst C (v := -1) dX4_wholeByCounting_7 rfl ?_
    exact r_iret C rfl (Nat.le_of_ble_eq_true rfl) (Nat.le_of_ble_eq_true rfl) ⟨by rw [large_ok hn hkk] at c_4; simp only [t_count]; rw [if_pos (of_decide_eq_true c_4)], rfl, rfl⟩ dX4_wholeByCounting_8

set_option maxHeartbeats 800000 in
set_option maxRecDepth 100000 in
theorem c_X4_init {G : ga_} {l : Launch} {h : HP} {tr : Nat} (hT : h tr = some (ob_ 4 [.null, .null, .int 0])) : Mf G l yX4_init cX4_init 1 none 2 36 3 1046 [.ref tr] h (tr + 1) none (pT G h tr (fun _ => 0) (fun _ => 0) 0) (tr + 4) := by
  refine Mg.ofV [(0, .ref tr)] (by decide) (Nat.le_of_ble_eq_true rfl) rfl ?_
  intro p e s m args below meth c C

  refine r_aload_n C dX4_init_0 rfl rfl ?_
  refine r_objInit C jl_X4_3 oi_inst oi_code (Nat.le_of_ble_eq_true rfl) (Nat.le_of_ble_eq_true rfl) dX4_init_1 ?_
  refine r_aload_n C dX4_init_4 rfl rfl ?_
  refine r_new C (ci := 2) (fs := [.int 0, .null]) tyX2 tyX2_ok rfl in_X2 cl_X4_9 iz_X2 ii_X2 (fun j hj => by rcases (show j = 0 ∨ j = 1 by omega) with rfl | rfl <;> rfl) (Nat.le_of_ble_eq_true rfl) (Nat.le_of_ble_eq_true rfl) dX4_init_5 ?_
  refine r_dup C dX4_init_8 rfl ?_
  refine r_bipush C (v := 10) dX4_init_9 rfl ?_
  refine r_iconst C (v := 2) dX4_init_11 rfl ?_
  refine r_cIv C (c_X2_init (N := 20) (by simp [up_, Nat.add_assoc]) (by omega) (by decide) (by decide)) lk_X4_11 rfl rfl ⟨(Nat.le_of_ble_eq_true rfl), (Nat.le_of_ble_eq_true rfl), (Nat.le_of_ble_eq_true rfl), (Nat.le_of_ble_eq_true rfl), (Nat.le_of_ble_eq_true rfl)⟩ dX4_init_12 ?_
  refine r_putF C (j := 0) tyX4 tyX4_ok nmX4 rfl in_X4 ((show _ = some (ob_ 4 [.null, .null, .int 0]) by simp [up_, hT, Nat.add_assoc])) (by decide) fl_X4_14 rfl rfl rfl rfl rfl (by first | rfl | decide) (by first | rfl | decide) (Nat.le_of_ble_eq_true rfl) dX4_init_15 ?_
  refine r_aload_n C dX4_init_18 rfl rfl ?_
  refine r_sipush C (v := 1024) dX4_init_19 rfl ?_
  refine r_newaI C ac_int (by decide) rfl (Nat.le_of_ble_eq_true rfl) (Nat.le_of_ble_eq_true rfl) (Nat.le_of_ble_eq_true rfl) dX4_init_22 ?_
  refine r_putF C (j := 1) tyX4 tyX4_ok nmX4 rfl in_X4 ((show _ = some (ob_ 4 [.ref (tr + 1), .null, .int 0]) by simp [up_, hT, Nat.add_assoc])) (by decide) fl_X4_20 rfl rfl rfl rfl rfl (by first | rfl | decide) (by first | rfl | decide) (Nat.le_of_ble_eq_true rfl) dX4_init_24 ?_
  refine r_vret C rfl (Nat.le_of_ble_eq_true rfl) (Nat.le_of_ble_eq_true rfl) ⟨rfl, ?_, rfl⟩ dX4_init_27
  refine pT_eq ⟨?_, ?_, ?_, ?_⟩ (fun a ha => ?_)
  · simp [up_, Nat.add_assoc]
  · simp [up_, Nat.add_assoc]
  · simp [up_, Nat.add_assoc]
  · simp [up_, Nat.add_assoc]
  · rw [up_n (by omega), up_n (by omega), up_n (by omega), up_n (by omega), up_n (by omega), up_n (by omega)]
end
section
/-! decode rows, as printed -/
theorem dX5_init_0 : decode cX5_init 0 = .ok (.aload_n 0, 1) := by decide +kernel
theorem dX5_init_1 : decode cX5_init 1 = .ok (.invokespecial 1, 3) := by decide +kernel
theorem dX5_init_4 : decode cX5_init 4 = .ok (.aload_n 0, 1) := by decide +kernel
theorem dX5_init_5 : decode cX5_init 5 = .ok (.new 7, 3) := by decide +kernel
theorem dX5_init_8 : decode cX5_init 8 = .ok (.dup, 1) := by decide +kernel
theorem dX5_init_9 : decode cX5_init 9 = .ok (.invokespecial 9, 3) := by decide +kernel
theorem dX5_init_12 : decode cX5_init 12 = .ok (.putfield 10, 3) := by decide +kernel
theorem dX5_init_15 : decode cX5_init 15 = .ok (.aload_n 0, 1) := by decide +kernel
theorem dX5_init_16 : decode cX5_init 16 = .ok (.new 16, 3) := by decide +kernel
theorem dX5_init_19 : decode cX5_init 19 = .ok (.dup, 1) := by decide +kernel
theorem dX5_init_20 : decode cX5_init 20 = .ok (.invokespecial 18, 3) := by decide +kernel
theorem dX5_init_23 : decode cX5_init 23 = .ok (.putfield 19, 3) := by decide +kernel
theorem dX5_init_26 : decode cX5_init 26 = .ok (.aload_n 0, 1) := by decide +kernel
theorem dX5_init_27 : decode cX5_init 27 = .ok (.new 23, 3) := by decide +kernel
theorem dX5_init_30 : decode cX5_init 30 = .ok (.dup, 1) := by decide +kernel
theorem dX5_init_31 : decode cX5_init 31 = .ok (.invokespecial 25, 3) := by decide +kernel
theorem dX5_init_34 : decode cX5_init 34 = .ok (.putfield 26, 3) := by decide +kernel
theorem dX5_init_37 : decode cX5_init 37 = .ok (.aload_n 0, 1) := by decide +kernel
theorem dX5_init_38 : decode cX5_init 38 = .ok (.new 30, 3) := by decide +kernel
theorem dX5_init_41 : decode cX5_init 41 = .ok (.dup, 1) := by decide +kernel
theorem dX5_init_42 : decode cX5_init 42 = .ok (.invokespecial 32, 3) := by decide +kernel
theorem dX5_init_45 : decode cX5_init 45 = .ok (.putfield 33, 3) := by decide +kernel
theorem dX5_init_48 : decode cX5_init 48 = .ok (.aload_n 0, 1) := by decide +kernel
theorem dX5_init_49 : decode cX5_init 49 = .ok (.iconst 2, 1) := by decide +kernel
theorem dX5_init_50 : decode cX5_init 50 = .ok (.anewarray 7, 3) := by decide +kernel
theorem dX5_init_53 : decode cX5_init 53 = .ok (.putfield 37, 3) := by decide +kernel
theorem dX5_init_56 : decode cX5_init 56 = .ok (.aload_n 0, 1) := by decide +kernel
theorem dX5_init_57 : decode cX5_init 57 = .ok (.getfield 10, 3) := by decide +kernel
theorem dX5_init_60 : decode cX5_init 60 = .ok (.iconst 2, 1) := by decide +kernel
theorem dX5_init_61 : decode cX5_init 61 = .ok (.iconst 1, 1) := by decide +kernel
theorem dX5_init_62 : decode cX5_init 62 = .ok (.invokevirtual 41, 3) := by decide +kernel
theorem dX5_init_65 : decode cX5_init 65 = .ok (.return_, 1) := by decide +kernel
theorem dX5_begin_0 : decode cX5_begin 0 = .ok (.iload_n 1, 1) := by decide +kernel
theorem dX5_begin_1 : decode cX5_begin 1 = .ok (.iconst 2, 1) := by decide +kernel
theorem dX5_begin_2 : decode cX5_begin 2 = .ok (.if_icmp .lt 19, 3) := by decide +kernel
theorem dX5_begin_5 : decode cX5_begin 5 = .ok (.iload_n 1, 1) := by decide +kernel
theorem dX5_begin_6 : decode cX5_begin 6 = .ok (.iconst 4, 1) := by decide +kernel
theorem dX5_begin_7 : decode cX5_begin 7 = .ok (.if_icmp .gt 14, 3) := by decide +kernel
theorem dX5_begin_10 : decode cX5_begin 10 = .ok (.iload_n 2, 1) := by decide +kernel
theorem dX5_begin_11 : decode cX5_begin 11 = .ok (.ifCond .lt 10, 3) := by decide +kernel
theorem dX5_begin_14 : decode cX5_begin 14 = .ok (.iload_n 2, 1) := by decide +kernel
theorem dX5_begin_15 : decode cX5_begin 15 = .ok (.sipush 10000, 3) := by decide +kernel
theorem dX5_begin_18 : decode cX5_begin 18 = .ok (.if_icmp .lt 13, 3) := by decide +kernel
theorem dX5_begin_21 : decode cX5_begin 21 = .ok (.new 45, 3) := by decide +kernel
theorem dX5_begin_24 : decode cX5_begin 24 = .ok (.dup, 1) := by decide +kernel
theorem dX5_begin_25 : decode cX5_begin 25 = .ok (.ldc 47, 2) := by decide +kernel
theorem dX5_begin_27 : decode cX5_begin 27 = .ok (.invokespecial 49, 3) := by decide +kernel
theorem dX5_begin_30 : decode cX5_begin 30 = .ok (.athrow, 1) := by decide +kernel
theorem dX5_begin_31 : decode cX5_begin 31 = .ok (.aload_n 0, 1) := by decide +kernel
theorem dX5_begin_32 : decode cX5_begin 32 = .ok (.getfield 33, 3) := by decide +kernel
theorem dX5_begin_35 : decode cX5_begin 35 = .ok (.aload_n 0, 1) := by decide +kernel
theorem dX5_begin_36 : decode cX5_begin 36 = .ok (.getfield 10, 3) := by decide +kernel
theorem dX5_begin_39 : decode cX5_begin 39 = .ok (.invokevirtual 52, 3) := by decide +kernel
theorem dX5_begin_42 : decode cX5_begin 42 = .ok (.aload_n 0, 1) := by decide +kernel
theorem dX5_begin_43 : decode cX5_begin 43 = .ok (.getfield 10, 3) := by decide +kernel
theorem dX5_begin_46 : decode cX5_begin 46 = .ok (.iload_n 1, 1) := by decide +kernel
theorem dX5_begin_47 : decode cX5_begin 47 = .ok (.iload_n 2, 1) := by decide +kernel
theorem dX5_begin_48 : decode cX5_begin 48 = .ok (.invokevirtual 41, 3) := by decide +kernel
theorem dX5_begin_51 : decode cX5_begin 51 = .ok (.aload_n 0, 1) := by decide +kernel
theorem dX5_begin_52 : decode cX5_begin 52 = .ok (.getfield 10, 3) := by decide +kernel
theorem dX5_begin_55 : decode cX5_begin 55 = .ok (.invokevirtual 56, 3) := by decide +kernel
theorem dX5_begin_58 : decode cX5_begin 58 = .ok (.ireturn, 1) := by decide +kernel
theorem dX5_lay_0 : decode cX5_lay 0 = .ok (.iload_n 2, 1) := by decide +kernel
theorem dX5_lay_1 : decode cX5_lay 1 = .ok (.invokestatic 60, 3) := by decide +kernel
theorem dX5_lay_4 : decode cX5_lay 4 = .ok (.iload_n 3, 1) := by decide +kernel
theorem dX5_lay_5 : decode cX5_lay 5 = .ok (.invokestatic 64, 3) := by decide +kernel
theorem dX5_lay_8 : decode cX5_lay 8 = .ok (.aload_n 0, 1) := by decide +kernel
theorem dX5_lay_9 : decode cX5_lay 9 = .ok (.getfield 33, 3) := by decide +kernel
theorem dX5_lay_12 : decode cX5_lay 12 = .ok (.aload_n 0, 1) := by decide +kernel
theorem dX5_lay_13 : decode cX5_lay 13 = .ok (.getfield 10, 3) := by decide +kernel
theorem dX5_lay_16 : decode cX5_lay 16 = .ok (.invokevirtual 52, 3) := by decide +kernel
theorem dX5_lay_19 : decode cX5_lay 19 = .ok (.aload_n 0, 1) := by decide +kernel
theorem dX5_lay_20 : decode cX5_lay 20 = .ok (.getfield 10, 3) := by decide +kernel
theorem dX5_lay_23 : decode cX5_lay 23 = .ok (.iload_n 1, 1) := by decide +kernel
theorem dX5_lay_24 : decode cX5_lay 24 = .ok (.iload_n 2, 1) := by decide +kernel
theorem dX5_lay_25 : decode cX5_lay 25 = .ok (.iload_n 3, 1) := by decide +kernel
theorem dX5_lay_26 : decode cX5_lay 26 = .ok (.invokevirtual 67, 3) := by decide +kernel
theorem dX5_lay_29 : decode cX5_lay 29 = .ok (.ireturn, 1) := by decide +kernel
theorem dX5_draw_0 : decode cX5_draw 0 = .ok (.aload_n 0, 1) := by decide +kernel
theorem dX5_draw_1 : decode cX5_draw 1 = .ok (.getfield 33, 3) := by decide +kernel
theorem dX5_draw_4 : decode cX5_draw 4 = .ok (.aload_n 0, 1) := by decide +kernel
theorem dX5_draw_5 : decode cX5_draw 5 = .ok (.getfield 10, 3) := by decide +kernel
theorem dX5_draw_8 : decode cX5_draw 8 = .ok (.invokevirtual 52, 3) := by decide +kernel
theorem dX5_draw_11 : decode cX5_draw 11 = .ok (.aload_n 0, 1) := by decide +kernel
theorem dX5_draw_12 : decode cX5_draw 12 = .ok (.getfield 10, 3) := by decide +kernel
theorem dX5_draw_15 : decode cX5_draw 15 = .ok (.invokevirtual 71, 3) := by decide +kernel
theorem dX5_draw_18 : decode cX5_draw 18 = .ok (.ireturn, 1) := by decide +kernel
theorem dX5_pass_0 : decode cX5_pass 0 = .ok (.aload_n 0, 1) := by decide +kernel
theorem dX5_pass_1 : decode cX5_pass 1 = .ok (.getfield 33, 3) := by decide +kernel
theorem dX5_pass_4 : decode cX5_pass 4 = .ok (.aload_n 0, 1) := by decide +kernel
theorem dX5_pass_5 : decode cX5_pass 5 = .ok (.getfield 10, 3) := by decide +kernel
theorem dX5_pass_8 : decode cX5_pass 8 = .ok (.invokevirtual 52, 3) := by decide +kernel
theorem dX5_pass_11 : decode cX5_pass 11 = .ok (.aload_n 0, 1) := by decide +kernel
theorem dX5_pass_12 : decode cX5_pass 12 = .ok (.getfield 10, 3) := by decide +kernel
theorem dX5_pass_15 : decode cX5_pass 15 = .ok (.invokevirtual 74, 3) := by decide +kernel
theorem dX5_pass_18 : decode cX5_pass 18 = .ok (.ireturn, 1) := by decide +kernel
theorem dX5_oil_0 : decode cX5_oil 0 = .ok (.aload_n 0, 1) := by decide +kernel
theorem dX5_oil_1 : decode cX5_oil 1 = .ok (.getfield 10, 3) := by decide +kernel
theorem dX5_oil_4 : decode cX5_oil 4 = .ok (.invokevirtual 77, 3) := by decide +kernel
theorem dX5_oil_7 : decode cX5_oil 7 = .ok (.ifCond .ne 31, 3) := by decide +kernel
theorem dX5_oil_10 : decode cX5_oil 10 = .ok (.aload_n 0, 1) := by decide +kernel
theorem dX5_oil_11 : decode cX5_oil 11 = .ok (.getfield 10, 3) := by decide +kernel
theorem dX5_oil_14 : decode cX5_oil 14 = .ok (.aload_n 0, 1) := by decide +kernel
theorem dX5_oil_15 : decode cX5_oil 15 = .ok (.getfield 10, 3) := by decide +kernel
theorem dX5_oil_18 : decode cX5_oil 18 = .ok (.getfield 81, 3) := by decide +kernel
theorem dX5_oil_21 : decode cX5_oil 21 = .ok (.iload_n 1, 1) := by decide +kernel
theorem dX5_oil_22 : decode cX5_oil 22 = .ok (.invokevirtual 85, 3) := by decide +kernel
theorem dX5_oil_25 : decode cX5_oil 25 = .ok (.ifCond .ne 13, 3) := by decide +kernel
theorem dX5_oil_28 : decode cX5_oil 28 = .ok (.new 89, 3) := by decide +kernel
theorem dX5_oil_31 : decode cX5_oil 31 = .ok (.dup, 1) := by decide +kernel
theorem dX5_oil_32 : decode cX5_oil 32 = .ok (.ldc 91, 2) := by decide +kernel
theorem dX5_oil_34 : decode cX5_oil 34 = .ok (.invokespecial 93, 3) := by decide +kernel
theorem dX5_oil_37 : decode cX5_oil 37 = .ok (.athrow, 1) := by decide +kernel
theorem dX5_oil_38 : decode cX5_oil 38 = .ok (.aload_n 0, 1) := by decide +kernel
theorem dX5_oil_39 : decode cX5_oil 39 = .ok (.getfield 33, 3) := by decide +kernel
theorem dX5_oil_42 : decode cX5_oil 42 = .ok (.aload_n 0, 1) := by decide +kernel
theorem dX5_oil_43 : decode cX5_oil 43 = .ok (.getfield 10, 3) := by decide +kernel
theorem dX5_oil_46 : decode cX5_oil 46 = .ok (.invokevirtual 52, 3) := by decide +kernel
theorem dX5_oil_49 : decode cX5_oil 49 = .ok (.aload_n 0, 1) := by decide +kernel
theorem dX5_oil_50 : decode cX5_oil 50 = .ok (.getfield 10, 3) := by decide +kernel
theorem dX5_oil_53 : decode cX5_oil 53 = .ok (.iload_n 1, 1) := by decide +kernel
theorem dX5_oil_54 : decode cX5_oil 54 = .ok (.invokevirtual 94, 3) := by decide +kernel
theorem dX5_oil_57 : decode cX5_oil 57 = .ok (.ireturn, 1) := by decide +kernel
theorem dX5_set_0 : decode cX5_set 0 = .ok (.iload_n 1, 1) := by decide +kernel
theorem dX5_set_1 : decode cX5_set 1 = .ok (.iconst 1, 1) := by decide +kernel
theorem dX5_set_2 : decode cX5_set 2 = .ok (.if_icmp .lt 9, 3) := by decide +kernel
theorem dX5_set_5 : decode cX5_set 5 = .ok (.iload_n 1, 1) := by decide +kernel
theorem dX5_set_6 : decode cX5_set 6 = .ok (.bipush 9, 2) := by decide +kernel
theorem dX5_set_8 : decode cX5_set 8 = .ok (.if_icmp .le 13, 3) := by decide +kernel
theorem dX5_set_11 : decode cX5_set 11 = .ok (.new 45, 3) := by decide +kernel
theorem dX5_set_14 : decode cX5_set 14 = .ok (.dup, 1) := by decide +kernel
theorem dX5_set_15 : decode cX5_set 15 = .ok (.ldc 98, 2) := by decide +kernel
theorem dX5_set_17 : decode cX5_set 17 = .ok (.invokespecial 49, 3) := by decide +kernel
theorem dX5_set_20 : decode cX5_set 20 = .ok (.athrow, 1) := by decide +kernel
theorem dX5_set_21 : decode cX5_set 21 = .ok (.aload_n 0, 1) := by decide +kernel
theorem dX5_set_22 : decode cX5_set 22 = .ok (.getfield 33, 3) := by decide +kernel
theorem dX5_set_25 : decode cX5_set 25 = .ok (.aload_n 0, 1) := by decide +kernel
theorem dX5_set_26 : decode cX5_set 26 = .ok (.getfield 10, 3) := by decide +kernel
theorem dX5_set_29 : decode cX5_set 29 = .ok (.invokevirtual 52, 3) := by decide +kernel
theorem dX5_set_32 : decode cX5_set 32 = .ok (.aload_n 0, 1) := by decide +kernel
theorem dX5_set_33 : decode cX5_set 33 = .ok (.getfield 10, 3) := by decide +kernel
theorem dX5_set_36 : decode cX5_set 36 = .ok (.getfield 100, 3) := by decide +kernel
theorem dX5_set_39 : decode cX5_set 39 = .ok (.istore_n 2, 1) := by decide +kernel
theorem dX5_set_40 : decode cX5_set 40 = .ok (.aload_n 0, 1) := by decide +kernel
theorem dX5_set_41 : decode cX5_set 41 = .ok (.getfield 10, 3) := by decide +kernel
theorem dX5_set_44 : decode cX5_set 44 = .ok (.iload_n 1, 1) := by decide +kernel
theorem dX5_set_45 : decode cX5_set 45 = .ok (.putfield 100, 3) := by decide +kernel
theorem dX5_set_48 : decode cX5_set 48 = .ok (.iload_n 2, 1) := by decide +kernel
theorem dX5_set_49 : decode cX5_set 49 = .ok (.ireturn, 1) := by decide +kernel
theorem dX5_undo_0 : decode cX5_undo 0 = .ok (.aload_n 0, 1) := by decide +kernel
theorem dX5_undo_1 : decode cX5_undo 1 = .ok (.getfield 33, 3) := by decide +kernel
theorem dX5_undo_4 : decode cX5_undo 4 = .ok (.getfield 135, 3) := by decide +kernel
theorem dX5_undo_7 : decode cX5_undo 7 = .ok (.ifCond .ne 13, 3) := by decide +kernel
theorem dX5_undo_10 : decode cX5_undo 10 = .ok (.new 108, 3) := by decide +kernel
theorem dX5_undo_13 : decode cX5_undo 13 = .ok (.dup, 1) := by decide +kernel
theorem dX5_undo_14 : decode cX5_undo 14 = .ok (.ldc 138, 2) := by decide +kernel
theorem dX5_undo_16 : decode cX5_undo 16 = .ok (.invokespecial 112, 3) := by decide +kernel
theorem dX5_undo_19 : decode cX5_undo 19 = .ok (.athrow, 1) := by decide +kernel
theorem dX5_undo_20 : decode cX5_undo 20 = .ok (.aload_n 0, 1) := by decide +kernel
theorem dX5_undo_21 : decode cX5_undo 21 = .ok (.getfield 33, 3) := by decide +kernel
theorem dX5_undo_24 : decode cX5_undo 24 = .ok (.aload_n 0, 1) := by decide +kernel
theorem dX5_undo_25 : decode cX5_undo 25 = .ok (.getfield 10, 3) := by decide +kernel
theorem dX5_undo_28 : decode cX5_undo 28 = .ok (.invokevirtual 140, 3) := by decide +kernel
theorem dX5_undo_31 : decode cX5_undo 31 = .ok (.aload_n 0, 1) := by decide +kernel
theorem dX5_undo_32 : decode cX5_undo 32 = .ok (.getfield 33, 3) := by decide +kernel
theorem dX5_undo_35 : decode cX5_undo 35 = .ok (.getfield 135, 3) := by decide +kernel
theorem dX5_undo_38 : decode cX5_undo 38 = .ok (.ireturn, 1) := by decide +kernel
theorem dX5_tileOf_0 : decode cX5_tileOf 0 = .ok (.iload_n 1, 1) := by decide +kernel
theorem dX5_tileOf_1 : decode cX5_tileOf 1 = .ok (.ifCond .lt 9, 3) := by decide +kernel
theorem dX5_tileOf_4 : decode cX5_tileOf 4 = .ok (.iload_n 1, 1) := by decide +kernel
theorem dX5_tileOf_5 : decode cX5_tileOf 5 = .ok (.bipush 28, 2) := by decide +kernel
theorem dX5_tileOf_7 : decode cX5_tileOf 7 = .ok (.if_icmp .lt 13, 3) := by decide +kernel
theorem dX5_tileOf_10 : decode cX5_tileOf 10 = .ok (.new 89, 3) := by decide +kernel
theorem dX5_tileOf_13 : decode cX5_tileOf 13 = .ok (.dup, 1) := by decide +kernel
theorem dX5_tileOf_14 : decode cX5_tileOf 14 = .ok (.ldc 143, 2) := by decide +kernel
theorem dX5_tileOf_16 : decode cX5_tileOf 16 = .ok (.invokespecial 93, 3) := by decide +kernel
theorem dX5_tileOf_19 : decode cX5_tileOf 19 = .ok (.athrow, 1) := by decide +kernel
theorem dX5_tileOf_20 : decode cX5_tileOf 20 = .ok (.iload_n 2, 1) := by decide +kernel
theorem dX5_tileOf_21 : decode cX5_tileOf 21 = .ok (.bipush 7, 2) := by decide +kernel
theorem dX5_tileOf_23 : decode cX5_tileOf 23 = .ok (.invokestatic 145, 3) := by decide +kernel
theorem dX5_tileOf_26 : decode cX5_tileOf 26 = .ok (.aload_n 0, 1) := by decide +kernel
theorem dX5_tileOf_27 : decode cX5_tileOf 27 = .ok (.getfield 10, 3) := by decide +kernel
theorem dX5_tileOf_30 : decode cX5_tileOf 30 = .ok (.getfield 148, 3) := by decide +kernel
theorem dX5_tileOf_33 : decode cX5_tileOf 33 = .ok (.iload_n 1, 1) := by decide +kernel
theorem dX5_tileOf_34 : decode cX5_tileOf 34 = .ok (.iload_n 2, 1) := by decide +kernel
theorem dX5_tileOf_35 : decode cX5_tileOf 35 = .ok (.invokevirtual 152, 3) := by decide +kernel
theorem dX5_tileOf_38 : decode cX5_tileOf 38 = .ok (.ireturn, 1) := by decide +kernel
theorem dX5_hand_0 : decode cX5_hand 0 = .ok (.aload_n 0, 1) := by decide +kernel
theorem dX5_hand_1 : decode cX5_hand 1 = .ok (.iload_n 1, 1) := by decide +kernel
theorem dX5_hand_2 : decode cX5_hand 2 = .ok (.invokevirtual 158, 3) := by decide +kernel
theorem dX5_hand_5 : decode cX5_hand 5 = .ok (.iload_n 2, 1) := by decide +kernel
theorem dX5_hand_6 : decode cX5_hand 6 = .ok (.invokestatic 161, 3) := by decide +kernel
theorem dX5_hand_9 : decode cX5_hand 9 = .ok (.aload_n 0, 1) := by decide +kernel
theorem dX5_hand_10 : decode cX5_hand 10 = .ok (.getfield 10, 3) := by decide +kernel
theorem dX5_hand_13 : decode cX5_hand 13 = .ok (.iload_n 1, 1) := by decide +kernel
theorem dX5_hand_14 : decode cX5_hand 14 = .ok (.iload_n 2, 1) := by decide +kernel
theorem dX5_hand_15 : decode cX5_hand 15 = .ok (.invokevirtual 85, 3) := by decide +kernel
theorem dX5_hand_18 : decode cX5_hand 18 = .ok (.ifCond .eq 18, 3) := by decide +kernel
theorem dX5_hand_21 : decode cX5_hand 21 = .ok (.aload_n 0, 1) := by decide +kernel
theorem dX5_hand_22 : decode cX5_hand 22 = .ok (.getfield 10, 3) := by decide +kernel
theorem dX5_hand_25 : decode cX5_hand 25 = .ok (.getfield 164, 3) := by decide +kernel
theorem dX5_hand_28 : decode cX5_hand 28 = .ok (.iload_n 1, 1) := by decide +kernel
theorem dX5_hand_29 : decode cX5_hand 29 = .ok (.iload_n 2, 1) := by decide +kernel
theorem dX5_hand_30 : decode cX5_hand 30 = .ok (.invokevirtual 152, 3) := by decide +kernel
theorem dX5_hand_33 : decode cX5_hand 33 = .ok (.goto 4, 3) := by decide +kernel
theorem dX5_hand_36 : decode cX5_hand 36 = .ok (.iconst (-1), 1) := by decide +kernel
theorem dX5_hand_37 : decode cX5_hand 37 = .ok (.ireturn, 1) := by decide +kernel
theorem dX5_stock_0 : decode cX5_stock 0 = .ok (.iload_n 1, 1) := by decide +kernel
theorem dX5_stock_1 : decode cX5_stock 1 = .ok (.invokestatic 161, 3) := by decide +kernel
theorem dX5_stock_4 : decode cX5_stock 4 = .ok (.iload_n 1, 1) := by decide +kernel
theorem dX5_stock_5 : decode cX5_stock 5 = .ok (.aload_n 0, 1) := by decide +kernel
theorem dX5_stock_6 : decode cX5_stock 6 = .ok (.getfield 10, 3) := by decide +kernel
theorem dX5_stock_9 : decode cX5_stock 9 = .ok (.invokevirtual 56, 3) := by decide +kernel
theorem dX5_stock_12 : decode cX5_stock 12 = .ok (.if_icmp .ge 14, 3) := by decide +kernel
theorem dX5_stock_15 : decode cX5_stock 15 = .ok (.aload_n 0, 1) := by decide +kernel
theorem dX5_stock_16 : decode cX5_stock 16 = .ok (.getfield 10, 3) := by decide +kernel
theorem dX5_stock_19 : decode cX5_stock 19 = .ok (.iload_n 1, 1) := by decide +kernel
theorem dX5_stock_20 : decode cX5_stock 20 = .ok (.invokevirtual 167, 3) := by decide +kernel
theorem dX5_stock_23 : decode cX5_stock 23 = .ok (.goto 4, 3) := by decide +kernel
theorem dX5_stock_26 : decode cX5_stock 26 = .ok (.iconst (-1), 1) := by decide +kernel
theorem dX5_stock_27 : decode cX5_stock 27 = .ok (.ireturn, 1) := by decide +kernel
theorem dX5_playerOf_0 : decode cX5_playerOf 0 = .ok (.aload_n 0, 1) := by decide +kernel
theorem dX5_playerOf_1 : decode cX5_playerOf 1 = .ok (.iload_n 1, 1) := by decide +kernel
theorem dX5_playerOf_2 : decode cX5_playerOf 2 = .ok (.invokevirtual 158, 3) := by decide +kernel
theorem dX5_playerOf_5 : decode cX5_playerOf 5 = .ok (.iload_n 2, 1) := by decide +kernel
theorem dX5_playerOf_6 : decode cX5_playerOf 6 = .ok (.bipush 7, 2) := by decide +kernel
theorem dX5_playerOf_8 : decode cX5_playerOf 8 = .ok (.invokestatic 145, 3) := by decide +kernel
theorem dX5_playerOf_11 : decode cX5_playerOf 11 = .ok (.aload_n 0, 1) := by decide +kernel
theorem dX5_playerOf_12 : decode cX5_playerOf 12 = .ok (.getfield 10, 3) := by decide +kernel
theorem dX5_playerOf_15 : decode cX5_playerOf 15 = .ok (.iload_n 1, 1) := by decide +kernel
theorem dX5_playerOf_16 : decode cX5_playerOf 16 = .ok (.iload_n 2, 1) := by decide +kernel
theorem dX5_playerOf_17 : decode cX5_playerOf 17 = .ok (.invokevirtual 170, 3) := by decide +kernel
theorem dX5_playerOf_20 : decode cX5_playerOf 20 = .ok (.ireturn, 1) := by decide +kernel
theorem dX5_rowOf_0 : decode cX5_rowOf 0 = .ok (.iload_n 1, 1) := by decide +kernel
theorem dX5_rowOf_1 : decode cX5_rowOf 1 = .ok (.invokestatic 60, 3) := by decide +kernel
theorem dX5_rowOf_4 : decode cX5_rowOf 4 = .ok (.iload_n 2, 1) := by decide +kernel
theorem dX5_rowOf_5 : decode cX5_rowOf 5 = .ok (.iconst 4, 1) := by decide +kernel
theorem dX5_rowOf_6 : decode cX5_rowOf 6 = .ok (.invokestatic 145, 3) := by decide +kernel
theorem dX5_rowOf_9 : decode cX5_rowOf 9 = .ok (.aload_n 0, 1) := by decide +kernel
theorem dX5_rowOf_10 : decode cX5_rowOf 10 = .ok (.getfield 10, 3) := by decide +kernel
theorem dX5_rowOf_13 : decode cX5_rowOf 13 = .ok (.getfield 173, 3) := by decide +kernel
theorem dX5_rowOf_16 : decode cX5_rowOf 16 = .ok (.iload_n 1, 1) := by decide +kernel
theorem dX5_rowOf_17 : decode cX5_rowOf 17 = .ok (.iload_n 2, 1) := by decide +kernel
theorem dX5_rowOf_18 : decode cX5_rowOf 18 = .ok (.invokevirtual 152, 3) := by decide +kernel
theorem dX5_rowOf_21 : decode cX5_rowOf 21 = .ok (.ireturn, 1) := by decide +kernel
theorem dX5_count_0 : decode cX5_count 0 = .ok (.iload_n 1, 1) := by decide +kernel
theorem dX5_count_1 : decode cX5_count 1 = .ok (.bipush 12, 2) := by decide +kernel
theorem dX5_count_3 : decode cX5_count 3 = .ok (.invokestatic 145, 3) := by decide +kernel
theorem dX5_count_6 : decode cX5_count 6 = .ok (.aload_n 0, 1) := by decide +kernel
theorem dX5_count_7 : decode cX5_count 7 = .ok (.getfield 10, 3) := by decide +kernel
theorem dX5_count_10 : decode cX5_count 10 = .ok (.iload_n 1, 1) := by decide +kernel
theorem dX5_count_11 : decode cX5_count 11 = .ok (.aload_n 0, 1) := by decide +kernel
theorem dX5_count_12 : decode cX5_count 12 = .ok (.getfield 33, 3) := by decide +kernel
theorem dX5_count_15 : decode cX5_count 15 = .ok (.getfield 135, 3) := by decide +kernel
theorem dX5_count_18 : decode cX5_count 18 = .ok (.invokevirtual 176, 3) := by decide +kernel
theorem dX5_count_21 : decode cX5_count 21 = .ok (.ireturn, 1) := by decide +kernel
theorem dX5_setting_0 : decode cX5_setting 0 = .ok (.aload_n 0, 1) := by decide +kernel
theorem dX5_setting_1 : decode cX5_setting 1 = .ok (.getfield 10, 3) := by decide +kernel
theorem dX5_setting_4 : decode cX5_setting 4 = .ok (.getfield 100, 3) := by decide +kernel
theorem dX5_setting_7 : decode cX5_setting 7 = .ok (.ireturn, 1) := by decide +kernel
theorem dX5_whyNot_0 : decode cX5_whyNot 0 = .ok (.iload_n 2, 1) := by decide +kernel
theorem dX5_whyNot_1 : decode cX5_whyNot 1 = .ok (.invokestatic 60, 3) := by decide +kernel
theorem dX5_whyNot_4 : decode cX5_whyNot 4 = .ok (.iload_n 3, 1) := by decide +kernel
theorem dX5_whyNot_5 : decode cX5_whyNot 5 = .ok (.invokestatic 64, 3) := by decide +kernel
theorem dX5_whyNot_8 : decode cX5_whyNot 8 = .ok (.aload_n 0, 1) := by decide +kernel
theorem dX5_whyNot_9 : decode cX5_whyNot 9 = .ok (.getfield 10, 3) := by decide +kernel
theorem dX5_whyNot_12 : decode cX5_whyNot 12 = .ok (.iload_n 1, 1) := by decide +kernel
theorem dX5_whyNot_13 : decode cX5_whyNot 13 = .ok (.iload_n 2, 1) := by decide +kernel
theorem dX5_whyNot_14 : decode cX5_whyNot 14 = .ok (.iload_n 3, 1) := by decide +kernel
theorem dX5_whyNot_15 : decode cX5_whyNot 15 = .ok (.invokevirtual 179, 3) := by decide +kernel
theorem dX5_whyNot_18 : decode cX5_whyNot 18 = .ok (.ireturn, 1) := by decide +kernel
theorem dX5_longest_0 : decode cX5_longest 0 = .ok (.aload_n 0, 1) := by decide +kernel
theorem dX5_longest_1 : decode cX5_longest 1 = .ok (.iload_n 1, 1) := by decide +kernel
theorem dX5_longest_2 : decode cX5_longest 2 = .ok (.invokevirtual 158, 3) := by decide +kernel
theorem dX5_longest_5 : decode cX5_longest 5 = .ok (.iload_n 2, 1) := by decide +kernel
theorem dX5_longest_6 : decode cX5_longest 6 = .ok (.invokestatic 182, 3) := by decide +kernel
theorem dX5_longest_9 : decode cX5_longest 9 = .ok (.aload_n 0, 1) := by decide +kernel
theorem dX5_longest_10 : decode cX5_longest 10 = .ok (.getfield 19, 3) := by decide +kernel
theorem dX5_longest_13 : decode cX5_longest 13 = .ok (.aload_n 0, 1) := by decide +kernel
theorem dX5_longest_14 : decode cX5_longest 14 = .ok (.getfield 10, 3) := by decide +kernel
theorem dX5_longest_17 : decode cX5_longest 17 = .ok (.iload_n 1, 1) := by decide +kernel
theorem dX5_longest_18 : decode cX5_longest 18 = .ok (.invokevirtual 185, 3) := by decide +kernel
theorem dX5_longest_21 : decode cX5_longest 21 = .ok (.aload_n 0, 1) := by decide +kernel
theorem dX5_longest_22 : decode cX5_longest 22 = .ok (.getfield 19, 3) := by decide +kernel
theorem dX5_longest_25 : decode cX5_longest 25 = .ok (.iload_n 2, 1) := by decide +kernel
theorem dX5_longest_26 : decode cX5_longest 26 = .ok (.invokevirtual 189, 3) := by decide +kernel
theorem dX5_longest_29 : decode cX5_longest 29 = .ok (.aload_n 0, 1) := by decide +kernel
theorem dX5_longest_30 : decode cX5_longest 30 = .ok (.getfield 19, 3) := by decide +kernel
theorem dX5_longest_33 : decode cX5_longest 33 = .ok (.invokevirtual 192, 3) := by decide +kernel
theorem dX5_longest_36 : decode cX5_longest 36 = .ok (.ireturn, 1) := by decide +kernel
theorem dX5_whole_0 : decode cX5_whole 0 = .ok (.aload_n 0, 1) := by decide +kernel
theorem dX5_whole_1 : decode cX5_whole 1 = .ok (.iload_n 1, 1) := by decide +kernel
theorem dX5_whole_2 : decode cX5_whole 2 = .ok (.invokevirtual 158, 3) := by decide +kernel
theorem dX5_whole_5 : decode cX5_whole 5 = .ok (.iload_n 2, 1) := by decide +kernel
theorem dX5_whole_6 : decode cX5_whole 6 = .ok (.invokestatic 182, 3) := by decide +kernel
theorem dX5_whole_9 : decode cX5_whole 9 = .ok (.iload_n 3, 1) := by decide +kernel
theorem dX5_whole_10 : decode cX5_whole 10 = .ok (.iconst 2, 1) := by decide +kernel
theorem dX5_whole_11 : decode cX5_whole 11 = .ok (.invokestatic 145, 3) := by decide +kernel
theorem dX5_whole_14 : decode cX5_whole 14 = .ok (.aload_n 0, 1) := by decide +kernel
theorem dX5_whole_15 : decode cX5_whole 15 = .ok (.getfield 19, 3) := by decide +kernel
theorem dX5_whole_18 : decode cX5_whole 18 = .ok (.aload_n 0, 1) := by decide +kernel
theorem dX5_whole_19 : decode cX5_whole 19 = .ok (.getfield 10, 3) := by decide +kernel
theorem dX5_whole_22 : decode cX5_whole 22 = .ok (.iload_n 1, 1) := by decide +kernel
theorem dX5_whole_23 : decode cX5_whole 23 = .ok (.invokevirtual 185, 3) := by decide +kernel
theorem dX5_whole_26 : decode cX5_whole 26 = .ok (.iload_n 3, 1) := by decide +kernel
theorem dX5_whole_27 : decode cX5_whole 27 = .ok (.iconst 1, 1) := by decide +kernel
theorem dX5_whole_28 : decode cX5_whole 28 = .ok (.if_icmp .ne 12, 3) := by decide +kernel
theorem dX5_whole_31 : decode cX5_whole 31 = .ok (.aload_n 0, 1) := by decide +kernel
theorem dX5_whole_32 : decode cX5_whole 32 = .ok (.getfield 19, 3) := by decide +kernel
theorem dX5_whole_35 : decode cX5_whole 35 = .ok (.iload_n 2, 1) := by decide +kernel
theorem dX5_whole_36 : decode cX5_whole 36 = .ok (.invokevirtual 195, 3) := by decide +kernel
theorem dX5_whole_39 : decode cX5_whole 39 = .ok (.ireturn, 1) := by decide +kernel
theorem dX5_whole_40 : decode cX5_whole 40 = .ok (.aload_n 0, 1) := by decide +kernel
theorem dX5_whole_41 : decode cX5_whole 41 = .ok (.getfield 19, 3) := by decide +kernel
theorem dX5_whole_44 : decode cX5_whole 44 = .ok (.iload_n 2, 1) := by decide +kernel
theorem dX5_whole_45 : decode cX5_whole 45 = .ok (.invokevirtual 189, 3) := by decide +kernel
theorem dX5_whole_48 : decode cX5_whole 48 = .ok (.aload_n 0, 1) := by decide +kernel
theorem dX5_whole_49 : decode cX5_whole 49 = .ok (.getfield 19, 3) := by decide +kernel
theorem dX5_whole_52 : decode cX5_whole 52 = .ok (.invokevirtual 198, 3) := by decide +kernel
theorem dX5_whole_55 : decode cX5_whole 55 = .ok (.ireturn, 1) := by decide +kernel
theorem dX5_advice_0 : decode cX5_advice 0 = .ok (.aload_n 0, 1) := by decide +kernel
theorem dX5_advice_1 : decode cX5_advice 1 = .ok (.getfield 10, 3) := by decide +kernel
theorem dX5_advice_4 : decode cX5_advice 4 = .ok (.invokevirtual 201, 3) := by decide +kernel
theorem dX5_advice_7 : decode cX5_advice 7 = .ok (.ireturn, 1) := by decide +kernel
theorem dX5_rustShare_0 : decode cX5_rustShare 0 = .ok (.aload_n 0, 1) := by decide +kernel
theorem dX5_rustShare_1 : decode cX5_rustShare 1 = .ok (.getfield 10, 3) := by decide +kernel
theorem dX5_rustShare_4 : decode cX5_rustShare 4 = .ok (.invokevirtual 207, 3) := by decide +kernel
theorem dX5_rustShare_7 : decode cX5_rustShare 7 = .ok (.dreturn, 1) := by decide +kernel
theorem dX5_requireRow_0 : decode cX5_requireRow 0 = .ok (.iload_n 0, 1) := by decide +kernel
theorem dX5_requireRow_1 : decode cX5_requireRow 1 = .ok (.ifCond .lt 8, 3) := by decide +kernel
theorem dX5_requireRow_4 : decode cX5_requireRow 4 = .ok (.iload_n 0, 1) := by decide +kernel
theorem dX5_requireRow_5 : decode cX5_requireRow 5 = .ok (.iconst 3, 1) := by decide +kernel
theorem dX5_requireRow_6 : decode cX5_requireRow 6 = .ok (.if_icmp .lt 13, 3) := by decide +kernel
theorem dX5_requireRow_9 : decode cX5_requireRow 9 = .ok (.new 89, 3) := by decide +kernel
theorem dX5_requireRow_12 : decode cX5_requireRow 12 = .ok (.dup, 1) := by decide +kernel
theorem dX5_requireRow_13 : decode cX5_requireRow 13 = .ok (.ldc 231, 2) := by decide +kernel
theorem dX5_requireRow_15 : decode cX5_requireRow 15 = .ok (.invokespecial 93, 3) := by decide +kernel
theorem dX5_requireRow_18 : decode cX5_requireRow 18 = .ok (.athrow, 1) := by decide +kernel
theorem dX5_requireRow_19 : decode cX5_requireRow 19 = .ok (.return_, 1) := by decide +kernel
theorem dX5_requireEnd_0 : decode cX5_requireEnd 0 = .ok (.iload_n 0, 1) := by decide +kernel
theorem dX5_requireEnd_1 : decode cX5_requireEnd 1 = .ok (.ifCond .lt 8, 3) := by decide +kernel
theorem dX5_requireEnd_4 : decode cX5_requireEnd 4 = .ok (.iload_n 0, 1) := by decide +kernel
theorem dX5_requireEnd_5 : decode cX5_requireEnd 5 = .ok (.iconst 1, 1) := by decide +kernel
theorem dX5_requireEnd_6 : decode cX5_requireEnd 6 = .ok (.if_icmp .le 13, 3) := by decide +kernel
theorem dX5_requireEnd_9 : decode cX5_requireEnd 9 = .ok (.new 45, 3) := by decide +kernel
theorem dX5_requireEnd_12 : decode cX5_requireEnd 12 = .ok (.dup, 1) := by decide +kernel
theorem dX5_requireEnd_13 : decode cX5_requireEnd 13 = .ok (.ldc 233, 2) := by decide +kernel
theorem dX5_requireEnd_15 : decode cX5_requireEnd 15 = .ok (.invokespecial 49, 3) := by decide +kernel
theorem dX5_requireEnd_18 : decode cX5_requireEnd 18 = .ok (.athrow, 1) := by decide +kernel
theorem dX5_requireEnd_19 : decode cX5_requireEnd 19 = .ok (.return_, 1) := by decide +kernel
theorem dX5_requirePlayer_0 : decode cX5_requirePlayer 0 = .ok (.aload_n 0, 1) := by decide +kernel
theorem dX5_requirePlayer_1 : decode cX5_requirePlayer 1 = .ok (.getfield 10, 3) := by decide +kernel
theorem dX5_requirePlayer_4 : decode cX5_requirePlayer 4 = .ok (.iload_n 1, 1) := by decide +kernel
theorem dX5_requirePlayer_5 : decode cX5_requirePlayer 5 = .ok (.invokevirtual 235, 3) := by decide +kernel
theorem dX5_requirePlayer_8 : decode cX5_requirePlayer 8 = .ok (.ifCond .ne 13, 3) := by decide +kernel
theorem dX5_requirePlayer_11 : decode cX5_requirePlayer 11 = .ok (.new 89, 3) := by decide +kernel
theorem dX5_requirePlayer_14 : decode cX5_requirePlayer 14 = .ok (.dup, 1) := by decide +kernel
theorem dX5_requirePlayer_15 : decode cX5_requirePlayer 15 = .ok (.ldc 239, 2) := by decide +kernel
theorem dX5_requirePlayer_17 : decode cX5_requirePlayer 17 = .ok (.invokespecial 93, 3) := by decide +kernel
theorem dX5_requirePlayer_20 : decode cX5_requirePlayer 20 = .ok (.athrow, 1) := by decide +kernel
theorem dX5_requirePlayer_21 : decode cX5_requirePlayer 21 = .ok (.return_, 1) := by decide +kernel
theorem dX5_requirePlace_0 : decode cX5_requirePlace 0 = .ok (.iload_n 0, 1) := by decide +kernel
theorem dX5_requirePlace_1 : decode cX5_requirePlace 1 = .ok (.ifCond .ge 13, 3) := by decide +kernel
theorem dX5_requirePlace_4 : decode cX5_requirePlace 4 = .ok (.new 45, 3) := by decide +kernel
theorem dX5_requirePlace_7 : decode cX5_requirePlace 7 = .ok (.dup, 1) := by decide +kernel
theorem dX5_requirePlace_8 : decode cX5_requirePlace 8 = .ok (.ldc 241, 2) := by decide +kernel
theorem dX5_requirePlace_10 : decode cX5_requirePlace 10 = .ok (.invokespecial 49, 3) := by decide +kernel
theorem dX5_requirePlace_13 : decode cX5_requirePlace 13 = .ok (.athrow, 1) := by decide +kernel
theorem dX5_requirePlace_14 : decode cX5_requirePlace 14 = .ok (.return_, 1) := by decide +kernel
theorem dX5_requireWhat_0 : decode cX5_requireWhat 0 = .ok (.iload_n 0, 1) := by decide +kernel
theorem dX5_requireWhat_1 : decode cX5_requireWhat 1 = .ok (.ifCond .lt 8, 3) := by decide +kernel
theorem dX5_requireWhat_4 : decode cX5_requireWhat 4 = .ok (.iload_n 0, 1) := by decide +kernel
theorem dX5_requireWhat_5 : decode cX5_requireWhat 5 = .ok (.iload_n 1, 1) := by decide +kernel
theorem dX5_requireWhat_6 : decode cX5_requireWhat 6 = .ok (.if_icmp .lt 13, 3) := by decide +kernel
theorem dX5_requireWhat_9 : decode cX5_requireWhat 9 = .ok (.new 45, 3) := by decide +kernel
theorem dX5_requireWhat_12 : decode cX5_requireWhat 12 = .ok (.dup, 1) := by decide +kernel
theorem dX5_requireWhat_13 : decode cX5_requireWhat 13 = .ok (.ldc 243, 2) := by decide +kernel
theorem dX5_requireWhat_15 : decode cX5_requireWhat 15 = .ok (.invokespecial 49, 3) := by decide +kernel
theorem dX5_requireWhat_18 : decode cX5_requireWhat 18 = .ok (.athrow, 1) := by decide +kernel
theorem dX5_requireWhat_19 : decode cX5_requireWhat 19 = .ok (.return_, 1) := by decide +kernel
theorem dX5_requireGrade_0 : decode cX5_requireGrade 0 = .ok (.iload_n 0, 1) := by decide +kernel
theorem dX5_requireGrade_1 : decode cX5_requireGrade 1 = .ok (.ifCond .lt 9, 3) := by decide +kernel
theorem dX5_requireGrade_4 : decode cX5_requireGrade 4 = .ok (.iload_n 0, 1) := by decide +kernel
theorem dX5_requireGrade_5 : decode cX5_requireGrade 5 = .ok (.bipush 7, 2) := by decide +kernel
theorem dX5_requireGrade_7 : decode cX5_requireGrade 7 = .ok (.if_icmp .lt 13, 3) := by decide +kernel
theorem dX5_requireGrade_10 : decode cX5_requireGrade 10 = .ok (.new 45, 3) := by decide +kernel
theorem dX5_requireGrade_13 : decode cX5_requireGrade 13 = .ok (.dup, 1) := by decide +kernel
theorem dX5_requireGrade_14 : decode cX5_requireGrade 14 = .ok (.ldc 245, 2) := by decide +kernel
theorem dX5_requireGrade_16 : decode cX5_requireGrade 16 = .ok (.invokespecial 49, 3) := by decide +kernel
theorem dX5_requireGrade_19 : decode cX5_requireGrade 19 = .ok (.athrow, 1) := by decide +kernel
theorem dX5_requireGrade_20 : decode cX5_requireGrade 20 = .ok (.return_, 1) := by decide +kernel
end
section
/-! TEXT at tx: the object, its codes cf, its length n -/
def XA (G : ga_) (h : HP) (tx : Nat) (cf : Nat → Int32) (n : Int32) : Prop := h tx = some (ob_ 3 [.ref (tx + 1), .int n]) ∧ h (tx + 1) = some (aC_ G 60 cf)
def pX (G : ga_) (h : HP) (tx : Nat) (cf : Nat → Int32) (n : Int32) : HP := up_ (up_ h tx (ob_ 3 [.ref (tx + 1), .int n])) (tx + 1) (aC_ G 60 cf)
theorem XA_pX {G : ga_} {h : HP} {tx : Nat} {cf : Nat → Int32} {n : Int32} : XA G (pX G h tx cf n) tx cf n := by
  refine ⟨?_, ?_⟩ <;> simp [pX, up_]
theorem pX_out {G : ga_} {h : HP} {tx a : Nat} {cf : Nat → Int32} {n : Int32} (ha : a < tx ∨ tx + 2 ≤ a) : pX G h tx cf n a = h a := by
  unfold pX; rw [up_n (by omega), up_n (by omega)]
theorem pX_eq {G : ga_} {h H : HP} {tx : Nat} {cf : Nat → Int32} {n : Int32} (w : XA G H tx cf n) (ho : ∀ a, (a < tx ∨ tx + 2 ≤ a) → H a = h a) : H = pX G h tx cf n := by
  obtain ⟨w0, w1⟩ := w
  funext a
  by_cases c0 : a = tx
  · subst c0; rw [w0]; simp [pX, up_]
  · by_cases c1 : a = tx + 1
    · subst c1; rw [w1]; simp [pX, up_]
    · rw [ho a (by omega), pX_out (by omega)]
theorem pX_id {G : ga_} {h : HP} {tx : Nat} {cf : Nat → Int32} {n : Int32} (w : XA G h tx cf n) : pX G h tx cf n = h := (pX_eq w (fun _ _ => rfl)).symm
theorem pX_pX {G : ga_} {h : HP} {tx : Nat} {cf cf2 : Nat → Int32} {n n2 : Int32} : pX G (pX G h tx cf n) tx cf2 n2 = pX G h tx cf2 n2 := pX_eq XA_pX (fun a ha => by rw [pX_out ha, pX_out ha])
theorem pX_n {G : ga_} {h : HP} {tx : Nat} {cf : Nat → Int32} {n n2 : Int32} (w : XA G h tx cf n) : up_ h tx (ob_ 3 [.ref (tx + 1), .int n2]) = pX G h tx cf n2 :=
  pX_eq ⟨by simp [up_], by rw [up_n (by omega)]; exact w.2⟩ (fun a ha => by rw [up_n (by omega)])
theorem pX_c {G : ga_} {h : HP} {tx : Nat} {cf f : Nat → Int32} {n : Int32} (w : XA G h tx cf n) : up_ h (tx + 1) (aC_ G 60 f) = pX G h tx f n :=
  pX_eq ⟨by rw [up_n (by omega)]; exact w.1, by simp [up_]⟩ (fun a ha => by rw [up_n (by omega)])
def x_turn (c : Int32) : Int32 := if c = 108 then 1 else if c = 100 then 6 else if c = 112 then 6 else -1
def x_dig (c : Int32) : Int32 := if c = 49 then 2 else if c = 50 then 3 else if c < 48 then -1 else if 57 < c then -1 else 4
def x_row (c : Int32) : Int32 := if c < 97 then -1 else if 99 < c then -1 else 5
def x_exp (e c : Int32) : Int32 := if e = 0 then x_turn c else if e = 1 then x_dig c else if e = 2 then (if c < 48 then x_row c else if 57 < c then x_row c else 4) else if e = 3 then (if c < 48 then x_row c else if 55 < c then x_row c else 4) else if e = 4 then x_row c else if e = 5 then (if c = 60 then 6 else if c = 62 then 6 else -1) else if e = 6 then (if c = 59 then 0 else -1) else -1
def x_st (f : Nat → Int32) : Nat → Int32
  | 0 => 0
  | i + 1 => x_exp (x_st f i) (f i)
def x_fst (p : Nat → Bool) : Nat → Nat
  | 0 => 0
  | n + 1 => if x_fst p n < n then x_fst p n else if p n then n else n + 1
theorem x_fst_le (p : Nat → Bool) : ∀ n, x_fst p n ≤ n := by
  intro n
  induction n with
  | zero => exact Nat.le_refl 0
  | succ n ih => simp only [x_fst]; split <;> (try split) <;> omega
theorem x_fst_no {p : Nat → Bool} : ∀ {n : Nat}, anyB p n = false → x_fst p n = n := by
  intro n
  induction n with
  | zero => intro _; rfl
  | succ n ih =>
    intro h
    simp only [anyB, Bool.or_eq_false_iff] at h
    simp only [x_fst]
    rw [ih h.1, if_neg (Nat.lt_irrefl n), h.2]
    rfl
theorem x_fst_at {p : Nat → Bool} {i : Nat} (h : anyB p i = false) (hp : p i = true) : ∀ {n : Nat}, i < n → x_fst p n = i := by
  intro n
  induction n with
  | zero => intro h; omega
  | succ n ih =>
    intro hi
    simp only [x_fst]
    by_cases c : i = n
    · subst c
      rw [x_fst_no h, if_neg (Nat.lt_irrefl i), hp]
      rfl
    · rw [ih (by omega), if_pos (by omega)]
def x_err (f : Nat → Int32) (n : Nat) : Nat := x_fst (fun i => decide (x_st f (i + 1) = -1)) n
def x_char (x : Int32) : Int32 := vp_nar .char (x.toUInt32 % 65536).toInt32
def x_mix (f : Nat → Int32) (n : Nat) (x : Int64) : Nat → Int64
  | 0 => 31 * x + (nI n).toInt64
  | i + 1 => 31 * x_mix f n x i + (f i).toInt64
end
section
/-! PAST at pa: the object, its row of states st, next, size -/
def PA (G : ga_) (h : HP) (pa : Nat) (st : Nat → Option Nat) (nx z : Int32) : Prop := h pa = some (ob_ 1 [.ref (pa + 1), .int nx, .int z]) ∧ h (pa + 1) = some (aG_ G 6 st)
def pP (G : ga_) (h : HP) (pa : Nat) (st : Nat → Option Nat) (nx z : Int32) : HP := up_ (up_ h pa (ob_ 1 [.ref (pa + 1), .int nx, .int z])) (pa + 1) (aG_ G 6 st)
theorem PA_pP {G : ga_} {h : HP} {pa : Nat} {st : Nat → Option Nat} {nx z : Int32} : PA G (pP G h pa st nx z) pa st nx z := by
  refine ⟨?_, ?_⟩ <;> simp [pP, up_]
theorem pP_out {G : ga_} {h : HP} {pa a : Nat} {st : Nat → Option Nat} {nx z : Int32} (ha : a < pa ∨ pa + 2 ≤ a) : pP G h pa st nx z a = h a := by
  unfold pP; rw [up_n (by omega), up_n (by omega)]
theorem pP_eq {G : ga_} {h H : HP} {pa : Nat} {st : Nat → Option Nat} {nx z : Int32} (w : PA G H pa st nx z) (ho : ∀ a, (a < pa ∨ pa + 2 ≤ a) → H a = h a) : H = pP G h pa st nx z := by
  obtain ⟨w0, w1⟩ := w
  funext a
  by_cases c0 : a = pa
  · subst c0; rw [w0]; simp [pP, up_]
  · by_cases c1 : a = pa + 1
    · subst c1; rw [w1]; simp [pP, up_]
    · rw [ho a (by omega), pP_out (by omega)]
theorem pP_id {G : ga_} {h : HP} {pa : Nat} {st : Nat → Option Nat} {nx z : Int32} (w : PA G h pa st nx z) : pP G h pa st nx z = h := (pP_eq w (fun _ _ => rfl)).symm
theorem pP_n {G : ga_} {h : HP} {pa : Nat} {st : Nat → Option Nat} {nx z nx2 z2 : Int32} : up_ (pP G h pa st nx z) pa (ob_ 1 [.ref (pa + 1), .int nx2, .int z2]) = pP G h pa st nx2 z2 :=
  pP_eq ⟨by simp [up_], by simp [pP, up_]⟩ (fun a ha => by rw [up_n (by omega), pP_out ha])
theorem pP_s {G : ga_} {h : HP} {pa : Nat} {st st2 : Nat → Option Nat} {nx z : Int32} : up_ (pP G h pa st nx z) (pa + 1) (aG_ G 6 st2) = pP G h pa st2 nx z :=
  pP_eq ⟨by simp [pP, up_], by simp [up_]⟩ (fun a ha => by rw [up_n (by omega), pP_out ha])
theorem pP_G {G : ga_} {h : HP} {pa q : Nat} {st : Nat → Option Nat} {nx z : Int32} {S : gS} (d : q + 11 ≤ pa ∨ pa + 2 ≤ q) : pG G (pP G h pa st nx z) q S = pP G (pG G h q S) pa st nx z :=
  pP_eq ⟨by rw [pG_out (by omega)]; exact PA_pP.1, by rw [pG_out (by omega)]; exact PA_pP.2⟩ (fun a ha => by
    by_cases c : q ≤ a ∧ a < q + 11
    · rw [pG_in c.1 c.2, pG_in c.1 c.2]
    · rw [pG_out (by omega), pG_out (by omega), pP_out ha])
theorem pP_blank {G : ga_} {h : HP} {pa q : Nat} {st : Nat → Option Nat} {nx z : Int32} {S : gS} {e : va_E} (d : q + 11 ≤ pa ∨ pa + 2 ≤ q) : pG G (up_ (pP G h pa st nx z) q e) q S = pP G (pG G h q S) pa st nx z := by
  rw [← pP_G d]
  funext a
  by_cases c : q ≤ a ∧ a < q + 11
  · rw [pG_in c.1 c.2, pG_in c.1 c.2]
  · rw [pG_out (by omega), pG_out (by omega), up_n (by omega)]
theorem GA_P {G : ga_} {h : HP} {pa g : Nat} {st : Nat → Option Nat} {nx z : Int32} {S : gS} (w : GA G h g S) (d : g + 11 ≤ pa ∨ pa + 2 ≤ g) : GA G (pP G h pa st nx z) g S := fun j hj => by rw [pP_out (by omega)]; exact w j hj
/-- where the next state is saved: in an old game or in one made now -/
def p_at (G : ga_) (h : HP) (st : Nat → Option Nat) (nx sz q s2 : Nat) (Sq : gS) : Prop := (st nx = some q ∧ GA G h q Sq ∧ s2 = sz) ∨ (st nx = none ∧ q = sz ∧ Sq = gS0 ∧ s2 = sz + 11)
def p_nx (nx : Nat) : Nat := if nx + 1 < 6 then nx + 1 else 0
def p_z (z : Nat) : Nat := if z + 1 < 6 then z + 1 else 6
theorem p_nxI {nx : Nat} (h : nx < 6) : (nI nx + 1 < nI 6 → nI nx + 1 = nI (p_nx nx)) ∧ (¬ nI nx + 1 < nI 6 → 0 = nI (p_nx nx)) := by
  rw [nI_1, nI_ltI (by omega) (by decide)]
  unfold p_nx
  constructor
  · intro c; rw [if_pos c]
  · intro c; rw [if_neg c]; rfl
theorem p_zI {z : Nat} (h : z ≤ 6) : (if nI 6 < nI z + 1 then nI 6 else nI z + 1) = nI (p_z z) := by
  rw [nI_1]
  unfold p_z
  by_cases c : z + 1 < 6
  · rw [if_pos c, if_neg (by rw [nI_ltI (by decide) (by omega)]; omega)]
  · rw [if_neg c]
    by_cases c2 : 6 < z + 1
    · rw [if_pos ((nI_ltI (by decide) (by omega)).mpr c2)]
    · rw [if_neg (by rw [nI_ltI (by decide) (by omega)]; omega), show z + 1 = 6 by omega]
set_option maxHeartbeats 800000 in
set_option maxRecDepth 100000 in
theorem c_X1_remember {G : ga_} {l : Launch} {h : HP} {sz : Nat} {pa g nx z q s2 : Nat} {st : Nat → Option Nat} {S Sq : gS} (w : PA G h pa st (nI nx) (nI z)) (wg : GA G h g S) (hnx : nx < 6) (hz : z ≤ 6) (hat : p_at G h st nx sz q s2 Sq) (d1 : g + 11 ≤ pa ∨ pa + 2 ≤ g) (d2 : q + 11 ≤ pa ∨ pa + 2 ≤ q) (d3 : q + 11 ≤ g ∨ g + 11 ≤ q) : Mf G l yX1_remember cX1_remember 3 none 3 72 11 387 [.ref pa, .ref g] h sz none (pP G (pG G h q (g_bec Sq S)) pa (va_up st nx (some q)) (nI (p_nx nx)) (nI (p_z z))) s2 := by
  refine Mg.ofV [(0, .ref pa), (1, .ref g)] (by decide) (Nat.le_of_ble_eq_true rfl) rfl ?_
  intro p e s m args below meth c C

  refine V.heap (pP_id w).symm ?_
  have M52 : ∀ (k0 n0 : Nat), k0 ≤ 11 → n0 ≤ 387 → V p l e ⟨3, 11, 387, 72⟩ s m args below meth c G 3 (Qg G below args s 11 387 (fun v1 h1 s1 => v1 = none ∧ h1 = (pP G (pG G h q (g_bec Sq S)) pa (va_up st nx (some q)) (nI (p_nx nx)) (nI (p_z z))) ∧ s1 = s2)) (pP G (pG G h q Sq) pa (va_up st nx (some q)) (nI nx) (nI z)) s2 k0 n0 52 [(0, .ref pa), (1, .ref g), (2, .ref q)] [] := by
    intro k0 n0 hk0 hn0
    have d3s : g + 11 ≤ q ∨ q + 11 ≤ g := by omega
    refine r_aload_n C dX1_remember_52 rfl rfl ?_
    refine r_aload_n C dX1_remember_53 rfl rfl ?_
    refine r_cVv C (c_X0_become (GA_P GA_pG d2) (GA_P (GA_other wg d3s) d1) (by omega)) lk_X1_22 rfl (GA_o (GA_P GA_pG d2)) rfl rfl ⟨(Nat.le_of_ble_eq_true rfl), (Nat.le_of_ble_eq_true rfl), (by show k0 + 0 ≤ 11; omega), (by show n0 + 0 ≤ 387; omega), (Nat.le_of_ble_eq_true rfl)⟩ dX1_remember_54 ?_
    rw [pP_G d2, pG_pG]
    refine r_aload_n C dX1_remember_57 rfl rfl ?_
    refine r_aload_n C dX1_remember_58 rfl rfl ?_
    refine r_get C (j := 1) rfl in_X1 (PA_pP.1) (by decide) fl_X1_17 rfl rfl dX1_remember_59 ?_
    refine r_iconst C (v := 1) dX1_remember_62 rfl ?_
    refine r_iadd C dX1_remember_63 ?_
    refine r_aload_n C dX1_remember_64 rfl rfl ?_
    refine r_get C (j := 0) rfl in_X1 (PA_pP.1) (by decide) fl_X1_11 rfl rfl dX1_remember_65 ?_
    refine r_alenG C (PA_pP.2) dX1_remember_68 ?_
    refine r_icmp_ge C 81 dX1_remember_69 (by decide) (fun c_69 => ?_) (fun c_69 => ?_)
    · have e_69 := i32_nlt c_69
      refine r_iconst C (v := 0) dX1_remember_81 rfl ?_
      refine V.stack (st2 := [.int (nI (p_nx nx)), .ref pa]) (by rw [← (p_nxI hnx).2 e_69]) ?_
      refine r_put C (j := 1) tyX1 tyX1_ok nmX1 rfl in_X1 (PA_pP.1) (by decide) fl_X1_17 rfl rfl rfl (by first | rfl | decide) (by first | rfl | decide) (Nat.le_of_ble_eq_true rfl) dX1_remember_82 ?_
      refine V.heap pP_n ?_
      refine r_aload_n C dX1_remember_85 rfl rfl ?_
      refine r_aload_n C dX1_remember_86 rfl rfl ?_
      refine r_get C (j := 2) rfl in_X1 (PA_pP.1) (by decide) fl_X1_26 rfl rfl dX1_remember_87 ?_
      refine r_iconst C (v := 1) dX1_remember_90 rfl ?_
      refine r_iadd C dX1_remember_91 ?_
      refine r_aload_n C dX1_remember_92 rfl rfl ?_
      refine r_get C (j := 0) rfl in_X1 (PA_pP.1) (by decide) fl_X1_11 rfl rfl dX1_remember_93 ?_
      refine r_alenG C (PA_pP.2) dX1_remember_96 ?_
      refine r_mmin C jl_X1_29 mn_st ma_ii mn_code (Nat.le_of_ble_eq_true rfl) (Nat.le_of_ble_eq_true rfl) (by show k0 + 0 ≤ 11; omega) (by show n0 + 0 ≤ 387; omega) dX1_remember_97 ?_
      rw [p_zI hz]
      refine r_put C (j := 2) tyX1 tyX1_ok nmX1 rfl in_X1 (PA_pP.1) (by decide) fl_X1_26 rfl rfl rfl (by first | rfl | decide) (by first | rfl | decide) (Nat.le_of_ble_eq_true rfl) dX1_remember_100 ?_
      refine V.heap pP_n ?_
      exact r_vret C rfl (by show k0 + 0 ≤ 11; omega) (by show n0 + 0 ≤ 387; omega) ⟨rfl, rfl, rfl⟩ dX1_remember_103
    · have e_69 := i32_lt c_69
      refine r_aload_n C dX1_remember_72 rfl rfl ?_
      refine r_get C (j := 1) rfl in_X1 (PA_pP.1) (by decide) fl_X1_17 rfl rfl dX1_remember_73 ?_
      refine r_iconst C (v := 1) dX1_remember_76 rfl ?_
      refine r_iadd C dX1_remember_77 ?_
      refine r_goto C 82 dX1_remember_78 (by decide) ?_
      refine V.stack (st2 := [.int (nI (p_nx nx)), .ref pa]) (by rw [← (p_nxI hnx).1 e_69]) ?_
      refine r_put C (j := 1) tyX1 tyX1_ok nmX1 rfl in_X1 (PA_pP.1) (by decide) fl_X1_17 rfl rfl rfl (by first | rfl | decide) (by first | rfl | decide) (Nat.le_of_ble_eq_true rfl) dX1_remember_82 ?_
      refine V.heap pP_n ?_
      refine r_aload_n C dX1_remember_85 rfl rfl ?_
      refine r_aload_n C dX1_remember_86 rfl rfl ?_
      refine r_get C (j := 2) rfl in_X1 (PA_pP.1) (by decide) fl_X1_26 rfl rfl dX1_remember_87 ?_
      refine r_iconst C (v := 1) dX1_remember_90 rfl ?_
      refine r_iadd C dX1_remember_91 ?_
      refine r_aload_n C dX1_remember_92 rfl rfl ?_
      refine r_get C (j := 0) rfl in_X1 (PA_pP.1) (by decide) fl_X1_11 rfl rfl dX1_remember_93 ?_
      refine r_alenG C (PA_pP.2) dX1_remember_96 ?_
      refine r_mmin C jl_X1_29 mn_st ma_ii mn_code (Nat.le_of_ble_eq_true rfl) (Nat.le_of_ble_eq_true rfl) (by show k0 + 0 ≤ 11; omega) (by show n0 + 0 ≤ 387; omega) dX1_remember_97 ?_
      rw [p_zI hz]
      refine r_put C (j := 2) tyX1 tyX1_ok nmX1 rfl in_X1 (PA_pP.1) (by decide) fl_X1_26 rfl rfl rfl (by first | rfl | decide) (by first | rfl | decide) (Nat.le_of_ble_eq_true rfl) dX1_remember_100 ?_
      refine V.heap pP_n ?_
      exact r_vret C rfl (by show k0 + 0 ≤ 11; omega) (by show n0 + 0 ≤ 387; omega) ⟨rfl, rfl, rfl⟩ dX1_remember_103
  refine r_aload_n C dX1_remember_0 rfl rfl ?_
  refine r_get C (j := 1) rfl in_X1 (PA_pP.1) (by decide) fl_X1_17 rfl rfl dX1_remember_1 ?_
  refine r_if_lt C 19 dX1_remember_4 (by decide) (fun c => absurd c (nI_pos (by omega))) (fun _ => ?_)
  refine r_aload_n C dX1_remember_7 rfl rfl ?_
  refine r_get C (j := 1) rfl in_X1 (PA_pP.1) (by decide) fl_X1_17 rfl rfl dX1_remember_8 ?_
  refine r_aload_n C dX1_remember_11 rfl rfl ?_
  refine r_get C (j := 0) rfl in_X1 (PA_pP.1) (by decide) fl_X1_11 rfl rfl dX1_remember_12 ?_
  refine r_alenG C (PA_pP.2) dX1_remember_15 ?_
  refine r_icmp_lt C 20 dX1_remember_16 (by decide) (fun _ => ?_) (fun c => absurd (show nI nx < nI 6 from nI_lt hnx (by decide)) c)
  refine r_aload_n C dX1_remember_20 rfl rfl ?_
  refine r_get C (j := 0) rfl in_X1 (PA_pP.1) (by decide) fl_X1_11 rfl rfl dX1_remember_21 ?_
  refine r_aload_n C dX1_remember_24 rfl rfl ?_
  refine r_get C (j := 1) rfl in_X1 (PA_pP.1) (by decide) fl_X1_17 rfl rfl dX1_remember_25 ?_
  refine r_aald C (PA_pP.2) (vp_in_nI hnx (by decide)) dX1_remember_28 ?_
  rw [nI_clamp (by omega)]
  rcases hat with ⟨hst, wq, rfl⟩ | ⟨hst, rfl, rfl, rfl⟩
  · rw [hst]
    refine r_astore_n C dX1_remember_29 rfl (by decide) ?_
    refine r_aload_n C dX1_remember_30 rfl rfl ?_
    refine r_ifnonnull C 52 dX1_remember_31 (by decide) ?_
    refine V.heap (h2 := (pP G (pG G h q Sq) pa (va_up st nx (some q)) (nI nx) (nI z))) (by rw [pG_id wq, show va_up st nx (some q) = st by funext a; by_cases c : a = nx <;> simp [va_up, c, hst]]) ?_
    refine V.sub [(0, .ref pa), (1, .ref g), (2, .ref q)] ⟨rfl, rfl, rfl, trivial⟩ ?_
    exact M52 0 0 (by omega) (by omega)
  · rw [hst]
    refine r_astore_nN C dX1_remember_29 rfl (by decide) ?_
    refine r_aload_nN C dX1_remember_30 rfl rfl ?_
    refine r_ifnonnullN C dX1_remember_31 ?_
    refine r_new C (ci := 0) (fs := [.null, .null, .null, .null, .null, .int 0, .int 0, .int 0, .int 0, .int 0, .int 0, .int 0, .int 0]) tyX0 tyX0_ok rfl in_X0 cl_X1_9 iz_X0 ii_X0 (fun j hj => by rcases (show j = 0 ∨ j = 1 ∨ j = 2 ∨ j = 3 ∨ j = 4 ∨ j = 5 ∨ j = 6 ∨ j = 7 ∨ j = 8 ∨ j = 9 ∨ j = 10 ∨ j = 11 ∨ j = 12 by omega) with rfl | rfl | rfl | rfl | rfl | rfl | rfl | rfl | rfl | rfl | rfl | rfl | rfl <;> rfl) (Nat.le_of_ble_eq_true rfl) (Nat.le_of_ble_eq_true rfl) dX1_remember_34 ?_
    refine r_dup C dX1_remember_37 rfl ?_
    refine r_cNv C (c_X0_init (g := q) (up_s _ _ _)) lk_X1_21 rfl rfl ⟨(Nat.le_of_ble_eq_true rfl), (Nat.le_of_ble_eq_true rfl), (Nat.le_of_ble_eq_true rfl), (Nat.le_of_ble_eq_true rfl), (Nat.le_of_ble_eq_true rfl)⟩ dX1_remember_38 ?_
    rw [pP_blank d2]
    refine r_astore_n C dX1_remember_41 rfl (by decide) ?_
    refine r_aload_n C dX1_remember_42 rfl rfl ?_
    refine r_get C (j := 0) rfl in_X1 (PA_pP.1) (by decide) fl_X1_11 rfl rfl dX1_remember_43 ?_
    refine r_aload_n C dX1_remember_46 rfl rfl ?_
    refine r_get C (j := 1) rfl in_X1 (PA_pP.1) (by decide) fl_X1_17 rfl rfl dX1_remember_47 ?_
    refine r_aload_n C dX1_remember_50 rfl rfl ?_
    refine r_aast C (PA_pP.2) (GA_o (GA_P GA_pG d2)) (vp_in_nI hnx (by decide)) dX1_remember_51 ?_
    refine V.heap pP_s ?_
    rw [nI_clamp (by omega)]
    refine V.sub [(0, .ref pa), (1, .ref g), (2, .ref q)] ⟨rfl, rfl, rfl, trivial⟩ ?_
    exact M52 (0 + 1 + 10) (0 + 13 + 374) (by decide) (by decide)
def p_last (nx : Nat) : Nat := if 0 < nx then nx - 1 else 5
theorem p_lastI {nx : Nat} (h : nx < 6) : (0 < nI nx → nI nx - 1 = nI (p_last nx)) ∧ (nI nx ≤ 0 → nI 6 - 1 = nI (p_last nx)) := by
  unfold p_last
  constructor
  · intro c
    have q : 0 < nx := by
      rcases Nat.eq_zero_or_pos nx with e | e
      · rw [e] at c; exact absurd c (by decide)
      · exact e
    rw [if_pos q]
    exact pk_sub (b := 1) q
  · intro c
    have q : ¬ 0 < nx := fun q => absurd c (nI_nle q (by omega))
    rw [if_neg q]
    exact nI_pred 5
theorem p_last_lt {nx : Nat} (h : nx < 6) : p_last nx < 6 := by unfold p_last; split <;> omega
set_option maxHeartbeats 800000 in
set_option maxRecDepth 100000 in
theorem c_X1_restore {G : ga_} {l : Launch} {h : HP} {sz : Nat} {pa g nx z q : Nat} {st : Nat → Option Nat} {S Sq : gS} (w : PA G h pa st (nI nx) (nI (z + 1))) (wg : GA G h g S) (hnx : nx < 6) (hz : z < 6) (hst : st (p_last nx) = some q) (wq : GA G h q Sq) (d1 : g + 11 ≤ pa ∨ pa + 2 ≤ g) (d2 : q + 11 ≤ pa ∨ pa + 2 ≤ q) (d3 : q + 11 ≤ g ∨ g + 11 ≤ q) : Mf G l yX1_restore cX1_restore 3 none 3 72 0 0 [.ref pa, .ref g] h sz none (pP G (pG G h g (g_bec S Sq)) pa st (nI (p_last nx)) (nI z)) sz := by
  refine Mg.ofV [(0, .ref pa), (1, .ref g)] (by decide) (Nat.le_of_ble_eq_true rfl) rfl ?_
  intro p e s m args below meth c C

  refine V.heap (pP_id w).symm ?_
  have M23 : V p l e ⟨3, 0, 0, 72⟩ s m args below meth c G 3 (Qg G below args s 0 0 (fun v1 h1 s1 => v1 = none ∧ h1 = (pP G (pG G h g (g_bec S Sq)) pa st (nI (p_last nx)) (nI z)) ∧ s1 = sz)) (pP G h pa st (nI nx) (nI (z + 1))) sz 0 0 23 [(0, .ref pa), (1, .ref g)] [.int (nI (p_last nx))] := by
    refine r_istore_n C dX1_restore_23 rfl (by decide) ?_
    refine r_aload_n C dX1_restore_24 rfl rfl ?_
    refine r_get C (j := 2) rfl in_X1 (PA_pP.1) (by decide) fl_X1_26 rfl rfl dX1_restore_25 ?_
    refine r_if_le C 48 dX1_restore_28 (by decide) (fun c => absurd c (nI_nle (by omega) (by omega))) (fun _ => ?_)
    refine r_iload_n C dX1_restore_31 rfl rfl ?_
    refine r_if_lt C 48 dX1_restore_32 (by decide) (fun c => absurd c (nI_pos (by have := p_last_lt hnx; omega))) (fun _ => ?_)
    refine r_iload_n C dX1_restore_35 rfl rfl ?_
    refine r_aload_n C dX1_restore_36 rfl rfl ?_
    refine r_get C (j := 0) rfl in_X1 (PA_pP.1) (by decide) fl_X1_11 rfl rfl dX1_restore_37 ?_
    refine r_alenG C (PA_pP.2) dX1_restore_40 ?_
    refine r_icmp_ge C 48 dX1_restore_41 (by decide) (fun c => absurd c (nI_ge (b := 6) (p_last_lt hnx) (by decide))) (fun _ => ?_)
    refine r_aload_n C dX1_restore_44 rfl rfl ?_
    refine r_ifnonnull C 49 dX1_restore_45 (by decide) ?_
    refine r_aload_n C dX1_restore_49 rfl rfl ?_
    refine r_aload_n C dX1_restore_50 rfl rfl ?_
    refine r_get C (j := 0) rfl in_X1 (PA_pP.1) (by decide) fl_X1_11 rfl rfl dX1_restore_51 ?_
    refine r_iload_n C dX1_restore_54 rfl rfl ?_
    refine r_aald C (PA_pP.2) (vp_in_nI (p_last_lt hnx) (by decide)) dX1_restore_55 ?_
    rw [nI_clamp (by have := p_last_lt hnx; omega), hst]
    refine r_cVv C (c_X0_become (GA_P wg d1) (GA_P wq d2) (by omega)) lk_X1_22 rfl (GA_o (GA_P wg d1)) rfl rfl ⟨(Nat.le_of_ble_eq_true rfl), (Nat.le_of_ble_eq_true rfl), (Nat.le_of_ble_eq_true rfl), (Nat.le_of_ble_eq_true rfl), (Nat.le_of_ble_eq_true rfl)⟩ dX1_restore_56 ?_
    rw [pP_G d1]
    refine r_aload_n C dX1_restore_59 rfl rfl ?_
    refine r_iload_n C dX1_restore_60 rfl rfl ?_
    refine r_put C (j := 1) tyX1 tyX1_ok nmX1 rfl in_X1 (PA_pP.1) (by decide) fl_X1_17 rfl rfl rfl (by first | rfl | decide) (by first | rfl | decide) (Nat.le_of_ble_eq_true rfl) dX1_restore_61 ?_
    refine V.heap pP_n ?_
    refine r_aload_n C dX1_restore_64 rfl rfl ?_
    refine r_dup C dX1_restore_65 rfl ?_
    refine r_get C (j := 2) rfl in_X1 (PA_pP.1) (by decide) fl_X1_26 rfl rfl dX1_restore_66 ?_
    refine r_iconst C (v := 1) dX1_restore_69 rfl ?_
    refine r_isub C dX1_restore_70 ?_
    refine r_put C (j := 2) tyX1 tyX1_ok nmX1 rfl in_X1 (PA_pP.1) (by decide) fl_X1_26 rfl rfl rfl (by first | rfl | decide) (by first | rfl | decide) (Nat.le_of_ble_eq_true rfl) dX1_restore_71 ?_
    refine V.heap pP_n ?_
    exact r_vret C rfl (Nat.le_of_ble_eq_true rfl) (Nat.le_of_ble_eq_true rfl) ⟨rfl, by rw [show nI (z + 1) - 1 = nI z from nI_pred z], rfl⟩ dX1_restore_74
  refine r_aload_n C dX1_restore_0 rfl rfl ?_
  refine r_get C (j := 1) rfl in_X1 (PA_pP.1) (by decide) fl_X1_17 rfl rfl dX1_restore_1 ?_
  refine r_if_le C 16 dX1_restore_4 (by decide) (fun c_4 => ?_) (fun c_4 => ?_)
  · have e_4 := i32_nlt c_4
    refine r_aload_n C dX1_restore_16 rfl rfl ?_
    refine r_get C (j := 0) rfl in_X1 (PA_pP.1) (by decide) fl_X1_11 rfl rfl dX1_restore_17 ?_
    refine r_alenG C (PA_pP.2) dX1_restore_20 ?_
    refine r_iconst C (v := 1) dX1_restore_21 rfl ?_
    refine r_isub C dX1_restore_22 ?_
    refine V.stack (st2 := [.int (nI (p_last nx))]) (by rw [← (p_lastI hnx).2 c_4]) ?_
    exact M23
  · have e_4 := i32_lt c_4
    refine r_aload_n C dX1_restore_7 rfl rfl ?_
    refine r_get C (j := 1) rfl in_X1 (PA_pP.1) (by decide) fl_X1_17 rfl rfl dX1_restore_8 ?_
    refine r_iconst C (v := 1) dX1_restore_11 rfl ?_
    refine r_isub C dX1_restore_12 ?_
    refine r_goto C 23 dX1_restore_13 (by decide) ?_
    refine V.stack (st2 := [.int (nI (p_last nx))]) (by rw [← (p_lastI hnx).1 e_4]) ?_
    exact M23
set_option maxHeartbeats 800000 in
set_option maxRecDepth 100000 in
theorem c_X1_init {G : ga_} {l : Launch} {h : HP} {pa : Nat} (hT : h pa = some (ob_ 1 [.null, .int 0, .int 0])) : Mf G l yX1_init cX1_init 1 none 1 13 1 6 [.ref pa] h (pa + 1) none (pP G h pa (fun _ => none) 0 0) (pa + 2) := by
  refine Mg.ofV [(0, .ref pa)] (by decide) (Nat.le_of_ble_eq_true rfl) rfl ?_
  intro p e s m args below meth c C

  refine r_aload_n C dX1_init_0 rfl rfl ?_
  refine r_objInit C jl_X1_3 oi_inst oi_code (Nat.le_of_ble_eq_true rfl) (Nat.le_of_ble_eq_true rfl) dX1_init_1 ?_
  refine r_aload_n C dX1_init_4 rfl rfl ?_
  refine r_bipush C (v := 6) dX1_init_5 rfl ?_
  refine r_newG C cl_X1_9 (by decide) rfl (Nat.le_of_ble_eq_true rfl) (Nat.le_of_ble_eq_true rfl) (Nat.le_of_ble_eq_true rfl) dX1_init_7 ?_
  refine r_putF C (j := 0) tyX1 tyX1_ok nmX1 rfl in_X1 ((show _ = some (ob_ 1 [.null, .int 0, .int 0]) by simp [up_, hT, Nat.add_assoc])) (by decide) fl_X1_11 rfl rfl rfl rfl rfl (by first | rfl | decide) (by first | rfl | decide) (Nat.le_of_ble_eq_true rfl) dX1_init_10 ?_
  refine r_vret C rfl (Nat.le_of_ble_eq_true rfl) (Nat.le_of_ble_eq_true rfl) ⟨rfl, ?_, rfl⟩ dX1_init_13
  refine pP_eq ⟨?_, ?_⟩ (fun a ha => ?_)
  · simp [up_, Nat.add_assoc]
  · simp [up_, Nat.add_assoc]
  · rw [up_n (by omega), up_n (by omega)]
set_option maxHeartbeats 800000 in
set_option maxRecDepth 100000 in
theorem c_X3_init {G : ga_} {l : Launch} {h : HP} {tx : Nat} (hT : h tx = some (ob_ 3 [.null, .int 0])) : Mf G l yX3_init cX3_init 1 none 1 13 1 60 [.ref tx] h (tx + 1) none (pX G h tx (fun _ => 0) 0) (tx + 2) := by
  refine Mg.ofV [(0, .ref tx)] (by decide) (Nat.le_of_ble_eq_true rfl) rfl ?_
  intro p e s m args below meth c C

  refine r_aload_n C dX3_init_0 rfl rfl ?_
  refine r_objInit C jl_X3_3 oi_inst oi_code (Nat.le_of_ble_eq_true rfl) (Nat.le_of_ble_eq_true rfl) dX3_init_1 ?_
  refine r_aload_n C dX3_init_4 rfl rfl ?_
  refine r_bipush C (v := 60) dX3_init_5 rfl ?_
  refine r_newaC C ac_char (by decide) rfl (Nat.le_of_ble_eq_true rfl) (Nat.le_of_ble_eq_true rfl) (Nat.le_of_ble_eq_true rfl) dX3_init_7 ?_
  refine r_putF C (j := 0) tyX3 tyX3_ok nmX3 rfl in_X3 ((show _ = some (ob_ 3 [.null, .int 0]) by simp [up_, hT, Nat.add_assoc])) (by decide) fl_X3_9 rfl rfl rfl rfl rfl (by first | rfl | decide) (by first | rfl | decide) (Nat.le_of_ble_eq_true rfl) dX3_init_9 ?_
  refine r_vret C rfl (Nat.le_of_ble_eq_true rfl) (Nat.le_of_ble_eq_true rfl) ⟨rfl, ?_, rfl⟩ dX3_init_12
  refine pX_eq ⟨?_, ?_⟩ (fun a ha => ?_)
  · simp [up_, Nat.add_assoc]
  · simp [up_, Nat.add_assoc]
  · rw [up_n (by omega), up_n (by omega)]
end
section
/-! THROWS: contracts of methods that may throw, and their rows -/
section LX
variable {p : Program} {l : Launch} {e : Env} {R : Room} {s : State} {m : MethodId} {args : Array Value} {below : List Frame} {meth : Method} {c : Code} {Q : State → Prop}
variable {G : ga_} {own : String} {cc : ByteArray} {nL : Nat} {ret : Option FieldType} {nm : String}
def qc_ (G : ga_) (Post : Option Value → HP → Nat → Prop) : Array Value → State → Outcome → State → Prop := fun _ _ oc t => ∃ v h1 s1, oc = .returned v ∧ Post v h1 s1 ∧ hr_ G h1 s1 t.heap
def xc_ (G : ga_) (PX : String → HP → Nat → Prop) : String → State → State → Prop := fun E _ t => ∃ h1 s1, PX E h1 s1 ∧ hr_ G h1 s1 t.heap
def Qx (G : ga_) (below : List Frame) (args : Array Value) (s : State) (mc ms : Nat) (Post : Option Value → HP → Nat → Prop) (PX : String → HP → Nat → Prop) : State → Prop := vx_MQ below (qc_ G Post) (xc_ G PX) args s mc ms (fun q => G.2.2.1 ≤ q)
def Mx (G : ga_) (l : Launch) (y : MethodName) (cc : ByteArray) (nL : Nat) (ret : Option FieldType) (fr lo mc ms : Nat) (av : List Value) (h : HP) (sz : Nat) (Post : Option Value → HP → Nat → Prop) (PX : String → HP → Nat → Prop) : Prop :=
  vx_Met l y (.code y cc nL ret :: TB) { frames := fr, cells := mc, slots := ms, locals := lo } (va_Pc av (fun U => hr_ G h sz U.heap ∧ ev_ G U)) (qc_ G Post) (xc_ G PX) mc ms (fun q => G.2.2.1 ≤ q)
/-- what a body that may throw knows beside: no table of its own, the launch without traces, its start -/
def Cz (G : ga_) (l : Launch) (s : State) (c : Code) (sz : Nat) : Prop := (∀ x ∈ c.exceptionTable.toList, False) ∧ l.stackTraces = false ∧ ∃ h0 s0, s0 ≤ sz ∧ hr_ G h0 s0 s.heap
theorem Mx.ofV {y : MethodName} {fr lo mc ms : Nat} {av : List Value} {h : HP} {sz : Nat} {Post : Option Value → HP → Nat → Prop} {PX : String → HP → Nat → Prop} (L0 : List (Nat × Value)) (hst : l.stackTraces = false) (hy : plainName y.cls = true) (hn : (lg_sl av).length ≤ nL) (hL : lv_args 0 av = L0)
    (body : ∀ (p : Program) (e : Env) (s : State) (m : MethodId) (args : Array Value) (below : List Frame) (meth : Method) (c : Code), Cx p l { frames := fr, cells := mc, slots := ms, locals := lo } s m args meth c G y.cls cc nL ret y.name → Cz G l s c sz →
      V p l e { frames := fr, cells := mc, slots := ms, locals := lo } s m args below meth c G nL (Qx G below args s mc ms Post PX) h sz 0 0 0 L0 []) : Mx G l y cc nL ret fr lo mc ms av h sz Post PX := by
  refine vx_ofW hy rfl ?_
  intro p e s m args below meth c s₁ B hml hE hv
  obtain ⟨rfl, hh, hev⟩ := hv
  have hts := atoms_spec (ws := .code y cc nL ret :: TB) B.pre
  have hC : Cx p l { frames := fr, cells := mc, slots := ms, locals := lo } s m av.toArray meth c G y.cls cc nL ret y.name :=
    ⟨B.exec, B.bytes, hml, findClass_of_methodNamed B.named, fun w hw => hts w (List.mem_cons_of_mem _ hw), hev, B.returns, B.notSynchronized, (name_of_methodNamed B.named B.method).1⟩
  have hl := lv_entry av (n := nL) hn
  rw [lg_entry_eq]
  rw [hL] at hl
  exact body p e s m av.toArray below meth c hC ⟨hE, hst, h, sz, Nat.le_refl _, hh⟩ s.heap [] _ hh (fun q hq => by cases hq) hl
variable {h : HP} {sz k n pc : Nat} {L : List (Nat × Value)} {st : List Value}
theorem Cz.le {sz2 : Nat} (Z : Cz G l s c sz) (hle : sz ≤ sz2) : Cz G l s c sz2 := by
  obtain ⟨z1, z2, h0, s0, z3, z4⟩ := Z
  exact ⟨z1, z2, h0, s0, Nat.le_trans z3 hle, z4⟩
theorem V.retx {mc ms : Nat} {Post : Option Value → HP → Nat → Prop} {PX : String → HP → Nat → Prop} (kk : V p l e R s m args below meth c G nL (Qg G below args s mc ms Post) h sz k n pc L st) : V p l e R s m args below meth c G nL (Qx G below args s mc ms Post PX) h sz k n pc L st := fun H locs ls a b d => vx_ret (kk H locs ls a b d)
def throwWs (own : String) (ic : Nat) (X : String) : List Cond := vx_atS own ic X ["java/lang/RuntimeException", "java/lang/Exception"]
/-- the words of a throw: the good ones stand in TB, the others are castables -/
def Lt_ (own : String) (ik ic : Nat) (X : String) : Prop := X ∈ XB ∧ Bundle.fit X = true ∧ Cond.classLink own ik X ∈ TB ∧ Cond.initialized X ∈ TB ∧ (∀ w ∈ (throwWs own ic X).filter goodWord, w ∈ TB) ∧ (∀ w ∈ (throwWs own ic X).filter (fun w => !goodWord w), w ∈ Cond.castable X X :: DB.map Cond.declares) ∧ (∀ w ∈ Cond.classLink own ik X :: Cond.initialized X :: throwWs own ic X, vx_ot w = true)
theorem hr_.zq {C d n0 : String} {h0 : HP} {s0 : Nat} {H0 H : Heap} {U : State} (hz : ∀ q, q < G.2.2.1 → H0[q]? = G.2.2.2 q) (w : hr_ G h0 s0 H) (z : vx_Zq C n0 d (fun q => G.2.2.1 ≤ q) U H0) : vx_Zq C n0 d (fun q => G.2.2.1 ≤ q) U H :=
  z.kept (fun a _ h2 => by
    have hl : a < G.2.2.1 := Nat.not_le.mp h2
    rw [w.2.2.1 a hl, hz a hl])
theorem r_throw {ik is ic mc ms : Nat} {X text : String} {Post : Option Value → HP → Nat → Prop} {PX : String → HP → Nat → Prop} (C : Cx p l R s m args meth c G RX5 cc nL ret nm) (Z : Cz G l s c sz) (lk : Lt_ RX5 ik ic X) (hsr : (is, text) ∈ SR)
    (d0 : decode cc pc = .ok (.new ik, 3)) (d3 : decode cc (pc + 3) = .ok (.dup, 1)) (d4 : decode cc (pc + 4) = .ok (.ldc is, 2)) (d6 : decode cc (pc + 6) = .ok (.invokespecial ic, 3)) (d9 : decode cc (pc + 9) = .ok (.athrow, 1))
    (hf : 5 < R.frames) (hlo : (st.map fun v => v.category).sum + 82 ≤ R.locals) (hk : k + 1 ≤ R.cells) (hn : n + 6 ≤ R.slots) (hkm : k + 1 ≤ mc) (hnm : n + 6 ≤ ms) (hp : ∀ s1, sz ≤ s1 → PX X h s1) :
    V p l e R s m args below meth c G nL (Qx G below args s mc ms Post PX) h sz k n pc L st := by
  intro H locs ls a b d
  obtain ⟨l1, l2, l3, l4, l5, l6, l7⟩ := lk
  obtain ⟨z1, z2, h0, s0, z3, z4⟩ := Z
  obtain ⟨x1, x2, x3, xd, H0, x4, x5, x6⟩ := C.2.2.2.2.2.1.2.2.2
  obtain ⟨sa, hsa⟩ := x3 _ hsr
  have hts := C.2.2.2.2.1
  have hat : ∀ w ∈ throwWs RX5 ic X, w.before args s = true := vx_hat (B := Cond.castable X X :: DB.map Cond.declares) (fun w hw => hts w (l5 w hw)) l6 (vx_c (va_Nw.use rfl (x1 X l1)) (fun w hw => by
    obtain ⟨y, hy, rfl⟩ := List.mem_map.mp hw
    exact va_Nw.use rfl (xd y hy)))
  refine vx_throwS (names := ["java/lang/RuntimeException", "java/lang/Exception"]) (A := fun q => G.2.2.1 ≤ q) C.1 C.2.1 z2 C.2.2.2.1 l2 (by decide +kernel) (hts _ l3) (hts _ l4) hsa hat l7 (hr_.zq x4 z4 x5) (hr_.zq x4 z4 x6) ⟨?_, ?_, b⟩ (by rw [C.2.2.1]; exact d.1) d0 d3 d4 d6 d9 (fun x hx => absurd (z1 x hx) id) hf hlo hk hn C.2.2.2.2.2.2.2.1 ?_ b hkm hnm
  · rw [z4.1, a.1]; exact z3
  · intro q hq hA
    have hl : q < G.2.2.1 := Nat.not_le.mp hA
    rw [a.2.2.1 q hl, z4.2.2.1 q hl]
  · intro t hA hz hq
    refine ⟨h, t.heap.size, hp _ (by rw [← a.1]; exact hz), rfl, Nat.le_trans a.2.1 (by rw [← a.1]; exact hz), fun q hl => ?_, fun a2 e2 h2 => ?_⟩
    · rw [hq q (by rw [a.1]; have := a.2.1; omega)]; exact a.2.2.1 q hl
    · exact ⟨(a.2.2.2 a2 e2 h2).1, (a.2.2.2 a2 e2 h2).2.kept (hq a2 (by rw [a.1]; exact a.lt h2))⟩
/-- behind a call that threw: it leaves this method too -/
theorem callx_core {mc ms mc2 ms2 : Nat} {Post Post2 : Option Value → HP → Nat → Prop} {PX PX2 : String → HP → Nat → Prop} {H : Heap} {locs : List Loc} {ls : Array Slot} {a0 : Array Value} {rest : List Value} {pc0 : Nat} {st0 : List Value} (C : Cx p l R s m args meth c G own cc nL ret nm) (Z : Cz G l s c sz)
    (HR : vx_Run p l e R s m args below meth c H locs k n mc2 ms2 (F0 m pc0 ls st0) rest (qc_ G Post2 a0) (xc_ G PX2) (fun q => G.2.2.1 ≤ q)) (b : ∀ q ∈ locs, G.2.2.1 ≤ q.base) (d : lv_has ls nL L)
    (hkm : k + mc2 ≤ mc) (hnm : n + ms2 ≤ ms) (kx : ∀ E h1 s1, PX2 E h1 s1 → PX E h1 s1)
    (kk : ∀ v h1 s1, Post2 v h1 s1 → V p l e R s m args below meth c G nL (Qx G below args s mc ms Post PX) h1 s1 (k + mc2) (n + ms2) (pc0 + 3) L (v.toList ++ rest)) : W p l e R s m args below meth c H locs k n (Qx G below args s mc ms Post PX) (F0 m pc0 ls st0) := by
  intro T hT X
  rcases HR T hT X with ⟨v, st₀, t, T', L1, h0, X', hL, e1, e2, ⟨v1, h1, s1, hv, hp, hh⟩, stp⟩ | ⟨q, st₀, t, T', L1, E, ce, h0, X', hL, e1, e2, ⟨h1, s1, hp, hh⟩, hce, hcv, hcl, stp⟩
  · cases hv
    obtain ⟨t2, a1, b1⟩ := kk _ h1 s1 hp T'.heap (locs ++ L1) ls (by rw [e1]; exact hh) (fun q hq => by
      rcases List.mem_append.mp hq with z | z
      · exact b q z
      · exact hL q z) d T' rfl X'
    exact ⟨t2, stp t2 a1, b1⟩
  · have K := vx_out (p := p) (l := l) (e := e) (R := R) (s := s) (m := m) (args := args) (below := below) (meth := meth) (c := c) (H := T'.heap) (locs := locs ++ L1) (cells := k + mc2) (slots := n + ms2) (Qc := qc_ G Post) (XC := xc_ G PX) (free := fun q => G.2.2.1 ≤ q) (pc := pc0) (ls := ls) (rest := rest) (mc := mc) (ms := ms)
      (fun x hx => absurd (Z.1 x hx) id) C.2.2.2.2.2.2.2.1 (by rw [e1]; exact hce) hcv hcl (fun t2 ht2 _ => ⟨h1, s1, kx E h1 s1 hp, by rw [ht2, e1]; exact hh⟩) (fun z hz => by
        rcases List.mem_append.mp hz with y | y
        · exact b z y
        · exact hL z y) hkm hnm
    obtain ⟨t2, a1, b1⟩ := K T' rfl X'
    exact ⟨t2, stp.trans a1, b1⟩
theorem r_xS {y : MethodName} {bytes : ByteArray} {maxL fr lo mc2 ms2 index q mc ms : Nat} {rt : Option FieldType} {As rest : List Value} {Post Post2 : Option Value → HP → Nat → Prop} {PX PX2 : String → HP → Nat → Prop} (C : Cx p l R s m args meth c G own cc nL ret nm) (Z : Cz G l s c sz) (hM : Mx G l y bytes maxL rt fr lo mc2 ms2 As h sz Post2 PX2) (lk : LkS own index y bytes maxL rt q) (hq : As.length = q) (hs : st = As.reverse ++ rest) (rm : Rm R k n fr maxL lo mc2 ms2 rest) (hd : decode cc pc = .ok (.invokestatic index, 3))
    (hkm : k + mc2 ≤ mc) (hnm : n + ms2 ≤ ms) (kx : ∀ E h1 s1, PX2 E h1 s1 → PX E h1 s1)
    (kk : ∀ v h1 s1, Post2 v h1 s1 → V p l e R s m args below meth c G nL (Qx G below args s mc ms Post PX) h1 s1 (k + mc2) (n + ms2) (pc + 3) L (v.toList ++ rest)) : V p l e R s m args below meth c G nL (Qx G below args s mc ms Post PX) h sz k n pc L st := by
  intro H locs ls a b d
  subst hs
  obtain ⟨l1, l2, l4, l5, l6, l7, l8⟩ := lk
  obtain ⟨g1, g2, g3, g4, g5⟩ := rm
  have hts := C.2.2.2.2.1
  have ok : ∀ w ∈ (va_wsS own index y (.code y bytes maxL rt :: TB)), w ∈ TB := by
    intro w hw
    simp only [va_wsS, List.cons_append, List.nil_append, List.mem_cons] at hw
    rcases hw with rfl | rfl | rfl | rfl | hw
    · exact l1
    · exact l2
    · exact l4
    · exact l5
    · exact hw
  have HR := vx_runS (p := p) (l := l) (e := e) (s := s) (m := m) (meth := meth) (c := c) (R := R) (args := args) (below := below) (locs := locs) (cells := k) (slots := n) (As := As) (rest := rest) (g := F0 m pc ls (As.reverse ++ rest)) ⟨C.1, C.2.1, C.2.2.1, C.2.2.2.1, hts⟩ hM (va_cwS q hts (fun w hw => ⟨ok w hw, good_of_word (law_good w (ok w hw))⟩) rfl rfl rfl ⟨l6, l7, l8⟩ ⟨g1, g2⟩)
    ⟨pc_blind, fun U hU hW => ⟨rfl, by rw [hU]; exact a, ev_.moved hW C.2.2.2.2.2.1⟩⟩ rfl hq d.1 rfl (by show 2 * 0 + _ ≤ 8; omega) hd ⟨g3, g4⟩
  exact callx_core C Z HR b d hkm hnm kx kk
theorem r_xV {y : MethodName} {bytes : ByteArray} {maxL fr lo mc2 ms2 index q mc ms b0 ci N : Nat} {T : u_T} {fs : List Value} {rt : Option FieldType} {As rest : List Value} {Post Post2 : Option Value → HP → Nat → Prop} {PX PX2 : String → HP → Nat → Prop} (C : Cx p l R s m args meth c G own cc nL ret nm) (Z : Cz G l s c sz) (hM : Mx G l y bytes maxL rt fr lo mc2 ms2 (.ref b0 :: As) h sz Post2 PX2) (lk : LkV own index y bytes maxL rt q) (hc : vwCl[ci]? = some (y.cls, T, N)) (he : h b0 = some (ob_ ci fs)) (hq : As.length = q) (hs : st = As.reverse ++ .ref b0 :: rest) (rm : Rm R k n fr maxL lo mc2 ms2 rest) (hd : decode cc pc = .ok (.invokevirtual index, 3))
    (hkm : k + mc2 ≤ mc) (hnm : n + ms2 ≤ ms) (kx : ∀ E h1 s1, PX2 E h1 s1 → PX E h1 s1)
    (kk : ∀ v h1 s1, Post2 v h1 s1 → V p l e R s m args below meth c G nL (Qx G below args s mc ms Post PX) h1 s1 (k + mc2) (n + ms2) (pc + 3) L (v.toList ++ rest)) : V p l e R s m args below meth c G nL (Qx G below args s mc ms Post PX) h sz k n pc L st := by
  intro H locs ls a b d
  subst hs
  obtain ⟨l1, l2, l3, l4, l5, l6, l7, l8⟩ := lk
  obtain ⟨g1, g2, g3, g4, g5⟩ := rm
  have hts := C.2.2.2.2.1
  have ok : ∀ w ∈ (wsV own index y.cls y (.code y bytes maxL rt :: TB)), w ∈ TB := by
    intro w hw
    simp only [wsV, List.cons_append, List.nil_append, List.mem_cons] at hw
    rcases hw with rfl | rfl | rfl | rfl | rfl | hw
    · exact l1
    · exact l2
    · exact l3
    · exact l4
    · exact l5
    · exact hw
  have HR := vx_runV (p := p) (l := l) (e := e) (s := s) (m := m) (meth := meth) (c := c) (R := R) (args := args) (below := below) (locs := locs) (cells := k) (slots := n) (As := As) (rest := rest) (g := F0 m pc ls (As.reverse ++ .ref b0 :: rest)) ⟨C.1, C.2.1, C.2.2.1, C.2.2.2.1, hts⟩ hM (cwV q hts (fun w hw => ⟨ok w hw, good_of_word (law_good w (ok w hw))⟩) rfl rfl rfl ⟨rfl, l6, l7, l8⟩ ⟨g1, g2⟩)
    ⟨pc_blind, by
      obtain ⟨r', h1', cell, k1, k2, k3, -⟩ := (a.2.2.2 _ _ he).2
      exact ⟨cell, k1, by rw [k3]; rfl, by rw [k2]; exact (C.2.2.2.2.2.1.1.1 ci _ hc).2.1⟩, fun U hU hW => ⟨rfl, by rw [hU]; exact a, ev_.moved hW C.2.2.2.2.2.1⟩⟩ rfl hq d.1 rfl (by show 2 * 0 + _ ≤ 8; omega) hd ⟨g3, g4⟩
  exact callx_core C Z HR b d hkm hnm kx kk
end LX
set_option maxRecDepth 20000 in
theorem lt_IA : Lt_ RX5 45 49 "java/lang/IllegalArgumentException" := ⟨by decide +kernel, by decide +kernel, by decide +kernel, by decide +kernel, by decide +kernel, by decide +kernel, by decide +kernel⟩
set_option maxRecDepth 20000 in
theorem lt_IO : Lt_ RX5 89 93 "java/lang/IndexOutOfBoundsException" := ⟨by decide +kernel, by decide +kernel, by decide +kernel, by decide +kernel, by decide +kernel, by decide +kernel, by decide +kernel⟩
set_option maxRecDepth 20000 in
theorem lt_IS : Lt_ RX5 108 112 "java/lang/IllegalStateException" := ⟨by decide +kernel, by decide +kernel, by decide +kernel, by decide +kernel, by decide +kernel, by decide +kernel, by decide +kernel⟩
end
section
/-! THE ROOT: what a call requires of its arguments -/
def eIA : String := "java/lang/IllegalArgumentException"
def eIS : String := "java/lang/IllegalStateException"
def eIO : String := "java/lang/IndexOutOfBoundsException"
def okN (a : Int32) (n : Int32) : Bool := !decide (a < 0) && decide (a < n)
def okEnd (a : Int32) : Bool := !decide (a < 0) && !decide (1 < a)
def pxQ (h : HP) (sz : Nat) (X : String) (b : Bool) : String → HP → Nat → Prop := fun E h1 s1 => E = X ∧ h1 = h ∧ sz ≤ s1 ∧ b = false
def poQ (h : HP) (sz : Nat) (b : Bool) : Option Value → HP → Nat → Prop := fun v h1 s1 => v = none ∧ h1 = h ∧ s1 = sz ∧ b = true
set_option maxHeartbeats 800000 in
set_option maxRecDepth 100000 in
theorem c_X5_requireRow {G : ga_} {l : Launch} {h : HP} {sz : Nat} {a : Int32}  (hst : l.stackTraces = false)  : Mx G l yX5_requireRow cX5_requireRow 1 none 6 90 1 6 [.int a] h sz (poQ h sz (okN a 3)) (pxQ h sz eIO (okN a 3)) := by
  refine Mx.ofV [(0, .int a)] hst (by decide) (Nat.le_of_ble_eq_true rfl) rfl ?_
  intro p e s m args below meth c C Z
  refine r_iload_n C dX5_requireRow_0 rfl rfl ?_
  refine r_if_lt C 9 dX5_requireRow_1 (by decide) (fun c_1 => ?_) (fun c_1 => ?_)
  · have e_1 := i32_nle c_1
    exact r_throw C Z lt_IO (is := 231) (by simp [SR]; try rfl) dX5_requireRow_9 dX5_requireRow_12 dX5_requireRow_13 dX5_requireRow_15 dX5_requireRow_18 (Nat.le_of_ble_eq_true rfl) (Nat.le_of_ble_eq_true rfl) (Nat.le_of_ble_eq_true rfl) (Nat.le_of_ble_eq_true rfl) (Nat.le_of_ble_eq_true rfl) (Nat.le_of_ble_eq_true rfl) (fun s1 hs1 => ⟨rfl, rfl, hs1, by simp [okN, okEnd, c_1, e_1]⟩)
  · have e_1 := i32_le c_1
    refine r_iload_n C dX5_requireRow_4 rfl rfl ?_
    refine r_iconst C (v := 3) dX5_requireRow_5 rfl ?_
    refine r_icmp_lt C 19 dX5_requireRow_6 (by decide) (fun c_6 => ?_) (fun c_6 => ?_)
    · have e_6 := i32_nle c_6
      exact V.retx (r_vret C rfl (Nat.le_of_ble_eq_true rfl) (Nat.le_of_ble_eq_true rfl) ⟨rfl, rfl, rfl, by simp [okN, okEnd, c_1, e_1, c_6, e_6]⟩ dX5_requireRow_19)
    · have e_6 := i32_le c_6
      exact r_throw C Z lt_IO (is := 231) (by simp [SR]; try rfl) dX5_requireRow_9 dX5_requireRow_12 dX5_requireRow_13 dX5_requireRow_15 dX5_requireRow_18 (Nat.le_of_ble_eq_true rfl) (Nat.le_of_ble_eq_true rfl) (Nat.le_of_ble_eq_true rfl) (Nat.le_of_ble_eq_true rfl) (Nat.le_of_ble_eq_true rfl) (Nat.le_of_ble_eq_true rfl) (fun s1 hs1 => ⟨rfl, rfl, hs1, by simp [okN, okEnd, c_1, e_1, c_6, e_6]⟩)

set_option maxHeartbeats 800000 in
set_option maxRecDepth 100000 in
theorem c_X5_requireEnd {G : ga_} {l : Launch} {h : HP} {sz : Nat} {a : Int32}  (hst : l.stackTraces = false)  : Mx G l yX5_requireEnd cX5_requireEnd 1 none 6 90 1 6 [.int a] h sz (poQ h sz (okEnd a)) (pxQ h sz eIA (okEnd a)) := by
  refine Mx.ofV [(0, .int a)] hst (by decide) (Nat.le_of_ble_eq_true rfl) rfl ?_
  intro p e s m args below meth c C Z
  refine r_iload_n C dX5_requireEnd_0 rfl rfl ?_
  refine r_if_lt C 9 dX5_requireEnd_1 (by decide) (fun c_1 => ?_) (fun c_1 => ?_)
  · have e_1 := i32_nle c_1
    exact r_throw C Z lt_IA (is := 233) (by simp [SR]; try rfl) dX5_requireEnd_9 dX5_requireEnd_12 dX5_requireEnd_13 dX5_requireEnd_15 dX5_requireEnd_18 (Nat.le_of_ble_eq_true rfl) (Nat.le_of_ble_eq_true rfl) (Nat.le_of_ble_eq_true rfl) (Nat.le_of_ble_eq_true rfl) (Nat.le_of_ble_eq_true rfl) (Nat.le_of_ble_eq_true rfl) (fun s1 hs1 => ⟨rfl, rfl, hs1, by simp [okN, okEnd, c_1, e_1]⟩)
  · have e_1 := i32_le c_1
    refine r_iload_n C dX5_requireEnd_4 rfl rfl ?_
    refine r_iconst C (v := 1) dX5_requireEnd_5 rfl ?_
    refine r_icmp_le C 19 dX5_requireEnd_6 (by decide) (fun c_6 => ?_) (fun c_6 => ?_)
    · have e_6 := i32_nlt c_6
      exact V.retx (r_vret C rfl (Nat.le_of_ble_eq_true rfl) (Nat.le_of_ble_eq_true rfl) ⟨rfl, rfl, rfl, by simp [okN, okEnd, c_1, e_1, c_6, e_6]⟩ dX5_requireEnd_19)
    · have e_6 := i32_lt c_6
      exact r_throw C Z lt_IA (is := 233) (by simp [SR]; try rfl) dX5_requireEnd_9 dX5_requireEnd_12 dX5_requireEnd_13 dX5_requireEnd_15 dX5_requireEnd_18 (Nat.le_of_ble_eq_true rfl) (Nat.le_of_ble_eq_true rfl) (Nat.le_of_ble_eq_true rfl) (Nat.le_of_ble_eq_true rfl) (Nat.le_of_ble_eq_true rfl) (Nat.le_of_ble_eq_true rfl) (fun s1 hs1 => ⟨rfl, rfl, hs1, by simp [okN, okEnd, c_1, e_1, c_6, e_6]⟩)

set_option maxHeartbeats 800000 in
set_option maxRecDepth 100000 in
theorem c_X5_requirePlace {G : ga_} {l : Launch} {h : HP} {sz : Nat} {a : Int32}  (hst : l.stackTraces = false)  : Mx G l yX5_requirePlace cX5_requirePlace 1 none 6 90 1 6 [.int a] h sz (poQ h sz (!decide (a < 0))) (pxQ h sz eIA (!decide (a < 0))) := by
  refine Mx.ofV [(0, .int a)] hst (by decide) (Nat.le_of_ble_eq_true rfl) rfl ?_
  intro p e s m args below meth c C Z
  refine r_iload_n C dX5_requirePlace_0 rfl rfl ?_
  refine r_if_ge C 14 dX5_requirePlace_1 (by decide) (fun c_1 => ?_) (fun c_1 => ?_)
  · have e_1 := i32_nlt c_1
    exact V.retx (r_vret C rfl (Nat.le_of_ble_eq_true rfl) (Nat.le_of_ble_eq_true rfl) ⟨rfl, rfl, rfl, by simp [okN, okEnd, c_1, e_1]⟩ dX5_requirePlace_14)
  · have e_1 := i32_lt c_1
    exact r_throw C Z lt_IA (is := 241) (by simp [SR]; try rfl) dX5_requirePlace_4 dX5_requirePlace_7 dX5_requirePlace_8 dX5_requirePlace_10 dX5_requirePlace_13 (Nat.le_of_ble_eq_true rfl) (Nat.le_of_ble_eq_true rfl) (Nat.le_of_ble_eq_true rfl) (Nat.le_of_ble_eq_true rfl) (Nat.le_of_ble_eq_true rfl) (Nat.le_of_ble_eq_true rfl) (fun s1 hs1 => ⟨rfl, rfl, hs1, by simp [okN, okEnd, c_1, e_1]⟩)

set_option maxHeartbeats 800000 in
set_option maxRecDepth 100000 in
theorem c_X5_requireWhat {G : ga_} {l : Launch} {h : HP} {sz : Nat} {a b : Int32}  (hst : l.stackTraces = false)  : Mx G l yX5_requireWhat cX5_requireWhat 2 none 6 90 1 6 [.int a, .int b] h sz (poQ h sz (okN a b)) (pxQ h sz eIA (okN a b)) := by
  refine Mx.ofV [(0, .int a), (1, .int b)] hst (by decide) (Nat.le_of_ble_eq_true rfl) rfl ?_
  intro p e s m args below meth c C Z
  refine r_iload_n C dX5_requireWhat_0 rfl rfl ?_
  refine r_if_lt C 9 dX5_requireWhat_1 (by decide) (fun c_1 => ?_) (fun c_1 => ?_)
  · have e_1 := i32_nle c_1
    exact r_throw C Z lt_IA (is := 243) (by simp [SR]; try rfl) dX5_requireWhat_9 dX5_requireWhat_12 dX5_requireWhat_13 dX5_requireWhat_15 dX5_requireWhat_18 (Nat.le_of_ble_eq_true rfl) (Nat.le_of_ble_eq_true rfl) (Nat.le_of_ble_eq_true rfl) (Nat.le_of_ble_eq_true rfl) (Nat.le_of_ble_eq_true rfl) (Nat.le_of_ble_eq_true rfl) (fun s1 hs1 => ⟨rfl, rfl, hs1, by simp [okN, okEnd, c_1, e_1]⟩)
  · have e_1 := i32_le c_1
    refine r_iload_n C dX5_requireWhat_4 rfl rfl ?_
    refine r_iload_n C dX5_requireWhat_5 rfl rfl ?_
    refine r_icmp_lt C 19 dX5_requireWhat_6 (by decide) (fun c_6 => ?_) (fun c_6 => ?_)
    · have e_6 := i32_nle c_6
      exact V.retx (r_vret C rfl (Nat.le_of_ble_eq_true rfl) (Nat.le_of_ble_eq_true rfl) ⟨rfl, rfl, rfl, by simp [okN, okEnd, c_1, e_1, c_6, e_6]⟩ dX5_requireWhat_19)
    · have e_6 := i32_le c_6
      exact r_throw C Z lt_IA (is := 243) (by simp [SR]; try rfl) dX5_requireWhat_9 dX5_requireWhat_12 dX5_requireWhat_13 dX5_requireWhat_15 dX5_requireWhat_18 (Nat.le_of_ble_eq_true rfl) (Nat.le_of_ble_eq_true rfl) (Nat.le_of_ble_eq_true rfl) (Nat.le_of_ble_eq_true rfl) (Nat.le_of_ble_eq_true rfl) (Nat.le_of_ble_eq_true rfl) (fun s1 hs1 => ⟨rfl, rfl, hs1, by simp [okN, okEnd, c_1, e_1, c_6, e_6]⟩)

set_option maxHeartbeats 800000 in
set_option maxRecDepth 100000 in
theorem c_X5_requireGrade {G : ga_} {l : Launch} {h : HP} {sz : Nat} {a : Int32}  (hst : l.stackTraces = false)  : Mx G l yX5_requireGrade cX5_requireGrade 1 none 6 90 1 6 [.int a] h sz (poQ h sz (okN a 7)) (pxQ h sz eIA (okN a 7)) := by
  refine Mx.ofV [(0, .int a)] hst (by decide) (Nat.le_of_ble_eq_true rfl) rfl ?_
  intro p e s m args below meth c C Z
  refine r_iload_n C dX5_requireGrade_0 rfl rfl ?_
  refine r_if_lt C 10 dX5_requireGrade_1 (by decide) (fun c_1 => ?_) (fun c_1 => ?_)
  · have e_1 := i32_nle c_1
    exact r_throw C Z lt_IA (is := 245) (by simp [SR]; try rfl) dX5_requireGrade_10 dX5_requireGrade_13 dX5_requireGrade_14 dX5_requireGrade_16 dX5_requireGrade_19 (Nat.le_of_ble_eq_true rfl) (Nat.le_of_ble_eq_true rfl) (Nat.le_of_ble_eq_true rfl) (Nat.le_of_ble_eq_true rfl) (Nat.le_of_ble_eq_true rfl) (Nat.le_of_ble_eq_true rfl) (fun s1 hs1 => ⟨rfl, rfl, hs1, by simp [okN, okEnd, c_1, e_1]⟩)
  · have e_1 := i32_le c_1
    refine r_iload_n C dX5_requireGrade_4 rfl rfl ?_
    refine r_bipush C (v := 7) dX5_requireGrade_5 rfl ?_
    refine r_icmp_lt C 20 dX5_requireGrade_7 (by decide) (fun c_7 => ?_) (fun c_7 => ?_)
    · have e_7 := i32_nle c_7
      exact V.retx (r_vret C rfl (Nat.le_of_ble_eq_true rfl) (Nat.le_of_ble_eq_true rfl) ⟨rfl, rfl, rfl, by simp [okN, okEnd, c_1, e_1, c_7, e_7]⟩ dX5_requireGrade_20)
    · have e_7 := i32_le c_7
      exact r_throw C Z lt_IA (is := 245) (by simp [SR]; try rfl) dX5_requireGrade_10 dX5_requireGrade_13 dX5_requireGrade_14 dX5_requireGrade_16 dX5_requireGrade_19 (Nat.le_of_ble_eq_true rfl) (Nat.le_of_ble_eq_true rfl) (Nat.le_of_ble_eq_true rfl) (Nat.le_of_ble_eq_true rfl) (Nat.le_of_ble_eq_true rfl) (Nat.le_of_ble_eq_true rfl) (fun s1 hs1 => ⟨rfl, rfl, hs1, by simp [okN, okEnd, c_1, e_1, c_7, e_7]⟩)

set_option maxHeartbeats 800000 in
set_option maxRecDepth 100000 in
theorem c_X5_requirePlayer {G : ga_} {l : Launch} {h : HP} {sz : Nat} {a : Int32} {x : Nat} {S : gS} (hst : l.stackTraces = false) (wx : h x = some (ob_ 5 [.ref (x + 1), .ref (x + 12), .ref (x + 16), .ref (x + 18), .ref (x + 20)])) (w : GA G h (x + 1) S) : Mx G l yX5_requirePlayer cX5_requirePlayer 2 none 6 90 1 6 [.ref x, .int a] h sz (poQ h sz (g_has S a)) (pxQ h sz eIO (g_has S a)) := by
  refine Mx.ofV [(0, .ref x), (1, .int a)] hst (by decide) (Nat.le_of_ble_eq_true rfl) rfl ?_
  intro p e s m args below meth c C Z
  refine r_aload_n C dX5_requirePlayer_0 rfl rfl ?_
  refine r_get C (j := 0) rfl in_X5 (wx) (by decide) fl_X5_10 rfl rfl dX5_requirePlayer_1 ?_
  refine r_iload_n C dX5_requirePlayer_4 rfl rfl ?_
  refine r_cVi C (c_X0_hasPlayer w) lk_X5_235 rfl (GA_o w) rfl rfl ⟨(Nat.le_of_ble_eq_true rfl), (Nat.le_of_ble_eq_true rfl), (Nat.le_of_ble_eq_true rfl), (Nat.le_of_ble_eq_true rfl), (Nat.le_of_ble_eq_true rfl)⟩ dX5_requirePlayer_5 ?_
  refine r_if_ne C 21 dX5_requirePlayer_8 (by decide) (fun c_8 => ?_) (fun c_8 => ?_)
  · have c_8 := bI_t c_8
    exact V.retx (r_vret C rfl (Nat.le_of_ble_eq_true rfl) (Nat.le_of_ble_eq_true rfl) ⟨rfl, rfl, rfl, by exact c_8⟩ dX5_requirePlayer_21)
  · have c_8 := bI_f c_8
    exact r_throw C Z lt_IO (is := 239) (by simp [SR]; try rfl) dX5_requirePlayer_11 dX5_requirePlayer_14 dX5_requirePlayer_15 dX5_requirePlayer_17 dX5_requirePlayer_20 (Nat.le_of_ble_eq_true rfl) (Nat.le_of_ble_eq_true rfl) (Nat.le_of_ble_eq_true rfl) (Nat.le_of_ble_eq_true rfl) (Nat.le_of_ble_eq_true rfl) (Nat.le_of_ble_eq_true rfl) (fun s1 hs1 => ⟨rfl, rfl, hs1, by exact c_8⟩)

theorem Mg.mono {G : ga_} {l : Launch} {y : MethodName} {cc : ByteArray} {nL : Nat} {ret : Option FieldType} {fr lo mc ms : Nat} {av : List Value} {h : HP} {sz : Nat} {P1 P2 : Option Value → HP → Nat → Prop} (hM : Mg G l y cc nL ret fr lo mc ms av h sz P1) (hp : ∀ v h1 s1, P1 v h1 s1 → P2 v h1 s1) : Mg G l y cc nL ret fr lo mc ms av h sz P2 := by
  unfold Mg Met at hM ⊢
  refine MetFree.mono hM (fun _ _ q => q) (fun _ _ _ _ _ q => q) (fun _ _ _ _ _ q => ?_)
  obtain ⟨⟨v, h1, s1, q1, q2, q3⟩, q4⟩ := q
  exact ⟨⟨v, h1, s1, q1, hp v h1 s1 q2, q3⟩, q4⟩
def gmI (st sl : Nat → Option Nat) (i : Nat) : Option Nat := if i < 6 then st i else sl (i - 6)
/-- the games that are saved or kept, by their addresses: D says what each holds -/
def RD (G : ga_) (h : HP) (dyn : Nat → Prop) (sz : Nat) (st sl : Nat → Option Nat) (D : Nat → gS) : Prop := (∀ a, sz ≤ a → dyn a) ∧ (∀ i q, i < 8 → gmI st sl i = some q → (∀ a, q ≤ a → a < q + 11 → dyn a) ∧ q + 11 ≤ sz ∧ GA G h q (D q)) ∧ (∀ i j q r, i < 8 → j < 8 → i ≠ j → gmI st sl i = some q → gmI st sl j = some r → q + 11 ≤ r ∨ r + 11 ≤ q)
def RA (G : ga_) (h : HP) (x : Nat) (dyn : Nat → Prop) (sz : Nat) (S : gS) (st sl : Nat → Option Nat) (D : Nat → gS) (nx z : Nat) (cf : Nat → Int32) (len : Nat) : Prop :=
  (x + 21 ≤ sz ∧ ∀ a, dyn a → x + 21 ≤ a) ∧ h x = some (ob_ 5 [.ref (x + 1), .ref (x + 12), .ref (x + 16), .ref (x + 18), .ref (x + 20)]) ∧ GA G h (x + 1) S ∧ True ∧ (∃ hf of t, TA G h (x + 12) hf of t) ∧ XA G h (x + 16) cf (nI len) ∧ PA G h (x + 18) st (nI nx) (nI z) ∧ h (x + 20) = some (aG_ G 2 sl) ∧ RD G h dyn sz st sl D ∧ nx < 6 ∧ z ≤ 6 ∧ len ≤ 60
def fr_ (h h1 : HP) (x : Nat) (dyn : Nat → Prop) : Prop := ∀ a, ¬ dyn a → (a < x ∨ x + 21 ≤ a) → h1 a = h a
theorem GA.eq {G : ga_} {h h1 : HP} {g : Nat} {S : gS} (w : GA G h g S) (he : ∀ a, g ≤ a → a < g + 11 → h1 a = h a) : GA G h1 g S := fun j hj => by rw [he (g + j) (by omega) (by omega)]; exact w j hj
theorem RD.eq {G : ga_} {h h1 : HP} {sz s1 : Nat} {dyn : Nat → Prop} {st sl : Nat → Option Nat} {D : Nat → gS} (w : RD G h dyn sz st sl D) (hs : sz ≤ s1) (he : ∀ a, dyn a → h1 a = h a) : RD G h1 dyn s1 st sl D :=
  ⟨fun a ha => w.1 a (Nat.le_trans hs ha), fun i q hi hq => ⟨(w.2.1 i q hi hq).1, Nat.le_trans (w.2.1 i q hi hq).2.1 hs, (w.2.1 i q hi hq).2.2.eq (fun a h1 h2 => he a ((w.2.1 i q hi hq).1 a h1 h2))⟩, w.2.2⟩
theorem RA_G {G : ga_} {h : HP} {x sz : Nat} {dyn : Nat → Prop} {S S2 : gS} {st sl : Nat → Option Nat} {D : Nat → gS} {nx z len : Nat} {cf : Nat → Int32} (w : RA G h x dyn sz S st sl D nx z cf len) : RA G (pG G h (x + 1) S2) x dyn sz S2 st sl D nx z cf len := by
  obtain ⟨w0, w1, w2, -, ⟨hf, of, t, w5, w6, w7, w8⟩, ⟨w9, w10⟩, ⟨w11, w12⟩, w13, w14, w15⟩ := w
  refine ⟨w0, (pG_out (by omega)).trans w1, GA_pG, trivial, ⟨hf, of, t, (pG_out (by omega)).trans w5, (pG_out (by omega)).trans w6, (pG_out (by omega)).trans w7, (pG_out (by omega)).trans w8⟩, ⟨(pG_out (by omega)).trans w9, (pG_out (by omega)).trans w10⟩, ⟨(pG_out (by omega)).trans w11, (pG_out (by omega)).trans w12⟩, (pG_out (by omega)).trans w13, w14.eq (Nat.le_refl _) (fun a ha => by have := w0.2 a ha; exact pG_out (by omega)), w15⟩
theorem RA_X {G : ga_} {h : HP} {x sz : Nat} {dyn : Nat → Prop} {S : gS} {st sl : Nat → Option Nat} {D : Nat → gS} {nx z len len2 : Nat} {cf cf2 : Nat → Int32} (w : RA G h x dyn sz S st sl D nx z cf len) (hl : len2 ≤ 60) : RA G (pX G h (x + 16) cf2 (nI len2)) x dyn sz S st sl D nx z cf2 len2 := by
  obtain ⟨w0, w1, w2, -, ⟨hf, of, t, w5, w6, w7, w8⟩, ⟨w9, w10⟩, ⟨w11, w12⟩, w13, w14, w15, w16, -⟩ := w
  refine ⟨w0, (pX_out (by omega)).trans w1, w2.eq (fun a h1 h2 => pX_out (by omega)), trivial, ⟨hf, of, t, (pX_out (by omega)).trans w5, (pX_out (by omega)).trans w6, (pX_out (by omega)).trans w7, (pX_out (by omega)).trans w8⟩, XA_pX, ⟨(pX_out (by omega)).trans w11, (pX_out (by omega)).trans w12⟩, (pX_out (by omega)).trans w13, w14.eq (Nat.le_refl _) (fun a ha => by have := w0.2 a ha; exact pX_out (by omega)), w15, w16, hl⟩
theorem RA_T {G : ga_} {h : HP} {x sz : Nat} {dyn : Nat → Prop} {S : gS} {st sl : Nat → Option Nat} {D : Nat → gS} {nx z len : Nat} {cf hf of : Nat → Int32} {t : Int32} (w : RA G h x dyn sz S st sl D nx z cf len) : RA G (pT G h (x + 12) hf of t) x dyn sz S st sl D nx z cf len := by
  obtain ⟨w0, w1, w2, -, -, ⟨w9, w10⟩, ⟨w11, w12⟩, w13, w14, w15⟩ := w
  refine ⟨w0, (pT_out (by omega)).trans w1, w2.eq (fun a h1 h2 => pT_out (by omega)), trivial, ⟨hf, of, t, TA_pT⟩, ⟨(pT_out (by omega)).trans w9, (pT_out (by omega)).trans w10⟩, ⟨(pT_out (by omega)).trans w11, (pT_out (by omega)).trans w12⟩, (pT_out (by omega)).trans w13, w14.eq (Nat.le_refl _) (fun a ha => by have := w0.2 a ha; exact pT_out (by omega)), w15⟩
def dU (D : Nat → gS) (q : Nat) (S : gS) : Nat → gS := fun a => if a = q then S else D a
/-- behind remember, at the root: a state is saved at nx -/
def remP (G : ga_) (h : HP) (x : Nat) (dyn : Nat → Prop) (sz : Nat) (S : gS) (st sl : Nat → Option Nat) (D : Nat → gS) (nx z : Nat) (cf : Nat → Int32) (len : Nat) (h1 : HP) (s1 : Nat) : Prop := sz ≤ s1 ∧ fr_ h h1 x dyn ∧ ∃ q Sq, (st nx = some q ∧ Sq = D q ∨ st nx = none ∧ Sq = gS0) ∧ RA G h1 x dyn s1 S (va_up st nx (some q)) sl (dU D q (g_bec Sq S)) (p_nx nx) (p_z z) cf len
theorem p_nx_lt {nx : Nat} (h : nx < 6) : p_nx nx < 6 := by unfold p_nx; split <;> omega
theorem p_z_le {z : Nat} : p_z z ≤ 6 := by unfold p_z; split <;> omega
theorem gmI_up {st sl : Nat → Option Nat} {nx i : Nat} {q : Nat} (hnx : nx < 6) : gmI (va_up st nx (some q)) sl i = if i = nx then some q else gmI st sl i := by
  unfold gmI va_up
  by_cases c : i < 6
  · rw [if_pos c, if_pos c]
  · rw [if_neg c, if_neg c, if_neg (by omega)]
theorem rem_ok {G : ga_} {h : HP} {x sz s2 q : Nat} {dyn : Nat → Prop} {S Sq : gS} {st sl : Nat → Option Nat} {D : Nat → gS} {nx z len : Nat} {cf : Nat → Int32} (w : RA G h x dyn sz S st sl D nx z cf len) (hq : (st nx = some q ∧ Sq = D q ∧ s2 = sz) ∨ (st nx = none ∧ q = sz ∧ Sq = gS0 ∧ s2 = sz + 11)) :
    remP G h x dyn sz S st sl D nx z cf len (pP G (pG G h q (g_bec Sq S)) (x + 18) (va_up st nx (some q)) (nI (p_nx nx)) (nI (p_z z))) s2 := by
  obtain ⟨w0, w1, w2, -, ⟨hf, of, t, w5, w6, w7, w8⟩, ⟨w9, w10⟩, ⟨w11, w12⟩, w13, w14, w15, w16, w17⟩ := w
  have hqd : (∀ a, q ≤ a → a < q + 11 → dyn a) ∧ q + 11 ≤ s2 ∧ sz ≤ s2 ∧ x + 21 ≤ q := by
    rcases hq with ⟨e1, -, e2⟩ | ⟨-, e1, -, e2⟩
    · obtain ⟨k1, k2, -⟩ := w14.2.1 nx q (by omega) (by unfold gmI; rw [if_pos w15]; exact e1)
      exact ⟨k1, by omega, by omega, w0.2 q (k1 q (Nat.le_refl _) (by omega))⟩
    · have := w0.1
      exact ⟨fun a h1 _ => w14.1 a (by omega), by omega, by omega, by omega⟩
  have hq21 := hqd.2.2.2
  have ho : ∀ a, (a < x + 18 ∨ x + 20 ≤ a) → (a < q ∨ q + 11 ≤ a) → pP G (pG G h q (g_bec Sq S)) (x + 18) (va_up st nx (some q)) (nI (p_nx nx)) (nI (p_z z)) a = h a := fun a h1 h2 => by rw [pP_out h1, pG_out h2]
  refine ⟨hqd.2.2.1, fun a h1 h2 => ho a (by omega) (by rcases Nat.lt_or_ge a q with c | c; exact Or.inl c; exact Or.inr (Nat.not_lt.mp fun c2 => h1 (hqd.1 a c c2))), q, Sq, ?_, ⟨Nat.le_trans w0.1 hqd.2.2.1, w0.2⟩, (ho _ (by omega) (by omega)).trans w1, w2.eq (fun a h1 h2 => ho a (by omega) (by omega)), trivial, ⟨hf, of, t, (ho _ (by omega) (by omega)).trans w5, (ho _ (by omega) (by omega)).trans w6, (ho _ (by omega) (by omega)).trans w7, (ho _ (by omega) (by omega)).trans w8⟩, ⟨(ho _ (by omega) (by omega)).trans w9, (ho _ (by omega) (by omega)).trans w10⟩, PA_pP, (ho _ (by omega) (by omega)).trans w13, ⟨fun a ha => w14.1 a (Nat.le_trans hqd.2.2.1 ha), ?_, ?_⟩, p_nx_lt w15, p_z_le, w17⟩
  · rcases hq with ⟨e1, e2, -⟩ | ⟨e1, -, e2, -⟩
    · exact Or.inl ⟨e1, e2⟩
    · exact Or.inr ⟨e1, e2⟩
  · intro i r hi hr
    rw [gmI_up w15] at hr
    by_cases c : i = nx
    · rw [if_pos c] at hr
      cases hr
      refine ⟨hqd.1, hqd.2.1, ?_⟩
      unfold dU
      rw [if_pos rfl]
      exact GA_P GA_pG (by omega)
    · rw [if_neg c] at hr
      obtain ⟨k1, k2, k3⟩ := w14.2.1 i r hi hr
      have ha : r + 11 ≤ q ∨ q + 11 ≤ r := by
        rcases hq with ⟨e1, -, -⟩ | ⟨-, e1, -, -⟩
        · exact w14.2.2 i nx r q hi (by omega) c hr (by unfold gmI; rw [if_pos w15]; exact e1)
        · omega
      refine ⟨k1, by omega, ?_⟩
      have hr21 : x + 21 ≤ r := w0.2 r (k1 r (Nat.le_refl _) (by omega))
      unfold dU
      rw [if_neg (by omega)]
      exact k3.eq (fun a h1 h2 => ho a (by omega) (by omega))
  · intro i j r1 r2 hi hj hij h1 h2
    rw [gmI_up w15] at h1 h2
    by_cases c : i = nx
    · rw [if_pos c] at h1
      cases h1
      rw [if_neg (by omega)] at h2
      rcases hq with ⟨e1, -, -⟩ | ⟨-, e1, -, -⟩
      · exact w14.2.2 i j _ r2 hi hj hij (by unfold gmI; rw [c, if_pos w15]; exact e1) h2
      · have := (w14.2.1 j r2 hj h2).2.1; omega
    · rw [if_neg c] at h1
      by_cases c2 : j = nx
      · rw [if_pos c2] at h2
        cases h2
        rcases hq with ⟨e1, -, -⟩ | ⟨-, e1, -, -⟩
        · exact w14.2.2 i j r1 _ hi hj hij h1 (by unfold gmI; rw [c2, if_pos w15]; exact e1)
        · have := (w14.2.1 i r1 hi h1).2.1; omega
      · rw [if_neg c2] at h2
        exact w14.2.2 i j r1 r2 hi hj hij h1 h2
theorem c_rem {G : ga_} {l : Launch} {h : HP} {x sz : Nat} {dyn : Nat → Prop} {S : gS} {st sl : Nat → Option Nat} {D : Nat → gS} {nx z len : Nat} {cf : Nat → Int32} (w : RA G h x dyn sz S st sl D nx z cf len) : Mg G l yX1_remember cX1_remember 3 none 3 72 11 387 [.ref (x + 18), .ref (x + 1)] h sz (fun v h1 s1 => v = none ∧ remP G h x dyn sz S st sl D nx z cf len h1 s1) := by
  have w' := w
  obtain ⟨w0, w1, w2, -, -, -, w11, -, w14, w15, w16, -⟩ := w
  cases hst : st nx with
  | some q =>
    obtain ⟨k1, k2, k3⟩ := w14.2.1 nx q (by omega) (by unfold gmI; rw [if_pos w15]; exact hst)
    have := w0.2 q (k1 q (Nat.le_refl _) (by omega))
    refine Mg.mono (c_X1_remember w11 w2 w15 w16 (Or.inl ⟨hst, k3, rfl⟩) (by omega) (by omega) (by omega)) ?_
    rintro v h1 s1 ⟨rfl, rfl, rfl⟩
    exact ⟨rfl, rem_ok w' (Or.inl ⟨hst, rfl, rfl⟩)⟩
  | none =>
    have := w0.1
    refine Mg.mono (c_X1_remember w11 w2 w15 w16 (Or.inr ⟨hst, rfl, rfl, rfl⟩) (by omega) (by omega) (by omega)) ?_
    rintro v h1 s1 ⟨rfl, rfl, rfl⟩
    exact ⟨rfl, rem_ok w' (Or.inr ⟨hst, rfl, rfl, rfl⟩)⟩
end
section
/-! THE CLASS'S CALLS -/
theorem RA_pa {G : ga_} {h : HP} {x sz : Nat} {dyn : Nat → Prop} {S : gS} {st sl : Nat → Option Nat} {D : Nat → gS} {nx z len : Nat} {cf : Nat → Int32} (w : RA G h x dyn sz S st sl D nx z cf len) : PA G h (x + 18) st (nI nx) (nI z) := w.2.2.2.2.2.2.1
theorem RA_xa {G : ga_} {h : HP} {x sz : Nat} {dyn : Nat → Prop} {S : gS} {st sl : Nat → Option Nat} {D : Nat → gS} {nx z len : Nat} {cf : Nat → Int32} (w : RA G h x dyn sz S st sl D nx z cf len) : XA G h (x + 16) cf (nI len) := w.2.2.2.2.2.1
theorem RA_sl {G : ga_} {h : HP} {x sz : Nat} {dyn : Nat → Prop} {S : gS} {st sl : Nat → Option Nat} {D : Nat → gS} {nx z len : Nat} {cf : Nat → Int32} (w : RA G h x dyn sz S st sl D nx z cf len) : h (x + 20) = some (aG_ G 2 sl) := w.2.2.2.2.2.2.2.1
theorem RA_len {G : ga_} {h : HP} {x sz : Nat} {dyn : Nat → Prop} {S : gS} {st sl : Nat → Option Nat} {D : Nat → gS} {nx z len : Nat} {cf : Nat → Int32} (w : RA G h x dyn sz S st sl D nx z cf len) : len ≤ 60 := w.2.2.2.2.2.2.2.2.2.2.2
/-- behind a call that saved a state ahead -/
def poM (G : ga_) (h : HP) (x : Nat) (dyn : Nat → Prop) (sz : Nat) (S : gS) (st sl : Nat → Option Nat) (D : Nat → gS) (nx z : Nat) (cf : Nat → Int32) (len : Nat) (ok : Bool) (r : Int32) (S2 : gS) (len2 : Nat) : Option Value → HP → Nat → Prop := fun v h1 s1 => v = some (.int r) ∧ ok = true ∧ sz ≤ s1 ∧ fr_ h h1 x dyn ∧ ∃ q Sq, (st nx = some q ∧ Sq = D q ∨ st nx = none ∧ Sq = gS0) ∧ RA G h1 x dyn s1 S2 (va_up st nx (some q)) sl (dU D q (g_bec Sq S)) (p_nx nx) (p_z z) cf len2
/-- a look: nothing is changed -/
def poL (h : HP) (sz : Nat) (ok : Bool) (r : Int32) : Option Value → HP → Nat → Prop := fun v h1 s1 => v = some (.int r) ∧ ok = true ∧ h1 = h ∧ s1 = sz
/-- what is thrown: the class's name, nothing changed -/
def pxE (h : HP) (sz : Nat) (t : Option String) : String → HP → Nat → Prop := fun E h1 s1 => t = some E ∧ h1 = h ∧ sz ≤ s1
theorem fr_.trans {h h1 h2 : HP} {x : Nat} {dyn : Nat → Prop} (a : fr_ h h1 x dyn) (b : fr_ h1 h2 x dyn) : fr_ h h2 x dyn := fun q c d => (b q c d).trans (a q c d)
theorem fr_G {G : ga_} {h : HP} {x : Nat} {dyn : Nat → Prop} {S : gS} : fr_ h (pG G h (x + 1) S) x dyn := fun a _ hb => pG_out (by omega)
theorem fr_X {G : ga_} {h : HP} {x : Nat} {dyn : Nat → Prop} {cf : Nat → Int32} {n : Int32} : fr_ h (pX G h (x + 16) cf n) x dyn := fun a _ hb => pX_out (by omega)
theorem fr_T {G : ga_} {h : HP} {x : Nat} {dyn : Nat → Prop} {hf of : Nat → Int32} {n : Int32} : fr_ h (pT G h (x + 12) hf of n) x dyn := fun a _ hb => pT_out (by omega)
def th2 (b1 : Bool) (e1 : String) (b2 : Bool) (e2 : String) : Option String := if b1 then (if b2 then none else some e2) else some e1
def th1 (b1 : Bool) (e1 : String) : Option String := if b1 then none else some e1
set_option maxHeartbeats 800000 in
set_option maxRecDepth 100000 in
theorem c_X5_draw {G : ga_} {l : Launch} {h : HP} {sz : Nat} {x : Nat} {dyn : Nat → Prop} {S : gS} {st sl : Nat → Option Nat} {D : Nat → gS} {nx z len : Nat} {cf : Nat → Int32}  (w : RA G h x dyn sz S st sl D nx z cf len)  : Mg G l yX5_draw cX5_draw 1 (some .int) 5 113 11 387 [.ref x] h sz (poM G h x dyn sz S st sl D nx z cf len (true) (g_drawA S) (g_draw S) len)  := by
  refine Mg.ofV [(0, .ref x)] (by decide) (Nat.le_of_ble_eq_true rfl) rfl ?_
  intro p e s m args below meth c C
  refine r_aload_n C dX5_draw_0 rfl rfl ?_
  refine r_get C (j := 3) rfl in_X5 (w.2.1) (by decide) fl_X5_33 rfl rfl dX5_draw_1 ?_
  refine r_aload_n C dX5_draw_4 rfl rfl ?_
  refine r_get C (j := 0) rfl in_X5 (w.2.1) (by decide) fl_X5_10 rfl rfl dX5_draw_5 ?_
  refine r_callV C (c_rem w) lk_X5_52 rfl (RA_pa w).1 rfl rfl ⟨(Nat.le_of_ble_eq_true rfl), (Nat.le_of_ble_eq_true rfl), (Nat.le_of_ble_eq_true rfl), (Nat.le_of_ble_eq_true rfl), (Nat.le_of_ble_eq_true rfl)⟩ dX5_draw_8 (fun v h1 s1 hp => ?_)
  obtain ⟨rfl, hs1, hfr, q, Sq, hq, w2⟩ := hp
  refine V.stack (st2 := []) rfl ?_
  refine r_aload_n C dX5_draw_11 rfl rfl ?_
  refine r_get C (j := 0) rfl in_X5 (w2.2.1) (by decide) fl_X5_10 rfl rfl dX5_draw_12 ?_
  refine r_cVi C (c_X0_turnToDraw w2.2.2.1) lk_X5_71 rfl (GA_o w2.2.2.1) rfl rfl ⟨(Nat.le_of_ble_eq_true rfl), (Nat.le_of_ble_eq_true rfl), (Nat.le_of_ble_eq_true rfl), (Nat.le_of_ble_eq_true rfl), (Nat.le_of_ble_eq_true rfl)⟩ dX5_draw_15 ?_
  exact r_iret C rfl (Nat.le_of_ble_eq_true rfl) (Nat.le_of_ble_eq_true rfl) (⟨rfl, rfl, hs1, hfr.trans fr_G, q, Sq, hq, RA_G w2⟩) dX5_draw_18

set_option maxHeartbeats 800000 in
set_option maxRecDepth 100000 in
theorem c_X5_pass {G : ga_} {l : Launch} {h : HP} {sz : Nat} {x : Nat} {dyn : Nat → Prop} {S : gS} {st sl : Nat → Option Nat} {D : Nat → gS} {nx z len : Nat} {cf : Nat → Int32}  (w : RA G h x dyn sz S st sl D nx z cf len)  : Mg G l yX5_pass cX5_pass 1 (some .int) 5 112 11 387 [.ref x] h sz (poM G h x dyn sz S st sl D nx z cf len (true) (g_passA S) (g_pass S) len)  := by
  refine Mg.ofV [(0, .ref x)] (by decide) (Nat.le_of_ble_eq_true rfl) rfl ?_
  intro p e s m args below meth c C
  refine r_aload_n C dX5_pass_0 rfl rfl ?_
  refine r_get C (j := 3) rfl in_X5 (w.2.1) (by decide) fl_X5_33 rfl rfl dX5_pass_1 ?_
  refine r_aload_n C dX5_pass_4 rfl rfl ?_
  refine r_get C (j := 0) rfl in_X5 (w.2.1) (by decide) fl_X5_10 rfl rfl dX5_pass_5 ?_
  refine r_callV C (c_rem w) lk_X5_52 rfl (RA_pa w).1 rfl rfl ⟨(Nat.le_of_ble_eq_true rfl), (Nat.le_of_ble_eq_true rfl), (Nat.le_of_ble_eq_true rfl), (Nat.le_of_ble_eq_true rfl), (Nat.le_of_ble_eq_true rfl)⟩ dX5_pass_8 (fun v h1 s1 hp => ?_)
  obtain ⟨rfl, hs1, hfr, q, Sq, hq, w2⟩ := hp
  refine V.stack (st2 := []) rfl ?_
  refine r_aload_n C dX5_pass_11 rfl rfl ?_
  refine r_get C (j := 0) rfl in_X5 (w2.2.1) (by decide) fl_X5_10 rfl rfl dX5_pass_12 ?_
  refine r_cVi C (c_X0_turnToPass w2.2.2.1) lk_X5_74 rfl (GA_o w2.2.2.1) rfl rfl ⟨(Nat.le_of_ble_eq_true rfl), (Nat.le_of_ble_eq_true rfl), (Nat.le_of_ble_eq_true rfl), (Nat.le_of_ble_eq_true rfl), (Nat.le_of_ble_eq_true rfl)⟩ dX5_pass_15 ?_
  exact r_iret C rfl (Nat.le_of_ble_eq_true rfl) (Nat.le_of_ble_eq_true rfl) (⟨rfl, rfl, hs1, hfr.trans fr_G, q, Sq, hq, RA_G w2⟩) dX5_pass_18

set_option maxHeartbeats 800000 in
set_option maxRecDepth 100000 in
theorem c_X5_lay {G : ga_} {l : Launch} {h : HP} {sz : Nat} {x : Nat} {dyn : Nat → Prop} {S : gS} {st sl : Nat → Option Nat} {D : Nat → gS} {nx z len : Nat} {cf : Nat → Int32} {a b d : Int32} (hst : l.stackTraces = false) (w : RA G h x dyn sz S st sl D nx z cf len)  : Mx G l yX5_lay cX5_lay 4 (some .int) 7 117 13 399 [.ref x, .int a, .int b, .int d] h sz (poM G h x dyn sz S st sl D nx z cf len (okN b 3 && okEnd d) (g_layA S a b d) (g_lay S a b d) len) (pxE h sz (th2 (okN b 3) eIO (okEnd d) eIA)) := by
  refine Mx.ofV [(0, .ref x), (1, .int a), (2, .int b), (3, .int d)] hst (by decide) (Nat.le_of_ble_eq_true rfl) rfl ?_
  intro p e s m args below meth c C Z
  refine r_iload_n C dX5_lay_0 rfl rfl ?_
  refine r_xS C Z (c_X5_requireRow hst) lk_X5_60 rfl rfl ⟨(Nat.le_of_ble_eq_true rfl), (Nat.le_of_ble_eq_true rfl), (Nat.le_of_ble_eq_true rfl), (Nat.le_of_ble_eq_true rfl), (Nat.le_of_ble_eq_true rfl)⟩ dX5_lay_1 (Nat.le_of_ble_eq_true rfl) (Nat.le_of_ble_eq_true rfl) (fun E h1 s1 q0 => by obtain ⟨rfl, rfl, q1, q2⟩ := q0; exact ⟨by simp [th2, q2], rfl, q1⟩) (fun v h1 s1 q0 => ?_)
  obtain ⟨rfl, rfl, rfl, ok_1⟩ := q0
  refine V.stack (st2 := []) rfl ?_
  refine r_iload_n C dX5_lay_4 rfl rfl ?_
  refine r_xS C Z (c_X5_requireEnd hst) lk_X5_64 rfl rfl ⟨(Nat.le_of_ble_eq_true rfl), (Nat.le_of_ble_eq_true rfl), (Nat.le_of_ble_eq_true rfl), (Nat.le_of_ble_eq_true rfl), (Nat.le_of_ble_eq_true rfl)⟩ dX5_lay_5 (Nat.le_of_ble_eq_true rfl) (Nat.le_of_ble_eq_true rfl) (fun E h1 s1 q0 => by obtain ⟨rfl, rfl, q1, q2⟩ := q0; exact ⟨by simp [th2, ok_1, q2], rfl, q1⟩) (fun v h1 s1 q0 => ?_)
  obtain ⟨rfl, rfl, rfl, ok_5⟩ := q0
  refine V.stack (st2 := []) rfl ?_
  refine r_aload_n C dX5_lay_8 rfl rfl ?_
  refine r_get C (j := 3) rfl in_X5 (w.2.1) (by decide) fl_X5_33 rfl rfl dX5_lay_9 ?_
  refine r_aload_n C dX5_lay_12 rfl rfl ?_
  refine r_get C (j := 0) rfl in_X5 (w.2.1) (by decide) fl_X5_10 rfl rfl dX5_lay_13 ?_
  refine r_callV C (c_rem w) lk_X5_52 rfl (RA_pa w).1 rfl rfl ⟨(Nat.le_of_ble_eq_true rfl), (Nat.le_of_ble_eq_true rfl), (Nat.le_of_ble_eq_true rfl), (Nat.le_of_ble_eq_true rfl), (Nat.le_of_ble_eq_true rfl)⟩ dX5_lay_16 (fun v h1 s1 hp => ?_)
  obtain ⟨rfl, hs1, hfr, q, Sq, hq, w2⟩ := hp
  refine V.stack (st2 := []) rfl ?_
  refine r_aload_n C dX5_lay_19 rfl rfl ?_
  refine r_get C (j := 0) rfl in_X5 (w2.2.1) (by decide) fl_X5_10 rfl rfl dX5_lay_20 ?_
  refine r_iload_n C dX5_lay_23 rfl rfl ?_
  refine r_iload_n C dX5_lay_24 rfl rfl ?_
  refine r_iload_n C dX5_lay_25 rfl rfl ?_
  refine r_cVi C (c_X0_turnToLay w2.2.2.1) lk_X5_67 rfl (GA_o w2.2.2.1) rfl rfl ⟨(Nat.le_of_ble_eq_true rfl), (Nat.le_of_ble_eq_true rfl), (Nat.le_of_ble_eq_true rfl), (Nat.le_of_ble_eq_true rfl), (Nat.le_of_ble_eq_true rfl)⟩ dX5_lay_26 ?_
  exact V.retx (r_iret C rfl (Nat.le_of_ble_eq_true rfl) (Nat.le_of_ble_eq_true rfl) (⟨rfl, by simp [ok_1, ok_5], hs1, hfr.trans fr_G, q, Sq, hq, RA_G w2⟩) dX5_lay_29)

set_option maxHeartbeats 800000 in
set_option maxRecDepth 100000 in
theorem c_X5_whyNot {G : ga_} {l : Launch} {h : HP} {sz : Nat} {x : Nat} {dyn : Nat → Prop} {S : gS} {st sl : Nat → Option Nat} {D : Nat → gS} {nx z len : Nat} {cf : Nat → Int32} {a b d : Int32} (hst : l.stackTraces = false) (w : RA G h x dyn sz S st sl D nx z cf len)  : Mx G l yX5_whyNot cX5_whyNot 4 (some .int) 7 110 2 12 [.ref x, .int a, .int b, .int d] h sz (poL h sz (okN b 3 && okEnd d) (g_reason S a b d)) (pxE h sz (th2 (okN b 3) eIO (okEnd d) eIA)) := by
  refine Mx.ofV [(0, .ref x), (1, .int a), (2, .int b), (3, .int d)] hst (by decide) (Nat.le_of_ble_eq_true rfl) rfl ?_
  intro p e s m args below meth c C Z
  refine r_iload_n C dX5_whyNot_0 rfl rfl ?_
  refine r_xS C Z (c_X5_requireRow hst) lk_X5_60 rfl rfl ⟨(Nat.le_of_ble_eq_true rfl), (Nat.le_of_ble_eq_true rfl), (Nat.le_of_ble_eq_true rfl), (Nat.le_of_ble_eq_true rfl), (Nat.le_of_ble_eq_true rfl)⟩ dX5_whyNot_1 (Nat.le_of_ble_eq_true rfl) (Nat.le_of_ble_eq_true rfl) (fun E h1 s1 q0 => by obtain ⟨rfl, rfl, q1, q2⟩ := q0; exact ⟨by simp [th2, q2], rfl, q1⟩) (fun v h1 s1 q0 => ?_)
  obtain ⟨rfl, rfl, rfl, ok_1⟩ := q0
  refine V.stack (st2 := []) rfl ?_
  refine r_iload_n C dX5_whyNot_4 rfl rfl ?_
  refine r_xS C Z (c_X5_requireEnd hst) lk_X5_64 rfl rfl ⟨(Nat.le_of_ble_eq_true rfl), (Nat.le_of_ble_eq_true rfl), (Nat.le_of_ble_eq_true rfl), (Nat.le_of_ble_eq_true rfl), (Nat.le_of_ble_eq_true rfl)⟩ dX5_whyNot_5 (Nat.le_of_ble_eq_true rfl) (Nat.le_of_ble_eq_true rfl) (fun E h1 s1 q0 => by obtain ⟨rfl, rfl, q1, q2⟩ := q0; exact ⟨by simp [th2, ok_1, q2], rfl, q1⟩) (fun v h1 s1 q0 => ?_)
  obtain ⟨rfl, rfl, rfl, ok_5⟩ := q0
  refine V.stack (st2 := []) rfl ?_
  refine r_aload_n C dX5_whyNot_8 rfl rfl ?_
  refine r_get C (j := 0) rfl in_X5 (w.2.1) (by decide) fl_X5_10 rfl rfl dX5_whyNot_9 ?_
  refine r_iload_n C dX5_whyNot_12 rfl rfl ?_
  refine r_iload_n C dX5_whyNot_13 rfl rfl ?_
  refine r_iload_n C dX5_whyNot_14 rfl rfl ?_
  refine r_cVi C (c_X0_reasonAgainst w.2.2.1) lk_X5_179 rfl (GA_o w.2.2.1) rfl rfl ⟨(Nat.le_of_ble_eq_true rfl), (Nat.le_of_ble_eq_true rfl), (Nat.le_of_ble_eq_true rfl), (Nat.le_of_ble_eq_true rfl), (Nat.le_of_ble_eq_true rfl)⟩ dX5_whyNot_15 ?_
  exact V.retx (r_iret C rfl (Nat.le_of_ble_eq_true rfl) (Nat.le_of_ble_eq_true rfl) (⟨rfl, by simp [ok_1, ok_5], rfl, rfl⟩) dX5_whyNot_18)

set_option maxHeartbeats 800000 in
set_option maxRecDepth 100000 in
theorem c_X5_rowOf {G : ga_} {l : Launch} {h : HP} {sz : Nat} {x : Nat} {dyn : Nat → Prop} {S : gS} {st sl : Nat → Option Nat} {D : Nat → gS} {nx z len : Nat} {cf : Nat → Int32} {a b : Int32} (hst : l.stackTraces = false) (w : RA G h x dyn sz S st sl D nx z cf len)  : Mx G l yX5_rowOf cX5_rowOf 3 (some .int) 7 111 2 12 [.ref x, .int a, .int b] h sz (poL h sz (okN a 3 && okN b 4) (tAt 4 12 (S 3) a b)) (pxE h sz (th2 (okN a 3) eIO (okN b 4) eIA)) := by
  refine Mx.ofV [(0, .ref x), (1, .int a), (2, .int b)] hst (by decide) (Nat.le_of_ble_eq_true rfl) rfl ?_
  intro p e s m args below meth c C Z
  refine r_iload_n C dX5_rowOf_0 rfl rfl ?_
  refine r_xS C Z (c_X5_requireRow hst) lk_X5_60 rfl rfl ⟨(Nat.le_of_ble_eq_true rfl), (Nat.le_of_ble_eq_true rfl), (Nat.le_of_ble_eq_true rfl), (Nat.le_of_ble_eq_true rfl), (Nat.le_of_ble_eq_true rfl)⟩ dX5_rowOf_1 (Nat.le_of_ble_eq_true rfl) (Nat.le_of_ble_eq_true rfl) (fun E h1 s1 q0 => by obtain ⟨rfl, rfl, q1, q2⟩ := q0; exact ⟨by simp [th2, q2], rfl, q1⟩) (fun v h1 s1 q0 => ?_)
  obtain ⟨rfl, rfl, rfl, ok_1⟩ := q0
  refine V.stack (st2 := []) rfl ?_
  refine r_iload_n C dX5_rowOf_4 rfl rfl ?_
  refine r_iconst C (v := 4) dX5_rowOf_5 rfl ?_
  refine r_xS C Z (c_X5_requireWhat hst) lk_X5_145 rfl rfl ⟨(Nat.le_of_ble_eq_true rfl), (Nat.le_of_ble_eq_true rfl), (Nat.le_of_ble_eq_true rfl), (Nat.le_of_ble_eq_true rfl), (Nat.le_of_ble_eq_true rfl)⟩ dX5_rowOf_6 (Nat.le_of_ble_eq_true rfl) (Nat.le_of_ble_eq_true rfl) (fun E h1 s1 q0 => by obtain ⟨rfl, rfl, q1, q2⟩ := q0; exact ⟨by simp [th2, ok_1, q2], rfl, q1⟩) (fun v h1 s1 q0 => ?_)
  obtain ⟨rfl, rfl, rfl, ok_6⟩ := q0
  refine V.stack (st2 := []) rfl ?_
  refine r_aload_n C dX5_rowOf_9 rfl rfl ?_
  refine r_get C (j := 0) rfl in_X5 (w.2.1) (by decide) fl_X5_10 rfl rfl dX5_rowOf_10 ?_
  refine r_getN C (j := 3) rfl in_X0 (GA_o w.2.2.1) (by decide) fn_X5_173 rfl rfl dX5_rowOf_13 ?_
  refine r_iload_n C dX5_rowOf_16 rfl rfl ?_
  refine r_iload_n C dX5_rowOf_17 rfl rfl ?_
  refine r_cVi C (c_at3 w.2.2.1) lk_X5_152 rfl (GA_t3 w.2.2.1) rfl rfl ⟨(Nat.le_of_ble_eq_true rfl), (Nat.le_of_ble_eq_true rfl), (Nat.le_of_ble_eq_true rfl), (Nat.le_of_ble_eq_true rfl), (Nat.le_of_ble_eq_true rfl)⟩ dX5_rowOf_18 ?_
  exact V.retx (r_iret C rfl (Nat.le_of_ble_eq_true rfl) (Nat.le_of_ble_eq_true rfl) (⟨rfl, by simp [ok_1, ok_6], rfl, rfl⟩) dX5_rowOf_21)

set_option maxHeartbeats 800000 in
set_option maxRecDepth 100000 in
theorem c_X5_playerOf {G : ga_} {l : Launch} {h : HP} {sz : Nat} {x : Nat} {dyn : Nat → Prop} {S : gS} {st sl : Nat → Option Nat} {D : Nat → gS} {nx z len : Nat} {cf : Nat → Int32} {a b : Int32} (hst : l.stackTraces = false) (w : RA G h x dyn sz S st sl D nx z cf len)  : Mx G l yX5_playerOf cX5_playerOf 3 (some .int) 7 119 2 12 [.ref x, .int a, .int b] h sz (poL h sz (g_has S a && okN b 7) (g_prop S a b)) (pxE h sz (th2 (g_has S a) eIO (okN b 7) eIA)) := by
  refine Mx.ofV [(0, .ref x), (1, .int a), (2, .int b)] hst (by decide) (Nat.le_of_ble_eq_true rfl) rfl ?_
  intro p e s m args below meth c C Z
  refine r_aload_n C dX5_playerOf_0 rfl rfl ?_
  refine r_iload_n C dX5_playerOf_1 rfl rfl ?_
  refine r_xV C Z (c_X5_requirePlayer hst w.2.1 w.2.2.1) lk_X5_158 rfl w.2.1 rfl rfl ⟨(Nat.le_of_ble_eq_true rfl), (Nat.le_of_ble_eq_true rfl), (Nat.le_of_ble_eq_true rfl), (Nat.le_of_ble_eq_true rfl), (Nat.le_of_ble_eq_true rfl)⟩ dX5_playerOf_2 (Nat.le_of_ble_eq_true rfl) (Nat.le_of_ble_eq_true rfl) (fun E h1 s1 q0 => by obtain ⟨rfl, rfl, q1, q2⟩ := q0; exact ⟨by simp [th2, q2], rfl, q1⟩) (fun v h1 s1 q0 => ?_)
  obtain ⟨rfl, rfl, rfl, ok_2⟩ := q0
  refine V.stack (st2 := []) rfl ?_
  refine r_iload_n C dX5_playerOf_5 rfl rfl ?_
  refine r_bipush C (v := 7) dX5_playerOf_6 rfl ?_
  refine r_xS C Z (c_X5_requireWhat hst) lk_X5_145 rfl rfl ⟨(Nat.le_of_ble_eq_true rfl), (Nat.le_of_ble_eq_true rfl), (Nat.le_of_ble_eq_true rfl), (Nat.le_of_ble_eq_true rfl), (Nat.le_of_ble_eq_true rfl)⟩ dX5_playerOf_8 (Nat.le_of_ble_eq_true rfl) (Nat.le_of_ble_eq_true rfl) (fun E h1 s1 q0 => by obtain ⟨rfl, rfl, q1, q2⟩ := q0; exact ⟨by simp [th2, ok_2, q2], rfl, q1⟩) (fun v h1 s1 q0 => ?_)
  obtain ⟨rfl, rfl, rfl, ok_8⟩ := q0
  refine V.stack (st2 := []) rfl ?_
  refine r_aload_n C dX5_playerOf_11 rfl rfl ?_
  refine r_get C (j := 0) rfl in_X5 (w.2.1) (by decide) fl_X5_10 rfl rfl dX5_playerOf_12 ?_
  refine r_iload_n C dX5_playerOf_15 rfl rfl ?_
  refine r_iload_n C dX5_playerOf_16 rfl rfl ?_
  refine r_cVi C (c_X0_playerProperty w.2.2.1) lk_X5_170 rfl (GA_o w.2.2.1) rfl rfl ⟨(Nat.le_of_ble_eq_true rfl), (Nat.le_of_ble_eq_true rfl), (Nat.le_of_ble_eq_true rfl), (Nat.le_of_ble_eq_true rfl), (Nat.le_of_ble_eq_true rfl)⟩ dX5_playerOf_17 ?_
  exact V.retx (r_iret C rfl (Nat.le_of_ble_eq_true rfl) (Nat.le_of_ble_eq_true rfl) (⟨rfl, by simp [ok_2, ok_8], rfl, rfl⟩) dX5_playerOf_20)

set_option maxHeartbeats 800000 in
set_option maxRecDepth 100000 in
theorem c_X5_hand {G : ga_} {l : Launch} {h : HP} {sz : Nat} {x : Nat} {dyn : Nat → Prop} {S : gS} {st sl : Nat → Option Nat} {D : Nat → gS} {nx z len : Nat} {cf : Nat → Int32} {a b : Int32} (hst : l.stackTraces = false) (w : RA G h x dyn sz S st sl D nx z cf len)  : Mx G l yX5_hand cX5_hand 3 (some .int) 7 111 2 12 [.ref x, .int a, .int b] h sz (poL h sz (g_has S a && !decide (b < 0)) (if g_holds S a b then g_hand S a b else -1)) (pxE h sz (th2 (g_has S a) eIO (!decide (b < 0)) eIA)) := by
  refine Mx.ofV [(0, .ref x), (1, .int a), (2, .int b)] hst (by decide) (Nat.le_of_ble_eq_true rfl) rfl ?_
  intro p e s m args below meth c C Z
  refine r_aload_n C dX5_hand_0 rfl rfl ?_
  refine r_iload_n C dX5_hand_1 rfl rfl ?_
  refine r_xV C Z (c_X5_requirePlayer hst w.2.1 w.2.2.1) lk_X5_158 rfl w.2.1 rfl rfl ⟨(Nat.le_of_ble_eq_true rfl), (Nat.le_of_ble_eq_true rfl), (Nat.le_of_ble_eq_true rfl), (Nat.le_of_ble_eq_true rfl), (Nat.le_of_ble_eq_true rfl)⟩ dX5_hand_2 (Nat.le_of_ble_eq_true rfl) (Nat.le_of_ble_eq_true rfl) (fun E h1 s1 q0 => by obtain ⟨rfl, rfl, q1, q2⟩ := q0; exact ⟨by simp [th2, q2], rfl, q1⟩) (fun v h1 s1 q0 => ?_)
  obtain ⟨rfl, rfl, rfl, ok_2⟩ := q0
  refine V.stack (st2 := []) rfl ?_
  refine r_iload_n C dX5_hand_5 rfl rfl ?_
  refine r_xS C Z (c_X5_requirePlace hst) lk_X5_161 rfl rfl ⟨(Nat.le_of_ble_eq_true rfl), (Nat.le_of_ble_eq_true rfl), (Nat.le_of_ble_eq_true rfl), (Nat.le_of_ble_eq_true rfl), (Nat.le_of_ble_eq_true rfl)⟩ dX5_hand_6 (Nat.le_of_ble_eq_true rfl) (Nat.le_of_ble_eq_true rfl) (fun E h1 s1 q0 => by obtain ⟨rfl, rfl, q1, q2⟩ := q0; exact ⟨by simp only [th2, ok_2, q2]; rfl, rfl, q1⟩) (fun v h1 s1 q0 => ?_)
  obtain ⟨rfl, rfl, rfl, ok_6⟩ := q0
  refine V.stack (st2 := []) rfl ?_
  refine r_aload_n C dX5_hand_9 rfl rfl ?_
  refine r_get C (j := 0) rfl in_X5 (w.2.1) (by decide) fl_X5_10 rfl rfl dX5_hand_10 ?_
  refine r_iload_n C dX5_hand_13 rfl rfl ?_
  refine r_iload_n C dX5_hand_14 rfl rfl ?_
  refine r_cVi C (c_X0_holdsPlace w.2.2.1) lk_X5_85 rfl (GA_o w.2.2.1) rfl rfl ⟨(Nat.le_of_ble_eq_true rfl), (Nat.le_of_ble_eq_true rfl), (Nat.le_of_ble_eq_true rfl), (Nat.le_of_ble_eq_true rfl), (Nat.le_of_ble_eq_true rfl)⟩ dX5_hand_15 ?_
  refine r_if_eq C 36 dX5_hand_18 (by decide) (fun c_18 => ?_) (fun c_18 => ?_)
  · have c_18 := bI_f c_18
    refine r_iconst C (v := -1) dX5_hand_36 rfl ?_
    exact V.retx (r_iret C rfl (Nat.le_of_ble_eq_true rfl) (Nat.le_of_ble_eq_true rfl) (⟨by simp [g_hand, c_18], by simp only [ok_2, ok_6, Bool.and_self], rfl, rfl⟩) dX5_hand_37)
  · have c_18 := bI_t c_18
    refine r_aload_n C dX5_hand_21 rfl rfl ?_
    refine r_get C (j := 0) rfl in_X5 (w.2.1) (by decide) fl_X5_10 rfl rfl dX5_hand_22 ?_
    refine r_getN C (j := 1) rfl in_X0 (GA_o w.2.2.1) (by decide) fn_X5_164 rfl rfl dX5_hand_25 ?_
    refine r_iload_n C dX5_hand_28 rfl rfl ?_
    refine r_iload_n C dX5_hand_29 rfl rfl ?_
    refine r_cVi C (c_at1 w.2.2.1) lk_X5_152 rfl (GA_t1 w.2.2.1) rfl rfl ⟨(Nat.le_of_ble_eq_true rfl), (Nat.le_of_ble_eq_true rfl), (Nat.le_of_ble_eq_true rfl), (Nat.le_of_ble_eq_true rfl), (Nat.le_of_ble_eq_true rfl)⟩ dX5_hand_30 ?_
    refine r_goto C 37 dX5_hand_33 (by decide) ?_
    exact V.retx (r_iret C rfl (Nat.le_of_ble_eq_true rfl) (Nat.le_of_ble_eq_true rfl) (⟨by simp [g_hand, c_18], by simp only [ok_2, ok_6, Bool.and_self], rfl, rfl⟩) dX5_hand_37)

set_option maxHeartbeats 800000 in
set_option maxRecDepth 100000 in
theorem c_X5_stock {G : ga_} {l : Launch} {h : HP} {sz : Nat} {x : Nat} {dyn : Nat → Prop} {S : gS} {st sl : Nat → Option Nat} {D : Nat → gS} {nx z len : Nat} {cf : Nat → Int32} {a : Int32} (hst : l.stackTraces = false) (w : RA G h x dyn sz S st sl D nx z cf len)  : Mx G l yX5_stock cX5_stock 2 (some .int) 7 110 1 6 [.ref x, .int a] h sz (poL h sz (!decide (a < 0)) (if a < g_stock S then g_stile S a else -1)) (pxE h sz (th1 (!decide (a < 0)) eIA)) := by
  refine Mx.ofV [(0, .ref x), (1, .int a)] hst (by decide) (Nat.le_of_ble_eq_true rfl) rfl ?_
  intro p e s m args below meth c C Z
  refine r_iload_n C dX5_stock_0 rfl rfl ?_
  refine r_xS C Z (c_X5_requirePlace hst) lk_X5_161 rfl rfl ⟨(Nat.le_of_ble_eq_true rfl), (Nat.le_of_ble_eq_true rfl), (Nat.le_of_ble_eq_true rfl), (Nat.le_of_ble_eq_true rfl), (Nat.le_of_ble_eq_true rfl)⟩ dX5_stock_1 (Nat.le_of_ble_eq_true rfl) (Nat.le_of_ble_eq_true rfl) (fun E h1 s1 q0 => by obtain ⟨rfl, rfl, q1, q2⟩ := q0; exact ⟨by simp only [th1, q2]; rfl, rfl, q1⟩) (fun v h1 s1 q0 => ?_)
  obtain ⟨rfl, rfl, rfl, ok_1⟩ := q0
  refine V.stack (st2 := []) rfl ?_
  refine r_iload_n C dX5_stock_4 rfl rfl ?_
  refine r_aload_n C dX5_stock_5 rfl rfl ?_
  refine r_get C (j := 0) rfl in_X5 (w.2.1) (by decide) fl_X5_10 rfl rfl dX5_stock_6 ?_
  refine r_cVi C (c_X0_stockSize w.2.2.1) lk_X5_56 rfl (GA_o w.2.2.1) rfl rfl ⟨(Nat.le_of_ble_eq_true rfl), (Nat.le_of_ble_eq_true rfl), (Nat.le_of_ble_eq_true rfl), (Nat.le_of_ble_eq_true rfl), (Nat.le_of_ble_eq_true rfl)⟩ dX5_stock_9 ?_
  refine r_icmp_ge C 26 dX5_stock_12 (by decide) (fun c_12 => ?_) (fun c_12 => ?_)
  · have e_12 := i32_nlt c_12
    refine r_iconst C (v := -1) dX5_stock_26 rfl ?_
    exact V.retx (r_iret C rfl (Nat.le_of_ble_eq_true rfl) (Nat.le_of_ble_eq_true rfl) (⟨by simp [c_12, e_12], ok_1, rfl, rfl⟩) dX5_stock_27)
  · have e_12 := i32_lt c_12
    refine r_aload_n C dX5_stock_15 rfl rfl ?_
    refine r_get C (j := 0) rfl in_X5 (w.2.1) (by decide) fl_X5_10 rfl rfl dX5_stock_16 ?_
    refine r_iload_n C dX5_stock_19 rfl rfl ?_
    refine r_cVi C (c_X0_stockTile w.2.2.1) lk_X5_167 rfl (GA_o w.2.2.1) rfl rfl ⟨(Nat.le_of_ble_eq_true rfl), (Nat.le_of_ble_eq_true rfl), (Nat.le_of_ble_eq_true rfl), (Nat.le_of_ble_eq_true rfl), (Nat.le_of_ble_eq_true rfl)⟩ dX5_stock_20 ?_
    refine r_goto C 27 dX5_stock_23 (by decide) ?_
    exact V.retx (r_iret C rfl (Nat.le_of_ble_eq_true rfl) (Nat.le_of_ble_eq_true rfl) (⟨by simp [c_12, e_12], ok_1, rfl, rfl⟩) dX5_stock_27)

set_option maxHeartbeats 800000 in
set_option maxRecDepth 100000 in
theorem c_X5_count {G : ga_} {l : Launch} {h : HP} {sz : Nat} {x : Nat} {dyn : Nat → Prop} {S : gS} {st sl : Nat → Option Nat} {D : Nat → gS} {nx z len : Nat} {cf : Nat → Int32} {a : Int32} (hst : l.stackTraces = false) (w : RA G h x dyn sz S st sl D nx z cf len)  : Mx G l yX5_count cX5_count 2 (some .int) 7 133 1 6 [.ref x, .int a] h sz (poL h sz (okN a 12) (g_num S a (nI z))) (pxE h sz (th1 (okN a 12) eIA)) := by
  refine Mx.ofV [(0, .ref x), (1, .int a)] hst (by decide) (Nat.le_of_ble_eq_true rfl) rfl ?_
  intro p e s m args below meth c C Z
  refine r_iload_n C dX5_count_0 rfl rfl ?_
  refine r_bipush C (v := 12) dX5_count_1 rfl ?_
  refine r_xS C Z (c_X5_requireWhat hst) lk_X5_145 rfl rfl ⟨(Nat.le_of_ble_eq_true rfl), (Nat.le_of_ble_eq_true rfl), (Nat.le_of_ble_eq_true rfl), (Nat.le_of_ble_eq_true rfl), (Nat.le_of_ble_eq_true rfl)⟩ dX5_count_3 (Nat.le_of_ble_eq_true rfl) (Nat.le_of_ble_eq_true rfl) (fun E h1 s1 q0 => by obtain ⟨rfl, rfl, q1, q2⟩ := q0; exact ⟨by simp only [th1, q2]; rfl, rfl, q1⟩) (fun v h1 s1 q0 => ?_)
  obtain ⟨rfl, rfl, rfl, ok_3⟩ := q0
  refine V.stack (st2 := []) rfl ?_
  refine r_aload_n C dX5_count_6 rfl rfl ?_
  refine r_get C (j := 0) rfl in_X5 (w.2.1) (by decide) fl_X5_10 rfl rfl dX5_count_7 ?_
  refine r_iload_n C dX5_count_10 rfl rfl ?_
  refine r_aload_n C dX5_count_11 rfl rfl ?_
  refine r_get C (j := 3) rfl in_X5 (w.2.1) (by decide) fl_X5_33 rfl rfl dX5_count_12 ?_
  refine r_getN C (j := 2) rfl in_X1 ((RA_pa w).1) (by decide) fn_X5_135 rfl rfl dX5_count_15 ?_
  refine r_cVi C (c_X0_numberOf w.2.2.1) lk_X5_176 rfl (GA_o w.2.2.1) rfl rfl ⟨(Nat.le_of_ble_eq_true rfl), (Nat.le_of_ble_eq_true rfl), (Nat.le_of_ble_eq_true rfl), (Nat.le_of_ble_eq_true rfl), (Nat.le_of_ble_eq_true rfl)⟩ dX5_count_18 ?_
  exact V.retx (r_iret C rfl (Nat.le_of_ble_eq_true rfl) (Nat.le_of_ble_eq_true rfl) (⟨rfl, ok_3, rfl, rfl⟩) dX5_count_21)

set_option maxHeartbeats 800000 in
set_option maxRecDepth 100000 in
theorem c_X5_tileOf {G : ga_} {l : Launch} {h : HP} {sz : Nat} {x : Nat} {dyn : Nat → Prop} {S : gS} {st sl : Nat → Option Nat} {D : Nat → gS} {nx z len : Nat} {cf : Nat → Int32} {a b : Int32} (hst : l.stackTraces = false) (w : RA G h x dyn sz S st sl D nx z cf len)  : Mx G l yX5_tileOf cX5_tileOf 3 (some .int) 7 111 2 12 [.ref x, .int a, .int b] h sz (poL h sz (okN a 28 && okN b 7) (tAt 7 196 (S 0) a b)) (pxE h sz (th2 (okN a 28) eIO (okN b 7) eIA)) := by
  refine Mx.ofV [(0, .ref x), (1, .int a), (2, .int b)] hst (by decide) (Nat.le_of_ble_eq_true rfl) rfl ?_
  intro p e s m args below meth c C Z
  refine r_iload_n C dX5_tileOf_0 rfl rfl ?_
  refine r_if_lt C 10 dX5_tileOf_1 (by decide) (fun c_1 => ?_) (fun c_1 => ?_)
  · have e_1 := i32_nle c_1
    exact r_throw C Z lt_IO (is := 143) (by simp [SR]; try rfl) dX5_tileOf_10 dX5_tileOf_13 dX5_tileOf_14 dX5_tileOf_16 dX5_tileOf_19 (Nat.le_of_ble_eq_true rfl) (Nat.le_of_ble_eq_true rfl) (Nat.le_of_ble_eq_true rfl) (Nat.le_of_ble_eq_true rfl) (Nat.le_of_ble_eq_true rfl) (Nat.le_of_ble_eq_true rfl) (fun s1 hs1 => ⟨by rw [show okN a 28 = false by simp [okN, c_1, e_1]]; rfl, rfl, hs1⟩)
  · have e_1 := i32_le c_1
    refine r_iload_n C dX5_tileOf_4 rfl rfl ?_
    refine r_bipush C (v := 28) dX5_tileOf_5 rfl ?_
    refine r_icmp_lt C 20 dX5_tileOf_7 (by decide) (fun c_7 => ?_) (fun c_7 => ?_)
    · have e_7 := i32_nle c_7
      refine r_iload_n C dX5_tileOf_20 rfl rfl ?_
      refine r_bipush C (v := 7) dX5_tileOf_21 rfl ?_
      refine r_xS C Z (c_X5_requireWhat hst) lk_X5_145 rfl rfl ⟨(Nat.le_of_ble_eq_true rfl), (Nat.le_of_ble_eq_true rfl), (Nat.le_of_ble_eq_true rfl), (Nat.le_of_ble_eq_true rfl), (Nat.le_of_ble_eq_true rfl)⟩ dX5_tileOf_23 (Nat.le_of_ble_eq_true rfl) (Nat.le_of_ble_eq_true rfl) (fun E h1 s1 q0 => by obtain ⟨rfl, rfl, q1, q2⟩ := q0; exact ⟨by rw [show okN a 28 = true by simp [okN, c_1, c_7]]; simp only [th2, q2]; rfl, rfl, q1⟩) (fun v h1 s1 q0 => ?_)
      obtain ⟨rfl, rfl, rfl, ok_23⟩ := q0
      refine V.stack (st2 := []) rfl ?_
      refine r_aload_n C dX5_tileOf_26 rfl rfl ?_
      refine r_get C (j := 0) rfl in_X5 (w.2.1) (by decide) fl_X5_10 rfl rfl dX5_tileOf_27 ?_
      refine r_getN C (j := 0) rfl in_X0 (GA_o w.2.2.1) (by decide) fn_X5_148 rfl rfl dX5_tileOf_30 ?_
      refine r_iload_n C dX5_tileOf_33 rfl rfl ?_
      refine r_iload_n C dX5_tileOf_34 rfl rfl ?_
      refine r_cVi C (c_at0 w.2.2.1) lk_X5_152 rfl (GA_t0 w.2.2.1) rfl rfl ⟨(Nat.le_of_ble_eq_true rfl), (Nat.le_of_ble_eq_true rfl), (Nat.le_of_ble_eq_true rfl), (Nat.le_of_ble_eq_true rfl), (Nat.le_of_ble_eq_true rfl)⟩ dX5_tileOf_35 ?_
      exact V.retx (r_iret C rfl (Nat.le_of_ble_eq_true rfl) (Nat.le_of_ble_eq_true rfl) (⟨rfl, by rw [ok_23, show okN a 28 = true by simp [okN, c_1, e_1, c_7, e_7]]; rfl, rfl, rfl⟩) dX5_tileOf_38)
    · have e_7 := i32_le c_7
      exact r_throw C Z lt_IO (is := 143) (by simp [SR]; try rfl) dX5_tileOf_10 dX5_tileOf_13 dX5_tileOf_14 dX5_tileOf_16 dX5_tileOf_19 (Nat.le_of_ble_eq_true rfl) (Nat.le_of_ble_eq_true rfl) (Nat.le_of_ble_eq_true rfl) (Nat.le_of_ble_eq_true rfl) (Nat.le_of_ble_eq_true rfl) (Nat.le_of_ble_eq_true rfl) (fun s1 hs1 => ⟨by rw [show okN a 28 = false by simp [okN, c_1, e_1, c_7, e_7]]; rfl, rfl, hs1⟩)

set_option maxHeartbeats 800000 in
set_option maxRecDepth 100000 in
theorem c_X5_setting {G : ga_} {l : Launch} {h : HP} {sz : Nat} {x : Nat} {dyn : Nat → Prop} {S : gS} {st sl : Nat → Option Nat} {D : Nat → gS} {nx z len : Nat} {cf : Nat → Int32}  (w : RA G h x dyn sz S st sl D nx z cf len)  : Mg G l yX5_setting cX5_setting 1 (some .int) 0 0 0 0 [.ref x] h sz (poL h sz true (S 5 7))  := by
  refine Mg.ofV [(0, .ref x)] (by decide) (Nat.le_of_ble_eq_true rfl) rfl ?_
  intro p e s m args below meth c C
  refine r_aload_n C dX5_setting_0 rfl rfl ?_
  refine r_get C (j := 0) rfl in_X5 (w.2.1) (by decide) fl_X5_10 rfl rfl dX5_setting_1 ?_
  refine r_getN C (j := 12) rfl in_X0 (GA_o w.2.2.1) (by decide) fn_X5_100 rfl rfl dX5_setting_4 ?_
  exact r_iret C rfl (Nat.le_of_ble_eq_true rfl) (Nat.le_of_ble_eq_true rfl) (⟨rfl, rfl, rfl, rfl⟩) dX5_setting_7

set_option maxHeartbeats 800000 in
set_option maxRecDepth 100000 in
theorem c_X5_advice {G : ga_} {l : Launch} {h : HP} {sz : Nat} {x : Nat} {dyn : Nat → Prop} {S : gS} {st sl : Nat → Option Nat} {D : Nat → gS} {nx z len : Nat} {cf : Nat → Int32}  (w : RA G h x dyn sz S st sl D nx z cf len)  : Mg G l yX5_advice cX5_advice 1 (some .int) 4 92 0 0 [.ref x] h sz (poL h sz true (g_adv S))  := by
  refine Mg.ofV [(0, .ref x)] (by decide) (Nat.le_of_ble_eq_true rfl) rfl ?_
  intro p e s m args below meth c C
  refine r_aload_n C dX5_advice_0 rfl rfl ?_
  refine r_get C (j := 0) rfl in_X5 (w.2.1) (by decide) fl_X5_10 rfl rfl dX5_advice_1 ?_
  refine r_cVi C (c_X0_bestPlace w.2.2.1) lk_X5_201 rfl (GA_o w.2.2.1) rfl rfl ⟨(Nat.le_of_ble_eq_true rfl), (Nat.le_of_ble_eq_true rfl), (Nat.le_of_ble_eq_true rfl), (Nat.le_of_ble_eq_true rfl), (Nat.le_of_ble_eq_true rfl)⟩ dX5_advice_4 ?_
  exact r_iret C rfl (Nat.le_of_ble_eq_true rfl) (Nat.le_of_ble_eq_true rfl) (⟨rfl, rfl, rfl, rfl⟩) dX5_advice_7

set_option maxHeartbeats 800000 in
set_option maxRecDepth 100000 in
theorem c_X5_rustShare {G : ga_} {l : Launch} {h : HP} {sz : Nat} {x : Nat} {dyn : Nat → Prop} {S : gS} {st sl : Nat → Option Nat} {D : Nat → gS} {nx z len : Nat} {cf : Nat → Int32}  (w : RA G h x dyn sz S st sl D nx z cf len) (hz : vf_n64 (FP.ddiv (FP.i2d (g_tal S 1)) 4640114991075164160)) : Mg G l yX5_rustShare cX5_rustShare 1 (some .double) 3 66 0 0 [.ref x] h sz (fun v h1 s1 => v = some (.double (FP.ddiv (FP.i2d (g_tal S 1)) 4640114991075164160)) ∧ h1 = h ∧ s1 = sz)  := by
  refine Mg.ofV [(0, .ref x)] (by decide) (Nat.le_of_ble_eq_true rfl) rfl ?_
  intro p e s m args below meth c C
  refine r_aload_n C dX5_rustShare_0 rfl rfl ?_
  refine r_get C (j := 0) rfl in_X5 (w.2.1) (by decide) fl_X5_10 rfl rfl dX5_rustShare_1 ?_
  refine r_cVd C (c_X0_shareOfRust w.2.2.1 hz) lk_X5_207 rfl (GA_o w.2.2.1) rfl rfl ⟨(Nat.le_of_ble_eq_true rfl), (Nat.le_of_ble_eq_true rfl), (Nat.le_of_ble_eq_true rfl), (Nat.le_of_ble_eq_true rfl), (Nat.le_of_ble_eq_true rfl)⟩ dX5_rustShare_4 ?_
  exact r_dret C rfl (Nat.le_of_ble_eq_true rfl) (Nat.le_of_ble_eq_true rfl) (⟨rfl, rfl, rfl⟩) dX5_rustShare_7

def tBegin (a b : Int32) : Bool := !decide (a < 2) && (!decide (4 < a) && (!decide (b < 0) && decide (b < 10000)))
set_option maxHeartbeats 800000 in
set_option maxRecDepth 100000 in
theorem c_X5_begin {G : ga_} {l : Launch} {h : HP} {sz : Nat} {x : Nat} {dyn : Nat → Prop} {S : gS} {st sl : Nat → Option Nat} {D : Nat → gS} {nx z len : Nat} {cf : Nat → Int32} {a b : Int32} (hst : l.stackTraces = false) (w : RA G h x dyn sz S st sl D nx z cf len)  : Mx G l yX5_begin cX5_begin 3 (some .int) 6 110 12 393 [.ref x, .int a, .int b] h sz (fun v h1 s1 => tBegin a b = true ∧ sz ≤ s1 ∧ fr_ h h1 x dyn ∧ ∃ q Sq, v = some (.int (g_stock (s_3 S a b))) ∧ (st nx = some q ∧ Sq = D q ∨ st nx = none ∧ Sq = gS0) ∧ RA G h1 x dyn s1 (s_3 S a b) (va_up st nx (some q)) sl (dU D q (g_bec Sq S)) (p_nx nx) (p_z z) cf len) (pxE h sz (th1 (tBegin a b) eIA)) := by
  refine Mx.ofV [(0, .ref x), (1, .int a), (2, .int b)] hst (by decide) (Nat.le_of_ble_eq_true rfl) rfl ?_
  intro p e s m args below meth c C Z
  refine r_iload_n C dX5_begin_0 rfl rfl ?_
  refine r_iconst C (v := 2) dX5_begin_1 rfl ?_
  refine r_icmp_lt C 21 dX5_begin_2 (by decide) (fun c_2 => ?_) (fun c_2 => ?_)
  · have e_2 := i32_nle c_2
    exact r_throw C Z lt_IA (is := 47) (by simp [SR]; try rfl) dX5_begin_21 dX5_begin_24 dX5_begin_25 dX5_begin_27 dX5_begin_30 (Nat.le_of_ble_eq_true rfl) (Nat.le_of_ble_eq_true rfl) (Nat.le_of_ble_eq_true rfl) (Nat.le_of_ble_eq_true rfl) (Nat.le_of_ble_eq_true rfl) (Nat.le_of_ble_eq_true rfl) (fun s1 hs1 => ⟨by rw [show tBegin a b = false by simp [tBegin, c_2, e_2]]; rfl, rfl, hs1⟩)
  · have e_2 := i32_le c_2
    refine r_iload_n C dX5_begin_5 rfl rfl ?_
    refine r_iconst C (v := 4) dX5_begin_6 rfl ?_
    refine r_icmp_gt C 21 dX5_begin_7 (by decide) (fun c_7 => ?_) (fun c_7 => ?_)
    · have e_7 := i32_nle c_7
      exact r_throw C Z lt_IA (is := 47) (by simp [SR]; try rfl) dX5_begin_21 dX5_begin_24 dX5_begin_25 dX5_begin_27 dX5_begin_30 (Nat.le_of_ble_eq_true rfl) (Nat.le_of_ble_eq_true rfl) (Nat.le_of_ble_eq_true rfl) (Nat.le_of_ble_eq_true rfl) (Nat.le_of_ble_eq_true rfl) (Nat.le_of_ble_eq_true rfl) (fun s1 hs1 => ⟨by rw [show tBegin a b = false by simp [tBegin, c_2, e_2, c_7, e_7]]; rfl, rfl, hs1⟩)
    · have e_7 := i32_le c_7
      refine r_iload_n C dX5_begin_10 rfl rfl ?_
      refine r_if_lt C 21 dX5_begin_11 (by decide) (fun c_11 => ?_) (fun c_11 => ?_)
      · have e_11 := i32_nle c_11
        exact r_throw C Z lt_IA (is := 47) (by simp [SR]; try rfl) dX5_begin_21 dX5_begin_24 dX5_begin_25 dX5_begin_27 dX5_begin_30 (Nat.le_of_ble_eq_true rfl) (Nat.le_of_ble_eq_true rfl) (Nat.le_of_ble_eq_true rfl) (Nat.le_of_ble_eq_true rfl) (Nat.le_of_ble_eq_true rfl) (Nat.le_of_ble_eq_true rfl) (fun s1 hs1 => ⟨by rw [show tBegin a b = false by simp [tBegin, c_2, e_2, c_7, e_7, c_11, e_11]]; rfl, rfl, hs1⟩)
      · have e_11 := i32_le c_11
        refine r_iload_n C dX5_begin_14 rfl rfl ?_
        refine r_sipush C (v := 10000) dX5_begin_15 rfl ?_
        refine r_icmp_lt C 31 dX5_begin_18 (by decide) (fun c_18 => ?_) (fun c_18 => ?_)
        · have e_18 := i32_nle c_18
          refine r_aload_n C dX5_begin_31 rfl rfl ?_
          refine r_get C (j := 3) rfl in_X5 (w.2.1) (by decide) fl_X5_33 rfl rfl dX5_begin_32 ?_
          refine r_aload_n C dX5_begin_35 rfl rfl ?_
          refine r_get C (j := 0) rfl in_X5 (w.2.1) (by decide) fl_X5_10 rfl rfl dX5_begin_36 ?_
          refine r_callV C (c_rem w) lk_X5_52 rfl (RA_pa w).1 rfl rfl ⟨(Nat.le_of_ble_eq_true rfl), (Nat.le_of_ble_eq_true rfl), (Nat.le_of_ble_eq_true rfl), (Nat.le_of_ble_eq_true rfl), (Nat.le_of_ble_eq_true rfl)⟩ dX5_begin_39 (fun v h1 s1 hp => ?_)
          obtain ⟨rfl, hs1, hfr, q, Sq, hq, w2⟩ := hp
          refine V.stack (st2 := []) rfl ?_
          refine r_aload_n C dX5_begin_42 rfl rfl ?_
          refine r_get C (j := 0) rfl in_X5 (w2.2.1) (by decide) fl_X5_10 rfl rfl dX5_begin_43 ?_
          refine r_iload_n C dX5_begin_46 rfl rfl ?_
          refine r_iload_n C dX5_begin_47 rfl rfl ?_
          refine r_cVv C (c_X0_start w2.2.2.1) lk_X5_41 rfl (GA_o w2.2.2.1) rfl rfl ⟨(Nat.le_of_ble_eq_true rfl), (Nat.le_of_ble_eq_true rfl), (Nat.le_of_ble_eq_true rfl), (Nat.le_of_ble_eq_true rfl), (Nat.le_of_ble_eq_true rfl)⟩ dX5_begin_48 ?_
          refine r_aload_n C dX5_begin_51 rfl rfl ?_
          refine r_get C (j := 0) rfl in_X5 ((RA_G w2).2.1) (by decide) fl_X5_10 rfl rfl dX5_begin_52 ?_
          refine r_cVi C (c_X0_stockSize GA_pG) lk_X5_56 rfl (GA_o (RA_G w2).2.2.1) rfl rfl ⟨(Nat.le_of_ble_eq_true rfl), (Nat.le_of_ble_eq_true rfl), (Nat.le_of_ble_eq_true rfl), (Nat.le_of_ble_eq_true rfl), (Nat.le_of_ble_eq_true rfl)⟩ dX5_begin_55 ?_
          exact V.retx (r_iret C rfl (Nat.le_of_ble_eq_true rfl) (Nat.le_of_ble_eq_true rfl) (⟨by simp [tBegin, c_2, e_2, c_7, e_7, c_11, e_11, c_18, e_18], hs1, hfr.trans fr_G, q, Sq, rfl, hq, RA_G w2⟩) dX5_begin_58)
        · have e_18 := i32_le c_18
          exact r_throw C Z lt_IA (is := 47) (by simp [SR]; try rfl) dX5_begin_21 dX5_begin_24 dX5_begin_25 dX5_begin_27 dX5_begin_30 (Nat.le_of_ble_eq_true rfl) (Nat.le_of_ble_eq_true rfl) (Nat.le_of_ble_eq_true rfl) (Nat.le_of_ble_eq_true rfl) (Nat.le_of_ble_eq_true rfl) (Nat.le_of_ble_eq_true rfl) (fun s1 hs1 => ⟨by rw [show tBegin a b = false by simp [tBegin, c_2, e_2, c_7, e_7, c_11, e_11, c_18, e_18]]; rfl, rfl, hs1⟩)

set_option maxHeartbeats 800000 in
set_option maxRecDepth 100000 in
theorem c_X5_set {G : ga_} {l : Launch} {h : HP} {sz : Nat} {x : Nat} {dyn : Nat → Prop} {S : gS} {st sl : Nat → Option Nat} {D : Nat → gS} {nx z len : Nat} {cf : Nat → Int32} {a : Int32} (hst : l.stackTraces = false) (w : RA G h x dyn sz S st sl D nx z cf len)  : Mx G l yX5_set cX5_set 3 (some .int) 6 94 12 393 [.ref x, .int a] h sz (poM G h x dyn sz S st sl D nx z cf len (!decide (a < 1) && !decide (9 < a)) (S 5 7) (gc S 7 a) len) (pxE h sz (th1 (!decide (a < 1) && !decide (9 < a)) eIA)) := by
  refine Mx.ofV [(0, .ref x), (1, .int a)] hst (by decide) (Nat.le_of_ble_eq_true rfl) rfl ?_
  intro p e s m args below meth c C Z
  refine r_iload_n C dX5_set_0 rfl rfl ?_
  refine r_iconst C (v := 1) dX5_set_1 rfl ?_
  refine r_icmp_lt C 11 dX5_set_2 (by decide) (fun c_2 => ?_) (fun c_2 => ?_)
  · have e_2 := i32_nle c_2
    exact r_throw C Z lt_IA (is := 98) (by simp [SR]; try rfl) dX5_set_11 dX5_set_14 dX5_set_15 dX5_set_17 dX5_set_20 (Nat.le_of_ble_eq_true rfl) (Nat.le_of_ble_eq_true rfl) (Nat.le_of_ble_eq_true rfl) (Nat.le_of_ble_eq_true rfl) (Nat.le_of_ble_eq_true rfl) (Nat.le_of_ble_eq_true rfl) (fun s1 hs1 => ⟨by rw [show (!decide (a < 1) && !decide (9 < a)) = false by simp [c_2, e_2]]; rfl, rfl, hs1⟩)
  · have e_2 := i32_le c_2
    refine r_iload_n C dX5_set_5 rfl rfl ?_
    refine r_bipush C (v := 9) dX5_set_6 rfl ?_
    refine r_icmp_le C 21 dX5_set_8 (by decide) (fun c_8 => ?_) (fun c_8 => ?_)
    · have e_8 := i32_nlt c_8
      refine r_aload_n C dX5_set_21 rfl rfl ?_
      refine r_get C (j := 3) rfl in_X5 (w.2.1) (by decide) fl_X5_33 rfl rfl dX5_set_22 ?_
      refine r_aload_n C dX5_set_25 rfl rfl ?_
      refine r_get C (j := 0) rfl in_X5 (w.2.1) (by decide) fl_X5_10 rfl rfl dX5_set_26 ?_
      refine r_callV C (c_rem w) lk_X5_52 rfl (RA_pa w).1 rfl rfl ⟨(Nat.le_of_ble_eq_true rfl), (Nat.le_of_ble_eq_true rfl), (Nat.le_of_ble_eq_true rfl), (Nat.le_of_ble_eq_true rfl), (Nat.le_of_ble_eq_true rfl)⟩ dX5_set_29 (fun v h1 s1 hp => ?_)
      obtain ⟨rfl, hs1, hfr, q, Sq, hq, w2⟩ := hp
      refine V.stack (st2 := []) rfl ?_
      refine r_aload_n C dX5_set_32 rfl rfl ?_
      refine r_get C (j := 0) rfl in_X5 (w2.2.1) (by decide) fl_X5_10 rfl rfl dX5_set_33 ?_
      refine r_getN C (j := 12) rfl in_X0 (GA_o w2.2.2.1) (by decide) fn_X5_100 rfl rfl dX5_set_36 ?_
      refine r_istore_n C dX5_set_39 rfl (by decide) ?_
      refine r_aload_n C dX5_set_40 rfl rfl ?_
      refine r_get C (j := 0) rfl in_X5 (w2.2.1) (by decide) fl_X5_10 rfl rfl dX5_set_41 ?_
      refine r_iload_n C dX5_set_44 rfl rfl ?_
      refine r_putN C (j := 12) tyX0 tyX0_ok nmX0 rfl in_X0 (GA_o w2.2.2.1) (by decide) fn_X5_100 rfl rfl rfl (by first | rfl | decide) (by first | rfl | decide) (Nat.le_of_ble_eq_true rfl) dX5_set_45 ?_
      refine V.heap (pG_num w2.2.2.1 7 _ rfl) ?_
      refine r_iload_n C dX5_set_48 rfl rfl ?_
      exact V.retx (r_iret C rfl (Nat.le_of_ble_eq_true rfl) (Nat.le_of_ble_eq_true rfl) (⟨rfl, by simp [c_2, e_2, c_8, e_8], hs1, hfr.trans fr_G, q, Sq, hq, RA_G w2⟩) dX5_set_49)
    · have e_8 := i32_lt c_8
      exact r_throw C Z lt_IA (is := 98) (by simp [SR]; try rfl) dX5_set_11 dX5_set_14 dX5_set_15 dX5_set_17 dX5_set_20 (Nat.le_of_ble_eq_true rfl) (Nat.le_of_ble_eq_true rfl) (Nat.le_of_ble_eq_true rfl) (Nat.le_of_ble_eq_true rfl) (Nat.le_of_ble_eq_true rfl) (Nat.le_of_ble_eq_true rfl) (fun s1 hs1 => ⟨by rw [show (!decide (a < 1) && !decide (9 < a)) = false by simp [c_2, e_2, c_8, e_8]]; rfl, rfl, hs1⟩)
end
section
/-! THE CLASS'S OTHER CALLS -/
def th3 (b1 : Bool) (e1 : String) (b2 : Bool) (e2 : String) (b3 : Bool) (e3 : String) : Option String := if b1 then (if b2 then (if b3 then none else some e3) else some e2) else some e1
/-- behind a change of the text alone -/
def poX (G : ga_) (h : HP) (x : Nat) (dyn : Nat → Prop) (sz : Nat) (S : gS) (st sl : Nat → Option Nat) (D : Nat → gS) (nx z : Nat) (ok : Bool) (r : Int32) (cf2 : Nat → Int32) (len2 : Nat) : Option Value → HP → Nat → Prop := fun v h1 s1 => v = some (.int r) ∧ ok = true ∧ s1 = sz ∧ fr_ h h1 x dyn ∧ RA G h1 x dyn s1 S st sl D nx z cf2 len2
def okCh (a : Int32) : Bool := !decide (a < 33) && !decide (126 < a)
theorem clI {a : Int32} (h : ¬ a < 0) : a = nI a.toNatClampNeg := by
  have h0 : (0 : Int) ≤ a.toInt := by
    have := Int32.not_lt.mp h
    simpa [Int32.le_iff_toInt_le] using this
  apply Int32.toInt_inj.mp
  rw [nI_toInt (tn_lt a)]
  show a.toInt = ((a.toInt).toNat : Int)
  omega
set_option maxHeartbeats 800000 in
set_option maxRecDepth 100000 in
theorem c_X5_oil {G : ga_} {l : Launch} {h : HP} {sz : Nat} {x : Nat} {dyn : Nat → Prop} {S : gS} {st sl : Nat → Option Nat} {D : Nat → gS} {nx z len : Nat} {cf : Nat → Int32} {a : Int32} (hst : l.stackTraces = false) (w : RA G h x dyn sz S st sl D nx z cf len)  : Mx G l yX5_oil cX5_oil 2 (some .int) 6 94 12 393 [.ref x, .int a] h sz (poM G h x dyn sz S st sl D nx z cf len (g_over S || g_holds S (S 5 1) a) (g_oilA S a) (g_oil S a) len) (pxE h sz (th1 (g_over S || g_holds S (S 5 1) a) eIO)) := by
  refine Mx.ofV [(0, .ref x), (1, .int a)] hst (by decide) (Nat.le_of_ble_eq_true rfl) rfl ?_
  intro p e s m args below meth c C Z
  refine r_aload_n C dX5_oil_0 rfl rfl ?_
  refine r_get C (j := 0) rfl in_X5 (w.2.1) (by decide) fl_X5_10 rfl rfl dX5_oil_1 ?_
  refine r_cVi C (c_X0_isOver w.2.2.1) lk_X5_77 rfl (GA_o w.2.2.1) rfl rfl ⟨(Nat.le_of_ble_eq_true rfl), (Nat.le_of_ble_eq_true rfl), (Nat.le_of_ble_eq_true rfl), (Nat.le_of_ble_eq_true rfl), (Nat.le_of_ble_eq_true rfl)⟩ dX5_oil_4 ?_
  refine r_if_ne C 38 dX5_oil_7 (by decide) (fun c_7 => ?_) (fun c_7 => ?_)
  · have c_7 := bI_t c_7
    refine r_aload_n C dX5_oil_38 rfl rfl ?_
    refine r_get C (j := 3) rfl in_X5 (w.2.1) (by decide) fl_X5_33 rfl rfl dX5_oil_39 ?_
    refine r_aload_n C dX5_oil_42 rfl rfl ?_
    refine r_get C (j := 0) rfl in_X5 (w.2.1) (by decide) fl_X5_10 rfl rfl dX5_oil_43 ?_
    refine r_callV C (c_rem w) lk_X5_52 rfl (RA_pa w).1 rfl rfl ⟨(Nat.le_of_ble_eq_true rfl), (Nat.le_of_ble_eq_true rfl), (Nat.le_of_ble_eq_true rfl), (Nat.le_of_ble_eq_true rfl), (Nat.le_of_ble_eq_true rfl)⟩ dX5_oil_46 (fun v h1 s1 hp => ?_)
    obtain ⟨rfl, hs1, hfr, q, Sq, hq, w2⟩ := hp
    refine V.stack (st2 := []) rfl ?_
    refine r_aload_n C dX5_oil_49 rfl rfl ?_
    refine r_get C (j := 0) rfl in_X5 (w2.2.1) (by decide) fl_X5_10 rfl rfl dX5_oil_50 ?_
    refine r_iload_n C dX5_oil_53 rfl rfl ?_
    refine r_cVi C (c_X0_oilTile w2.2.2.1) lk_X5_94 rfl (GA_o w2.2.2.1) rfl rfl ⟨(Nat.le_of_ble_eq_true rfl), (Nat.le_of_ble_eq_true rfl), (Nat.le_of_ble_eq_true rfl), (Nat.le_of_ble_eq_true rfl), (Nat.le_of_ble_eq_true rfl)⟩ dX5_oil_54 ?_
    exact V.retx (r_iret C rfl (Nat.le_of_ble_eq_true rfl) (Nat.le_of_ble_eq_true rfl) (⟨rfl, by simp [c_7], hs1, hfr.trans fr_G, q, Sq, hq, RA_G w2⟩) dX5_oil_57)
  · have c_7 := bI_f c_7
    refine r_aload_n C dX5_oil_10 rfl rfl ?_
    refine r_get C (j := 0) rfl in_X5 (w.2.1) (by decide) fl_X5_10 rfl rfl dX5_oil_11 ?_
    refine r_aload_n C dX5_oil_14 rfl rfl ?_
    refine r_get C (j := 0) rfl in_X5 (w.2.1) (by decide) fl_X5_10 rfl rfl dX5_oil_15 ?_
    refine r_getN C (j := 6) rfl in_X0 (GA_o w.2.2.1) (by decide) fn_X5_81 rfl rfl dX5_oil_18 ?_
    refine r_iload_n C dX5_oil_21 rfl rfl ?_
    refine r_cVi C (c_X0_holdsPlace w.2.2.1) lk_X5_85 rfl (GA_o w.2.2.1) rfl rfl ⟨(Nat.le_of_ble_eq_true rfl), (Nat.le_of_ble_eq_true rfl), (Nat.le_of_ble_eq_true rfl), (Nat.le_of_ble_eq_true rfl), (Nat.le_of_ble_eq_true rfl)⟩ dX5_oil_22 ?_
    refine r_if_ne C 38 dX5_oil_25 (by decide) (fun c_25 => ?_) (fun c_25 => ?_)
    · have c_25 := bI_t c_25
      refine r_aload_n C dX5_oil_38 rfl rfl ?_
      refine r_get C (j := 3) rfl in_X5 (w.2.1) (by decide) fl_X5_33 rfl rfl dX5_oil_39 ?_
      refine r_aload_n C dX5_oil_42 rfl rfl ?_
      refine r_get C (j := 0) rfl in_X5 (w.2.1) (by decide) fl_X5_10 rfl rfl dX5_oil_43 ?_
      refine r_callV C (c_rem w) lk_X5_52 rfl (RA_pa w).1 rfl rfl ⟨(Nat.le_of_ble_eq_true rfl), (Nat.le_of_ble_eq_true rfl), (Nat.le_of_ble_eq_true rfl), (Nat.le_of_ble_eq_true rfl), (Nat.le_of_ble_eq_true rfl)⟩ dX5_oil_46 (fun v h1 s1 hp => ?_)
      obtain ⟨rfl, hs1, hfr, q, Sq, hq, w2⟩ := hp
      refine V.stack (st2 := []) rfl ?_
      refine r_aload_n C dX5_oil_49 rfl rfl ?_
      refine r_get C (j := 0) rfl in_X5 (w2.2.1) (by decide) fl_X5_10 rfl rfl dX5_oil_50 ?_
      refine r_iload_n C dX5_oil_53 rfl rfl ?_
      refine r_cVi C (c_X0_oilTile w2.2.2.1) lk_X5_94 rfl (GA_o w2.2.2.1) rfl rfl ⟨(Nat.le_of_ble_eq_true rfl), (Nat.le_of_ble_eq_true rfl), (Nat.le_of_ble_eq_true rfl), (Nat.le_of_ble_eq_true rfl), (Nat.le_of_ble_eq_true rfl)⟩ dX5_oil_54 ?_
      exact V.retx (r_iret C rfl (Nat.le_of_ble_eq_true rfl) (Nat.le_of_ble_eq_true rfl) (⟨rfl, by simp [c_7, c_25], hs1, hfr.trans fr_G, q, Sq, hq, RA_G w2⟩) dX5_oil_57)
    · have c_25 := bI_f c_25
      exact r_throw C Z lt_IO (is := 91) (by simp [SR]; try rfl) dX5_oil_28 dX5_oil_31 dX5_oil_32 dX5_oil_34 dX5_oil_37 (Nat.le_of_ble_eq_true rfl) (Nat.le_of_ble_eq_true rfl) (Nat.le_of_ble_eq_true rfl) (Nat.le_of_ble_eq_true rfl) (Nat.le_of_ble_eq_true rfl) (Nat.le_of_ble_eq_true rfl) (fun s1 hs1 => ⟨by rw [show (g_over S || g_holds S (S 5 1) a) = false by simp [c_7, c_25]]; rfl, rfl, hs1⟩)

theorem pG_bl {G : ga_} {h : HP} {q : Nat} {S : gS} {e : va_E} : pG G (up_ h q e) q S = pG G h q S := by
  funext a
  by_cases c : q ≤ a ∧ a < q + 11
  · rw [pG_in c.1 c.2, pG_in c.1 c.2]
  · rw [pG_out (by omega), pG_out (by omega), up_n (by omega)]
theorem pG_up {G : ga_} {h : HP} {q b : Nat} {S : gS} {e : va_E} (d : b < q ∨ q + 11 ≤ b) : pG G (up_ h b e) q S = up_ (pG G h q S) b e := by
  funext a
  by_cases c : q ≤ a ∧ a < q + 11
  · rw [pG_in c.1 c.2, up_n (by omega), pG_in c.1 c.2]
  · rw [pG_out (by omega)]
    by_cases c2 : a = b
    · rw [c2, up_s, up_s]
    · rw [up_n c2, up_n c2, pG_out (by omega)]
theorem RA_saved {G : ga_} {h : HP} {x sz j q : Nat} {dyn : Nat → Prop} {S : gS} {st sl : Nat → Option Nat} {D : Nat → gS} {nx z len : Nat} {cf : Nat → Int32} (w : RA G h x dyn sz S st sl D nx z cf len) (hj : j < 6) (e : st j = some q) : x + 21 ≤ q ∧ q + 11 ≤ sz ∧ GA G h q (D q) := by
  obtain ⟨k1, k2, k3⟩ := w.2.2.2.2.2.2.2.2.1.2.1 j q (by omega) (by unfold gmI; rw [if_pos hj]; exact e)
  exact ⟨w.1.2 q (k1 q (Nat.le_refl _) (by omega)), k2, k3⟩
theorem sl_ix {a : Int32} (h0 : ¬ a < 0) (h1 : a < 2) : a.toNatClampNeg < 2 := by
  have e := clI h0
  rw [e] at h1
  exact (nI_ltI (tn_lt a) (by decide)).mp (show nI _ < nI 2 from h1)
theorem sl_in {a : Int32} (h0 : ¬ a < 0) (h1 : a < 2) : vp_in a 2 := fun q => by
  rcases q with q | q
  · exact h0 q
  · have := sl_ix h0 h1; omega
theorem RA_P {G : ga_} {h : HP} {x sz : Nat} {dyn : Nat → Prop} {S : gS} {st sl : Nat → Option Nat} {D : Nat → gS} {nx z len nx2 z2 : Nat} {cf : Nat → Int32} (w : RA G h x dyn sz S st sl D nx z cf len) (h1 : nx2 < 6) (h2 : z2 ≤ 6) : RA G (pP G h (x + 18) st (nI nx2) (nI z2)) x dyn sz S st sl D nx2 z2 cf len := by
  obtain ⟨w0, w1, w2, -, ⟨hf, of, t, w5, w6, w7, w8⟩, ⟨w9, w10⟩, ⟨w11, w12⟩, w13, w14, w15, w16, w17⟩ := w
  exact ⟨w0, (pP_out (by omega)).trans w1, w2.eq (fun a h1 h2 => pP_out (by omega)), trivial, ⟨hf, of, t, (pP_out (by omega)).trans w5, (pP_out (by omega)).trans w6, (pP_out (by omega)).trans w7, (pP_out (by omega)).trans w8⟩, ⟨(pP_out (by omega)).trans w9, (pP_out (by omega)).trans w10⟩, PA_pP, (pP_out (by omega)).trans w13, w14.eq (Nat.le_refl _) (fun a ha => by have := w0.2 a ha; exact pP_out (by omega)), h1, h2, w17⟩
theorem fr_P {G : ga_} {h : HP} {x : Nat} {dyn : Nat → Prop} {st : Nat → Option Nat} {nx z : Int32} : fr_ h (pP G h (x + 18) st nx z) x dyn := fun a _ hb => pP_out (by omega)
def kD (sl : Nat → Option Nat) (D : Nat → gS) (j : Nat) : gS := match sl j with
  | some r => D r
  | none => gS0
theorem GA_up {G : ga_} {h : HP} {g b : Nat} {S : gS} {e : va_E} (w : GA G h g S) (d : b < g ∨ g + 11 ≤ b) : GA G (up_ h b e) g S := w.eq (fun a h1 h2 => up_n (by omega))
theorem va_upid {f : Nat → Option Nat} {k q : Nat} (h : f k = some q) : va_up f k (some q) = f := by funext a; by_cases c : a = k <;> simp [va_up, c, h]
theorem nI_inj0 {z : Nat} (h : z ≤ 6) (e : nI z = 0) : z = 0 := by
  have := congrArg Int32.toNatClampNeg e
  rw [nI_clamp (by omega)] at this
  exact this
set_option maxHeartbeats 800000 in
set_option maxRecDepth 100000 in
theorem c_X5_undo {G : ga_} {l : Launch} {h : HP} {sz : Nat} {x : Nat} {dyn : Nat → Prop} {S : gS} {st sl : Nat → Option Nat} {D : Nat → gS} {nx z len : Nat} {cf : Nat → Int32}  (hst : l.stackTraces = false) (w : RA G h x dyn sz S st sl D nx z cf len) (hs : z ≠ 0 → (st (p_last nx)).isSome = true) : Mx G l yX5_undo cX5_undo 1 (some .int) 6 94 1 6 [.ref x] h sz (fun v h1 s1 => z ≠ 0 ∧ s1 = sz ∧ fr_ h h1 x dyn ∧ ∃ q, st (p_last nx) = some q ∧ v = some (.int (nI (z - 1))) ∧ RA G h1 x dyn s1 (g_bec S (D q)) st sl D (p_last nx) (z - 1) cf len) (pxE h sz (th1 (!decide (z = 0)) eIS)) := by
  refine Mx.ofV [(0, .ref x)] hst (by decide) (Nat.le_of_ble_eq_true rfl) rfl ?_
  intro p e s m args below meth c C Z
  have hz6 : z ≤ 6 := w.2.2.2.2.2.2.2.2.2.2.1
  refine r_aload_n C dX5_undo_0 rfl rfl ?_
  refine r_get C (j := 3) rfl in_X5 (w.2.1) (by decide) fl_X5_33 rfl rfl dX5_undo_1 ?_
  refine r_getN C (j := 2) rfl in_X1 ((RA_pa w).1) (by decide) fn_X5_135 rfl rfl dX5_undo_4 ?_
  refine r_if_ne C 20 dX5_undo_7 (by decide) (fun c_7 => ?_) (fun c_7 => ?_)
  · have hz0 : z ≠ 0 := fun q => c_7 (by rw [q]; rfl)
    obtain ⟨q, hq⟩ := Option.isSome_iff_exists.mp (hs hz0)
    have gq := RA_saved w (p_last_lt w.2.2.2.2.2.2.2.2.2.1) hq
    have hz1 : z - 1 < 6 := by omega
    have wp : PA G h (x + 18) st (nI nx) (nI (z - 1 + 1)) := by rw [show z - 1 + 1 = z by omega]; exact RA_pa w
    refine r_aload_n C dX5_undo_20 rfl rfl ?_
    refine r_get C (j := 3) rfl in_X5 (w.2.1) (by decide) fl_X5_33 rfl rfl dX5_undo_21 ?_
    refine r_aload_n C dX5_undo_24 rfl rfl ?_
    refine r_get C (j := 0) rfl in_X5 (w.2.1) (by decide) fl_X5_10 rfl rfl dX5_undo_25 ?_
    refine r_cVv C (c_X1_restore wp w.2.2.1 w.2.2.2.2.2.2.2.2.2.1 hz1 hq gq.2.2 (by omega) (by omega) (by omega)) lk_X5_140 rfl ((RA_pa w).1) rfl rfl ⟨(Nat.le_of_ble_eq_true rfl), (Nat.le_of_ble_eq_true rfl), (Nat.le_of_ble_eq_true rfl), (Nat.le_of_ble_eq_true rfl), (Nat.le_of_ble_eq_true rfl)⟩ dX5_undo_28 ?_
    refine r_aload_n C dX5_undo_31 rfl rfl ?_
    refine r_get C (j := 3) rfl in_X5 ((RA_P (RA_G w) (p_last_lt w.2.2.2.2.2.2.2.2.2.1) (Nat.le_of_lt hz1)).2.1) (by decide) fl_X5_33 rfl rfl dX5_undo_32 ?_
    refine r_getN C (j := 2) rfl in_X1 ((RA_pa (RA_P (RA_G w) (p_last_lt w.2.2.2.2.2.2.2.2.2.1) (Nat.le_of_lt hz1))).1) (by decide) fn_X5_135 rfl rfl dX5_undo_35 ?_
    exact V.retx (r_iret C rfl (Nat.le_of_ble_eq_true rfl) (Nat.le_of_ble_eq_true rfl) (⟨by omega, rfl, fr_G.trans fr_P, q, hq, rfl, RA_P (RA_G w) (p_last_lt w.2.2.2.2.2.2.2.2.2.1) (by omega)⟩) dX5_undo_38)
  · exact r_throw C Z lt_IS (is := 138) (by simp [SR]; try rfl) dX5_undo_10 dX5_undo_13 dX5_undo_14 dX5_undo_16 dX5_undo_19 (Nat.le_of_ble_eq_true rfl) (Nat.le_of_ble_eq_true rfl) (Nat.le_of_ble_eq_true rfl) (Nat.le_of_ble_eq_true rfl) (Nat.le_of_ble_eq_true rfl) (Nat.le_of_ble_eq_true rfl) (fun s1 hs1 => ⟨by rw [show z = 0 from nI_inj0 hz6 c_7]; rfl, rfl, hs1⟩)

/-- the trains behind take: what the halves are -/
def k_hf (S : gS) (p : Int32) (hf : Nat → Int32) : Nat → Int32 := t_tk S p hf (min (g_held S p).toNatClampNeg 10)
def k_k (S : gS) (p : Int32) : Nat := (g_held S p).toNatClampNeg
def k_long (S : gS) (p g : Int32) (hf of : Nat → Int32) : Int32 := t_most (t_of (k_hf S p hf) (k_k S p) g of) (k_k S p)
def k_try (S : gS) (p g : Int32) (hf of : Nat → Int32) : Int32 := t_whole (t_of (k_hf S p hf) (k_k S p) g of) (k_k S p)
def k_count (S : gS) (p g : Int32) (hf : Nat → Int32) : Int32 := t_count (k_hf S p hf) (k_k S p) g
theorem RA_ta {G : ga_} {h : HP} {x sz : Nat} {dyn : Nat → Prop} {S : gS} {st sl : Nat → Option Nat} {D : Nat → gS} {nx z len : Nat} {cf : Nat → Int32} (w : RA G h x dyn sz S st sl D nx z cf len) : ∃ hf of t, TA G h (x + 12) hf of t := w.2.2.2.2.1
theorem c_takeR {G : ga_} {l : Launch} {h : HP} {sz : Nat} {x : Nat} {dyn : Nat → Prop} {S : gS} {st sl : Nat → Option Nat} {D : Nat → gS} {nx z len : Nat} {cf : Nat → Int32} {hf of : Nat → Int32} {t a : Int32} (w : RA G (pT G h (x + 12) hf of t) x dyn sz S st sl D nx z cf len) (hk : ¬ g_held S a < 0) : Mf G l yX4_take cX4_take 5 none 2 44 0 0 [.ref (x + 12), .ref (x + 1), .int a] (pT G h (x + 12) hf of t) sz none (pT G h (x + 12) (k_hf S a hf) of (nI (k_k S a))) sz := by
  have k := c_X4_take (G := G) (l := l) (sz := sz) (a := a) (TA_pT (G := G) (h := h) (tr := x + 12) (hf := hf) (of := of) (n := t)) w.2.2.1 (by omega)
  rw [pT_pT] at k
  unfold k_k k_hf
  rw [← clI hk]
  exact k
set_option maxHeartbeats 800000 in
set_option maxRecDepth 100000 in
theorem c_X5_longest {G : ga_} {l : Launch} {h : HP} {sz : Nat} {x : Nat} {dyn : Nat → Prop} {S : gS} {st sl : Nat → Option Nat} {D : Nat → gS} {nx z len : Nat} {cf : Nat → Int32} {a b : Int32} (hst : l.stackTraces = false) (w : RA G h x dyn sz S st sl D nx z cf len) (hk : g_has S a = true → ¬ g_held S a < 0) : Mx G l yX5_longest cX5_longest 3 (some .int) 7 111 2 12 [.ref x, .int a, .int b] h sz (fun v h1 s1 => (g_has S a && okN b 7) = true ∧ s1 = sz ∧ fr_ h h1 x dyn ∧ RA G h1 x dyn s1 S st sl D nx z cf len ∧ ∃ hf of, v = some (.int (k_long S a b hf of))) (pxE h sz (th2 (g_has S a) eIO (okN b 7) eIA)) := by
  refine Mx.ofV [(0, .ref x), (1, .int a), (2, .int b)] hst (by decide) (Nat.le_of_ble_eq_true rfl) rfl ?_
  intro p e s m args below meth c C Z
  refine r_aload_n C dX5_longest_0 rfl rfl ?_
  refine r_iload_n C dX5_longest_1 rfl rfl ?_
  refine r_xV C Z (c_X5_requirePlayer hst w.2.1 w.2.2.1) lk_X5_158 rfl w.2.1 rfl rfl ⟨(Nat.le_of_ble_eq_true rfl), (Nat.le_of_ble_eq_true rfl), (Nat.le_of_ble_eq_true rfl), (Nat.le_of_ble_eq_true rfl), (Nat.le_of_ble_eq_true rfl)⟩ dX5_longest_2 (Nat.le_of_ble_eq_true rfl) (Nat.le_of_ble_eq_true rfl) (fun E h1 s1 q0 => by obtain ⟨rfl, rfl, q1, q2⟩ := q0; exact ⟨by simp [th2, q2], rfl, q1⟩) (fun v h1 s1 q0 => ?_)
  obtain ⟨rfl, rfl, rfl, ok_2⟩ := q0
  refine V.stack (st2 := []) rfl ?_
  refine r_iload_n C dX5_longest_5 rfl rfl ?_
  refine r_xS C Z (c_X5_requireGrade hst) lk_X5_182 rfl rfl ⟨(Nat.le_of_ble_eq_true rfl), (Nat.le_of_ble_eq_true rfl), (Nat.le_of_ble_eq_true rfl), (Nat.le_of_ble_eq_true rfl), (Nat.le_of_ble_eq_true rfl)⟩ dX5_longest_6 (Nat.le_of_ble_eq_true rfl) (Nat.le_of_ble_eq_true rfl) (fun E h1 s1 q0 => by obtain ⟨rfl, rfl, q1, q2⟩ := q0; exact ⟨by simp only [th2, ok_2, q2]; rfl, rfl, q1⟩) (fun v h1 s1 q0 => ?_)
  obtain ⟨rfl, rfl, rfl, ok_6⟩ := q0
  refine V.stack (st2 := []) rfl ?_
  obtain ⟨hf, of, t, wt⟩ := RA_ta w
  refine V.heap (pT_id wt).symm ?_
  refine r_aload_n C dX5_longest_9 rfl rfl ?_
  refine r_get C (j := 1) rfl in_X5 ((RA_T w).2.1) (by decide) fl_X5_19 rfl rfl dX5_longest_10 ?_
  refine r_aload_n C dX5_longest_13 rfl rfl ?_
  refine r_get C (j := 0) rfl in_X5 ((RA_T w).2.1) (by decide) fl_X5_10 rfl rfl dX5_longest_14 ?_
  refine r_iload_n C dX5_longest_17 rfl rfl ?_
  refine r_cVv C (c_takeR (RA_T w) (hk ok_2)) lk_X5_185 rfl (TA_pT.1) rfl rfl ⟨(Nat.le_of_ble_eq_true rfl), (Nat.le_of_ble_eq_true rfl), (Nat.le_of_ble_eq_true rfl), (Nat.le_of_ble_eq_true rfl), (Nat.le_of_ble_eq_true rfl)⟩ dX5_longest_18 ?_
  refine r_aload_n C dX5_longest_21 rfl rfl ?_
  refine r_get C (j := 1) rfl in_X5 ((RA_T w).2.1) (by decide) fl_X5_19 rfl rfl dX5_longest_22 ?_
  refine r_iload_n C dX5_longest_25 rfl rfl ?_
  refine r_cVv C (c_X4_tryFrom TA_pT rfl (tn_lt _)) lk_X5_189 rfl (TA_pT.1) rfl rfl ⟨(Nat.le_of_ble_eq_true rfl), (Nat.le_of_ble_eq_true rfl), (Nat.le_of_ble_eq_true rfl), (Nat.le_of_ble_eq_true rfl), (Nat.le_of_ble_eq_true rfl)⟩ dX5_longest_26 ?_
  refine V.heap pT_pT ?_
  refine r_aload_n C dX5_longest_29 rfl rfl ?_
  refine r_get C (j := 1) rfl in_X5 ((RA_T w).2.1) (by decide) fl_X5_19 rfl rfl dX5_longest_30 ?_
  refine r_cVi C (c_X4_mostTiles TA_pT rfl (tn_lt _)) lk_X5_192 rfl (TA_pT.1) rfl rfl ⟨(Nat.le_of_ble_eq_true rfl), (Nat.le_of_ble_eq_true rfl), (Nat.le_of_ble_eq_true rfl), (Nat.le_of_ble_eq_true rfl), (Nat.le_of_ble_eq_true rfl)⟩ dX5_longest_33 ?_
  exact V.retx (r_iret C rfl (Nat.le_of_ble_eq_true rfl) (Nat.le_of_ble_eq_true rfl) ⟨by simp only [ok_2, ok_6, Bool.and_self], rfl, fr_T, RA_T w, hf, of, rfl⟩ dX5_longest_36)

set_option maxHeartbeats 800000 in
set_option maxRecDepth 100000 in
theorem c_X5_whole {G : ga_} {l : Launch} {h : HP} {sz : Nat} {x : Nat} {dyn : Nat → Prop} {S : gS} {st sl : Nat → Option Nat} {D : Nat → gS} {nx z len : Nat} {cf : Nat → Int32} {a b d : Int32} (hst : l.stackTraces = false) (w : RA G h x dyn sz S st sl D nx z cf len) (hk : g_has S a = true → ¬ g_held S a < 0) : Mx G l yX5_whole cX5_whole 4 (some .int) 7 111 3 18 [.ref x, .int a, .int b, .int d] h sz (fun v h1 s1 => (g_has S a && okN b 7 && okN d 2) = true ∧ s1 = sz ∧ fr_ h h1 x dyn ∧ RA G h1 x dyn s1 S st sl D nx z cf len ∧ ∃ hf of, v = some (.int (if d = 1 then k_count S a b hf else k_try S a b hf of))) (pxE h sz (th3 (g_has S a) eIO (okN b 7) eIA (okN d 2) eIA)) := by
  refine Mx.ofV [(0, .ref x), (1, .int a), (2, .int b), (3, .int d)] hst (by decide) (Nat.le_of_ble_eq_true rfl) rfl ?_
  intro p e s m args below meth c C Z
  refine r_aload_n C dX5_whole_0 rfl rfl ?_
  refine r_iload_n C dX5_whole_1 rfl rfl ?_
  refine r_xV C Z (c_X5_requirePlayer hst w.2.1 w.2.2.1) lk_X5_158 rfl w.2.1 rfl rfl ⟨(Nat.le_of_ble_eq_true rfl), (Nat.le_of_ble_eq_true rfl), (Nat.le_of_ble_eq_true rfl), (Nat.le_of_ble_eq_true rfl), (Nat.le_of_ble_eq_true rfl)⟩ dX5_whole_2 (Nat.le_of_ble_eq_true rfl) (Nat.le_of_ble_eq_true rfl) (fun E h1 s1 q0 => by obtain ⟨rfl, rfl, q1, q2⟩ := q0; exact ⟨by simp [th3, q2], rfl, q1⟩) (fun v h1 s1 q0 => ?_)
  obtain ⟨rfl, rfl, rfl, ok_2⟩ := q0
  refine V.stack (st2 := []) rfl ?_
  refine r_iload_n C dX5_whole_5 rfl rfl ?_
  refine r_xS C Z (c_X5_requireGrade hst) lk_X5_182 rfl rfl ⟨(Nat.le_of_ble_eq_true rfl), (Nat.le_of_ble_eq_true rfl), (Nat.le_of_ble_eq_true rfl), (Nat.le_of_ble_eq_true rfl), (Nat.le_of_ble_eq_true rfl)⟩ dX5_whole_6 (Nat.le_of_ble_eq_true rfl) (Nat.le_of_ble_eq_true rfl) (fun E h1 s1 q0 => by obtain ⟨rfl, rfl, q1, q2⟩ := q0; exact ⟨by simp only [th3, ok_2, q2]; rfl, rfl, q1⟩) (fun v h1 s1 q0 => ?_)
  obtain ⟨rfl, rfl, rfl, ok_6⟩ := q0
  refine V.stack (st2 := []) rfl ?_
  refine r_iload_n C dX5_whole_9 rfl rfl ?_
  refine r_iconst C (v := 2) dX5_whole_10 rfl ?_
  refine r_xS C Z (c_X5_requireWhat hst) lk_X5_145 rfl rfl ⟨(Nat.le_of_ble_eq_true rfl), (Nat.le_of_ble_eq_true rfl), (Nat.le_of_ble_eq_true rfl), (Nat.le_of_ble_eq_true rfl), (Nat.le_of_ble_eq_true rfl)⟩ dX5_whole_11 (Nat.le_of_ble_eq_true rfl) (Nat.le_of_ble_eq_true rfl) (fun E h1 s1 q0 => by obtain ⟨rfl, rfl, q1, q2⟩ := q0; exact ⟨by simp only [th3, ok_2, ok_6, q2]; rfl, rfl, q1⟩) (fun v h1 s1 q0 => ?_)
  obtain ⟨rfl, rfl, rfl, ok_11⟩ := q0
  refine V.stack (st2 := []) rfl ?_
  obtain ⟨hf, of, t, wt⟩ := RA_ta w
  refine V.heap (pT_id wt).symm ?_
  refine r_aload_n C dX5_whole_14 rfl rfl ?_
  refine r_get C (j := 1) rfl in_X5 ((RA_T w).2.1) (by decide) fl_X5_19 rfl rfl dX5_whole_15 ?_
  refine r_aload_n C dX5_whole_18 rfl rfl ?_
  refine r_get C (j := 0) rfl in_X5 ((RA_T w).2.1) (by decide) fl_X5_10 rfl rfl dX5_whole_19 ?_
  refine r_iload_n C dX5_whole_22 rfl rfl ?_
  refine r_cVv C (c_takeR (RA_T w) (hk ok_2)) lk_X5_185 rfl (TA_pT.1) rfl rfl ⟨(Nat.le_of_ble_eq_true rfl), (Nat.le_of_ble_eq_true rfl), (Nat.le_of_ble_eq_true rfl), (Nat.le_of_ble_eq_true rfl), (Nat.le_of_ble_eq_true rfl)⟩ dX5_whole_23 ?_
  refine r_iload_n C dX5_whole_26 rfl rfl ?_
  refine r_iconst C (v := 1) dX5_whole_27 rfl ?_
  refine r_icmp_ne C 40 dX5_whole_28 (by decide) (fun c_28 => ?_) (fun c_28 => ?_)
  · refine r_aload_n C dX5_whole_40 rfl rfl ?_
    refine r_get C (j := 1) rfl in_X5 ((RA_T w).2.1) (by decide) fl_X5_19 rfl rfl dX5_whole_41 ?_
    refine r_iload_n C dX5_whole_44 rfl rfl ?_
    refine r_cVv C (c_X4_tryFrom TA_pT rfl (tn_lt _)) lk_X5_189 rfl (TA_pT.1) rfl rfl ⟨(Nat.le_of_ble_eq_true rfl), (Nat.le_of_ble_eq_true rfl), (Nat.le_of_ble_eq_true rfl), (Nat.le_of_ble_eq_true rfl), (Nat.le_of_ble_eq_true rfl)⟩ dX5_whole_45 ?_
    refine V.heap pT_pT ?_
    refine r_aload_n C dX5_whole_48 rfl rfl ?_
    refine r_get C (j := 1) rfl in_X5 ((RA_T w).2.1) (by decide) fl_X5_19 rfl rfl dX5_whole_49 ?_
    refine r_cVi C (c_X4_wholeByTrying TA_pT rfl (tn_lt _)) lk_X5_198 rfl (TA_pT.1) rfl rfl ⟨(Nat.le_of_ble_eq_true rfl), (Nat.le_of_ble_eq_true rfl), (Nat.le_of_ble_eq_true rfl), (Nat.le_of_ble_eq_true rfl), (Nat.le_of_ble_eq_true rfl)⟩ dX5_whole_52 ?_
    exact V.retx (r_iret C rfl (Nat.le_of_ble_eq_true rfl) (Nat.le_of_ble_eq_true rfl) ⟨by simp only [ok_2, ok_6, ok_11, Bool.and_self], rfl, fr_T, RA_T w, hf, of, by rw [if_neg c_28]; rfl⟩ dX5_whole_55)
  · refine r_aload_n C dX5_whole_31 rfl rfl ?_
    refine r_get C (j := 1) rfl in_X5 ((RA_T w).2.1) (by decide) fl_X5_19 rfl rfl dX5_whole_32 ?_
    refine r_iload_n C dX5_whole_35 rfl rfl ?_
    refine r_cVi C (c_X4_wholeByCounting TA_pT rfl (tn_lt _)) lk_X5_195 rfl (TA_pT.1) rfl rfl ⟨(Nat.le_of_ble_eq_true rfl), (Nat.le_of_ble_eq_true rfl), (Nat.le_of_ble_eq_true rfl), (Nat.le_of_ble_eq_true rfl), (Nat.le_of_ble_eq_true rfl)⟩ dX5_whole_36 ?_
    exact V.retx (r_iret C rfl (Nat.le_of_ble_eq_true rfl) (Nat.le_of_ble_eq_true rfl) ⟨by simp only [ok_2, ok_6, ok_11, Bool.and_self], rfl, fr_T, RA_T w, hf, of, by rw [if_pos c_28]; rfl⟩ dX5_whole_39)
end
section
/-! THE CONSTRUCTOR -/
theorem up_comm {h : HP} {a b : Nat} {e f : va_E} (d : a ≠ b) : up_ (up_ h a e) b f = up_ (up_ h b f) a e := by
  funext q
  by_cases c : q = b
  · rw [c, up_s, up_n (fun q => d q.symm), up_s]
  · rw [up_n c]
    by_cases c2 : q = a
    · rw [c2, up_s, up_s]
    · rw [up_n c2, up_n c2, up_n c]
theorem pT_up {G : ga_} {h : HP} {tr b : Nat} {hf of : Nat → Int32} {n : Int32} {e : va_E} (d : b < tr ∨ tr + 4 ≤ b) : pT G (up_ h b e) tr hf of n = up_ (pT G h tr hf of n) b e := by
  unfold pT
  rw [up_comm (show b ≠ tr by omega), up_comm (show b ≠ tr + 1 by omega), up_comm (show b ≠ tr + 2 by omega), up_comm (show b ≠ tr + 3 by omega)]
theorem pX_up {G : ga_} {h : HP} {tx b : Nat} {cf : Nat → Int32} {n : Int32} {e : va_E} (d : b < tx ∨ tx + 2 ≤ b) : pX G (up_ h b e) tx cf n = up_ (pX G h tx cf n) b e := by
  unfold pX
  rw [up_comm (show b ≠ tx by omega), up_comm (show b ≠ tx + 1 by omega)]
theorem pP_up {G : ga_} {h : HP} {pa b : Nat} {st : Nat → Option Nat} {nx z : Int32} {e : va_E} (d : b < pa ∨ pa + 2 ≤ b) : pP G (up_ h b e) pa st nx z = up_ (pP G h pa st nx z) b e := by
  unfold pP
  rw [up_comm (show b ≠ pa by omega), up_comm (show b ≠ pa + 1 by omega)]
theorem pT_bl {G : ga_} {h : HP} {tr : Nat} {hf of : Nat → Int32} {n : Int32} {e : va_E} : pT G (up_ h tr e) tr hf of n = pT G h tr hf of n := by
  unfold pT
  rw [up_up]
theorem pX_bl {G : ga_} {h : HP} {tx : Nat} {cf : Nat → Int32} {n : Int32} {e : va_E} : pX G (up_ h tx e) tx cf n = pX G h tx cf n := by
  unfold pX
  rw [up_up]
theorem pP_bl {G : ga_} {h : HP} {pa : Nat} {st : Nat → Option Nat} {nx z : Int32} {e : va_E} : pP G (up_ h pa e) pa st nx z = pP G h pa st nx z := by
  unfold pP
  rw [up_up]
/-- the heap as the constructor leaves it, ahead of the first game -/
def n_1 (G : ga_) (h : HP) (x : Nat) : HP := pG G h (x + 1) gS0
def n_3 (G : ga_) (h : HP) (x : Nat) : HP := pT G (n_1 G h x) (x + 12) (fun _ => 0) (fun _ => 0) 0
def n_4 (G : ga_) (h : HP) (x : Nat) : HP := pX G (n_3 G h x) (x + 16) (fun _ => 0) 0
def n_5 (G : ga_) (h : HP) (x : Nat) : HP := pP G (n_4 G h x) (x + 18) (fun _ => none) 0 0
def n_6 (G : ga_) (h : HP) (x : Nat) : HP := up_ (n_5 G h x) (x + 20) (aG_ G 2 (fun _ => none))
def n_7 (G : ga_) (h : HP) (x : Nat) : HP := up_ (n_6 G h x) x (ob_ 5 [.ref (x + 1), .ref (x + 12), .ref (x + 16), .ref (x + 18), .ref (x + 20)])
theorem n_ra {G : ga_} {h : HP} {x : Nat} {D : Nat → gS} : RA G (n_7 G h x) x (fun a => x + 21 ≤ a) (x + 21) gS0 (fun _ => none) (fun _ => none) D 0 0 (fun _ => 0) 0 := by
  have e7 : ∀ a, a ≠ x → n_7 G h x a = n_6 G h x a := fun a c => up_n c
  have e6 : ∀ a, a ≠ x + 20 → n_6 G h x a = n_5 G h x a := fun a c => up_n c
  have e5 : ∀ a, a < x + 18 → n_5 G h x a = n_4 G h x a := fun a c => pP_out (by omega)
  have e4 : ∀ a, a < x + 16 → n_4 G h x a = n_3 G h x a := fun a c => pX_out (by omega)
  have e3 : ∀ a, a < x + 12 → n_3 G h x a = n_1 G h x a := fun a c => pT_out (by omega)
  have w5 : PA G (n_5 G h x) (x + 18) (fun _ => none) (nI 0) (nI 0) := PA_pP
  have w4 : XA G (n_4 G h x) (x + 16) (fun _ => 0) (nI 0) := XA_pX
  have w3 : TA G (n_3 G h x) (x + 12) (fun _ => 0) (fun _ => 0) 0 := TA_pT
  have w1 : GA G (n_1 G h x) (x + 1) gS0 := GA_pG
  refine ⟨⟨Nat.le_refl _, fun _ q => q⟩, up_s _ _ _, w1.eq (fun a h1 h2 => ?_), trivial, ⟨fun _ => 0, fun _ => 0, 0, ?_, ?_, ?_, ?_⟩, ⟨?_, ?_⟩, ⟨?_, ?_⟩, ?_, ⟨fun _ q => q, fun i q hi hq => ?_, fun i j q r hi hj hij hq => ?_⟩, by decide, by decide, by decide⟩
  · rw [e7 _ (by omega), e6 _ (by omega), e5 _ (by omega), e4 _ (by omega), e3 _ (by omega)]
  · rw [e7 _ (by omega), e6 _ (by omega), e5 _ (by omega), e4 _ (by omega)]; exact w3.1
  · rw [e7 _ (by omega), e6 _ (by omega), e5 _ (by omega), e4 _ (by omega)]; exact w3.2.1
  · rw [e7 _ (by omega), e6 _ (by omega), e5 _ (by omega), e4 _ (by omega)]; exact w3.2.2.1
  · rw [e7 _ (by omega), e6 _ (by omega), e5 _ (by omega), e4 _ (by omega)]; exact w3.2.2.2
  · rw [e7 _ (by omega), e6 _ (by omega), e5 _ (by omega)]; exact w4.1
  · rw [e7 _ (by omega), e6 _ (by omega), e5 _ (by omega)]; exact w4.2
  · rw [e7 _ (by omega), e6 _ (by omega)]; exact w5.1
  · rw [e7 _ (by omega), e6 _ (by omega)]; exact w5.2
  · rw [e7 _ (by omega)]; unfold n_6; rw [up_s]
  · unfold gmI at hq; split at hq <;> cases hq
  · unfold gmI at hq; split at hq <;> cases hq
theorem n_out {G : ga_} {h : HP} {x a : Nat} (ha : a < x ∨ x + 21 ≤ a) : n_7 G h x a = h a := by
  unfold n_7
  rw [up_n (by omega)]
  unfold n_6
  rw [up_n (by omega)]
  unfold n_5
  rw [pP_out (by omega)]
  unfold n_4
  rw [pX_out (by omega)]
  unfold n_3
  rw [pT_out (by omega)]
  exact pG_out (by omega)
set_option maxHeartbeats 800000 in
set_option maxRecDepth 100000 in
theorem c_X5_init {G : ga_} {l : Launch} {h : HP} {x : Nat} (D : Nat → gS) (hx : h x = some (ob_ 5 [.null, .null, .null, .null, .null])) : Mg G l yX5_init cX5_init 1 none 5 110 60 1700 [.ref x] h (x + 1) (fun v h1 s1 => v = none ∧ s1 = x + 21 ∧ (∀ a, (a < x ∨ x + 21 ≤ a) → h1 a = h a) ∧ RA G h1 x (fun a => x + 21 ≤ a) (x + 21) (s_3 gS0 2 1) (fun _ => none) (fun _ => none) D 0 0 (fun _ => 0) 0) := by
  refine Mg.ofV [(0, .ref x)] (by decide) (Nat.le_of_ble_eq_true rfl) rfl ?_
  intro p e s m args below meth c C
  refine V.heap (up_id hx).symm ?_
  refine r_aload_n C dX5_init_0 rfl rfl ?_
  refine r_objInit C jl_X5_1 oi_inst oi_code (Nat.le_of_ble_eq_true rfl) (Nat.le_of_ble_eq_true rfl) dX5_init_1 ?_
  refine r_aload_n C dX5_init_4 rfl rfl ?_
  refine r_new C (ci := 0) (fs := [.null, .null, .null, .null, .null, .int 0, .int 0, .int 0, .int 0, .int 0, .int 0, .int 0, .int 0]) tyX0 tyX0_ok rfl in_X0 cl_X5_7 iz_X0 ii_X0 (fun j hj => by rcases (show j = 0 ∨ j = 1 ∨ j = 2 ∨ j = 3 ∨ j = 4 ∨ j = 5 ∨ j = 6 ∨ j = 7 ∨ j = 8 ∨ j = 9 ∨ j = 10 ∨ j = 11 ∨ j = 12 by omega) with rfl | rfl | rfl | rfl | rfl | rfl | rfl | rfl | rfl | rfl | rfl | rfl | rfl <;> rfl) (Nat.le_of_ble_eq_true rfl) (Nat.le_of_ble_eq_true rfl) dX5_init_5 ?_
  refine r_dup C dX5_init_8 rfl ?_
  refine r_cNv C (c_X0_init (up_s _ _ _)) lk_X5_9 rfl rfl ⟨(Nat.le_of_ble_eq_true rfl), (Nat.le_of_ble_eq_true rfl), (Nat.le_of_ble_eq_true rfl), (Nat.le_of_ble_eq_true rfl), (Nat.le_of_ble_eq_true rfl)⟩ dX5_init_9 ?_
  refine V.heap (show _ = (up_ (n_1 G h x) x (ob_ 5 [.null, .null, .null, .null, .null])) by rw [pG_bl, pG_up (by omega)]; rfl) ?_
  refine r_putF C (j := 0) tyX5 tyX5_ok nmX5 rfl in_X5 (up_s _ _ _) (by decide) fl_X5_10 rfl rfl rfl rfl rfl (by first | rfl | decide) (by first | rfl | decide) (Nat.le_of_ble_eq_true rfl) dX5_init_12 ?_
  refine V.heap (show _ = (up_ (n_1 G h x) x (ob_ 5 [.ref (x + 1), .null, .null, .null, .null])) from up_up _ _ _ _) ?_
  refine r_aload_n C dX5_init_15 rfl rfl ?_
  refine r_new C (ci := 4) (fs := [.null, .null, .int 0]) tyX4 tyX4_ok rfl in_X4 cl_X5_16 iz_X4 ii_X4 (fun j hj => by rcases (show j = 0 ∨ j = 1 ∨ j = 2 by omega) with rfl | rfl | rfl <;> rfl) (Nat.le_of_ble_eq_true rfl) (Nat.le_of_ble_eq_true rfl) dX5_init_16 ?_
  refine r_dup C dX5_init_19 rfl ?_
  refine r_cNv C (c_X4_init (up_s _ _ _)) lk_X5_18 rfl rfl ⟨(Nat.le_of_ble_eq_true rfl), (Nat.le_of_ble_eq_true rfl), (Nat.le_of_ble_eq_true rfl), (Nat.le_of_ble_eq_true rfl), (Nat.le_of_ble_eq_true rfl)⟩ dX5_init_20 ?_
  refine V.heap (show _ = (up_ (n_3 G h x) x (ob_ 5 [.ref (x + 1), .null, .null, .null, .null])) by rw [pT_bl, pT_up (by omega)]; rfl) ?_
  refine r_putF C (j := 1) tyX5 tyX5_ok nmX5 rfl in_X5 (up_s _ _ _) (by decide) fl_X5_19 rfl rfl rfl rfl rfl (by first | rfl | decide) (by first | rfl | decide) (Nat.le_of_ble_eq_true rfl) dX5_init_23 ?_
  refine V.heap (show _ = (up_ (n_3 G h x) x (ob_ 5 [.ref (x + 1), .ref (x + 12), .null, .null, .null])) from up_up _ _ _ _) ?_
  refine r_aload_n C dX5_init_26 rfl rfl ?_
  refine r_new C (ci := 3) (fs := [.null, .int 0]) tyX3 tyX3_ok rfl in_X3 cl_X5_23 iz_X3 ii_X3 (fun j hj => by rcases (show j = 0 ∨ j = 1 by omega) with rfl | rfl <;> rfl) (Nat.le_of_ble_eq_true rfl) (Nat.le_of_ble_eq_true rfl) dX5_init_27 ?_
  refine r_dup C dX5_init_30 rfl ?_
  refine r_cNv C (c_X3_init (up_s _ _ _)) lk_X5_25 rfl rfl ⟨(Nat.le_of_ble_eq_true rfl), (Nat.le_of_ble_eq_true rfl), (Nat.le_of_ble_eq_true rfl), (Nat.le_of_ble_eq_true rfl), (Nat.le_of_ble_eq_true rfl)⟩ dX5_init_31 ?_
  refine V.heap (show _ = (up_ (n_4 G h x) x (ob_ 5 [.ref (x + 1), .ref (x + 12), .null, .null, .null])) by rw [pX_bl, pX_up (by omega)]; rfl) ?_
  refine r_putF C (j := 2) tyX5 tyX5_ok nmX5 rfl in_X5 (up_s _ _ _) (by decide) fl_X5_26 rfl rfl rfl rfl rfl (by first | rfl | decide) (by first | rfl | decide) (Nat.le_of_ble_eq_true rfl) dX5_init_34 ?_
  refine V.heap (show _ = (up_ (n_4 G h x) x (ob_ 5 [.ref (x + 1), .ref (x + 12), .ref (x + 16), .null, .null])) from up_up _ _ _ _) ?_
  refine r_aload_n C dX5_init_37 rfl rfl ?_
  refine r_new C (ci := 1) (fs := [.null, .int 0, .int 0]) tyX1 tyX1_ok rfl in_X1 cl_X5_30 iz_X1 ii_X1 (fun j hj => by rcases (show j = 0 ∨ j = 1 ∨ j = 2 by omega) with rfl | rfl | rfl <;> rfl) (Nat.le_of_ble_eq_true rfl) (Nat.le_of_ble_eq_true rfl) dX5_init_38 ?_
  refine r_dup C dX5_init_41 rfl ?_
  refine r_cNv C (c_X1_init (up_s _ _ _)) lk_X5_32 rfl rfl ⟨(Nat.le_of_ble_eq_true rfl), (Nat.le_of_ble_eq_true rfl), (Nat.le_of_ble_eq_true rfl), (Nat.le_of_ble_eq_true rfl), (Nat.le_of_ble_eq_true rfl)⟩ dX5_init_42 ?_
  refine V.heap (show _ = (up_ (n_5 G h x) x (ob_ 5 [.ref (x + 1), .ref (x + 12), .ref (x + 16), .null, .null])) by rw [pP_bl, pP_up (by omega)]; rfl) ?_
  refine r_putF C (j := 3) tyX5 tyX5_ok nmX5 rfl in_X5 (up_s _ _ _) (by decide) fl_X5_33 rfl rfl rfl rfl rfl (by first | rfl | decide) (by first | rfl | decide) (Nat.le_of_ble_eq_true rfl) dX5_init_45 ?_
  refine V.heap (show _ = (up_ (n_5 G h x) x (ob_ 5 [.ref (x + 1), .ref (x + 12), .ref (x + 16), .ref (x + 18), .null])) from up_up _ _ _ _) ?_
  refine r_aload_n C dX5_init_48 rfl rfl ?_
  refine r_iconst C (v := 2) dX5_init_49 rfl ?_
  refine r_newG C cl_X5_7 (by decide) rfl (Nat.le_of_ble_eq_true rfl) (Nat.le_of_ble_eq_true rfl) (Nat.le_of_ble_eq_true rfl) dX5_init_50 ?_
  refine V.heap (show _ = (up_ (n_6 G h x) x (ob_ 5 [.ref (x + 1), .ref (x + 12), .ref (x + 16), .ref (x + 18), .null])) by rw [up_comm (show x ≠ x + 20 by omega)]; rfl) ?_
  refine r_putF C (j := 4) tyX5 tyX5_ok nmX5 rfl in_X5 (up_s _ _ _) (by decide) fl_X5_37 rfl rfl rfl rfl rfl (by first | rfl | decide) (by first | rfl | decide) (Nat.le_of_ble_eq_true rfl) dX5_init_53 ?_
  refine V.heap (show _ = n_7 G h x from up_up _ _ _ _) ?_
  refine r_aload_n C dX5_init_56 rfl rfl ?_
  refine r_get C (j := 0) rfl in_X5 ((n_ra (D := D)).2.1) (by decide) fl_X5_10 rfl rfl dX5_init_57 ?_
  refine r_iconst C (v := 2) dX5_init_60 rfl ?_
  refine r_iconst C (v := 1) dX5_init_61 rfl ?_
  refine r_cVv C (c_X0_start (n_ra (D := D)).2.2.1) lk_X5_41 rfl (GA_o (n_ra (D := D)).2.2.1) rfl rfl ⟨(Nat.le_of_ble_eq_true rfl), (Nat.le_of_ble_eq_true rfl), (Nat.le_of_ble_eq_true rfl), (Nat.le_of_ble_eq_true rfl), (Nat.le_of_ble_eq_true rfl)⟩ dX5_init_62 ?_
  exact r_vret C rfl (Nat.le_of_ble_eq_true rfl) (Nat.le_of_ble_eq_true rfl) ⟨rfl, rfl, fun a ha => (pG_out (by omega)).trans (n_out ha), RA_G n_ra⟩ dX5_init_65
end
