/-! THE LAYER: a heap is a function HP of addresses (what is known of it); V: the walk at a pc over such a heap; Mg: a method's contract over such heaps. Rows r_..: one an instruction. -/
abbrev HP : Type := Nat → Option va_E
abbrev ga_ : Type := va_G × (Nat → ClassId) × Nat × (Nat → Option Cell)
def up_ (h : HP) (a : Nat) (e : va_E) : HP := fun q => if q = a then some e else h q
theorem up_s (h : HP) (a : Nat) (e : va_E) : up_ h a e a = some e := by simp [up_]
theorem up_n {h : HP} {a b : Nat} {e : va_E} (hb : b ≠ a) : up_ h a e b = h b := by simp [up_, hb]
theorem up_up (h : HP) (a : Nat) (e e2 : va_E) : up_ (up_ h a e) a e2 = up_ h a e2 := by funext q; by_cases c : q = a <;> simp [up_, c]
def tys_ (cy : Nat → ClassId) : List (ClassId × FieldType) := [(cy 0, .int), (cy 1, .char), (cy 2, .int), (cy 3, .int), (cy 4, .object RX0)]
abbrev aI_ (G : ga_) (n : Nat) (f : Nat → Int32) : va_E := .inl (G.2.1 0, n, .inl f)
abbrev aC_ (G : ga_) (n : Nat) (f : Nat → Int32) : va_E := .inl (G.2.1 1, n, .inl f)
abbrev aG_ (G : ga_) (n : Nat) (f : Nat → Option Nat) : va_E := .inl (G.2.1 4, n, .inr (.inr (.inr (.inr f))))
abbrev ob_ (ci : Nat) (fs : List Value) : va_E := .inr (ci, fs)
def NB : List Cond := [(Jvm.Cond.methodLinkNest "RustTiles" (9 : Nat) ({ cls := "RustTiles$Game", name := "<init>", desc := "()V" } : Jvm.MethodName) "RustTiles"), (Jvm.Cond.methodLinkNest "RustTiles" (18 : Nat) ({ cls := "RustTiles$Trains", name := "<init>", desc := "()V" } : Jvm.MethodName) "RustTiles"), (Jvm.Cond.methodLinkNest "RustTiles" (25 : Nat) ({ cls := "RustTiles$Text", name := "<init>", desc := "()V" } : Jvm.MethodName) "RustTiles"), (Jvm.Cond.methodLinkNest "RustTiles" (32 : Nat) ({ cls := "RustTiles$Past", name := "<init>", desc := "()V" } : Jvm.MethodName) "RustTiles"), (Jvm.Cond.methodLinkNest "RustTiles$Past" (21 : Nat) ({ cls := "RustTiles$Game", name := "<init>", desc := "()V" } : Jvm.MethodName) "RustTiles"), (Jvm.Cond.fieldLinkNest "RustTiles$Trains" (41 : Nat) "RustTiles$Game" "tiles" "LRustTiles$Table;" "RustTiles"), (Jvm.Cond.fieldLinkNest "RustTiles" (148 : Nat) "RustTiles$Game" "tiles" "LRustTiles$Table;" "RustTiles"), (Jvm.Cond.fieldLinkNest "RustTiles$Trains" (34 : Nat) "RustTiles$Game" "hands" "LRustTiles$Table;" "RustTiles"), (Jvm.Cond.fieldLinkNest "RustTiles" (164 : Nat) "RustTiles$Game" "hands" "LRustTiles$Table;" "RustTiles"), (Jvm.Cond.fieldLinkNest "RustTiles" (173 : Nat) "RustTiles$Game" "rows" "LRustTiles$Table;" "RustTiles"), (Jvm.Cond.fieldLinkNest "RustTiles" (81 : Nat) "RustTiles$Game" "onMove" "I" "RustTiles"), (Jvm.Cond.fieldLinkNest "RustTiles" (100 : Nat) "RustTiles$Game" "interval" "I" "RustTiles"), (Jvm.Cond.fieldLinkNest "RustTiles" (135 : Nat) "RustTiles$Past" "size" "I" "RustTiles")]
def nbk_ : Cond → Bool
  | .fieldLinkNest _ _ _ _ _ _ => true
  | .methodLinkNest _ _ _ _ => true
  | _ => false
theorem nb_moved {w : Cond} (hw : nbk_ w = true) {s U : State} (hW : s.WarmedH U.vm) (h : va_Nw w s) : va_Nw w U := by
  cases w <;> first | exact va_Nw.warmF hW h | exact va_Nw.warmM hW h | exact absurd hw (by simp [nbk_])
theorem nb_same {w : Cond} (hw : nbk_ w = true) {s U : State} (hW : s.vm = U.vm) (h : va_Nw w s) : va_Nw w U := by
  cases w <;> first | exact va_Nw.same rfl hW h | exact absurd hw (by simp [nbk_])
theorem NB_ok : ∀ w ∈ NB, nbk_ w = true := List.all_eq_true.mp rfl
/-- what every method is told of the machine's tables -/
def XB : List String := ["java/lang/IllegalArgumentException", "java/lang/IllegalStateException", "java/lang/IndexOutOfBoundsException"]
/-- the classes that the law catches -/
def YB : List String := ["java/lang/IllegalArgumentException", "java/lang/IndexOutOfBoundsException"]
def DB : List MethodName := [Bundle.initS "java/lang/RuntimeException", Bundle.initS "java/lang/Exception", Bundle.initS Bundle.tN]
def SR : List (Nat × String) := [(47, "no such players or lot"), (91, "no such place in the hand"), (98, "no such setting"), (138, "no saved state"), (143, "no such tile"), (231, "no such row"), (233, "no such end"), (239, "no such player in this game"), (241, "a place below 0"), (243, "nothing of this number to tell"), (245, "no such grade")]
/-- what a throw and a catch want of the tables, and of the statics below lo -/
def ex_ (G : ga_) (U : State) : Prop := (∀ X ∈ XB, va_Nw (.castable X X) U) ∧ (∀ X ∈ XB, ∀ Y ∈ YB, X ≠ Y → va_Nc X Y U) ∧ (∀ q ∈ SR, ∃ sa, vk_R RX5 q.1 q.2 sa U) ∧ (∀ y ∈ DB, va_Nw (.declares y) U) ∧ ∃ H0 : Heap, (∀ q, q < G.2.2.1 → H0[q]? = G.2.2.2 q) ∧ vx_Zq Bundle.tN "UNASSIGNED_STACK" Bundle.steD (fun q => G.2.2.1 ≤ q) U H0 ∧ vx_Zq Bundle.tN "SUPPRESSED_SENTINEL" Bundle.listD (fun q => G.2.2.1 ≤ q) U H0
theorem ex_.moved {G : ga_} {s U : State} (hW : s.WarmedH U.vm) (h : ex_ G s) : ex_ G U := by
  obtain ⟨h1, h2, h3, hd, H0, h4, h5, h6⟩ := h
  refine ⟨fun X hX => va_Nw.warmC hW (h1 X hX), fun X hX Y hY n => (h2 X hX Y hY n).moved hW.alike, fun q hq => ?_, fun y hy => va_Nw.warmD hW (hd y hy), H0, h4, h5.moved hW.alike, h6.moved hW.alike⟩
  obtain ⟨sa, h⟩ := h3 q hq
  exact ⟨sa, h.warm hW⟩
theorem ex_.same {G : ga_} {s U : State} (hW : s.vm = U.vm) (h : ex_ G s) : ex_ G U := by
  obtain ⟨h1, h2, h3, hd, H0, h4, h5, h6⟩ := h
  have hA : s.vm.Alike U.vm := by rw [hW]; exact Vm.Alike.refl U.vm
  refine ⟨fun X hX => va_Nw.same rfl hW (h1 X hX), fun X hX Y hY n => (h2 X hX Y hY n).moved hA, fun q hq => ?_, fun y hy => va_Nw.same rfl hW (hd y hy), H0, h4, h5.moved hA, h6.moved hA⟩
  obtain ⟨sa, h⟩ := h3 q hq
  exact ⟨sa, h.same hW.symm⟩
def ev_ (G : ga_) (U : State) : Prop := va_K G.1 vwCl (tys_ G.2.1) U ∧ (∀ w ∈ NB, va_Nw w U) ∧ va_AO RX0 U ∧ ex_ G U
theorem ev_.moved {G : ga_} {s U : State} (hW : s.WarmedH U.vm) (h : ev_ G s) : ev_ G U := ⟨va_K.moved hW.alike h.1, fun w hw => nb_moved (NB_ok w hw) hW (h.2.1 w hw), va_AO.moved hW.alike h.2.2.1, ex_.moved hW h.2.2.2⟩
theorem ev_.same {G : ga_} {s U : State} (hW : s.vm = U.vm) (h : ev_ G s) : ev_ G U := ⟨va_K.moved (by rw [hW]; exact Vm.Alike.refl U.vm) h.1, fun w hw => nb_same (NB_ok w hw) hW (h.2.1 w hw), va_AO.moved (by rw [hW]; exact Vm.Alike.refl U.vm) h.2.2.1, ex_.same hW h.2.2.2⟩
/-- the heap H holds h, has sz cells, and is below lo as it was -/
def hr_ (G : ga_) (h : HP) (sz : Nat) (H : Heap) : Prop := H.size = sz ∧ G.2.2.1 ≤ sz ∧ (∀ q, q < G.2.2.1 → H[q]? = G.2.2.2 q) ∧ ∀ (a : Nat) (e : va_E), h a = some e → G.2.2.1 ≤ a ∧ va_at G.1 vwCl (a, e) H
theorem hr_.lt {G : ga_} {h : HP} {sz : Nat} {H : Heap} (w : hr_ G h sz H) {a : Nat} {e : va_E} (ha : h a = some e) : a < sz := by
  have := (w.2.2.2 a e ha).2.lt
  rw [w.1] at this
  exact this
theorem hr_.put {G : ga_} {h : HP} {sz : Nat} {H H1 : Heap} {a : Nat} {e : va_E} (w : hr_ G h sz H) (hl : G.2.2.1 ≤ a) (h1 : va_at G.1 vwCl (a, e) H1) (z : H1.size = H.size) (oq : ∀ q, q ≠ a → H1[q]? = H[q]?) : hr_ G (up_ h a e) sz H1 := by
  refine ⟨z.trans w.1, w.2.1, fun q hq => ?_, fun b e2 hb => ?_⟩
  · rw [oq q (by omega)]; exact w.2.2.1 q hq
  · by_cases c : b = a
    · subst c; rw [up_s] at hb; cases hb; exact ⟨hl, h1⟩
    · rw [up_n c] at hb
      exact ⟨(w.2.2.2 b e2 hb).1, (w.2.2.2 b e2 hb).2.kept (oq b c)⟩
theorem hr_.new {G : ga_} {h : HP} {sz : Nat} {H H1 : Heap} {e : va_E} (w : hr_ G h sz H) (h1 : va_at G.1 vwCl (sz, e) H1) (z : H1.size = sz + 1) (oq : ∀ q, q < sz → H1[q]? = H[q]?) : hr_ G (up_ h sz e) (sz + 1) H1 := by
  refine ⟨z, by have := w.2.1; omega, fun q hq => ?_, fun b e2 hb => ?_⟩
  · rw [oq q (by have := w.2.1; omega)]; exact w.2.2.1 q hq
  · by_cases c : b = sz
    · subst c; rw [up_s] at hb; cases hb; exact ⟨w.2.1, h1⟩
    · rw [up_n c] at hb
      exact ⟨(w.2.2.2 b e2 hb).1, (w.2.2.2 b e2 hb).2.kept (oq b (w.lt hb))⟩
/-- fewer cells are told -/
theorem hr_.less {G : ga_} {h h2 : HP} {sz : Nat} {H : Heap} (w : hr_ G h sz H) (hs : ∀ a e, h2 a = some e → h a = some e) : hr_ G h2 sz H := ⟨w.1, w.2.1, w.2.2.1, fun a e he => w.2.2.2 a e (hs a e he)⟩
-- locals
def gl_ : List (Nat × Value) → Nat → Option Value
  | [], _ => none
  | (j, v) :: t, i => cond (Nat.beq j i) (some v) (gl_ t i)
theorem gl_in {L : List (Nat × Value)} {i : Nat} {v : Value} (h : gl_ L i = some v) : (i, v) ∈ L := by
  induction L with
  | nil => cases h
  | cons q t ih =>
    obtain ⟨j, w⟩ := q
    unfold gl_ at h
    cases hb : Nat.beq j i with
    | true =>
      rw [hb] at h
      have e := Nat.eq_of_beq_eq_true hb
      subst e
      cases h
      exact List.mem_cons_self
    | false =>
      rw [hb] at h
      exact List.mem_cons_of_mem _ (ih h)
theorem gl_at {ls : Array Slot} {nL : Nat} {L : List (Nat × Value)} (h : lv_has ls nL L) {i : Nat} {v : Value} (hg : gl_ L i = some v) : ls[i]? = some (.val v) := h.2.2 (i, v) (gl_in hg)
abbrev st1_ (L : List (Nat × Value)) (i : Nat) (v : Value) : List (Nat × Value) := (i, v) :: L.filter (fun q => !(q.1 == i) && !(q.1 + 1 == i && q.2.category == 2))
abbrev st2_ (L : List (Nat × Value)) (i : Nat) (v : Value) : List (Nat × Value) := (i, v) :: L.filter (fun q => !(q.1 == i) && (!(q.1 == i + 1) && !(q.1 + 1 == i && q.2.category == 2)))
/-- the places of L2 hold in L what L2 says -/
def sub_ (L : List (Nat × Value)) : List (Nat × Value) → Prop
  | [] => True
  | (i, v) :: t => gl_ L i = some v ∧ sub_ L t
theorem sub_.has {ls : Array Slot} {nL : Nat} {L : List (Nat × Value)} (h : lv_has ls nL L) : ∀ {L2 : List (Nat × Value)}, sub_ L L2 → lv_has ls nL L2 := by
  intro L2 hs
  refine ⟨h.1, h.2.1, ?_⟩
  induction L2 with
  | nil => intro q hq; cases hq
  | cons x t ih =>
    intro q hq
    obtain ⟨i, v⟩ := x
    rcases List.mem_cons.mp hq with rfl | hq
    · exact gl_at h hs.1
    · exact ih hs.2 q hq
section LY
variable {p : Program} {l : Launch} {e : Env} {R : Room} {s : State} {m : MethodId} {args : Array Value} {below : List Frame} {meth : Method} {c : Code} {Q : State → Prop}
variable {G : ga_} {own : String} {cc : ByteArray} {nL : Nat} {ret : Option FieldType} {nm : String}
/-- what a method's body knows all along -/
def Cx (p : Program) (l : Launch) (R : Room) (s : State) (m : MethodId) (args : Array Value) (meth : Method) (c : Code) (G : ga_) (own : String) (cc : ByteArray) (nL : Nat) (ret : Option FieldType) (nm : String) : Prop :=
  p.tables.exec = Jvm.exec ∧ c.code = cc ∧ c.maxLocals = nL ∧ s.vm.findClass own = some m.cls ∧ (∀ w ∈ TB, w.before args s = true) ∧ ev_ G s ∧ meth.sig.returnType = ret ∧ meth.locks = false ∧ meth.name = nm
def V (p : Program) (l : Launch) (e : Env) (R : Room) (s : State) (m : MethodId) (args : Array Value) (below : List Frame) (meth : Method) (c : Code) (G : ga_) (nL : Nat) (Q : State → Prop) (h : HP) (sz k n pc : Nat) (L : List (Nat × Value)) (st : List Value) : Prop :=
  ∀ (H : Heap) (locs : List Loc) (ls : Array Slot), hr_ G h sz H → (∀ q ∈ locs, G.2.2.1 ≤ q.base) → lv_has ls nL L → W p l e R s m args below meth c H locs k n Q (F0 m pc ls st)
def Qg (G : ga_) (below : List Frame) (args : Array Value) (s : State) (mc ms : Nat) (Post : Option Value → HP → Nat → Prop) : State → Prop := MQ below (fun _ _ oc t => ∃ v h1 s1, oc = .returned v ∧ Post v h1 s1 ∧ hr_ G h1 s1 t.heap) args s mc ms (fun q => G.2.2.1 ≤ q)
/-- a method's contract: from a heap h of sz cells it returns, with Post of its answer and of the heap then -/
def Mg (G : ga_) (l : Launch) (y : MethodName) (cc : ByteArray) (nL : Nat) (ret : Option FieldType) (fr lo mc ms : Nat) (av : List Value) (h : HP) (sz : Nat) (Post : Option Value → HP → Nat → Prop) : Prop :=
  Met l y (.code y cc nL ret :: TB) { frames := fr, cells := mc, slots := ms, locals := lo } (va_Pc av (fun U => hr_ G h sz U.heap ∧ ev_ G U)) (fun _ _ oc t => ∃ v h1 s1, oc = .returned v ∧ Post v h1 s1 ∧ hr_ G h1 s1 t.heap) mc ms (fun q => G.2.2.1 ≤ q)
/-- what it answers and leaves is told -/
def Mf (G : ga_) (l : Launch) (y : MethodName) (cc : ByteArray) (nL : Nat) (ret : Option FieldType) (fr lo mc ms : Nat) (av : List Value) (h : HP) (sz : Nat) (v : Option Value) (h' : HP) (sz' : Nat) : Prop := Mg G l y cc nL ret fr lo mc ms av h sz (fun v1 h1 s1 => v1 = v ∧ h1 = h' ∧ s1 = sz')
theorem Mg.ofV {y : MethodName} {fr lo mc ms : Nat} {av : List Value} {h : HP} {sz : Nat} {Post : Option Value → HP → Nat → Prop} (L0 : List (Nat × Value)) (hy : plainName y.cls = true) (hn : (lg_sl av).length ≤ nL) (hL : lv_args 0 av = L0)
    (body : ∀ (p : Program) (e : Env) (s : State) (m : MethodId) (args : Array Value) (below : List Frame) (meth : Method) (c : Code), Cx p l { frames := fr, cells := mc, slots := ms, locals := lo } s m args meth c G y.cls cc nL ret y.name →
      V p l e { frames := fr, cells := mc, slots := ms, locals := lo } s m args below meth c G nL (Qg G below args s mc ms Post) h sz 0 0 0 L0 []) : Mg G l y cc nL ret fr lo mc ms av h sz Post := by
  refine Met.ofW hy rfl ?_
  intro p e s m args below meth c s₁ B hml hv
  obtain ⟨rfl, hh, hev⟩ := hv
  have hts := atoms_spec (ws := .code y cc nL ret :: TB) B.pre
  have hC : Cx p l { frames := fr, cells := mc, slots := ms, locals := lo } s m av.toArray meth c G y.cls cc nL ret y.name :=
    ⟨B.exec, B.bytes, hml, findClass_of_methodNamed B.named, fun w hw => hts w (List.mem_cons_of_mem _ hw), hev, B.returns, B.notSynchronized, (name_of_methodNamed B.named B.method).1⟩
  have hl := lv_entry av (n := nL) hn
  rw [lg_entry_eq]
  rw [hL] at hl
  exact body p e s m av.toArray below meth c hC s.heap [] _ hh (fun q hq => by cases hq) hl
theorem V.sub {h : HP} {sz k n pc : Nat} {L : List (Nat × Value)} {st : List Value} (L2 : List (Nat × Value)) (hs : sub_ L L2) (kk : V p l e R s m args below meth c G nL Q h sz k n pc L2 st) : V p l e R s m args below meth c G nL Q h sz k n pc L st :=
  fun H locs ls a b d => kk H locs ls a b (hs.has d)
theorem V.widen {h : HP} {sz k n k2 n2 pc : Nat} {L : List (Nat × Value)} {st : List Value} (h1 : k ≤ k2) (h2 : n ≤ n2) (kk : V p l e R s m args below meth c G nL Q h sz k2 n2 pc L st) : V p l e R s m args below meth c G nL Q h sz k n pc L st :=
  fun H locs ls a b d => W.widen h1 h2 (kk H locs ls a b d)
theorem V.less {h h2 : HP} {sz k n pc : Nat} {L : List (Nat × Value)} {st : List Value} (hs : ∀ a e, h2 a = some e → h a = some e) (kk : V p l e R s m args below meth c G nL Q h2 sz k n pc L st) : V p l e R s m args below meth c G nL Q h sz k n pc L st :=
  fun H locs ls a b d => kk H locs ls (a.less hs) b d
theorem V.heap {h h2 : HP} {sz k n pc : Nat} {L : List (Nat × Value)} {st : List Value} (hs : h = h2) (kk : V p l e R s m args below meth c G nL Q h2 sz k n pc L st) : V p l e R s m args below meth c G nL Q h sz k n pc L st := hs ▸ kk
theorem V.stack {h : HP} {sz k n pc : Nat} {L : List (Nat × Value)} {st st2 : List Value} (hs : st = st2) (kk : V p l e R s m args below meth c G nL Q h sz k n pc L st2) : V p l e R s m args below meth c G nL Q h sz k n pc L st := hs ▸ kk
variable {h : HP} {sz k n pc : Nat} {L : List (Nat × Value)} {st : List Value}

theorem r_iconst (C : Cx p l R s m args meth c G own cc nL ret nm) {i : Int} {v : Int32} (hd : decode cc pc = .ok (.iconst i, 1)) (hv : Int32.ofInt i = v) (kk : V p l e R s m args below meth c G nL Q h sz k n (pc + 1) L (.int v :: st)) : V p l e R s m args below meth c G nL Q h sz k n pc L (st) := fun H locs ls a b d => lv_iconst C.1 C.2.1 hd hv (kk H locs ls a b d)
theorem r_bipush (C : Cx p l R s m args meth c G own cc nL ret nm) {i : Int} {v : Int32} (hd : decode cc pc = .ok (.bipush i, 2)) (hv : (Int8.ofInt i).toInt32 = v) (kk : V p l e R s m args below meth c G nL Q h sz k n (pc + 2) L (.int v :: st)) : V p l e R s m args below meth c G nL Q h sz k n pc L (st) := fun H locs ls a b d => lv_bipush C.1 C.2.1 hd hv (kk H locs ls a b d)
theorem r_sipush (C : Cx p l R s m args meth c G own cc nL ret nm) {i : Int} {v : Int32} (hd : decode cc pc = .ok (.sipush i, 3)) (hv : (Int16.ofInt i).toInt32 = v) (kk : V p l e R s m args below meth c G nL Q h sz k n (pc + 3) L (.int v :: st)) : V p l e R s m args below meth c G nL Q h sz k n pc L (st) := fun H locs ls a b d => lv_sipush C.1 C.2.1 hd hv (kk H locs ls a b d)
theorem r_null (C : Cx p l R s m args meth c G own cc nL ret nm)  (hd : decode cc pc = .ok (.aconst_null, 1))  (kk : V p l e R s m args below meth c G nL Q h sz k n (pc + 1) L (.null :: st)) : V p l e R s m args below meth c G nL Q h sz k n pc L (st) := fun H locs ls a b d => lv_null C.1 C.2.1 hd  (kk H locs ls a b d)
theorem r_iload_n (C : Cx p l R s m args meth c G own cc nL ret nm) {j : Fin 4} {i : Nat} {x : Int32} (hd : decode cc pc = .ok (.iload_n j, 1)) (hi : (j : Nat) = i) (hg : gl_ L i = some (.int x)) (kk : V p l e R s m args below meth c G nL Q h sz k n (pc + 1) L (.int x :: st)) : V p l e R s m args below meth c G nL Q h sz k n pc L (st) := fun H locs ls a b d => lv_iload_n C.1 C.2.1 hd hi (gl_at d hg) (kk H locs ls a b d)
theorem r_iload (C : Cx p l R s m args meth c G own cc nL ret nm) {i : Nat} {x : Int32} (hd : decode cc pc = .ok (.iload i, 2)) (hg : gl_ L i = some (.int x)) (kk : V p l e R s m args below meth c G nL Q h sz k n (pc + 2) L (.int x :: st)) : V p l e R s m args below meth c G nL Q h sz k n pc L (st) := fun H locs ls a b d => lv_iload C.1 C.2.1 hd (gl_at d hg) (kk H locs ls a b d)
theorem r_istore_n (C : Cx p l R s m args meth c G own cc nL ret nm) {j : Fin 4} {i : Nat} {x : Int32} (hd : decode cc pc = .ok (.istore_n j, 1)) (hi : (j : Nat) = i) (hn : i < nL) (kk : V p l e R s m args below meth c G nL Q h sz k n (pc + 1) (st1_ L i (.int x)) st) : V p l e R s m args below meth c G nL Q h sz k n pc L (.int x :: st) := fun H locs ls a b d => lv_istore_n C.1 C.2.1 hd hi d hn rfl (fun ls2 d2 => kk H locs ls2 a b d2)
theorem r_istore (C : Cx p l R s m args meth c G own cc nL ret nm) {i : Nat} {x : Int32} (hd : decode cc pc = .ok (.istore i, 2)) (hn : i < nL) (kk : V p l e R s m args below meth c G nL Q h sz k n (pc + 2) (st1_ L i (.int x)) st) : V p l e R s m args below meth c G nL Q h sz k n pc L (.int x :: st) := fun H locs ls a b d => lv_istore C.1 C.2.1 hd d hn rfl (fun ls2 d2 => kk H locs ls2 a b d2)
theorem r_lload_n (C : Cx p l R s m args meth c G own cc nL ret nm) {j : Fin 4} {i : Nat} {x : Int64} (hd : decode cc pc = .ok (.lload_n j, 1)) (hi : (j : Nat) = i) (hg : gl_ L i = some (.long x)) (kk : V p l e R s m args below meth c G nL Q h sz k n (pc + 1) L (.long x :: st)) : V p l e R s m args below meth c G nL Q h sz k n pc L (st) := fun H locs ls a b d => lv_lload_n C.1 C.2.1 hd hi (gl_at d hg) (kk H locs ls a b d)
theorem r_lload (C : Cx p l R s m args meth c G own cc nL ret nm) {i : Nat} {x : Int64} (hd : decode cc pc = .ok (.lload i, 2)) (hg : gl_ L i = some (.long x)) (kk : V p l e R s m args below meth c G nL Q h sz k n (pc + 2) L (.long x :: st)) : V p l e R s m args below meth c G nL Q h sz k n pc L (st) := fun H locs ls a b d => lv_lload C.1 C.2.1 hd (gl_at d hg) (kk H locs ls a b d)
theorem r_lstore_n (C : Cx p l R s m args meth c G own cc nL ret nm) {j : Fin 4} {i : Nat} {x : Int64} (hd : decode cc pc = .ok (.lstore_n j, 1)) (hi : (j : Nat) = i) (hn : i + 1 < nL) (kk : V p l e R s m args below meth c G nL Q h sz k n (pc + 1) (st2_ L i (.long x)) st) : V p l e R s m args below meth c G nL Q h sz k n pc L (.long x :: st) := fun H locs ls a b d => lv_lstore_n C.1 C.2.1 hd hi d hn rfl (fun ls2 d2 => kk H locs ls2 a b d2)
theorem r_lstore (C : Cx p l R s m args meth c G own cc nL ret nm) {i : Nat} {x : Int64} (hd : decode cc pc = .ok (.lstore i, 2)) (hn : i + 1 < nL) (kk : V p l e R s m args below meth c G nL Q h sz k n (pc + 2) (st2_ L i (.long x)) st) : V p l e R s m args below meth c G nL Q h sz k n pc L (.long x :: st) := fun H locs ls a b d => lv_lstore C.1 C.2.1 hd d hn rfl (fun ls2 d2 => kk H locs ls2 a b d2)
theorem r_dload_n (C : Cx p l R s m args meth c G own cc nL ret nm) {j : Fin 4} {i : Nat} {x : UInt64} (hd : decode cc pc = .ok (.dload_n j, 1)) (hi : (j : Nat) = i) (hg : gl_ L i = some (.double x)) (kk : V p l e R s m args below meth c G nL Q h sz k n (pc + 1) L (.double x :: st)) : V p l e R s m args below meth c G nL Q h sz k n pc L (st) := fun H locs ls a b d => lv_dload_n C.1 C.2.1 hd hi (gl_at d hg) (kk H locs ls a b d)
theorem r_dload (C : Cx p l R s m args meth c G own cc nL ret nm) {i : Nat} {x : UInt64} (hd : decode cc pc = .ok (.dload i, 2)) (hg : gl_ L i = some (.double x)) (kk : V p l e R s m args below meth c G nL Q h sz k n (pc + 2) L (.double x :: st)) : V p l e R s m args below meth c G nL Q h sz k n pc L (st) := fun H locs ls a b d => lv_dload C.1 C.2.1 hd (gl_at d hg) (kk H locs ls a b d)
theorem r_dstore_n (C : Cx p l R s m args meth c G own cc nL ret nm) {j : Fin 4} {i : Nat} {x : UInt64} (hd : decode cc pc = .ok (.dstore_n j, 1)) (hi : (j : Nat) = i) (hn : i + 1 < nL) (kk : V p l e R s m args below meth c G nL Q h sz k n (pc + 1) (st2_ L i (.double x)) st) : V p l e R s m args below meth c G nL Q h sz k n pc L (.double x :: st) := fun H locs ls a b d => lv_dstore_n C.1 C.2.1 hd hi d hn rfl (fun ls2 d2 => kk H locs ls2 a b d2)
theorem r_dstore (C : Cx p l R s m args meth c G own cc nL ret nm) {i : Nat} {x : UInt64} (hd : decode cc pc = .ok (.dstore i, 2)) (hn : i + 1 < nL) (kk : V p l e R s m args below meth c G nL Q h sz k n (pc + 2) (st2_ L i (.double x)) st) : V p l e R s m args below meth c G nL Q h sz k n pc L (.double x :: st) := fun H locs ls a b d => lv_dstore C.1 C.2.1 hd d hn rfl (fun ls2 d2 => kk H locs ls2 a b d2)
theorem r_aload_n (C : Cx p l R s m args meth c G own cc nL ret nm) {j : Fin 4} {i x : Nat} (hd : decode cc pc = .ok (.aload_n j, 1)) (hi : (j : Nat) = i) (hg : gl_ L i = some (.ref x)) (kk : V p l e R s m args below meth c G nL Q h sz k n (pc + 1) L (.ref x :: st)) : V p l e R s m args below meth c G nL Q h sz k n pc L (st) := fun H locs ls a b d => lv_aload_n C.1 C.2.1 hd hi (gl_at d hg) (kk H locs ls a b d)
theorem r_aload (C : Cx p l R s m args meth c G own cc nL ret nm) {i x : Nat} (hd : decode cc pc = .ok (.aload i, 2)) (hg : gl_ L i = some (.ref x)) (kk : V p l e R s m args below meth c G nL Q h sz k n (pc + 2) L (.ref x :: st)) : V p l e R s m args below meth c G nL Q h sz k n pc L (st) := fun H locs ls a b d => lv_aload C.1 C.2.1 hd (gl_at d hg) (kk H locs ls a b d)
theorem r_astore_n (C : Cx p l R s m args meth c G own cc nL ret nm) {j : Fin 4} {i x : Nat} (hd : decode cc pc = .ok (.astore_n j, 1)) (hi : (j : Nat) = i) (hn : i < nL) (kk : V p l e R s m args below meth c G nL Q h sz k n (pc + 1) (st1_ L i (.ref x)) st) : V p l e R s m args below meth c G nL Q h sz k n pc L (.ref x :: st) := fun H locs ls a b d => lv_astore_n C.1 C.2.1 hd hi d hn rfl (fun ls2 d2 => kk H locs ls2 a b d2)
theorem r_astore (C : Cx p l R s m args meth c G own cc nL ret nm) {i x : Nat} (hd : decode cc pc = .ok (.astore i, 2)) (hn : i < nL) (kk : V p l e R s m args below meth c G nL Q h sz k n (pc + 2) (st1_ L i (.ref x)) st) : V p l e R s m args below meth c G nL Q h sz k n pc L (.ref x :: st) := fun H locs ls a b d => lv_astore C.1 C.2.1 hd d hn rfl (fun ls2 d2 => kk H locs ls2 a b d2)
theorem r_iinc (C : Cx p l R s m args meth c G own cc nL ret nm) {i : Nat} {z : Int} {x v : Int32} (hd : decode cc pc = .ok (.iinc i z, 3)) (hg : gl_ L i = some (.int x)) (hv : Int32.ofInt z = v) (hn : i < nL) (kk : V p l e R s m args below meth c G nL Q h sz k n (pc + 3) (st1_ L i (.int (x + v))) st) : V p l e R s m args below meth c G nL Q h sz k n pc L st := fun H locs ls a b d => by
  obtain ⟨q, hq⟩ := List.getElem?_of_mem (gl_in hg)
  exact lv_iinc C.1 C.2.1 hd d hq (by rw [hv]) hn rfl (fun ls2 d2 => kk H locs ls2 a b d2)
theorem r_iadd (C : Cx p l R s m args meth c G own cc nL ret nm) {x y : Int32} (hd : decode cc pc = .ok (.iadd, 1))  (kk : V p l e R s m args below meth c G nL Q h sz k n (pc + 1) L (.int (x + y) :: st)) : V p l e R s m args below meth c G nL Q h sz k n pc L (.int y :: .int x :: st) := fun H locs ls a b d => lv_iadd C.1 C.2.1 hd  (kk H locs ls a b d)
theorem r_isub (C : Cx p l R s m args meth c G own cc nL ret nm) {x y : Int32} (hd : decode cc pc = .ok (.isub, 1))  (kk : V p l e R s m args below meth c G nL Q h sz k n (pc + 1) L (.int (x - y) :: st)) : V p l e R s m args below meth c G nL Q h sz k n pc L (.int y :: .int x :: st) := fun H locs ls a b d => lv_isub C.1 C.2.1 hd  (kk H locs ls a b d)
theorem r_imul (C : Cx p l R s m args meth c G own cc nL ret nm) {x y : Int32} (hd : decode cc pc = .ok (.imul, 1))  (kk : V p l e R s m args below meth c G nL Q h sz k n (pc + 1) L (.int (x * y) :: st)) : V p l e R s m args below meth c G nL Q h sz k n pc L (.int y :: .int x :: st) := fun H locs ls a b d => lv_imul C.1 C.2.1 hd  (kk H locs ls a b d)
theorem r_iand (C : Cx p l R s m args meth c G own cc nL ret nm) {x y : Int32} (hd : decode cc pc = .ok (.iand, 1))  (kk : V p l e R s m args below meth c G nL Q h sz k n (pc + 1) L (.int (x &&& y) :: st)) : V p l e R s m args below meth c G nL Q h sz k n pc L (.int y :: .int x :: st) := fun H locs ls a b d => lv_iand C.1 C.2.1 hd  (kk H locs ls a b d)
theorem r_ior (C : Cx p l R s m args meth c G own cc nL ret nm) {x y : Int32} (hd : decode cc pc = .ok (.ior, 1))  (kk : V p l e R s m args below meth c G nL Q h sz k n (pc + 1) L (.int (x ||| y) :: st)) : V p l e R s m args below meth c G nL Q h sz k n pc L (.int y :: .int x :: st) := fun H locs ls a b d => lv_ior C.1 C.2.1 hd  (kk H locs ls a b d)
theorem r_ixor (C : Cx p l R s m args meth c G own cc nL ret nm) {x y : Int32} (hd : decode cc pc = .ok (.ixor, 1))  (kk : V p l e R s m args below meth c G nL Q h sz k n (pc + 1) L (.int (x ^^^ y) :: st)) : V p l e R s m args below meth c G nL Q h sz k n pc L (.int y :: .int x :: st) := fun H locs ls a b d => lv_ixor C.1 C.2.1 hd  (kk H locs ls a b d)
theorem r_ladd (C : Cx p l R s m args meth c G own cc nL ret nm) {x y : Int64} (hd : decode cc pc = .ok (.ladd, 1))  (kk : V p l e R s m args below meth c G nL Q h sz k n (pc + 1) L (.long (x + y) :: st)) : V p l e R s m args below meth c G nL Q h sz k n pc L (.long y :: .long x :: st) := fun H locs ls a b d => lv_ladd C.1 C.2.1 hd  (kk H locs ls a b d)
theorem r_lsub (C : Cx p l R s m args meth c G own cc nL ret nm) {x y : Int64} (hd : decode cc pc = .ok (.lsub, 1))  (kk : V p l e R s m args below meth c G nL Q h sz k n (pc + 1) L (.long (x - y) :: st)) : V p l e R s m args below meth c G nL Q h sz k n pc L (.long y :: .long x :: st) := fun H locs ls a b d => lv_lsub C.1 C.2.1 hd  (kk H locs ls a b d)
theorem r_lmul (C : Cx p l R s m args meth c G own cc nL ret nm) {x y : Int64} (hd : decode cc pc = .ok (.lmul, 1))  (kk : V p l e R s m args below meth c G nL Q h sz k n (pc + 1) L (.long (x * y) :: st)) : V p l e R s m args below meth c G nL Q h sz k n pc L (.long y :: .long x :: st) := fun H locs ls a b d => lv_lmul C.1 C.2.1 hd  (kk H locs ls a b d)
theorem r_idiv (C : Cx p l R s m args meth c G own cc nL ret nm) {x y : Int32} (hd : decode cc pc = .ok (.idiv, 1)) (hz : ¬ y = 0) (kk : V p l e R s m args below meth c G nL Q h sz k n (pc + 1) L (.int (x / y) :: st)) : V p l e R s m args below meth c G nL Q h sz k n pc L (.int y :: .int x :: st) := fun H locs ls a b d => lv_idiv C.1 C.2.1 hd hz (kk H locs ls a b d)
theorem r_irem (C : Cx p l R s m args meth c G own cc nL ret nm) {x y : Int32} (hd : decode cc pc = .ok (.irem, 1)) (hz : ¬ y = 0) (kk : V p l e R s m args below meth c G nL Q h sz k n (pc + 1) L (.int (x - x / y * y) :: st)) : V p l e R s m args below meth c G nL Q h sz k n pc L (.int y :: .int x :: st) := fun H locs ls a b d => lv_irem C.1 C.2.1 hd hz (kk H locs ls a b d)
theorem r_i2l (C : Cx p l R s m args meth c G own cc nL ret nm) {x : Int32} (hd : decode cc pc = .ok (.i2l, 1))  (kk : V p l e R s m args below meth c G nL Q h sz k n (pc + 1) L (.long x.toInt64 :: st)) : V p l e R s m args below meth c G nL Q h sz k n pc L (.int x :: st) := fun H locs ls a b d => lv_i2l C.1 C.2.1 hd rfl (kk H locs ls a b d)
theorem r_i2c (C : Cx p l R s m args meth c G own cc nL ret nm) {x : Int32} (hd : decode cc pc = .ok (.i2c, 1))  (kk : V p l e R s m args below meth c G nL Q h sz k n (pc + 1) L (.int (x.toUInt32 % 65536).toInt32 :: st)) : V p l e R s m args below meth c G nL Q h sz k n pc L (.int x :: st) := fun H locs ls a b d => lv_i2c C.1 C.2.1 hd rfl (kk H locs ls a b d)
theorem r_dup (C : Cx p l R s m args meth c G own cc nL ret nm) {v : Value} (hd : decode cc pc = .ok (.dup, 1)) (hv : v.category = 1) (kk : V p l e R s m args below meth c G nL Q h sz k n (pc + 1) L (v :: v :: st)) : V p l e R s m args below meth c G nL Q h sz k n pc L (v :: st) := fun H locs ls a b d => lv_dup C.1 C.2.1 hd hv (kk H locs ls a b d)
theorem r_pop (C : Cx p l R s m args meth c G own cc nL ret nm) {v : Value} (hd : decode cc pc = .ok (.pop, 1)) (hv : v.category = 1) (kk : V p l e R s m args below meth c G nL Q h sz k n (pc + 1) L (st)) : V p l e R s m args below meth c G nL Q h sz k n pc L (v :: st) := fun H locs ls a b d => lv_pop C.1 C.2.1 hd hv (kk H locs ls a b d)
theorem r_dup2 (C : Cx p l R s m args meth c G own cc nL ret nm) {v w : Value} (hd : decode cc pc = .ok (.dup2, 1)) (hv : v.category = 1) (hw : w.category = 1) (kk : V p l e R s m args below meth c G nL Q h sz k n (pc + 1) L (v :: w :: v :: w :: st)) : V p l e R s m args below meth c G nL Q h sz k n pc L (v :: w :: st) := fun H locs ls a b d => lv_dup2_11 C.1 C.2.1 hd hv hw (kk H locs ls a b d)
theorem r_icmp_eq (C : Cx p l R s m args meth c G own cc nL ret nm) {x y : Int32} {off : Int} (tgt : Nat) (hd : decode cc pc = .ok (.if_icmp .eq off, 3)) (ht : (pc : Int) + off = (tgt : Int)) (kt : x = y → V p l e R s m args below meth c G nL Q h sz k n tgt L st) (kf : ¬ x = y → V p l e R s m args below meth c G nL Q h sz k n (pc + 3) L st) : V p l e R s m args below meth c G nL Q h sz k n pc L (.int y :: .int x :: st) := fun H locs ls a b d => lv_icmp_eq C.1 C.2.1 hd ht (fun z => kt z H locs ls a b d) (fun z => kf z H locs ls a b d)
theorem r_icmp_ne (C : Cx p l R s m args meth c G own cc nL ret nm) {x y : Int32} {off : Int} (tgt : Nat) (hd : decode cc pc = .ok (.if_icmp .ne off, 3)) (ht : (pc : Int) + off = (tgt : Int)) (kt : x ≠ y → V p l e R s m args below meth c G nL Q h sz k n tgt L st) (kf : x = y → V p l e R s m args below meth c G nL Q h sz k n (pc + 3) L st) : V p l e R s m args below meth c G nL Q h sz k n pc L (.int y :: .int x :: st) := fun H locs ls a b d => lv_icmp_ne C.1 C.2.1 hd ht (fun z => kt z H locs ls a b d) (fun z => kf z H locs ls a b d)
theorem r_icmp_lt (C : Cx p l R s m args meth c G own cc nL ret nm) {x y : Int32} {off : Int} (tgt : Nat) (hd : decode cc pc = .ok (.if_icmp .lt off, 3)) (ht : (pc : Int) + off = (tgt : Int)) (kt : x < y → V p l e R s m args below meth c G nL Q h sz k n tgt L st) (kf : ¬ x < y → V p l e R s m args below meth c G nL Q h sz k n (pc + 3) L st) : V p l e R s m args below meth c G nL Q h sz k n pc L (.int y :: .int x :: st) := fun H locs ls a b d => lv_icmp_lt C.1 C.2.1 hd ht (fun z => kt z H locs ls a b d) (fun z => kf z H locs ls a b d)
theorem r_icmp_ge (C : Cx p l R s m args meth c G own cc nL ret nm) {x y : Int32} {off : Int} (tgt : Nat) (hd : decode cc pc = .ok (.if_icmp .ge off, 3)) (ht : (pc : Int) + off = (tgt : Int)) (kt : y ≤ x → V p l e R s m args below meth c G nL Q h sz k n tgt L st) (kf : ¬ y ≤ x → V p l e R s m args below meth c G nL Q h sz k n (pc + 3) L st) : V p l e R s m args below meth c G nL Q h sz k n pc L (.int y :: .int x :: st) := fun H locs ls a b d => lv_icmp_ge C.1 C.2.1 hd ht (fun z => kt z H locs ls a b d) (fun z => kf z H locs ls a b d)
theorem r_icmp_gt (C : Cx p l R s m args meth c G own cc nL ret nm) {x y : Int32} {off : Int} (tgt : Nat) (hd : decode cc pc = .ok (.if_icmp .gt off, 3)) (ht : (pc : Int) + off = (tgt : Int)) (kt : y < x → V p l e R s m args below meth c G nL Q h sz k n tgt L st) (kf : ¬ y < x → V p l e R s m args below meth c G nL Q h sz k n (pc + 3) L st) : V p l e R s m args below meth c G nL Q h sz k n pc L (.int y :: .int x :: st) := fun H locs ls a b d => lv_icmp_gt C.1 C.2.1 hd ht (fun z => kt z H locs ls a b d) (fun z => kf z H locs ls a b d)
theorem r_icmp_le (C : Cx p l R s m args meth c G own cc nL ret nm) {x y : Int32} {off : Int} (tgt : Nat) (hd : decode cc pc = .ok (.if_icmp .le off, 3)) (ht : (pc : Int) + off = (tgt : Int)) (kt : x ≤ y → V p l e R s m args below meth c G nL Q h sz k n tgt L st) (kf : ¬ x ≤ y → V p l e R s m args below meth c G nL Q h sz k n (pc + 3) L st) : V p l e R s m args below meth c G nL Q h sz k n pc L (.int y :: .int x :: st) := fun H locs ls a b d => lv_icmp_le C.1 C.2.1 hd ht (fun z => kt z H locs ls a b d) (fun z => kf z H locs ls a b d)
theorem r_if_eq (C : Cx p l R s m args meth c G own cc nL ret nm) {x : Int32} {off : Int} (tgt : Nat) (hd : decode cc pc = .ok (.ifCond .eq off, 3)) (ht : (pc : Int) + off = (tgt : Int)) (kt : x = 0 → V p l e R s m args below meth c G nL Q h sz k n tgt L st) (kf : ¬ x = 0 → V p l e R s m args below meth c G nL Q h sz k n (pc + 3) L st) : V p l e R s m args below meth c G nL Q h sz k n pc L (.int x :: st) := fun H locs ls a b d => lv_if_eq C.1 C.2.1 hd ht (fun z => kt z H locs ls a b d) (fun z => kf z H locs ls a b d)
theorem r_if_ne (C : Cx p l R s m args meth c G own cc nL ret nm) {x : Int32} {off : Int} (tgt : Nat) (hd : decode cc pc = .ok (.ifCond .ne off, 3)) (ht : (pc : Int) + off = (tgt : Int)) (kt : x ≠ 0 → V p l e R s m args below meth c G nL Q h sz k n tgt L st) (kf : x = 0 → V p l e R s m args below meth c G nL Q h sz k n (pc + 3) L st) : V p l e R s m args below meth c G nL Q h sz k n pc L (.int x :: st) := fun H locs ls a b d => lv_if_ne C.1 C.2.1 hd ht (fun z => kt z H locs ls a b d) (fun z => kf z H locs ls a b d)
theorem r_if_lt (C : Cx p l R s m args meth c G own cc nL ret nm) {x : Int32} {off : Int} (tgt : Nat) (hd : decode cc pc = .ok (.ifCond .lt off, 3)) (ht : (pc : Int) + off = (tgt : Int)) (kt : x < 0 → V p l e R s m args below meth c G nL Q h sz k n tgt L st) (kf : ¬ x < 0 → V p l e R s m args below meth c G nL Q h sz k n (pc + 3) L st) : V p l e R s m args below meth c G nL Q h sz k n pc L (.int x :: st) := fun H locs ls a b d => lv_if_lt C.1 C.2.1 hd ht (fun z => kt z H locs ls a b d) (fun z => kf z H locs ls a b d)
theorem r_if_ge (C : Cx p l R s m args meth c G own cc nL ret nm) {x : Int32} {off : Int} (tgt : Nat) (hd : decode cc pc = .ok (.ifCond .ge off, 3)) (ht : (pc : Int) + off = (tgt : Int)) (kt : 0 ≤ x → V p l e R s m args below meth c G nL Q h sz k n tgt L st) (kf : ¬ 0 ≤ x → V p l e R s m args below meth c G nL Q h sz k n (pc + 3) L st) : V p l e R s m args below meth c G nL Q h sz k n pc L (.int x :: st) := fun H locs ls a b d => lv_if_ge C.1 C.2.1 hd ht (fun z => kt z H locs ls a b d) (fun z => kf z H locs ls a b d)
theorem r_if_gt (C : Cx p l R s m args meth c G own cc nL ret nm) {x : Int32} {off : Int} (tgt : Nat) (hd : decode cc pc = .ok (.ifCond .gt off, 3)) (ht : (pc : Int) + off = (tgt : Int)) (kt : 0 < x → V p l e R s m args below meth c G nL Q h sz k n tgt L st) (kf : ¬ 0 < x → V p l e R s m args below meth c G nL Q h sz k n (pc + 3) L st) : V p l e R s m args below meth c G nL Q h sz k n pc L (.int x :: st) := fun H locs ls a b d => lv_if_gt C.1 C.2.1 hd ht (fun z => kt z H locs ls a b d) (fun z => kf z H locs ls a b d)
theorem r_if_le (C : Cx p l R s m args meth c G own cc nL ret nm) {x : Int32} {off : Int} (tgt : Nat) (hd : decode cc pc = .ok (.ifCond .le off, 3)) (ht : (pc : Int) + off = (tgt : Int)) (kt : x ≤ 0 → V p l e R s m args below meth c G nL Q h sz k n tgt L st) (kf : ¬ x ≤ 0 → V p l e R s m args below meth c G nL Q h sz k n (pc + 3) L st) : V p l e R s m args below meth c G nL Q h sz k n pc L (.int x :: st) := fun H locs ls a b d => lv_if_le C.1 C.2.1 hd ht (fun z => kt z H locs ls a b d) (fun z => kf z H locs ls a b d)
theorem r_goto (C : Cx p l R s m args meth c G own cc nL ret nm) {off : Int} (tgt : Nat) (hd : decode cc pc = .ok (.goto off, 3)) (ht : (pc : Int) + off = (tgt : Int)) (kk : V p l e R s m args below meth c G nL Q h sz k n tgt L st) : V p l e R s m args below meth c G nL Q h sz k n pc L st := fun H locs ls a b d => lv_goto C.1 C.2.1 hd ht (kk H locs ls a b d)
theorem r_ldc (C : Cx p l R s m args meth c G own cc nL ret nm) {i : Nat} {v : Int32} (hw : Cond.constant own i v ∈ TB) (hd : decode cc pc = .ok (.ldc i, 2)) (kk : V p l e R s m args below meth c G nL Q h sz k n (pc + 2) L (.int v :: st)) : V p l e R s m args below meth c G nL Q h sz k n pc L st := fun H locs ls a b d => lv_ldc C.1 C.2.1 C.2.2.2.1 (C.2.2.2.2.1 _ hw) hd (kk H locs ls a b d)
theorem r_ldc2 (C : Cx p l R s m args meth c G own cc nL ret nm) {i : Nat} {v : Int64} (hw : Cond.constantLong own i v ∈ TB) (hd : decode cc pc = .ok (.ldc2_w i, 3)) (kk : V p l e R s m args below meth c G nL Q h sz k n (pc + 3) L (.long v :: st)) : V p l e R s m args below meth c G nL Q h sz k n pc L st := fun H locs ls a b d => lv_ldc2 C.1 C.2.1 C.2.2.2.1 (C.2.2.2.2.1 _ hw) hd (kk H locs ls a b d)
theorem r_get (C : Cx p l R s m args meth c G own cc nL ret nm) {ref Cn : String} {T : u_T} {N ci index a0 j : Nat} {fs : List Value} {v : Value} (hc : vwCl[ci]? = some (Cn, T, N)) (hin : ∀ w ∈ u_ws Cn T N, w ∈ TB) (he : h a0 = some (ob_ ci fs)) (hj : j < N) (hw : Cond.fieldLink own index ref (T j).2.1 (T j).2.2.1 ∈ TB) (hr : (T j).1 = ref) (hv : fs[j]? = some v) (hd : decode cc pc = .ok (.getfield index, 3)) (kk : V p l e R s m args below meth c G nL Q h sz k n (pc + 3) L (v :: st)) : V p l e R s m args below meth c G nL Q h sz k n pc L (.ref a0 :: st) := by
  intro H locs ls a b d
  exact va_get (ws := [(a0, ob_ ci fs)]) C.1 C.2.1 C.2.2.2.2.1 hin C.2.2.2.1 C.2.2.2.2.2.1.1 (fun q x hx => by cases q with
    | zero => cases hx; exact (a.2.2.2 _ _ he).2
    | succ q => simp at hx) 0 rfl hc j hj (C.2.2.2.2.1 _ hw) (by rw [hr]; exact fun _ z => z) hv hd (kk H locs ls a b d)
theorem r_getN (C : Cx p l R s m args meth c G own cc nL ret nm) {ref Cn host : String} {T : u_T} {N ci index a0 j : Nat} {fs : List Value} {v : Value} (hc : vwCl[ci]? = some (Cn, T, N)) (hin : ∀ w ∈ u_ws Cn T N, w ∈ TB) (he : h a0 = some (ob_ ci fs)) (hj : j < N) (hw : Cond.fieldLinkNest own index ref (T j).2.1 (T j).2.2.1 host ∈ NB) (hr : (T j).1 = ref) (hv : fs[j]? = some v) (hd : decode cc pc = .ok (.getfield index, 3)) (kk : V p l e R s m args below meth c G nL Q h sz k n (pc + 3) L (v :: st)) : V p l e R s m args below meth c G nL Q h sz k n pc L (.ref a0 :: st) := by
  intro H locs ls a b d
  exact va_getN (ws := [(a0, ob_ ci fs)]) C.1 C.2.1 C.2.2.2.2.1 hin C.2.2.2.1 C.2.2.2.2.2.1.1 (fun q x hx => by cases q with
    | zero => cases hx; exact (a.2.2.2 _ _ he).2
    | succ q => simp at hx) 0 rfl hc j hj (va_Nw.use rfl (C.2.2.2.2.2.1.2.1 _ hw)) (by rw [hr]; exact fun _ z => z) hv hd (kk H locs ls a b d)
theorem r_put (C : Cx p l R s m args meth c G own cc nL ret nm) {ref Cn : String} {T : u_T} {N ci index a0 j : Nat} {fs : List Value} {v : Value} {ty : FieldType} (ty0 : Nat → FieldType) (hty : ∀ k, k < N → parseFieldDescriptor (T k).2.2.1 = some (ty0 k)) (hnm : ∀ a, a < N → ∀ b, b < N → a ≠ b → (T a).2.1 ≠ (T b).2.1) (hc : vwCl[ci]? = some (Cn, T, N)) (hin : ∀ w ∈ u_ws Cn T N, w ∈ TB) (he : h a0 = some (ob_ ci fs)) (hj : j < N) (hw : Cond.fieldLink own index ref (T j).2.1 (T j).2.2.1 ∈ TB) (hr : (T j).1 = ref) (hfin : (T j).2.2.2 = false) (hd0 : parseFieldDescriptor (T j).2.2.1 = some ty) (hn : narrow ty v = v) (hfit : fits ty v = true) (hl : j < fs.length) (hd : decode cc pc = .ok (.putfield index, 3)) (kk : V p l e R s m args below meth c G nL Q (up_ h a0 (ob_ ci (fs.set j v))) sz k n (pc + 3) L st) : V p l e R s m args below meth c G nL Q h sz k n pc L (v :: .ref a0 :: st) := by
  intro H locs ls a b d
  have hap := va_apart (own := own) C.2.2.2.2.1 hin ty0 hty hnm C.2.2.2.2.2.1.1 hc
  obtain ⟨r, h1, cell, q1, q2, q3, q4⟩ := (a.2.2.2 _ _ he).2
  have hr2 : r = (Cn, T, N) := Option.some.inj (h1.symm.trans hc)
  subst hr2
  obtain ⟨hS, hfc, kC, hkC, hkind⟩ := C.2.2.2.2.2.1.1.1 ci _ hc
  obtain ⟨cf, kf, fi, f, hi, hsl⟩ := hS j hj
  have hlay := C.2.2.2.2.1 _ (hin _ (u_in_lay hj))
  unfold u_lay at hlay
  rw [if_neg (by rw [hfin]; decide)] at hlay
  have hst := (u_facts hfc hkC (u_lays C.2.2.2.2.1 hin hj) hi).1
  have h6 := u_store hfc hkC hkind hlay hi hd0 hn hfit
  subst hr
  refine W.putK C.1 C.2.1 (f := f) ⟨C.2.2.2.1, C.2.2.2.2.1 _ hw, ⟨_, _, _, hi⟩, hst⟩ (by rw [q2]; exact h6) q1 q3 (by rw [hsl]; exact k2_hasslot (q4 j hj)) rfl rfl hd fun H' e1 e2 e3 => ?_
  rw [hsl] at e1 ⊢
  exact kk H' _ ls (a.put (a.2.2.2 _ _ he).1 ⟨_, hc, t_OB.to (V := updV (vp_V fs) j v) ⟨_, e1, q2, q3, t_set q4 hap hj v⟩ (fun i _ => vp_updV_set hl v i)⟩ e2 e3) (fun q hq => by
    rcases List.mem_append.mp hq with z | z
    · exact b q z
    · have := List.mem_singleton.mp z
      subst this
      exact (a.2.2.2 _ _ he).1) d
theorem r_putN (C : Cx p l R s m args meth c G own cc nL ret nm) {ref Cn host : String} {T : u_T} {N ci index a0 j : Nat} {fs : List Value} {v : Value} {ty : FieldType} (ty0 : Nat → FieldType) (hty : ∀ k, k < N → parseFieldDescriptor (T k).2.2.1 = some (ty0 k)) (hnm : ∀ a, a < N → ∀ b, b < N → a ≠ b → (T a).2.1 ≠ (T b).2.1) (hc : vwCl[ci]? = some (Cn, T, N)) (hin : ∀ w ∈ u_ws Cn T N, w ∈ TB) (he : h a0 = some (ob_ ci fs)) (hj : j < N) (hw : Cond.fieldLinkNest own index ref (T j).2.1 (T j).2.2.1 host ∈ NB) (hr : (T j).1 = ref) (hfin : (T j).2.2.2 = false) (hd0 : parseFieldDescriptor (T j).2.2.1 = some ty) (hn : narrow ty v = v) (hfit : fits ty v = true) (hl : j < fs.length) (hd : decode cc pc = .ok (.putfield index, 3)) (kk : V p l e R s m args below meth c G nL Q (up_ h a0 (ob_ ci (fs.set j v))) sz k n (pc + 3) L st) : V p l e R s m args below meth c G nL Q h sz k n pc L (v :: .ref a0 :: st) := by
  intro H locs ls a b d
  have hap := va_apart (own := own) C.2.2.2.2.1 hin ty0 hty hnm C.2.2.2.2.2.1.1 hc
  obtain ⟨r, h1, cell, q1, q2, q3, q4⟩ := (a.2.2.2 _ _ he).2
  have hr2 : r = (Cn, T, N) := Option.some.inj (h1.symm.trans hc)
  subst hr2
  obtain ⟨hS, hfc, kC, hkC, hkind⟩ := C.2.2.2.2.2.1.1.1 ci _ hc
  obtain ⟨cf, kf, fi, f, hi, hsl⟩ := hS j hj
  have hlay := C.2.2.2.2.1 _ (hin _ (u_in_lay hj))
  unfold u_lay at hlay
  rw [if_neg (by rw [hfin]; decide)] at hlay
  have hst := (u_facts hfc hkC (u_lays C.2.2.2.2.1 hin hj) hi).1
  have h6 := u_store hfc hkC hkind hlay hi hd0 hn hfit
  subst hr
  refine va_WputK C.1 C.2.1 (f := f) C.2.2.2.1 (va_Nw.use rfl (C.2.2.2.2.2.1.2.1 _ hw)) hi hst (by rw [q2]; exact h6) q1 q3 (by rw [hsl]; exact k2_hasslot (q4 j hj)) rfl rfl hd fun H' e1 e2 e3 => ?_
  rw [hsl] at e1 ⊢
  exact kk H' _ ls (a.put (a.2.2.2 _ _ he).1 ⟨_, hc, t_OB.to (V := updV (vp_V fs) j v) ⟨_, e1, q2, q3, t_set q4 hap hj v⟩ (fun i _ => vp_updV_set hl v i)⟩ e2 e3) (fun q hq => by
    rcases List.mem_append.mp hq with z | z
    · exact b q z
    · have := List.mem_singleton.mp z
      subst this
      exact (a.2.2.2 _ _ he).1) d
theorem r_putF (C : Cx p l R s m args meth c G own cc nL ret nm) {ref Cn : String} {T : u_T} {N ci index a0 j : Nat} {fs : List Value} {v : Value} {ty : FieldType} (ty0 : Nat → FieldType) (hty : ∀ k, k < N → parseFieldDescriptor (T k).2.2.1 = some (ty0 k)) (hnm : ∀ a, a < N → ∀ b, b < N → a ≠ b → (T a).2.1 ≠ (T b).2.1) (hc : vwCl[ci]? = some (Cn, T, N)) (hin : ∀ w ∈ u_ws Cn T N, w ∈ TB) (he : h a0 = some (ob_ ci fs)) (hj : j < N) (hw : Cond.fieldLink own index ref (T j).2.1 (T j).2.2.1 ∈ TB) (hr : (T j).1 = ref) (hfin : (T j).2.2.2 = true) (hin2 : nm = "<init>") (hdecl : (T j).1 = own) (hd0 : parseFieldDescriptor (T j).2.2.1 = some ty) (hn : narrow ty v = v) (hfit : fits ty v = true) (hl : j < fs.length) (hd : decode cc pc = .ok (.putfield index, 3)) (kk : V p l e R s m args below meth c G nL Q (up_ h a0 (ob_ ci (fs.set j v))) sz k n (pc + 3) L st) : V p l e R s m args below meth c G nL Q h sz k n pc L (v :: .ref a0 :: st) := by
  intro H locs ls a b d
  have hap := va_apart (own := own) C.2.2.2.2.1 hin ty0 hty hnm C.2.2.2.2.2.1.1 hc
  obtain ⟨r, h1, cell, q1, q2, q3, q4⟩ := (a.2.2.2 _ _ he).2
  have hr2 : r = (Cn, T, N) := Option.some.inj (h1.symm.trans hc)
  subst hr2
  obtain ⟨hS, hfc, kC, hkC, hkind⟩ := C.2.2.2.2.2.1.1.1 ci _ hc
  obtain ⟨cf, kf, fi, f, hi, hsl⟩ := hS j hj
  have hlay := C.2.2.2.2.1 _ (hin _ (u_in_lay hj))
  unfold u_lay at hlay
  rw [if_pos hfin] at hlay
  have hst := (u_facts hfc hkC (u_lays C.2.2.2.2.1 hin hj) hi).1
  have hcf : m.cls = cf := by
    obtain ⟨_, _, c', _, _, _, -, -, hf', -, -, -, hown2, -⟩ := Cond.laysFinal_spec hlay
    have e1 : c' = cf := by have := hi.symm.trans hf'; simp at this; exact this.1.symm
    rw [hdecl] at hown2
    rw [← e1]; exact Option.some.inj (C.2.2.2.1.symm.trans hown2)
  have h6 := u_fits hfc hkC hkind (Or.inr hlay) hi hd0 hn hfit
  subst hr
  refine W.putFinK C.1 C.2.1 C.2.2.2.1 (C.2.2.2.2.1 _ hw) hi hst hcf (C.2.2.2.2.2.2.2.2.trans hin2) (by rw [q2]; exact h6) q1 q3 (by rw [hsl]; exact k2_hasslot (q4 j hj)) rfl rfl hd fun H' e1 e2 e3 => ?_
  rw [hsl] at e1 ⊢
  exact kk H' _ ls (a.put (a.2.2.2 _ _ he).1 ⟨_, hc, t_OB.to (V := updV (vp_V fs) j v) ⟨_, e1, q2, q3, t_set q4 hap hj v⟩ (fun i _ => vp_updV_set hl v i)⟩ e2 e3) (fun q hq => by
    rcases List.mem_append.mp hq with z | z
    · exact b q z
    · have := List.mem_singleton.mp z
      subst this
      exact (a.2.2.2 _ _ he).1) d
theorem r_iald (C : Cx p l R s m args meth c G own cc nL ret nm) {a0 N : Nat} {f : Nat → Int32} {i : Int32} (he : h a0 = some (aI_ G N f)) (hi : vp_in i N) (hd : decode cc pc = .ok (.iaload, 1)) (kk : V p l e R s m args below meth c G nL Q h sz k n (pc + 1) L (.int (f i.toNatClampNeg) :: st)) : V p l e R s m args below meth c G nL Q h sz k n pc L (.int i :: .ref a0 :: st) := by
  intro H locs ls a b d
  exact va_iald (ws := [(a0, aI_ G N f)]) C.1 C.2.1 C.2.2.2.2.2.1.1 (fun q x hx => by cases q with
    | zero => cases hx; exact (a.2.2.2 _ _ he).2
    | succ q => simp at hx) 0 0 rfl rfl hi hd (kk H locs ls a b d)
theorem r_cald (C : Cx p l R s m args meth c G own cc nL ret nm) {a0 N : Nat} {f : Nat → Int32} {i : Int32} (he : h a0 = some (aC_ G N f)) (hi : vp_in i N) (hd : decode cc pc = .ok (.caload, 1)) (kk : V p l e R s m args below meth c G nL Q h sz k n (pc + 1) L (.int (f i.toNatClampNeg) :: st)) : V p l e R s m args below meth c G nL Q h sz k n pc L (.int i :: .ref a0 :: st) := by
  intro H locs ls a b d
  exact va_cald (ws := [(a0, aC_ G N f)]) C.1 C.2.1 C.2.2.2.2.2.1.1 (fun q x hx => by cases q with
    | zero => cases hx; exact (a.2.2.2 _ _ he).2
    | succ q => simp at hx) 0 1 rfl rfl hi hd (kk H locs ls a b d)
theorem r_aald (C : Cx p l R s m args meth c G own cc nL ret nm) {a0 N : Nat} {f : Nat → Option Nat} {i : Int32} (he : h a0 = some (aG_ G N f)) (hi : vp_in i N) (hd : decode cc pc = .ok (.aaload, 1)) (kk : V p l e R s m args below meth c G nL Q h sz k n (pc + 1) L (va_rf (f i.toNatClampNeg) :: st)) : V p l e R s m args below meth c G nL Q h sz k n pc L (.int i :: .ref a0 :: st) := by
  intro H locs ls a b d
  exact va_aldq (ws := [(a0, aG_ G N f)]) C.1 C.2.1 C.2.2.2.2.2.1.1 (fun q x hx => by cases q with
    | zero => cases hx; exact (a.2.2.2 _ _ he).2
    | succ q => simp at hx) 0 4 rfl rfl hi hd (kk H locs ls a b d)
theorem r_alenI (C : Cx p l R s m args meth c G own cc nL ret nm) {a0 N : Nat} {f : Nat → Int32} (he : h a0 = some (aI_ G N f)) (hd : decode cc pc = .ok (.arraylength, 1)) (kk : V p l e R s m args below meth c G nL Q h sz k n (pc + 1) L (.int (nI N) :: st)) : V p l e R s m args below meth c G nL Q h sz k n pc L (.ref a0 :: st) := by
  intro H locs ls a b d
  exact va_alen (ws := [(a0, aI_ G N f)]) C.1 C.2.1 C.2.2.2.2.2.1.1 (fun q x hx => by cases q with
    | zero => cases hx; exact (a.2.2.2 _ _ he).2
    | succ q => simp at hx) 0 0 rfl rfl rfl hd (kk H locs ls a b d)
theorem r_alenC (C : Cx p l R s m args meth c G own cc nL ret nm) {a0 N : Nat} {f : Nat → Int32} (he : h a0 = some (aC_ G N f)) (hd : decode cc pc = .ok (.arraylength, 1)) (kk : V p l e R s m args below meth c G nL Q h sz k n (pc + 1) L (.int (nI N) :: st)) : V p l e R s m args below meth c G nL Q h sz k n pc L (.ref a0 :: st) := by
  intro H locs ls a b d
  exact va_alen (ws := [(a0, aC_ G N f)]) C.1 C.2.1 C.2.2.2.2.2.1.1 (fun q x hx => by cases q with
    | zero => cases hx; exact (a.2.2.2 _ _ he).2
    | succ q => simp at hx) 0 1 rfl rfl rfl hd (kk H locs ls a b d)
theorem r_alenG (C : Cx p l R s m args meth c G own cc nL ret nm) {a0 N : Nat} {f : Nat → Option Nat} (he : h a0 = some (aG_ G N f)) (hd : decode cc pc = .ok (.arraylength, 1)) (kk : V p l e R s m args below meth c G nL Q h sz k n (pc + 1) L (.int (nI N) :: st)) : V p l e R s m args below meth c G nL Q h sz k n pc L (.ref a0 :: st) := by
  intro H locs ls a b d
  exact va_alen (ws := [(a0, aG_ G N f)]) C.1 C.2.1 C.2.2.2.2.2.1.1 (fun q x hx => by cases q with
    | zero => cases hx; exact (a.2.2.2 _ _ he).2
    | succ q => simp at hx) 0 4 rfl rfl rfl hd (kk H locs ls a b d)
theorem r_ishl (C : Cx p l R s m args meth c G own cc nL ret nm) {x y : Int32} (hd : decode cc pc = .ok (.ishl, 1))  (kk : V p l e R s m args below meth c G nL Q h sz k n (pc + 1) L (.int (x <<< (y &&& 31)) :: st)) : V p l e R s m args below meth c G nL Q h sz k n pc L (.int y :: .int x :: st) := fun H locs ls a b d => lv_ishl C.1 C.2.1 hd  (kk H locs ls a b d)
theorem r_ishr (C : Cx p l R s m args meth c G own cc nL ret nm) {x y : Int32} (hd : decode cc pc = .ok (.ishr, 1))  (kk : V p l e R s m args below meth c G nL Q h sz k n (pc + 1) L (.int (x >>> (y &&& 31)) :: st)) : V p l e R s m args below meth c G nL Q h sz k n pc L (.int y :: .int x :: st) := fun H locs ls a b d => lv_ishr C.1 C.2.1 hd  (kk H locs ls a b d)
theorem r_iushr (C : Cx p l R s m args meth c G own cc nL ret nm) {x y : Int32} (hd : decode cc pc = .ok (.iushr, 1))  (kk : V p l e R s m args below meth c G nL Q h sz k n (pc + 1) L (.int ((x.toUInt32 >>> (y.toUInt32 &&& Int32.toUInt32 31)).toInt32) :: st)) : V p l e R s m args below meth c G nL Q h sz k n pc L (.int y :: .int x :: st) := fun H locs ls a b d => lv_iushr C.1 C.2.1 hd rfl (kk H locs ls a b d)
theorem r_lshl (C : Cx p l R s m args meth c G own cc nL ret nm) {x : Int64} {y : Int32} (hd : decode cc pc = .ok (.lshl, 1))  (kk : V p l e R s m args below meth c G nL Q h sz k n (pc + 1) L (.long (x <<< (y.toInt64 &&& 63)) :: st)) : V p l e R s m args below meth c G nL Q h sz k n pc L (.int y :: .long x :: st) := fun H locs ls a b d => lv_lshl C.1 C.2.1 hd rfl (kk H locs ls a b d)
theorem r_lcmp (C : Cx p l R s m args meth c G own cc nL ret nm) {x y : Int64} (hd : decode cc pc = .ok (.lcmp, 1))  (kk : V p l e R s m args below meth c G nL Q h sz k n (pc + 1) L (.int (lg_cmp x y) :: st)) : V p l e R s m args below meth c G nL Q h sz k n pc L (.long y :: .long x :: st) := fun H locs ls a b d => W.lcmp C.1 C.2.1 hd  (kk H locs ls a b d)
theorem r_lconst (C : Cx p l R s m args meth c G own cc nL ret nm) {i : Fin 2} {v : Int64} (hd : decode cc pc = .ok (.lconst i, 1)) (hv : Int64.ofNat (i : Nat) = v) (kk : V p l e R s m args below meth c G nL Q h sz k n (pc + 1) L (.long v :: st)) : V p l e R s m args below meth c G nL Q h sz k n pc L (st) := fun H locs ls a b d => lv_lconst C.1 C.2.1 hd hv (kk H locs ls a b d)
theorem r_dconst0 (C : Cx p l R s m args meth c G own cc nL ret nm)  (hd : decode cc pc = .ok (.dconst 0, 1))  (kk : V p l e R s m args below meth c G nL Q h sz k n (pc + 1) L (.double FP.dconst0 :: st)) : V p l e R s m args below meth c G nL Q h sz k n pc L (st) := fun H locs ls a b d => lv_dconst0 C.1 C.2.1 hd  (kk H locs ls a b d)
theorem r_dconst1 (C : Cx p l R s m args meth c G own cc nL ret nm)  (hd : decode cc pc = .ok (.dconst 1, 1))  (kk : V p l e R s m args below meth c G nL Q h sz k n (pc + 1) L (.double FP.dconst1 :: st)) : V p l e R s m args below meth c G nL Q h sz k n pc L (st) := fun H locs ls a b d => lv_dconst1 C.1 C.2.1 hd  (kk H locs ls a b d)
theorem r_i2d (C : Cx p l R s m args meth c G own cc nL ret nm) {x : Int32} (hd : decode cc pc = .ok (.i2d, 1))  (kk : V p l e R s m args below meth c G nL Q h sz k n (pc + 1) L (.double (FP.i2d x) :: st)) : V p l e R s m args below meth c G nL Q h sz k n pc L (.int x :: st) := fun H locs ls a b d => lv_i2d C.1 C.2.1 hd  (kk H locs ls a b d)
theorem r_d2l (C : Cx p l R s m args meth c G own cc nL ret nm) {x : UInt64} (hd : decode cc pc = .ok (.d2l, 1))  (kk : V p l e R s m args below meth c G nL Q h sz k n (pc + 1) L (.long (FP.d2l x) :: st)) : V p l e R s m args below meth c G nL Q h sz k n pc L (.double x :: st) := fun H locs ls a b d => lv_d2l C.1 C.2.1 hd  (kk H locs ls a b d)
theorem r_dcmp (C : Cx p l R s m args meth c G own cc nL ret nm) {x y : UInt64} {op : CmpOp} (hd : decode cc pc = .ok (.dcmp op, 1))  (kk : V p l e R s m args below meth c G nL Q h sz k n (pc + 1) L (.int (Op.cmpValue (FP.dcmp x y) op) :: st)) : V p l e R s m args below meth c G nL Q h sz k n pc L (.double y :: .double x :: st) := fun H locs ls a b d => lv_dcmp C.1 C.2.1 hd  (kk H locs ls a b d)
theorem r_dmul (C : Cx p l R s m args meth c G own cc nL ret nm) {x y : UInt64} (hd : decode cc pc = .ok (.dmul, 1)) (hz : vf_n64 (FP.dmul x y)) (kk : V p l e R s m args below meth c G nL Q h sz k n (pc + 1) L (.double (FP.dmul x y) :: st)) : V p l e R s m args below meth c G nL Q h sz k n pc L (.double y :: .double x :: st) := fun H locs ls a b d => lv_dmul C.1 C.2.1 hd hz (kk H locs ls a b d)
theorem r_ddiv (C : Cx p l R s m args meth c G own cc nL ret nm) {x y : UInt64} (hd : decode cc pc = .ok (.ddiv, 1)) (hz : vf_n64 (FP.ddiv x y)) (kk : V p l e R s m args below meth c G nL Q h sz k n (pc + 1) L (.double (FP.ddiv x y) :: st)) : V p l e R s m args below meth c G nL Q h sz k n pc L (.double y :: .double x :: st) := fun H locs ls a b d => lv_ddiv C.1 C.2.1 hd hz (kk H locs ls a b d)
theorem r_dsub (C : Cx p l R s m args meth c G own cc nL ret nm) {x y : UInt64} (hd : decode cc pc = .ok (.dsub, 1)) (hz : vf_n64 (FP.dsub x y)) (kk : V p l e R s m args below meth c G nL Q h sz k n (pc + 1) L (.double (FP.dsub x y) :: st)) : V p l e R s m args below meth c G nL Q h sz k n pc L (.double y :: .double x :: st) := fun H locs ls a b d => lv_dsub C.1 C.2.1 hd hz (kk H locs ls a b d)
theorem r_ldc_w (C : Cx p l R s m args meth c G own cc nL ret nm) {i : Nat} {v : Int32} (hw : Cond.constant own i v ∈ TB) (hd : decode cc pc = .ok (.ldc_w i, 3)) (kk : V p l e R s m args below meth c G nL Q h sz k n (pc + 3) L (.int v :: st)) : V p l e R s m args below meth c G nL Q h sz k n pc L st := fun H locs ls a b d => lv_ldcw C.1 C.2.1 C.2.2.2.1 (C.2.2.2.2.1 _ hw) hd (kk H locs ls a b d)
theorem r_ldcd (C : Cx p l R s m args meth c G own cc nL ret nm) {i : Nat} {v : UInt64} (hw : Cond.constantDouble own i v ∈ TB) (hd : decode cc pc = .ok (.ldc2_w i, 3)) (kk : V p l e R s m args below meth c G nL Q h sz k n (pc + 3) L (.double v :: st)) : V p l e R s m args below meth c G nL Q h sz k n pc L st := fun H locs ls a b d => lv_ldc2d C.1 C.2.1 C.2.2.2.1 (C.2.2.2.2.1 _ hw) hd (kk H locs ls a b d)
theorem r_ifnull (C : Cx p l R s m args meth c G own cc nL ret nm) {x : Nat} {off : Int} (hd : decode cc pc = .ok (.ifnull off, 3)) (kk : V p l e R s m args below meth c G nL Q h sz k n (pc + 3) L st) : V p l e R s m args below meth c G nL Q h sz k n pc L (.ref x :: st) := fun H locs ls a b d => lv_ifnull C.1 C.2.1 hd (kk H locs ls a b d)
theorem r_ifnonnull (C : Cx p l R s m args meth c G own cc nL ret nm) {x : Nat} {off : Int} (tgt : Nat) (hd : decode cc pc = .ok (.ifnonnull off, 3)) (ht : (pc : Int) + off = (tgt : Int)) (kk : V p l e R s m args below meth c G nL Q h sz k n tgt L st) : V p l e R s m args below meth c G nL Q h sz k n pc L (.ref x :: st) := fun H locs ls a b d => lv_ifnonnull C.1 C.2.1 hd ht (kk H locs ls a b d)
theorem r_ifnullN (C : Cx p l R s m args meth c G own cc nL ret nm) {off : Int} (tgt : Nat) (hd : decode cc pc = .ok (.ifnull off, 3)) (ht : (pc : Int) + off = (tgt : Int)) (kk : V p l e R s m args below meth c G nL Q h sz k n tgt L st) : V p l e R s m args below meth c G nL Q h sz k n pc L (.null :: st) := fun H locs ls a b d => lv_ifnullN C.1 C.2.1 hd ht (kk H locs ls a b d)
theorem r_ifnonnullN (C : Cx p l R s m args meth c G own cc nL ret nm) {off : Int} (hd : decode cc pc = .ok (.ifnonnull off, 3)) (kk : V p l e R s m args below meth c G nL Q h sz k n (pc + 3) L st) : V p l e R s m args below meth c G nL Q h sz k n pc L (.null :: st) := fun H locs ls a b d => lv_ifnonnullN C.1 C.2.1 hd (kk H locs ls a b d)
theorem r_astore_nN (C : Cx p l R s m args meth c G own cc nL ret nm) {j : Fin 4} {i : Nat} (hd : decode cc pc = .ok (.astore_n j, 1)) (hi : (j : Nat) = i) (hn : i < nL) (kk : V p l e R s m args below meth c G nL Q h sz k n (pc + 1) (st1_ L i .null) st) : V p l e R s m args below meth c G nL Q h sz k n pc L (.null :: st) := fun H locs ls a b d => lv_astore_nN C.1 C.2.1 hd hi d hn rfl (fun ls2 d2 => kk H locs ls2 a b d2)
theorem r_aload_nN (C : Cx p l R s m args meth c G own cc nL ret nm) {j : Fin 4} {i : Nat} (hd : decode cc pc = .ok (.aload_n j, 1)) (hi : (j : Nat) = i) (hg : gl_ L i = some .null) (kk : V p l e R s m args below meth c G nL Q h sz k n (pc + 1) L (.null :: st)) : V p l e R s m args below meth c G nL Q h sz k n pc L (st) := fun H locs ls a b d => lv_aload_nN C.1 C.2.1 hd hi (gl_at d hg) (kk H locs ls a b d)
theorem r_tsw (C : Cx p l R s m args meth c G own cc nL ret nm) {dflt lo hi off : Int} {offs : Array Int} {len : Nat} {x : Int32} (tgt : Nat) (hd : decode cc pc = .ok (.tableswitch dflt lo hi offs, len)) (h1 : ¬ x.toInt < lo) (h2 : ¬ hi < x.toInt) (ho : offs[(x.toInt - lo).toNat]? = some off) (ht : (pc : Int) + off = (tgt : Int)) (kk : V p l e R s m args below meth c G nL Q h sz k n tgt L st) : V p l e R s m args below meth c G nL Q h sz k n pc L (.int x :: st) := fun H locs ls a b d => lv_tableIn C.1 C.2.1 hd h1 h2 ho ht (kk H locs ls a b d)
theorem r_tswO (C : Cx p l R s m args meth c G own cc nL ret nm) {dflt lo hi : Int} {offs : Array Int} {len : Nat} {x : Int32} (tgt : Nat) (hd : decode cc pc = .ok (.tableswitch dflt lo hi offs, len)) (h1 : x.toInt < lo ∨ hi < x.toInt) (ht : (pc : Int) + dflt = (tgt : Int)) (kk : V p l e R s m args below meth c G nL Q h sz k n tgt L st) : V p l e R s m args below meth c G nL Q h sz k n pc L (.int x :: st) := fun H locs ls a b d => lv_tableOut C.1 C.2.1 hd h1 ht (kk H locs ls a b d)
theorem r_iast (C : Cx p l R s m args meth c G own cc nL ret nm) {a0 N : Nat} {f : Nat → Int32} {i x : Int32} (he : h a0 = some (aI_ G N f)) (hi : vp_in i N) (hd : decode cc pc = .ok (.iastore, 1)) (kk : V p l e R s m args below meth c G nL Q (up_ h a0 (aI_ G N (upd f i.toNatClampNeg x))) sz k n (pc + 1) L st) : V p l e R s m args below meth c G nL Q h sz k n pc L (.int x :: .int i :: .ref a0 :: st) := by
  intro H locs ls a b d
  refine W.iast C.1 C.2.1 (a.2.2.2 _ _ he).2 ((C.2.2.2.2.2.1.1.2 0 _ rfl).1 N (fun j => .int (f j))) (fun q => by cases q) (by show ¬ (i < 0 ∨ (arrV _ _ _).slots.size ≤ _); rw [arrV_size]; exact hi) rfl rfl hd fun H1 e1 z oq => ?_
  refine kk H1 _ ls (a.put (a.2.2.2 _ _ he).1 ?_ z oq) (fun q hq => by
    rcases List.mem_append.mp hq with z | z
    · exact b q z
    · have := List.mem_singleton.mp z
      subst this
      exact (a.2.2.2 _ _ he).1) d
  show H1[a0]? = some (vp_cell _ _)
  rw [e1]
  rw [vp_cell_i, vp_cell_i, arrV_store]
  congr 2
  funext q
  by_cases hq : q = i.toNatClampNeg
  · subst hq
    simp [updV, upd, vp_nar]
    try rfl
  · simp [updV, upd, hq]
theorem r_cast (C : Cx p l R s m args meth c G own cc nL ret nm) {a0 N : Nat} {f : Nat → Int32} {i x : Int32} (he : h a0 = some (aC_ G N f)) (hi : vp_in i N) (hd : decode cc pc = .ok (.castore, 1)) (kk : V p l e R s m args below meth c G nL Q (up_ h a0 (aC_ G N (upd f i.toNatClampNeg (vp_nar .char x)))) sz k n (pc + 1) L st) : V p l e R s m args below meth c G nL Q h sz k n pc L (.int x :: .int i :: .ref a0 :: st) := by
  intro H locs ls a b d
  refine W.cast C.1 C.2.1 (a.2.2.2 _ _ he).2 ((C.2.2.2.2.2.1.1.2 1 _ rfl).1 N (fun j => .int (f j))) (fun q => by cases q) (by show ¬ (i < 0 ∨ (arrV _ _ _).slots.size ≤ _); rw [arrV_size]; exact hi) rfl rfl hd fun H1 e1 z oq => ?_
  refine kk H1 _ ls (a.put (a.2.2.2 _ _ he).1 ?_ z oq) (fun q hq => by
    rcases List.mem_append.mp hq with z | z
    · exact b q z
    · have := List.mem_singleton.mp z
      subst this
      exact (a.2.2.2 _ _ he).1) d
  show H1[a0]? = some (vp_cell _ _)
  rw [e1]
  rw [vp_cell_i, vp_cell_i, arrV_store]
  congr 2
  funext q
  by_cases hq : q = i.toNatClampNeg
  · subst hq
    simp [updV, upd, vp_nar]
    try rfl
  · simp [updV, upd, hq]
theorem r_aast (C : Cx p l R s m args meth c G own cc nL ret nm) {a0 N v0 : Nat} {f : Nat → Option Nat} {i : Int32} {fs : List Value} (he : h a0 = some (aG_ G N f)) (hv0 : h v0 = some (ob_ 0 fs)) (hi : vp_in i N) (hd : decode cc pc = .ok (.aastore, 1)) (kk : V p l e R s m args below meth c G nL Q (up_ h a0 (aG_ G N (va_up f i.toNatClampNeg (some v0)))) sz k n (pc + 1) L st) : V p l e R s m args below meth c G nL Q h sz k n pc L (.ref v0 :: .int i :: .ref a0 :: st) := by
  intro H locs ls a b d
  have hlt : i.toNatClampNeg < N := Nat.not_le.mp fun q => hi (Or.inr q)
  have h0 : ¬ i < 0 := fun q => hi (Or.inl q)
  obtain ⟨r', hr', cellV, g1, g2, g3, -⟩ := (a.2.2.2 _ _ hv0).2
  have hcls := (C.2.2.2.2.2.1.1.1 0 (RX0, TX0, 13) rfl).2
  obtain ⟨kA, comp, k1, k2, k3, -⟩ := (C.2.2.2.2.2.1.1.2 4 _ rfl).2
  have hcomp : comp = G.1.1 0 := Option.some.inj (k3.symm.trans hcls.1)
  subst hcomp
  obtain ⟨kC, hkC, -⟩ := hcls.2
  refine W.aast C.1 C.2.1 (a.2.2.2 _ _ he).2 (fun q h => by cases h) (fun h => by cases h) k1 k2 rfl hkC ⟨h0, by show _ < (arrV _ _ _).slots.size; rw [arrV_size]; exact hlt⟩ g1 (fun q h => by rw [g3] at h; cases h) (by rw [g2]; exact hkC) (by rw [g2]; exact va_assign hcls) rfl rfl hd fun H1 e1 z oq => ?_
  refine kk H1 _ ls (a.put (a.2.2.2 _ _ he).1 ?_ z oq) (fun q hq => by
    rcases List.mem_append.mp hq with z | z
    · exact b q z
    · have := List.mem_singleton.mp z
      subst this
      exact (a.2.2.2 _ _ he).1) d
  show H1[a0]? = some (vp_cell _ _)
  rw [e1]
  rw [vp_cell_q, vp_cell_q, arrV_store]
  congr 2
  funext q
  by_cases hq : q = i.toNatClampNeg
  · subst hq
    simp [updV, va_up, va_rf]
  · simp [updV, va_up, hq]
theorem r_new (C : Cx p l R s m args meth c G own cc nL ret nm) {Cn : String} {T : u_T} {N ci index : Nat} {fs : List Value} (ty : Nat → FieldType) (hty : ∀ k, k < N → parseFieldDescriptor (T k).2.2.1 = some (ty k)) (hc : vwCl[ci]? = some (Cn, T, N)) (hin : ∀ w ∈ u_ws Cn T N, w ∈ TB) (hcl : Cond.classLink own index Cn ∈ TB) (hinst : Cond.instantiable Cn N ∈ TB) (hini : Cond.initialized Cn ∈ TB) (hfs : ∀ j, j < N → defaultValue (ty j) = vp_V fs j) (hk : k + 1 ≤ R.cells) (hn : n + N ≤ R.slots) (hd : decode cc pc = .ok (.new index, 3)) (kk : V p l e R s m args below meth c G nL Q (up_ h sz (ob_ ci fs)) (sz + 1) (k + 1) (n + N) (pc + 3) L (.ref sz :: st)) : V p l e R s m args below meth c G nL Q h sz k n pc L st := by
  intro H locs ls a b d
  have hts := C.2.2.2.2.1
  have hKn := C.2.2.2.2.2.1.1.1 ci _ hc
  refine W.newcK C.1 C.2.1 C.2.2.2.1 (hts _ hcl) (hts _ hinst) (hts _ hini) rfl hd hk hn hKn.2.1 a.1 fun H1 kC hkC e1 z1 o1 => ?_
  exact kk H1 locs ls (a.new ⟨_, hc, (u_born ty hts hin hKn hkC e1 hty).to hfs⟩ z1 o1) b d
theorem r_newaI (C : Cx p l R s m args meth c G own cc nL ret nm) {i : Int32} {N : Nat} (hw : Cond.arrayClass .int ∈ TB) (h0 : ¬ i < 0) (hN : i.toNatClampNeg = N) (hb : N * 8 ≤ 536870912) (hk : k + 1 ≤ R.cells) (hn : n + N ≤ R.slots) (hd : decode cc pc = .ok (.newarray .int, 2)) (kk : V p l e R s m args below meth c G nL Q (up_ h sz (aI_ G N (fun _ => 0))) (sz + 1) (k + 1) (n + N) (pc + 2) L (.ref sz :: st)) : V p l e R s m args below meth c G nL Q h sz k n pc L (.int i :: st) := by
  intro H locs ls a b d
  refine va_newaK (atype := .int) C.1 C.2.1 (C.2.2.2.2.1 _ hw) rfl hd rfl h0 hN (Nat.le_trans (Nat.mul_le_mul_left N (by decide)) hb) hk hn a.1 fun H1 cA e1 z1 o1 _ hNm => ?_
  have hcA : cA = G.2.1 0 := Option.some.inj (hNm.symm.trans (C.2.2.2.2.2.1.1.2 0 _ rfl).2)
  subst hcA
  exact kk H1 locs ls (a.new e1 z1 o1) b d
theorem r_newaC (C : Cx p l R s m args meth c G own cc nL ret nm) {i : Int32} {N : Nat} (hw : Cond.arrayClass .char ∈ TB) (h0 : ¬ i < 0) (hN : i.toNatClampNeg = N) (hb : N * 8 ≤ 536870912) (hk : k + 1 ≤ R.cells) (hn : n + N ≤ R.slots) (hd : decode cc pc = .ok (.newarray .char, 2)) (kk : V p l e R s m args below meth c G nL Q (up_ h sz (aC_ G N (fun _ => 0))) (sz + 1) (k + 1) (n + N) (pc + 2) L (.ref sz :: st)) : V p l e R s m args below meth c G nL Q h sz k n pc L (.int i :: st) := by
  intro H locs ls a b d
  refine va_newaK (atype := .char) C.1 C.2.1 (C.2.2.2.2.1 _ hw) rfl hd rfl h0 hN (Nat.le_trans (Nat.mul_le_mul_left N (by decide)) hb) hk hn a.1 fun H1 cA e1 z1 o1 _ hNm => ?_
  have hcA : cA = G.2.1 1 := Option.some.inj (hNm.symm.trans (C.2.2.2.2.2.1.1.2 1 _ rfl).2)
  subst hcA
  exact kk H1 locs ls (a.new e1 z1 o1) b d
theorem r_newG (C : Cx p l R s m args meth c G own cc nL ret nm) {i : Int32} {N index : Nat} (hcl : Cond.classLink own index RX0 ∈ TB) (h0 : ¬ i < 0) (hN : i.toNatClampNeg = N) (hb : N * 4 ≤ 536870912) (hk : k + 1 ≤ R.cells) (hn : n + N ≤ R.slots) (hd : decode cc pc = .ok (.anewarray index, 3)) (kk : V p l e R s m args below meth c G nL Q (up_ h sz (aG_ G N (fun _ => none))) (sz + 1) (k + 1) (n + N) (pc + 3) L (.ref sz :: st)) : V p l e R s m args below meth c G nL Q h sz k n pc L (.int i :: st) := by
  intro H locs ls a b d
  subst hN
  refine W.anew C.1 C.2.1 C.2.2.2.1 (C.2.2.2.2.1 _ hcl) (va_AO.use C.2.2.2.2.2.1.2.2.1) rfl hd rfl h0 hb hk hn fun cA kA comp f1 f2 f3 f4 => ?_
  obtain ⟨kB, comp2, -, -, -, k4⟩ := (C.2.2.2.2.2.1.1.2 4 _ rfl).2
  have hcA : cA = G.2.1 4 := Option.some.inj (f1.symm.trans k4)
  subst hcA
  have hz := a.1
  subst hz
  refine kk _ locs ls (a.new (show _ = some (arrV _ _ (fun _ => .null)) from ?_) (by rw [Array.size_push]) (fun q hq => by rw [Array.getElem?_push, if_neg (Nat.ne_of_lt hq)])) b d
  rw [Array.getElem?_push_size]
  exact congrArg some (arrV_new _ _ _)
theorem r_iret (C : Cx p l R s m args meth c G own cc nL ret nm) {x : Int32} {mc ms : Nat} {Post : Option Value → HP → Nat → Prop} (hr : ret = some .int) (hk : k ≤ mc) (hn : n ≤ ms) (hp : Post (some (.int x)) h sz) (hd : decode cc pc = .ok (.ireturn, 1)) : V p l e R s m args below meth c G nL (Qg G below args s mc ms Post) h sz k n pc L [.int x] := by
  intro H locs ls a b d
  refine W.widen hk hn ?_
  exact W.iret (v := x) C.1 C.2.1 (C.2.2.2.2.2.2.1.trans hr) (fun t ht hW => ⟨_, _, _, rfl, hp, by rw [ht]; exact a⟩) b hd (hlocks := C.2.2.2.2.2.2.2.1)
theorem r_lret (C : Cx p l R s m args meth c G own cc nL ret nm) {x : Int64} {mc ms : Nat} {Post : Option Value → HP → Nat → Prop} (hr : ret = some .long) (hk : k ≤ mc) (hn : n ≤ ms) (hp : Post (some (.long x)) h sz) (hd : decode cc pc = .ok (.lreturn, 1)) : V p l e R s m args below meth c G nL (Qg G below args s mc ms Post) h sz k n pc L [.long x] := by
  intro H locs ls a b d
  refine W.widen hk hn ?_
  exact W.lret (v := x) C.1 C.2.1 (C.2.2.2.2.2.2.1.trans hr) (fun t ht hW => ⟨_, _, _, rfl, hp, by rw [ht]; exact a⟩) b hd (hlocks := C.2.2.2.2.2.2.2.1)
theorem r_dret (C : Cx p l R s m args meth c G own cc nL ret nm) {x : UInt64} {mc ms : Nat} {Post : Option Value → HP → Nat → Prop} (hr : ret = some .double) (hk : k ≤ mc) (hn : n ≤ ms) (hp : Post (some (.double x)) h sz) (hd : decode cc pc = .ok (.dreturn, 1)) : V p l e R s m args below meth c G nL (Qg G below args s mc ms Post) h sz k n pc L [.double x] := by
  intro H locs ls a b d
  refine W.widen hk hn ?_
  exact W.dret (v := x) C.1 C.2.1 (C.2.2.2.2.2.2.1.trans hr) (fun t ht hW => ⟨_, _, _, rfl, hp, by rw [ht]; exact a⟩) b hd (hlocks := C.2.2.2.2.2.2.2.1)
theorem r_zret (C : Cx p l R s m args meth c G own cc nL ret nm) {x : Int32} {mc ms : Nat} {Post : Option Value → HP → Nat → Prop} (hr : ret = some .boolean) (hx : x = 0 ∨ x = 1) (hk : k ≤ mc) (hn : n ≤ ms) (hp : Post (some (.int x)) h sz) (hd : decode cc pc = .ok (.ireturn, 1)) : V p l e R s m args below meth c G nL (Qg G below args s mc ms Post) h sz k n pc L [.int x] := by
  intro H locs ls a b d
  refine W.widen hk hn ?_
  exact W.zret (v := x) C.1 C.2.1 (C.2.2.2.2.2.2.1.trans hr) (by rcases hx with rfl | rfl <;> rfl) (fun t ht hW => ⟨_, _, _, rfl, hp, by rw [ht]; exact a⟩) b hd (hlocks := C.2.2.2.2.2.2.2.1)
theorem r_vret (C : Cx p l R s m args meth c G own cc nL ret nm) {mc ms : Nat} {Post : Option Value → HP → Nat → Prop} (hr : ret = none) (hk : k ≤ mc) (hn : n ≤ ms) (hp : Post none h sz) (hd : decode cc pc = .ok (.return_, 1)) : V p l e R s m args below meth c G nL (Qg G below args s mc ms Post) h sz k n pc L [] := by
  intro H locs ls a b d
  refine W.widen hk hn ?_
  exact W.vret C.1 C.2.1 (C.2.2.2.2.2.2.1.trans hr) (fun t ht hW => ⟨_, _, _, rfl, hp, by rw [ht]; exact a⟩) b hd (hlocks := C.2.2.2.2.2.2.2.1)
theorem r_objInit (C : Cx p l R s m args meth c G own cc nL ret nm) {a0 idx : Nat} (hl : Cond.methodLink own idx Lib.objectInit ∈ TB) (hi : Cond.instanceMethod Lib.objectInit ∈ TB) (hcd : Cond.code Lib.objectInit ⟨#[0xb1]⟩ 1 none ∈ TB) (hf : 1 ≤ R.frames) (hlo : (st.map fun v => v.category).sum + 12 ≤ R.locals) (hd : decode cc pc = .ok (.invokespecial idx, 3)) (kk : V p l e R s m args below meth c G nL Q h sz k n (pc + 3) L st) : V p l e R s m args below meth c G nL Q h sz k n pc L (.ref a0 :: st) := by
  intro H locs ls a b d
  exact W.objInit C.1 C.2.1 C.2.2.2.1 (C.2.2.2.2.1 _ hl) (C.2.2.2.2.1 _ hi) (C.2.2.2.2.1 _ hcd) rfl (by rw [C.2.2.1]; exact d.1) rfl hd hf (by show 2 * 0 + _ + 12 ≤ _; omega) (kk H locs ls a b d)
theorem r_mmax (C : Cx p l R s m args meth c G own cc nL ret nm) {x y : Int32} {idx : Nat} (hl : Cond.methodLink own idx Lib.Math.max.name ∈ TB) (h2 : Cond.static Lib.Math.max.name ∈ TB) (h3 : Cond.initialized "java/lang/Math" ∈ TB) (h4 : Cond.code Lib.Math.max.name Lib.Math.max.code 2 (some .int) ∈ TB) (hf : 1 ≤ R.frames) (hlo : (st.map fun v => v.category).sum + 13 ≤ R.locals) (hk : k ≤ R.cells) (hn : n ≤ R.slots) (hd : decode cc pc = .ok (.invokestatic idx, 3)) (kk : V p l e R s m args below meth c G nL Q h sz k n (pc + 3) L (.int (if x < y then y else x) :: st)) : V p l e R s m args below meth c G nL Q h sz k n pc L (.int y :: .int x :: st) := by
  intro H locs ls a b d
  exact va_mmax C.1 C.2.1 (C.2.2.1.trans d.1.symm) C.2.2.2.1 (C.2.2.2.2.1 _ hl) (C.2.2.2.2.1 _ h2) (C.2.2.2.2.1 _ h3) (C.2.2.2.2.1 _ h4) hf hlo hk hn hd (kk H locs ls a b d)
theorem r_mmin (C : Cx p l R s m args meth c G own cc nL ret nm) {x y : Int32} {idx : Nat} (hl : Cond.methodLink own idx Lib.Math.min.name ∈ TB) (h2 : Cond.static Lib.Math.min.name ∈ TB) (h3 : Cond.initialized "java/lang/Math" ∈ TB) (h4 : Cond.code Lib.Math.min.name Lib.Math.min.code 2 (some .int) ∈ TB) (hf : 1 ≤ R.frames) (hlo : (st.map fun v => v.category).sum + 13 ≤ R.locals) (hk : k ≤ R.cells) (hn : n ≤ R.slots) (hd : decode cc pc = .ok (.invokestatic idx, 3)) (kk : V p l e R s m args below meth c G nL Q h sz k n (pc + 3) L (.int (if y < x then y else x) :: st)) : V p l e R s m args below meth c G nL Q h sz k n pc L (.int y :: .int x :: st) := by
  intro H locs ls a b d
  exact va_mmin C.1 C.2.1 (C.2.2.1.trans d.1.symm) C.2.2.2.1 (C.2.2.2.2.1 _ hl) (C.2.2.2.2.1 _ h2) (C.2.2.2.2.1 _ h3) (C.2.2.2.2.1 _ h4) hf hlo hk hn hd (kk H locs ls a b d)
/-- the words of a virtual call, of a static one, of a constructor's -/
def LkV (own : String) (index : Nat) (y : MethodName) (bytes : ByteArray) (maxL : Nat) (rt : Option FieldType) (q : Nat) : Prop := Cond.methodLink own index y ∈ TB ∧ Cond.instanceMethod y ∈ TB ∧ Cond.selects y.cls y y ∈ TB ∧ Cond.initialized y.cls ∈ TB ∧ Cond.code y bytes maxL rt ∈ TB ∧ (y.cls ≠ "java/lang/invoke/MethodHandle" ∧ y.cls ≠ "java/lang/invoke/VarHandle" ∧ (parseMethodDescriptor y.desc).map (fun d => d.parameters.length) = some q)
def LkS (own : String) (index : Nat) (y : MethodName) (bytes : ByteArray) (maxL : Nat) (rt : Option FieldType) (q : Nat) : Prop := Cond.methodLink own index y ∈ TB ∧ Cond.static y ∈ TB ∧ Cond.initialized y.cls ∈ TB ∧ Cond.code y bytes maxL rt ∈ TB ∧ (y.cls ≠ "java/lang/invoke/MethodHandle" ∧ y.cls ≠ "java/lang/invoke/VarHandle" ∧ (parseMethodDescriptor y.desc).map (fun d => d.parameters.length) = some q)
def LkI (own : String) (index : Nat) (y : MethodName) (bytes : ByteArray) (maxL : Nat) (q : Nat) : Prop := Cond.methodLink own index y ∈ TB ∧ Cond.instanceMethod y ∈ TB ∧ Cond.initialized y.cls ∈ TB ∧ Cond.code y bytes maxL none ∈ TB ∧ y.name = "<init>" ∧ (y.cls ≠ "java/lang/invoke/MethodHandle" ∧ y.cls ≠ "java/lang/invoke/VarHandle" ∧ (parseMethodDescriptor y.desc).map (fun d => d.parameters.length) = some q)
def LkN (own : String) (index : Nat) (host : String) (y : MethodName) (bytes : ByteArray) (maxL : Nat) (q : Nat) : Prop := Cond.methodLinkNest own index y host ∈ NB ∧ Cond.instanceMethod y ∈ TB ∧ Cond.initialized y.cls ∈ TB ∧ Cond.code y bytes maxL none ∈ TB ∧ y.name = "<init>" ∧ (y.cls ≠ "java/lang/invoke/MethodHandle" ∧ y.cls ≠ "java/lang/invoke/VarHandle" ∧ (parseMethodDescriptor y.desc).map (fun d => d.parameters.length) = some q)
theorem law_good : ∀ w ∈ TB, goodWord w = true := fun _ h => (List.mem_filter.mp h).2
theorem law_in {y : MethodName} {cc : ByteArray} {nL : Nat} {rt : Option FieldType} (hc : Cond.code y cc nL rt ∈ TB) : GoodIn TB (.code y cc nL rt :: TB) := by
  intro w hw
  have hm : w ∈ TB := by
    rcases List.mem_cons.mp hw with rfl | hw
    · exact hc
    · exact hw
  exact ⟨hm, good_of_word (law_good w hm)⟩
/-- the room that a call needs, here: frames, locals, cells, slots, and what lies below on the stack -/
def Rm (R : Room) (k n fr maxL lo mc ms : Nat) (rest : List Value) : Prop := fr + 1 ≤ R.frames ∧ 8 + (maxL + 11) + lo ≤ R.locals ∧ k + mc ≤ R.cells ∧ n + ms ≤ R.slots ∧ (rest.map fun v => v.category).sum ≤ 8
theorem pc_blind {G : ga_} {av : List Value} {h : HP} {sz : Nat} : FrameBlind (va_Pc av (fun U => hr_ G h sz U.heap ∧ ev_ G U)) := fun a U g mk q => ⟨q.1, q.2.1, ev_.same (s := U) (U := U.calling g mk a) rfl q.2.2⟩
theorem r_callV (C : Cx p l R s m args meth c G own cc nL ret nm) {y : MethodName} {bytes : ByteArray} {maxL fr lo mc ms index q : Nat} {rt : Option FieldType} {As rest : List Value} {Post : Option Value → HP → Nat → Prop} {b0 ci N : Nat} {T : u_T} {fs : List Value} (hM : Mg G l y bytes maxL rt fr lo mc ms (.ref b0 :: As) h sz Post) (lk : LkV own index y bytes maxL rt q) (hc : vwCl[ci]? = some (y.cls, T, N)) (he : h b0 = some (ob_ ci fs)) (hq : As.length = q) (hs : st = As.reverse ++ .ref b0 :: rest) (rm : Rm R k n fr maxL lo mc ms rest) (hd : decode cc pc = .ok (.invokevirtual index, 3)) (kk : ∀ v h1 s1, Post v h1 s1 → V p l e R s m args below meth c G nL Q h1 s1 (k + mc) (n + ms) (pc + 3) L (v.toList ++ rest)) : V p l e R s m args below meth c G nL Q h sz k n pc L st := by
  intro H locs ls a b d T0 hT X
  subst hs
  obtain ⟨l1, l2, l3, l4, l5, l6, l7, l8⟩ := lk
  obtain ⟨g1, g2, g3, g4, g5⟩ := rm
  have hts := C.2.2.2.2.1
  have ok : ∀ w ∈ (wsV own index y.cls y (.code y bytes maxL rt :: TB)), w ∈ TB := by
    intro w hw
    simp only [wsV, List.cons_append, List.nil_append, List.mem_cons] at hw
    rcases hw with rfl | rfl | rfl | rfl | rfl | hw
    · exact l1
    · exact l2
    · exact l3
    · exact l4
    · exact l5
    · exact hw
  have HR := va_runV (p := p) (l := l) (e := e) (s := s) (m := m) (meth := meth) (c := c) (R := R) (args := args) (below := below) (locs := locs) (cells := k) (slots := n) (As := As) (rest := rest) (g := F0 m pc ls (As.reverse ++ .ref b0 :: rest)) ⟨C.1, C.2.1, C.2.2.1, C.2.2.2.1, hts⟩ hM (cwV q hts (fun w hw => ⟨ok w hw, good_of_word (law_good w (ok w hw))⟩) rfl rfl rfl ⟨rfl, l6, l7, l8⟩ ⟨g1, g2⟩)
    ⟨pc_blind, by
      obtain ⟨r', h1', cell, k1, k2, k3, -⟩ := (a.2.2.2 _ _ he).2
      exact ⟨cell, k1, by rw [k3]; rfl, by rw [k2]; exact (C.2.2.2.2.2.1.1.1 ci _ hc).2.1⟩, fun U hU hW => ⟨rfl, by rw [hU]; exact a, ev_.moved hW C.2.2.2.2.2.1⟩⟩ rfl hq d.1 rfl (by show 2 * 0 + _ ≤ 8; omega) hd ⟨g3, g4⟩
  obtain ⟨v, st₀, t, T', L1, h0, X', hL, e1, e2, ⟨v1, h1, s1, hv, hp, hh⟩, stp⟩ := HR T0 hT X
  cases hv
  obtain ⟨t2, a1, b1⟩ := kk _ h1 s1 hp T'.heap (locs ++ L1) ls (by rw [e1]; exact hh) (fun q hq => by
    rcases List.mem_append.mp hq with z | z
    · exact b q z
    · exact hL q z) d T' rfl X'
  exact ⟨t2, stp t2 a1, b1⟩
theorem r_callS (C : Cx p l R s m args meth c G own cc nL ret nm) {y : MethodName} {bytes : ByteArray} {maxL fr lo mc ms index q : Nat} {rt : Option FieldType} {As rest : List Value} {Post : Option Value → HP → Nat → Prop} (hM : Mg G l y bytes maxL rt fr lo mc ms As h sz Post) (lk : LkS own index y bytes maxL rt q) (hq : As.length = q) (hs : st = As.reverse ++ rest) (rm : Rm R k n fr maxL lo mc ms rest) (hd : decode cc pc = .ok (.invokestatic index, 3)) (kk : ∀ v h1 s1, Post v h1 s1 → V p l e R s m args below meth c G nL Q h1 s1 (k + mc) (n + ms) (pc + 3) L (v.toList ++ rest)) : V p l e R s m args below meth c G nL Q h sz k n pc L st := by
  intro H locs ls a b d T0 hT X
  subst hs
  obtain ⟨l1, l2, l4, l5, l6, l7, l8⟩ := lk
  obtain ⟨g1, g2, g3, g4, g5⟩ := rm
  have hts := C.2.2.2.2.1
  have ok : ∀ w ∈ (va_wsS own index y (.code y bytes maxL rt :: TB)), w ∈ TB := by
    intro w hw
    simp only [va_wsS, List.cons_append, List.nil_append, List.mem_cons] at hw
    rcases hw with rfl | rfl | rfl | rfl | hw
    · exact l1
    · exact l2
    · exact l4
    · exact l5
    · exact hw
  have HR := va_runS (p := p) (l := l) (e := e) (s := s) (m := m) (meth := meth) (c := c) (R := R) (args := args) (below := below) (locs := locs) (cells := k) (slots := n) (As := As) (rest := rest) (g := F0 m pc ls (As.reverse ++ rest)) ⟨C.1, C.2.1, C.2.2.1, C.2.2.2.1, hts⟩ hM (va_cwS q hts (fun w hw => ⟨ok w hw, good_of_word (law_good w (ok w hw))⟩) rfl rfl rfl ⟨l6, l7, l8⟩ ⟨g1, g2⟩)
    ⟨pc_blind, fun U hU hW => ⟨rfl, by rw [hU]; exact a, ev_.moved hW C.2.2.2.2.2.1⟩⟩ rfl hq d.1 rfl (by show 2 * 0 + _ ≤ 8; omega) hd ⟨g3, g4⟩
  obtain ⟨v, st₀, t, T', L1, h0, X', hL, e1, e2, ⟨v1, h1, s1, hv, hp, hh⟩, stp⟩ := HR T0 hT X
  cases hv
  obtain ⟨t2, a1, b1⟩ := kk _ h1 s1 hp T'.heap (locs ++ L1) ls (by rw [e1]; exact hh) (fun q hq => by
    rcases List.mem_append.mp hq with z | z
    · exact b q z
    · exact hL q z) d T' rfl X'
  exact ⟨t2, stp t2 a1, b1⟩
theorem r_callI (C : Cx p l R s m args meth c G own cc nL ret nm) {y : MethodName} {bytes : ByteArray} {maxL fr lo mc ms index q b0 : Nat} {As rest : List Value} {Post : Option Value → HP → Nat → Prop} (hM : Mg G l y bytes maxL none fr lo mc ms (.ref b0 :: As) h sz Post) (lk : LkI own index y bytes maxL q) (hq : As.length = q) (hs : st = As.reverse ++ .ref b0 :: rest) (rm : Rm R k n fr maxL lo mc ms rest) (hd : decode cc pc = .ok (.invokespecial index, 3)) (kk : ∀ v h1 s1, Post v h1 s1 → V p l e R s m args below meth c G nL Q h1 s1 (k + mc) (n + ms) (pc + 3) L (v.toList ++ rest)) : V p l e R s m args below meth c G nL Q h sz k n pc L st := by
  intro H locs ls a b d T0 hT X
  subst hs
  obtain ⟨l1, l2, l4, l5, ln, l6, l7, l8⟩ := lk
  obtain ⟨g1, g2, g3, g4, g5⟩ := rm
  have hts := C.2.2.2.2.1
  have HR := va_runI (p := p) (l := l) (e := e) (s := s) (m := m) (meth := meth) (c := c) (R := R) (args := args) (below := below) (locs := locs) (cells := k) (slots := n) (As := As) (rest := rest) (g := F0 m pc ls (As.reverse ++ .ref b0 :: rest)) ⟨C.1, C.2.1, C.2.2.1, C.2.2.2.1, hts⟩ hM (cwI q hts (law_in l5) rfl rfl rfl (hts _ l4) (hts _ l1) (hts _ l2) ln ⟨l6, l7, l8⟩ ⟨g1, g2⟩)
    ⟨pc_blind, fun U hU hW => ⟨rfl, by rw [hU]; exact a, ev_.moved hW C.2.2.2.2.2.1⟩⟩ rfl hq d.1 rfl (by show 2 * 0 + _ ≤ 8; omega) hd ⟨g3, g4⟩
  obtain ⟨v, st₀, t, T', L1, h0, X', hL, e1, e2, ⟨v1, h1, s1, hv, hp, hh⟩, stp⟩ := HR T0 hT X
  cases hv
  obtain ⟨t2, a1, b1⟩ := kk _ h1 s1 hp T'.heap (locs ++ L1) ls (by rw [e1]; exact hh) (fun q hq => by
    rcases List.mem_append.mp hq with z | z
    · exact b q z
    · exact hL q z) d T' rfl X'
  exact ⟨t2, stp t2 a1, b1⟩
theorem r_callN (C : Cx p l R s m args meth c G own cc nL ret nm) {y : MethodName} {host : String} {bytes : ByteArray} {maxL fr lo mc ms index q b0 : Nat} {As rest : List Value} {Post : Option Value → HP → Nat → Prop} (hM : Mg G l y bytes maxL none fr lo mc ms (.ref b0 :: As) h sz Post) (lk : LkN own index host y bytes maxL q) (hq : As.length = q) (hs : st = As.reverse ++ .ref b0 :: rest) (rm : Rm R k n fr maxL lo mc ms rest) (hd : decode cc pc = .ok (.invokespecial index, 3)) (kk : ∀ v h1 s1, Post v h1 s1 → V p l e R s m args below meth c G nL Q h1 s1 (k + mc) (n + ms) (pc + 3) L (v.toList ++ rest)) : V p l e R s m args below meth c G nL Q h sz k n pc L st := by
  intro H locs ls a b d T0 hT X
  subst hs
  obtain ⟨l1, l2, l4, l5, ln, l6, l7, l8⟩ := lk
  obtain ⟨g1, g2, g3, g4, g5⟩ := rm
  have hts := C.2.2.2.2.1
  have HR := va_runIN (p := p) (l := l) (e := e) (s := s) (m := m) (meth := meth) (c := c) (R := R) (args := args) (below := below) (locs := locs) (cells := k) (slots := n) (As := As) (rest := rest) (g := F0 m pc ls (As.reverse ++ .ref b0 :: rest)) ⟨C.1, C.2.1, C.2.2.1, C.2.2.2.1, hts⟩ hM ⟨va_cnB q hts (law_in l5) rfl rfl rfl (C.2.2.2.2.2.1.2.1 _ l1) (hts _ l4) ⟨l6, l7, l8⟩ ⟨g1, g2⟩, ln, hts _ l2⟩
    ⟨pc_blind, fun U hU hW => ⟨rfl, by rw [hU]; exact a, ev_.moved hW C.2.2.2.2.2.1⟩⟩ rfl hq d.1 rfl (by show 2 * 0 + _ ≤ 8; omega) hd ⟨g3, g4⟩
  obtain ⟨v, st₀, t, T', L1, h0, X', hL, e1, e2, ⟨v1, h1, s1, hv, hp, hh⟩, stp⟩ := HR T0 hT X
  cases hv
  obtain ⟨t2, a1, b1⟩ := kk _ h1 s1 hp T'.heap (locs ++ L1) ls (by rw [e1]; exact hh) (fun q hq => by
    rcases List.mem_append.mp hq with z | z
    · exact b q z
    · exact hL q z) d T' rfl X'
  exact ⟨t2, stp t2 a1, b1⟩
theorem r_cVv (C : Cx p l R s m args meth c G own cc nL ret nm) {y : MethodName} {bytes : ByteArray} {maxL fr lo mc ms index q : Nat} {rt : Option FieldType} {As rest : List Value} {h1 : HP} {s1 : Nat} {b0 ci N : Nat} {T : u_T} {fs : List Value} (hM : Mf G l y bytes maxL rt fr lo mc ms (.ref b0 :: As) h sz none h1 s1) (lk : LkV own index y bytes maxL rt q) (hc : vwCl[ci]? = some (y.cls, T, N)) (he : h b0 = some (ob_ ci fs)) (hq : As.length = q) (hs : st = As.reverse ++ .ref b0 :: rest) (rm : Rm R k n fr maxL lo mc ms rest) (hd : decode cc pc = .ok (.invokevirtual index, 3)) (kk : V p l e R s m args below meth c G nL Q h1 s1 (k + mc) (n + ms) (pc + 3) L (rest)) : V p l e R s m args below meth c G nL Q h sz k n pc L st := r_callV C hM lk hc he hq hs rm hd (fun v h2 s2 hp => by obtain ⟨rfl, rfl, rfl⟩ := hp; exact kk)
theorem r_cSv (C : Cx p l R s m args meth c G own cc nL ret nm) {y : MethodName} {bytes : ByteArray} {maxL fr lo mc ms index q : Nat} {rt : Option FieldType} {As rest : List Value} {h1 : HP} {s1 : Nat} (hM : Mf G l y bytes maxL rt fr lo mc ms As h sz none h1 s1) (lk : LkS own index y bytes maxL rt q) (hq : As.length = q) (hs : st = As.reverse ++ rest) (rm : Rm R k n fr maxL lo mc ms rest) (hd : decode cc pc = .ok (.invokestatic index, 3)) (kk : V p l e R s m args below meth c G nL Q h1 s1 (k + mc) (n + ms) (pc + 3) L (rest)) : V p l e R s m args below meth c G nL Q h sz k n pc L st := r_callS C hM lk hq hs rm hd (fun v h2 s2 hp => by obtain ⟨rfl, rfl, rfl⟩ := hp; exact kk)
theorem r_cVi (C : Cx p l R s m args meth c G own cc nL ret nm) {y : MethodName} {bytes : ByteArray} {maxL fr lo mc ms index q : Nat} {rt : Option FieldType} {As rest : List Value} {h1 : HP} {s1 : Nat} {r : Int32} {b0 ci N : Nat} {T : u_T} {fs : List Value} (hM : Mf G l y bytes maxL rt fr lo mc ms (.ref b0 :: As) h sz (some (.int r)) h1 s1) (lk : LkV own index y bytes maxL rt q) (hc : vwCl[ci]? = some (y.cls, T, N)) (he : h b0 = some (ob_ ci fs)) (hq : As.length = q) (hs : st = As.reverse ++ .ref b0 :: rest) (rm : Rm R k n fr maxL lo mc ms rest) (hd : decode cc pc = .ok (.invokevirtual index, 3)) (kk : V p l e R s m args below meth c G nL Q h1 s1 (k + mc) (n + ms) (pc + 3) L (.int r :: rest)) : V p l e R s m args below meth c G nL Q h sz k n pc L st := r_callV C hM lk hc he hq hs rm hd (fun v h2 s2 hp => by obtain ⟨rfl, rfl, rfl⟩ := hp; exact kk)
theorem r_cSi (C : Cx p l R s m args meth c G own cc nL ret nm) {y : MethodName} {bytes : ByteArray} {maxL fr lo mc ms index q : Nat} {rt : Option FieldType} {As rest : List Value} {h1 : HP} {s1 : Nat} {r : Int32} (hM : Mf G l y bytes maxL rt fr lo mc ms As h sz (some (.int r)) h1 s1) (lk : LkS own index y bytes maxL rt q) (hq : As.length = q) (hs : st = As.reverse ++ rest) (rm : Rm R k n fr maxL lo mc ms rest) (hd : decode cc pc = .ok (.invokestatic index, 3)) (kk : V p l e R s m args below meth c G nL Q h1 s1 (k + mc) (n + ms) (pc + 3) L (.int r :: rest)) : V p l e R s m args below meth c G nL Q h sz k n pc L st := r_callS C hM lk hq hs rm hd (fun v h2 s2 hp => by obtain ⟨rfl, rfl, rfl⟩ := hp; exact kk)
theorem r_cVl (C : Cx p l R s m args meth c G own cc nL ret nm) {y : MethodName} {bytes : ByteArray} {maxL fr lo mc ms index q : Nat} {rt : Option FieldType} {As rest : List Value} {h1 : HP} {s1 : Nat} {r : Int64} {b0 ci N : Nat} {T : u_T} {fs : List Value} (hM : Mf G l y bytes maxL rt fr lo mc ms (.ref b0 :: As) h sz (some (.long r)) h1 s1) (lk : LkV own index y bytes maxL rt q) (hc : vwCl[ci]? = some (y.cls, T, N)) (he : h b0 = some (ob_ ci fs)) (hq : As.length = q) (hs : st = As.reverse ++ .ref b0 :: rest) (rm : Rm R k n fr maxL lo mc ms rest) (hd : decode cc pc = .ok (.invokevirtual index, 3)) (kk : V p l e R s m args below meth c G nL Q h1 s1 (k + mc) (n + ms) (pc + 3) L (.long r :: rest)) : V p l e R s m args below meth c G nL Q h sz k n pc L st := r_callV C hM lk hc he hq hs rm hd (fun v h2 s2 hp => by obtain ⟨rfl, rfl, rfl⟩ := hp; exact kk)
theorem r_cSl (C : Cx p l R s m args meth c G own cc nL ret nm) {y : MethodName} {bytes : ByteArray} {maxL fr lo mc ms index q : Nat} {rt : Option FieldType} {As rest : List Value} {h1 : HP} {s1 : Nat} {r : Int64} (hM : Mf G l y bytes maxL rt fr lo mc ms As h sz (some (.long r)) h1 s1) (lk : LkS own index y bytes maxL rt q) (hq : As.length = q) (hs : st = As.reverse ++ rest) (rm : Rm R k n fr maxL lo mc ms rest) (hd : decode cc pc = .ok (.invokestatic index, 3)) (kk : V p l e R s m args below meth c G nL Q h1 s1 (k + mc) (n + ms) (pc + 3) L (.long r :: rest)) : V p l e R s m args below meth c G nL Q h sz k n pc L st := r_callS C hM lk hq hs rm hd (fun v h2 s2 hp => by obtain ⟨rfl, rfl, rfl⟩ := hp; exact kk)
theorem r_cVd (C : Cx p l R s m args meth c G own cc nL ret nm) {y : MethodName} {bytes : ByteArray} {maxL fr lo mc ms index q : Nat} {rt : Option FieldType} {As rest : List Value} {h1 : HP} {s1 : Nat} {r : UInt64} {b0 ci N : Nat} {T : u_T} {fs : List Value} (hM : Mf G l y bytes maxL rt fr lo mc ms (.ref b0 :: As) h sz (some (.double r)) h1 s1) (lk : LkV own index y bytes maxL rt q) (hc : vwCl[ci]? = some (y.cls, T, N)) (he : h b0 = some (ob_ ci fs)) (hq : As.length = q) (hs : st = As.reverse ++ .ref b0 :: rest) (rm : Rm R k n fr maxL lo mc ms rest) (hd : decode cc pc = .ok (.invokevirtual index, 3)) (kk : V p l e R s m args below meth c G nL Q h1 s1 (k + mc) (n + ms) (pc + 3) L (.double r :: rest)) : V p l e R s m args below meth c G nL Q h sz k n pc L st := r_callV C hM lk hc he hq hs rm hd (fun v h2 s2 hp => by obtain ⟨rfl, rfl, rfl⟩ := hp; exact kk)
theorem r_cSd (C : Cx p l R s m args meth c G own cc nL ret nm) {y : MethodName} {bytes : ByteArray} {maxL fr lo mc ms index q : Nat} {rt : Option FieldType} {As rest : List Value} {h1 : HP} {s1 : Nat} {r : UInt64} (hM : Mf G l y bytes maxL rt fr lo mc ms As h sz (some (.double r)) h1 s1) (lk : LkS own index y bytes maxL rt q) (hq : As.length = q) (hs : st = As.reverse ++ rest) (rm : Rm R k n fr maxL lo mc ms rest) (hd : decode cc pc = .ok (.invokestatic index, 3)) (kk : V p l e R s m args below meth c G nL Q h1 s1 (k + mc) (n + ms) (pc + 3) L (.double r :: rest)) : V p l e R s m args below meth c G nL Q h sz k n pc L st := r_callS C hM lk hq hs rm hd (fun v h2 s2 hp => by obtain ⟨rfl, rfl, rfl⟩ := hp; exact kk)
theorem r_cIv (C : Cx p l R s m args meth c G own cc nL ret nm) {y : MethodName} {bytes : ByteArray} {maxL fr lo mc ms index q b0 : Nat} {As rest : List Value} {h1 : HP} {s1 : Nat}  (hM : Mf G l y bytes maxL none fr lo mc ms (.ref b0 :: As) h sz none h1 s1) (lk : LkI own index y bytes maxL q) (hq : As.length = q) (hs : st = As.reverse ++ .ref b0 :: rest) (rm : Rm R k n fr maxL lo mc ms rest) (hd : decode cc pc = .ok (.invokespecial index, 3)) (kk : V p l e R s m args below meth c G nL Q h1 s1 (k + mc) (n + ms) (pc + 3) L rest) : V p l e R s m args below meth c G nL Q h sz k n pc L st := r_callI C hM lk hq hs rm hd (fun v h2 s2 hp => by obtain ⟨rfl, rfl, rfl⟩ := hp; exact kk)
theorem r_cNv (C : Cx p l R s m args meth c G own cc nL ret nm) {y : MethodName} {bytes : ByteArray} {maxL fr lo mc ms index q b0 : Nat} {As rest : List Value} {h1 : HP} {s1 : Nat}  {host : String} (hM : Mf G l y bytes maxL none fr lo mc ms (.ref b0 :: As) h sz none h1 s1) (lk : LkN own index host y bytes maxL q) (hq : As.length = q) (hs : st = As.reverse ++ .ref b0 :: rest) (rm : Rm R k n fr maxL lo mc ms rest) (hd : decode cc pc = .ok (.invokespecial index, 3)) (kk : V p l e R s m args below meth c G nL Q h1 s1 (k + mc) (n + ms) (pc + 3) L rest) : V p l e R s m args below meth c G nL Q h sz k n pc L st := r_callN C hM lk hq hs rm hd (fun v h2 s2 hp => by obtain ⟨rfl, rfl, rfl⟩ := hp; exact kk)
theorem r_acopy (C : Cx p l R s m args meth c G own cc nL ret nm) {a0 a1 n0 n1 : Nat} {f g : Nat → Int32} {N : Int32} {idx : Nat} (hl : Cond.methodLink own idx arraycopyName ∈ TB) (h2 : Cond.native arraycopyName ∈ TB) (h3 : Cond.static arraycopyName ∈ TB) (h4 : Cond.initialized "java/lang/System" ∈ TB) (he0 : h a0 = some (aI_ G n0 f)) (he : h a1 = some (aI_ G n1 g)) (g3 : ¬ N < 0) (g4 : N.toNatClampNeg ≤ n0) (g5 : N.toNatClampNeg ≤ n1) (hf : 1 ≤ R.frames) (hlo : (st.map fun v => v.category).sum + (nativeFrameWords "java/lang/System" "arraycopy" 5 + 11) ≤ R.locals) (hd : decode cc pc = .ok (.invokestatic idx, 3)) (kk : V p l e R s m args below meth c G nL Q (up_ h a1 (aI_ G n1 (va_cpy f g 0 0 N.toNatClampNeg))) sz k n (pc + 3) L st) : V p l e R s m args below meth c G nL Q h sz k n pc L (.int N :: .int 0 :: .ref a1 :: .int 0 :: .ref a0 :: st) := by
  intro H locs ls a b d
  have nn : N.toInt = (N.toNatClampNeg : Int) := by
    have hz0 : (0 : Int) ≤ N.toInt := by
      have := Int32.not_lt.mp g3
      simpa using Int32.le_iff_toInt_le.mp this
    show N.toInt = ((N.toInt.toNat : Nat) : Int)
    omega
  intro T hT X
  have hc0 : H[a0]? = some (vp_cell (G.2.1 0) (n0, .inl f)) := (a.2.2.2 _ _ he0).2
  have hc1 : H[a1]? = some (vp_cell (G.2.1 0) (n1, .inl g)) := (a.2.2.2 _ _ he).2
  obtain ⟨-, k0, hk0, cm0, hkk0⟩ := (C.2.2.2.2.2.1.1.2 0 _ rfl).1 n0 (fun j => .int (f j))
  obtain ⟨-, k1, hk1, cm1, hkk1⟩ := (C.2.2.2.2.2.1.1.2 0 _ rfl).1 n1 (fun j => .int (g j))
  obtain ⟨vm', X', step⟩ := X.arraycopy C.1 C.2.2.2.1 (C.2.2.2.2.1 _ hl) (C.2.2.2.2.1 _ h2) (C.2.2.2.2.1 _ h3) (C.2.2.2.2.1 _ h4) (src := a0) (dst := a1) (cs := vp_cell (G.2.1 0) (n0, .inl f)) (cd := vp_cell (G.2.1 0) (n1, .inl g)) (srcPos := 0) (destPos := 0) (n := N) (by rw [hT]; exact hc0) (by rw [hT]; exact hc1)
    (fun _ h => by cases h) (fun _ h => by cases h) (fun h => by cases h) (fun h => by cases h) hk0 hk1 hkk0 hkk1 (by simp [refKind]) (by decide) (by decide) g3
    (by rw [nn]; show ¬ ((0 : Int32).toInt + _ > ((arrV _ n0 (fun j => .int (f j))).slots.size : Int)); rw [arrV_size, show (0 : Int32).toInt = 0 from rfl]; omega)
    (by rw [nn]; show ¬ ((0 : Int32).toInt + _ > ((arrV _ n1 (fun j => .int (g j))).slots.size : Int)); rw [arrV_size, show (0 : Int32).toInt = 0 from rfl]; omega)
    (fun vm₁ _ i hi => by
      have e : (vp_cell (G.2.1 0) (n0, .inl f)).slots.getD ((0 : Int32).toNatClampNeg + i) .null = .int (f ((0 : Int32).toNatClampNeg + i)) := by
        show (arrV _ n0 (fun j => .int (f j))).slots.getD _ _ = _
        rw [Array.getD_eq_getD_getElem?, arrV_read _ _ (by show 0 + i < n0; omega)]
        rfl
      refine ⟨?_, ?_⟩
      · rw [e]
        rfl
      · rw [e]
        exact trivial)
    (g := F0 m pc ls (.int N :: .int 0 :: .ref a1 :: .int 0 :: .ref a0 :: st)) rfl (by rw [C.2.2.1]; exact d.1) (rest := st) rfl (by rw [C.2.1]; exact hd) hf (by show 2 * 0 + _ + _ ≤ _; omega)
  have e1 : copied (vp_cell (G.2.1 0) (n0, .inl f)) (vp_cell (G.2.1 0) (n1, .inl g)) 0 0 N = vp_cell (G.2.1 0) (n1, .inl (va_cpy f g 0 0 N.toNatClampNeg)) := va_copied (fun z => .int z) _ _ f g (by show 0 + _ ≤ _; omega)
  rw [e1] at X' step
  have hla : a1 < H.size := (Array.getElem?_eq_some_iff.mp hc1).1
  have oq : ∀ q : Nat, q ≠ a1 → (H.setIfInBounds a1 (vp_cell (G.2.1 0) (n1, .inl (va_cpy f g 0 0 N.toNatClampNeg))))[q]? = H[q]? := fun q hq => by simp [Array.getElem?_setIfInBounds, Ne.symm hq]
  obtain ⟨t, b1, b2⟩ := kk (H.setIfInBounds a1 (vp_cell (G.2.1 0) (n1, .inl (va_cpy f g 0 0 N.toNatClampNeg)))) _ ls (a.put (a.2.2.2 _ _ he).1 (show (H.setIfInBounds a1 _)[a1]? = some _ by simp [Array.getElem?_setIfInBounds, hla]) (by simp) oq) (fun q hq => by
    rcases List.mem_append.mp hq with z | z
    · exact b q z
    · obtain ⟨i, -, hi⟩ := List.mem_map.mp z
      rw [← hi]
      exact (a.2.2.2 _ _ he).1) d _ (by rw [← hT]; rfl) X'
  exact ⟨t, step t b1, b2⟩
end LY
