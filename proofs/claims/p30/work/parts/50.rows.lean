/-! CATCHES, A METHOD WITH A TABLE, THE SCRIPT, CALLS THAT DON'T THROW -/
section LC
variable {p : Program} {l : Launch} {e : Env} {R : Room} {s : State} {m : MethodId} {args : Array Value} {below : List Frame} {meth : Method} {c : Code} {Q : State → Prop}
variable {G : ga_} {own : String} {cc : ByteArray} {nL : Nat} {ret : Option FieldType} {nm : String}
variable {h : HP} {sz k n pc : Nat} {L : List (Nat × Value)} {st : List Value}
/-- the row of the table that takes E, thrown at pc0; its handler begins at hp -/
def Ct_ (own : String) (tb : List ExceptionTableEntry) (pc0 : Nat) (E : String) (hp : Nat) : Prop := ∃ pre x suf, tb = pre ++ x :: suf ∧ (∀ z ∈ pre, z.catchType ≠ 0 ∧ ∃ n2 : String, Cond.classLink own z.catchType n2 ∈ TB ∧ n2 ∈ YB ∧ E ≠ n2) ∧ covers x pc0 = true ∧ x.catchType ≠ 0 ∧ Cond.classLink own x.catchType E ∈ TB ∧ E ∈ XB ∧ x.handlerPc = hp
theorem callc_core {mc2 ms2 : Nat} {Post2 : Option Value → HP → Nat → Prop} {PX2 : String → HP → Nat → Prop} {H : Heap} {locs : List Loc} {ls : Array Slot} {a0 : Array Value} {rest : List Value} {pc0 : Nat} {st0 : List Value} {tb : List ExceptionTableEntry} (C : Cx p l R s m args meth c G own cc nL ret nm) (hT : c.exceptionTable.toList = tb)
    (HR : vx_Run p l e R s m args below meth c H locs k n mc2 ms2 (F0 m pc0 ls st0) rest (qc_ G Post2 a0) (xc_ G PX2) (fun q => G.2.2.1 ≤ q)) (b : ∀ q ∈ locs, G.2.2.1 ≤ q.base) (d : lv_has ls nL L)
    (kx : ∀ E h1 s1, PX2 E h1 s1 → ∃ hp, Ct_ own tb pc0 E hp ∧ ∀ q : Nat, V p l e R s m args below meth c G nL Q h1 s1 (k + mc2) (n + ms2) hp L [.ref q])
    (kk : ∀ v h1 s1, Post2 v h1 s1 → V p l e R s m args below meth c G nL Q h1 s1 (k + mc2) (n + ms2) (pc0 + 3) L (v.toList ++ rest)) : W p l e R s m args below meth c H locs k n Q (F0 m pc0 ls st0) := by
  intro T hT0 X
  rcases HR T hT0 X with ⟨v, st₀, t, T', L1, h0, X', hL, e1, e2, ⟨v1, h1, s1, hv, hp, hh⟩, stp⟩ | ⟨q, st₀, t, T', L1, E, ce, h0, X', hL, e1, e2, ⟨h1, s1, hp, hh⟩, hce, hcv, hcl, stp⟩
  · cases hv
    obtain ⟨t2, a1, b1⟩ := kk _ h1 s1 hp T'.heap (locs ++ L1) ls (by rw [e1]; exact hh) (fun q hq => by
      rcases List.mem_append.mp hq with z | z
      · exact b q z
      · exact hL q z) d T' rfl X'
    exact ⟨t2, stp t2 a1, b1⟩
  · obtain ⟨hp0, ⟨pre, x, suf, c1, c2, c3, c4, c5, c6, c7⟩, kq⟩ := kx E h1 s1 hp
    obtain ⟨x1, x2, -⟩ := C.2.2.2.2.2.1.2.2.2
    have hts := C.2.2.2.2.1
    have K := vx_catch (p := p) (l := l) (e := e) (R := R) (s := s) (m := m) (args := args) (below := below) (meth := meth) (c := c) (H := T'.heap) (locs := locs ++ L1) (cells := k + mc2) (slots := n + ms2) (Q := Q) (pc := pc0) (ls := ls) (rest := rest) (own := own) (name := E) (E := E) (ce := ce) (q := q)
      C.2.2.2.1 pre x suf (hT.trans c1) (fun z hz => by
        obtain ⟨z1, n2, z2, z3, z4⟩ := c2 z hz
        exact Or.inr ⟨z1, n2, hts _ z2, x2 E c6 n2 z3 z4⟩) c3 c4 (hts _ c5) (va_Nw.use rfl (x1 E c6)) (by rw [e1]; exact hce) hcv hcl
      (by
        rw [c7]
        exact kq q T'.heap (locs ++ L1) ls (by rw [e1]; exact hh) (fun z hz => by
          rcases List.mem_append.mp hz with y | y
          · exact b z y
          · exact hL z y) d)
    obtain ⟨t2, a1, b1⟩ := K T' rfl X'
    exact ⟨t2, stp.trans a1, b1⟩
/-- a virtual call inside a try -/
theorem r_xVc {y : MethodName} {bytes : ByteArray} {maxL fr lo mc2 ms2 index q b0 ci N : Nat} {T : u_T} {fs : List Value} {rt : Option FieldType} {As rest : List Value} {Post2 : Option Value → HP → Nat → Prop} {PX2 : String → HP → Nat → Prop} {tb : List ExceptionTableEntry} (C : Cx p l R s m args meth c G own cc nL ret nm) (hT : c.exceptionTable.toList = tb) (hM : Mx G l y bytes maxL rt fr lo mc2 ms2 (.ref b0 :: As) h sz Post2 PX2) (lk : LkV own index y bytes maxL rt q) (hc : vwCl[ci]? = some (y.cls, T, N)) (he : h b0 = some (ob_ ci fs)) (hq : As.length = q) (hs : st = As.reverse ++ .ref b0 :: rest) (rm : Rm R k n fr maxL lo mc2 ms2 rest) (hd : decode cc pc = .ok (.invokevirtual index, 3))
    (kx : ∀ E h1 s1, PX2 E h1 s1 → ∃ hp, Ct_ own tb pc E hp ∧ ∀ q : Nat, V p l e R s m args below meth c G nL Q h1 s1 (k + mc2) (n + ms2) hp L [.ref q])
    (kk : ∀ v h1 s1, Post2 v h1 s1 → V p l e R s m args below meth c G nL Q h1 s1 (k + mc2) (n + ms2) (pc + 3) L (v.toList ++ rest)) : V p l e R s m args below meth c G nL Q h sz k n pc L st := by
  intro H locs ls a b d
  subst hs
  obtain ⟨l1, l2, l3, l4, l5, l6, l7, l8⟩ := lk
  obtain ⟨g1, g2, g3, g4, g5⟩ := rm
  have hts := C.2.2.2.2.1
  have ok : ∀ w ∈ (wsV own index y.cls y (.code y bytes maxL rt :: TB)), w ∈ TB := by
    intro w hw
    simp only [wsV, List.cons_append, List.nil_append, List.mem_cons] at hw
    rcases hw with rfl | rfl | rfl | rfl | rfl | hw
    · exact l1
    · exact l2
    · exact l3
    · exact l4
    · exact l5
    · exact hw
  have HR := vx_runV (p := p) (l := l) (e := e) (s := s) (m := m) (meth := meth) (c := c) (R := R) (args := args) (below := below) (locs := locs) (cells := k) (slots := n) (As := As) (rest := rest) (g := F0 m pc ls (As.reverse ++ .ref b0 :: rest)) ⟨C.1, C.2.1, C.2.2.1, C.2.2.2.1, hts⟩ hM (cwV q hts (fun w hw => ⟨ok w hw, good_of_word (law_good w (ok w hw))⟩) rfl rfl rfl ⟨rfl, l6, l7, l8⟩ ⟨g1, g2⟩)
    ⟨pc_blind, by
      obtain ⟨r', h1', cell, k1, k2, k3, -⟩ := (a.2.2.2 _ _ he).2
      exact ⟨cell, k1, by rw [k3]; rfl, by rw [k2]; exact (C.2.2.2.2.2.1.1.1 ci _ hc).2.1⟩, fun U hU hW => ⟨rfl, by rw [hU]; exact a, ev_.moved hW C.2.2.2.2.2.1⟩⟩ rfl hq d.1 rfl (by show 2 * 0 + _ ≤ 8; omega) hd ⟨g3, g4⟩
  exact callc_core C hT HR b d kx kk
/-- a static method with a table of its own, that never throws -/
def Mw (G : ga_) (l : Launch) (y : MethodName) (cc : ByteArray) (nL : Nat) (ret : Option FieldType) (hh : List (Nat × Nat × Nat × Nat)) (fr lo mc ms : Nat) (av : List Value) (h : HP) (sz : Nat) (Post : Option Value → HP → Nat → Prop) : Prop :=
  vx_Met l y (.codeWith y cc nL ret hh :: TB) { frames := fr, cells := mc, slots := ms, locals := lo } (va_Pc av (fun U => hr_ G h sz U.heap ∧ ev_ G U)) (qc_ G Post) (xc_ G (fun _ _ _ => False)) mc ms (fun q => G.2.2.1 ≤ q)
theorem Mw.ofV {y : MethodName} {fr lo mc ms : Nat} {hh : List (Nat × Nat × Nat × Nat)} {av : List Value} {h : HP} {sz : Nat} {Post : Option Value → HP → Nat → Prop} (L0 : List (Nat × Value)) (hy : plainName y.cls = true) (hn : (lg_sl av).length ≤ nL) (hL : lv_args 0 av = L0)
    (body : ∀ (p : Program) (e : Env) (s : State) (m : MethodId) (args : Array Value) (below : List Frame) (meth : Method) (c : Code), Cx p l { frames := fr, cells := mc, slots := ms, locals := lo } s m args meth c G y.cls cc nL ret y.name → c.exceptionTable.toList = tableOf hh →
      V p l e { frames := fr, cells := mc, slots := ms, locals := lo } s m args below meth c G nL (Qx G below args s mc ms Post (fun _ _ _ => False)) h sz 0 0 0 L0 []) : Mw G l y cc nL ret hh fr lo mc ms av h sz Post := by
  refine vx_ofWH hy rfl ?_
  intro p e s m args below meth c s₁ B hml hv
  obtain ⟨rfl, hr0, hev⟩ := hv
  have hts := atoms_spec (ws := .codeWith y cc nL ret hh :: TB) B.pre
  have hC : Cx p l { frames := fr, cells := mc, slots := ms, locals := lo } s m av.toArray meth c G y.cls cc nL ret y.name :=
    ⟨B.exec, B.bytes, hml, findClass_of_methodNamed B.named, fun w hw => hts w (List.mem_cons_of_mem _ hw), hev, B.returns, B.notSynchronized, (name_of_methodNamed B.named B.method).1⟩
  have hl := lv_entry av (n := nL) hn
  rw [lg_entry_eq]
  rw [hL] at hl
  exact body p e s m av.toArray below meth c hC (vx_table (x := y) B (hts _ List.mem_cons_self)) s.heap [] _ hr0 (fun q hq => by cases hq) hl
def LkW (own : String) (index : Nat) (y : MethodName) (bytes : ByteArray) (maxL : Nat) (rt : Option FieldType) (hh : List (Nat × Nat × Nat × Nat)) (q : Nat) : Prop := Cond.methodLink own index y ∈ TB ∧ Cond.static y ∈ TB ∧ Cond.initialized y.cls ∈ TB ∧ Cond.codeWith y bytes maxL rt hh ∈ TB ∧ (y.cls ≠ "java/lang/invoke/MethodHandle" ∧ y.cls ≠ "java/lang/invoke/VarHandle" ∧ (parseMethodDescriptor y.desc).map (fun d => d.parameters.length) = some q)
theorem callw_core {mc2 ms2 : Nat} {Post2 : Option Value → HP → Nat → Prop} {H : Heap} {locs : List Loc} {ls : Array Slot} {a0 : Array Value} {rest : List Value} {pc0 : Nat} {st0 : List Value}
    (HR : vx_Run p l e R s m args below meth c H locs k n mc2 ms2 (F0 m pc0 ls st0) rest (qc_ G Post2 a0) (xc_ G (fun _ _ _ => False)) (fun q => G.2.2.1 ≤ q)) (b : ∀ q ∈ locs, G.2.2.1 ≤ q.base) (d : lv_has ls nL L)
    (kk : ∀ v h1 s1, Post2 v h1 s1 → V p l e R s m args below meth c G nL Q h1 s1 (k + mc2) (n + ms2) (pc0 + 3) L (v.toList ++ rest)) : W p l e R s m args below meth c H locs k n Q (F0 m pc0 ls st0) := by
  intro T hT0 X
  rcases HR T hT0 X with ⟨v, st₀, t, T', L1, h0, X', hL, e1, e2, ⟨v1, h1, s1, hv, hp, hh⟩, stp⟩ | ⟨q, st₀, t, T', L1, E, ce, h0, X', hL, e1, e2, ⟨h1, s1, hp, hh⟩, hce, hcv, hcl, stp⟩
  · cases hv
    obtain ⟨t2, a1, b1⟩ := kk _ h1 s1 hp T'.heap (locs ++ L1) ls (by rw [e1]; exact hh) (fun q hq => by
      rcases List.mem_append.mp hq with z | z
      · exact b q z
      · exact hL q z) d T' rfl X'
    exact ⟨t2, stp t2 a1, b1⟩
  · exact hp.elim
theorem r_cSW {y : MethodName} {bytes : ByteArray} {maxL fr lo mc2 ms2 index q : Nat} {rt : Option FieldType} {hh : List (Nat × Nat × Nat × Nat)} {As rest : List Value} {Post2 : Option Value → HP → Nat → Prop} (C : Cx p l R s m args meth c G own cc nL ret nm) (hM : Mw G l y bytes maxL rt hh fr lo mc2 ms2 As h sz Post2) (lk : LkW own index y bytes maxL rt hh q) (hq : As.length = q) (hs : st = As.reverse ++ rest) (rm : Rm R k n fr maxL lo mc2 ms2 rest) (hd : decode cc pc = .ok (.invokestatic index, 3))
    (kk : ∀ v h1 s1, Post2 v h1 s1 → V p l e R s m args below meth c G nL Q h1 s1 (k + mc2) (n + ms2) (pc + 3) L (v.toList ++ rest)) : V p l e R s m args below meth c G nL Q h sz k n pc L st := by
  intro H locs ls a b d
  subst hs
  obtain ⟨l1, l2, l4, l5, l6, l7, l8⟩ := lk
  obtain ⟨g1, g2, g3, g4, g5⟩ := rm
  have hts := C.2.2.2.2.1
  have ok : ∀ w ∈ (va_wsS own index y (.codeWith y bytes maxL rt hh :: TB)), w ∈ TB := by
    intro w hw
    simp only [va_wsS, List.cons_append, List.nil_append, List.mem_cons] at hw
    rcases hw with rfl | rfl | rfl | rfl | hw
    · exact l1
    · exact l2
    · exact l4
    · exact l5
    · exact hw
  have HR := vx_runSX (p := p) (l := l) (e := e) (s := s) (m := m) (meth := meth) (c := c) (R := R) (args := args) (below := below) (locs := locs) (cells := k) (slots := n) (As := As) (rest := rest) (g := F0 m pc ls (As.reverse ++ rest)) ⟨C.1, C.2.1, C.2.2.1, C.2.2.2.1, hts⟩ hM (vx_cwSW q hts (fun w hw => ⟨ok w hw, good_of_word (law_good w (ok w hw))⟩) rfl rfl rfl ⟨l6, l7, l8⟩ ⟨g1, g2⟩)
    ⟨pc_blind, fun U hU hW => ⟨rfl, by rw [hU]; exact a, ev_.moved hW C.2.2.2.2.2.1⟩⟩ rfl hq d.1 rfl (by show 2 * 0 + _ ≤ 8; omega) hd ⟨g3, g4⟩
  exact callw_core HR b d kk
-- the script
/-- the script lies below all that is told of -/
def Sx (G : ga_) (s : State) (b N : Nat) (xs : Nat → Int32) : Prop := va_X b N xs s s.heap ∧ b < s.heap.size ∧ G.2.2.1 = s.heap.size ∧ ∀ q, q < s.heap.size → G.2.2.2 q = s.heap[q]?
theorem hr_.vs {H : Heap} {locs : List Loc} {b N : Nat} {xs : Nat → Int32} (w : hr_ G h sz H) (X : Sx G s b N xs) (hl : ∀ q ∈ locs, G.2.2.1 ≤ q.base) : va_S (fun q => s.heap.size ≤ q) s.heap H locs := by
  obtain ⟨x1, x2, x3, x4⟩ := X
  refine ⟨by rw [w.1, ← x3]; exact w.2.1, fun q hq _ => ?_, fun q hq => by rw [← x3]; exact hl q hq⟩
  rw [w.2.2.1 q (by rw [x3]; exact hq), x4 q hq]
theorem r_sld {b0 N : Nat} {xs : Nat → Int32} (C : Cx p l R s m args meth c G own cc nL ret nm) (X : Sx G s b0 N xs) {i : Int32} (hi : vp_in i N) (hd : decode cc pc = .ok (.iaload, 1)) (kk : V p l e R s m args below meth c G nL Q h sz k n (pc + 1) L (.int (xs i.toNatClampNeg) :: st)) : V p l e R s m args below meth c G nL Q h sz k n pc L (.int i :: .ref b0 :: st) :=
  fun H locs ls a b d => va_sld C.1 C.2.1 X.1 X.2.1 (Nat.not_le.mpr X.2.1) (a.vs X b) hi hd (kk H locs ls a b d)
theorem r_slen {b0 N : Nat} {xs : Nat → Int32} (C : Cx p l R s m args meth c G own cc nL ret nm) (X : Sx G s b0 N xs) (hd : decode cc pc = .ok (.arraylength, 1)) (kk : V p l e R s m args below meth c G nL Q h sz k n (pc + 1) L (.int (nI N) :: st)) : V p l e R s m args below meth c G nL Q h sz k n pc L (.ref b0 :: st) :=
  fun H locs ls a b d => va_slen C.1 C.2.1 X.1 X.2.1 (Nat.not_le.mpr X.2.1) (a.vs X b) hd (kk H locs ls a b d)

/-- a heap that says less -/
theorem V.weak {h2 : HP} (hs : ∀ H, hr_ G h sz H → hr_ G h2 sz H) (kk : V p l e R s m args below meth c G nL Q h2 sz k n pc L st) : V p l e R s m args below meth c G nL Q h sz k n pc L st := fun H locs ls a b d => kk H locs ls (hs H a) b d
/-- a call that may throw, but doesn't -/
theorem calln_core {mc2 ms2 : Nat} {Post2 : Option Value → HP → Nat → Prop} {PX2 : String → HP → Nat → Prop} {H : Heap} {locs : List Loc} {ls : Array Slot} {a0 : Array Value} {rest : List Value} {pc0 : Nat} {st0 : List Value}
    (HR : vx_Run p l e R s m args below meth c H locs k n mc2 ms2 (F0 m pc0 ls st0) rest (qc_ G Post2 a0) (xc_ G PX2) (fun q => G.2.2.1 ≤ q)) (hno : ∀ E h1 s1, PX2 E h1 s1 → False) (b : ∀ q ∈ locs, G.2.2.1 ≤ q.base) (d : lv_has ls nL L)
    (kk : ∀ v h1 s1, Post2 v h1 s1 → V p l e R s m args below meth c G nL Q h1 s1 (k + mc2) (n + ms2) (pc0 + 3) L (v.toList ++ rest)) : W p l e R s m args below meth c H locs k n Q (F0 m pc0 ls st0) := by
  intro T hT0 X
  rcases HR T hT0 X with ⟨v, st₀, t, T', L1, h0, X', hL, e1, e2, ⟨v1, h1, s1, hv, hp, hh⟩, stp⟩ | ⟨q, st₀, t, T', L1, E, ce, h0, X', hL, e1, e2, ⟨h1, s1, hp, hh⟩, hce, hcv, hcl, stp⟩
  · cases hv
    obtain ⟨t2, a1, b1⟩ := kk _ h1 s1 hp T'.heap (locs ++ L1) ls (by rw [e1]; exact hh) (fun q hq => by
      rcases List.mem_append.mp hq with z | z
      · exact b q z
      · exact hL q z) d T' rfl X'
    exact ⟨t2, stp t2 a1, b1⟩
  · exact (hno E h1 s1 hp).elim
theorem r_nV {y : MethodName} {bytes : ByteArray} {maxL fr lo mc2 ms2 index q b0 ci N : Nat} {T : u_T} {fs : List Value} {rt : Option FieldType} {As rest : List Value} {Post2 : Option Value → HP → Nat → Prop} {PX2 : String → HP → Nat → Prop} (C : Cx p l R s m args meth c G own cc nL ret nm) (hM : Mx G l y bytes maxL rt fr lo mc2 ms2 (.ref b0 :: As) h sz Post2 PX2) (hno : ∀ E h1 s1, PX2 E h1 s1 → False) (lk : LkV own index y bytes maxL rt q) (hc : vwCl[ci]? = some (y.cls, T, N)) (he : h b0 = some (ob_ ci fs)) (hq : As.length = q) (hs : st = As.reverse ++ .ref b0 :: rest) (rm : Rm R k n fr maxL lo mc2 ms2 rest) (hd : decode cc pc = .ok (.invokevirtual index, 3))
    (kk : ∀ v h1 s1, Post2 v h1 s1 → V p l e R s m args below meth c G nL Q h1 s1 (k + mc2) (n + ms2) (pc + 3) L (v.toList ++ rest)) : V p l e R s m args below meth c G nL Q h sz k n pc L st := by
  intro H locs ls a b d
  subst hs
  obtain ⟨l1, l2, l3, l4, l5, l6, l7, l8⟩ := lk
  obtain ⟨g1, g2, g3, g4, g5⟩ := rm
  have hts := C.2.2.2.2.1
  have ok : ∀ w ∈ (wsV own index y.cls y (.code y bytes maxL rt :: TB)), w ∈ TB := by
    intro w hw
    simp only [wsV, List.cons_append, List.nil_append, List.mem_cons] at hw
    rcases hw with rfl | rfl | rfl | rfl | rfl | hw
    · exact l1
    · exact l2
    · exact l3
    · exact l4
    · exact l5
    · exact hw
  have HR := vx_runV (p := p) (l := l) (e := e) (s := s) (m := m) (meth := meth) (c := c) (R := R) (args := args) (below := below) (locs := locs) (cells := k) (slots := n) (As := As) (rest := rest) (g := F0 m pc ls (As.reverse ++ .ref b0 :: rest)) ⟨C.1, C.2.1, C.2.2.1, C.2.2.2.1, hts⟩ hM (cwV q hts (fun w hw => ⟨ok w hw, good_of_word (law_good w (ok w hw))⟩) rfl rfl rfl ⟨rfl, l6, l7, l8⟩ ⟨g1, g2⟩)
    ⟨pc_blind, by
      obtain ⟨r', h1', cell, k1, k2, k3, -⟩ := (a.2.2.2 _ _ he).2
      exact ⟨cell, k1, by rw [k3]; rfl, by rw [k2]; exact (C.2.2.2.2.2.1.1.1 ci _ hc).2.1⟩, fun U hU hW => ⟨rfl, by rw [hU]; exact a, ev_.moved hW C.2.2.2.2.2.1⟩⟩ rfl hq d.1 rfl (by show 2 * 0 + _ ≤ 8; omega) hd ⟨g3, g4⟩
  exact calln_core HR hno b d kk
/-- a look of the class -/
theorem r_look {y : MethodName} {bytes : ByteArray} {maxL fr lo mc2 ms2 index q b0 ci N : Nat} {T : u_T} {fs : List Value} {rt : Option FieldType} {As rest : List Value} {ok : Bool} {r r2 : Int32} {th : Option String} (C : Cx p l R s m args meth c G own cc nL ret nm) (hM : Mx G l y bytes maxL rt fr lo mc2 ms2 (.ref b0 :: As) h sz (poL h sz ok r) (pxE h sz th)) (hth : th = none) (hr : r = r2) (lk : LkV own index y bytes maxL rt q) (hc : vwCl[ci]? = some (y.cls, T, N)) (he : h b0 = some (ob_ ci fs)) (hq : As.length = q) (hs : st = As.reverse ++ .ref b0 :: rest) (rm : Rm R k n fr maxL lo mc2 ms2 rest) (hd : decode cc pc = .ok (.invokevirtual index, 3))
    (kk : V p l e R s m args below meth c G nL Q h sz (k + mc2) (n + ms2) (pc + 3) L (.int r2 :: rest)) : V p l e R s m args below meth c G nL Q h sz k n pc L st :=
  r_nV C hM (fun E h1 s1 q => by
    obtain ⟨q1, -⟩ := q
    rw [hth] at q1
    cases q1) lk hc he hq hs rm hd (fun v h1 s1 hp => by
    obtain ⟨rfl, -, rfl, rfl⟩ := hp
    rw [← hr] at kk
    exact kk)
theorem r_lookM {y : MethodName} {bytes : ByteArray} {maxL fr lo mc2 ms2 index q b0 ci N : Nat} {T : u_T} {fs : List Value} {rt : Option FieldType} {As rest : List Value} {ok : Bool} {r r2 : Int32} (C : Cx p l R s m args meth c G own cc nL ret nm) (hM : Mg G l y bytes maxL rt fr lo mc2 ms2 (.ref b0 :: As) h sz (poL h sz ok r)) (hr : r = r2) (lk : LkV own index y bytes maxL rt q) (hc : vwCl[ci]? = some (y.cls, T, N)) (he : h b0 = some (ob_ ci fs)) (hq : As.length = q) (hs : st = As.reverse ++ .ref b0 :: rest) (rm : Rm R k n fr maxL lo mc2 ms2 rest) (hd : decode cc pc = .ok (.invokevirtual index, 3))
    (kk : V p l e R s m args below meth c G nL Q h sz (k + mc2) (n + ms2) (pc + 3) L (.int r2 :: rest)) : V p l e R s m args below meth c G nL Q h sz k n pc L st :=
  r_callV C hM lk hc he hq hs rm hd (fun v h1 s1 hp => by
    obtain ⟨rfl, -, rfl, rfl⟩ := hp
    rw [← hr] at kk
    exact kk)
theorem okN_i {i k : Nat} (h : i < k) (hk : k < 2147483648) : okN (nI i) (nI k) = true := by
  unfold okN
  rw [decide_eq_false (nI_pos (by omega)), decide_eq_true (nI_lt h hk)]
  rfl
theorem has_i {S : gS} {P t : Nat} (hP : S 5 0 = nI P) (hP4 : P ≤ 4) (ht : t < P) : g_has S (nI t) = true := by
  unfold g_has
  rw [hP, decide_eq_false (nI_pos (by omega)), decide_eq_true (nI_lt ht (by omega))]
  rfl
theorem th2_n {a b : Bool} {e1 e2 : String} (h1 : a = true) (h2 : b = true) : th2 a e1 b e2 = none := by rw [h1, h2]; rfl
theorem th1_n {a : Bool} {e1 : String} (h1 : a = true) : th1 a e1 = none := by rw [h1]; rfl
theorem th3_n {a b d : Bool} {e1 e2 e3 : String} (h1 : a = true) (h2 : b = true) (h3 : d = true) : th3 a e1 b e2 d e3 = none := by rw [h1, h2, h3]; rfl
variable {x : Nat} {dy : Nat → Prop} {S : gS} {sv sl : Nat → Option Nat} {D : Nat → gS} {nx z len : Nat} {cf : Nat → Int32} {rest : List Value}
theorem q_tile (C : Cx p l R s m args meth c G RL cc nL ret nm) (hst : l.stackTraces = false) (w : RA G h x dy sz S sv sl D nx z cf len) {t i : Nat} {a b : Int32} (ht : t < 28) (hi : i < 7) (ea : a = nI t) (eb : b = nI i) (hs : st = .int b :: .int a :: .ref x :: rest) (rm : Rm R k n 7 3 111 2 12 rest) (hd : decode cc pc = .ok (.invokevirtual 54, 3)) (kk : V p l e R s m args below meth c G nL Q h sz (k + 2) (n + 12) (pc + 3) L (.int (S 0 (t * 7 + i)) :: rest)) : V p l e R s m args below meth c G nL Q h sz k n pc L st := by
  subst ea eb
  exact r_look C (c_X5_tileOf hst w) (th2_n (okN_i (k := 28) ht (by decide)) (okN_i (k := 7) hi (by decide))) (at0 ht hi) lk_L_54 rfl w.2.1 rfl hs rm hd kk
theorem q_row (C : Cx p l R s m args meth c G RL cc nL ret nm) (hst : l.stackTraces = false) (w : RA G h x dy sz S sv sl D nx z cf len) {t i : Nat} {a b : Int32} (ht : t < 3) (hi : i < 4) (ea : a = nI t) (eb : b = nI i) (hs : st = .int b :: .int a :: .ref x :: rest) (rm : Rm R k n 7 3 111 2 12 rest) (hd : decode cc pc = .ok (.invokevirtual 60, 3)) (kk : V p l e R s m args below meth c G nL Q h sz (k + 2) (n + 12) (pc + 3) L (.int (S 3 (t * 4 + i)) :: rest)) : V p l e R s m args below meth c G nL Q h sz k n pc L st := by
  subst ea eb
  exact r_look C (c_X5_rowOf hst w) (th2_n (okN_i (k := 3) ht (by decide)) (okN_i (k := 4) hi (by decide))) (at3 ht hi) lk_L_60 rfl w.2.1 rfl hs rm hd kk
theorem q_count (C : Cx p l R s m args meth c G RL cc nL ret nm) (hst : l.stackTraces = false) (w : RA G h x dy sz S sv sl D nx z cf len) {i : Nat} {b r2 : Int32} (hi : i < 12) (eb : b = nI i) (hr : g_num S (nI i) (nI z) = r2) (hs : st = .int b :: .ref x :: rest) (rm : Rm R k n 7 2 133 1 6 rest) (hd : decode cc pc = .ok (.invokevirtual 51, 3)) (kk : V p l e R s m args below meth c G nL Q h sz (k + 1) (n + 6) (pc + 3) L (.int r2 :: rest)) : V p l e R s m args below meth c G nL Q h sz k n pc L st := by
  subst eb
  exact r_look C (c_X5_count hst w) (th1_n (okN_i (k := 12) hi (by decide))) hr lk_L_51 rfl w.2.1 rfl hs rm hd kk
theorem q_prop (C : Cx p l R s m args meth c G RL cc nL ret nm) (hst : l.stackTraces = false) (w : RA G h x dy sz S sv sl D nx z cf len) {a b r2 : Int32} {i : Nat} (ha : g_has S a = true) (hi : i < 7) (eb : b = nI i) (hr : g_prop S a (nI i) = r2) (hs : st = .int b :: .int a :: .ref x :: rest) (rm : Rm R k n 7 3 119 2 12 rest) (hd : decode cc pc = .ok (.invokevirtual 63, 3)) (kk : V p l e R s m args below meth c G nL Q h sz (k + 2) (n + 12) (pc + 3) L (.int r2 :: rest)) : V p l e R s m args below meth c G nL Q h sz k n pc L st := by
  subst eb
  exact r_look C (c_X5_playerOf hst w) (th2_n ha (okN_i (k := 7) hi (by decide))) hr lk_L_63 rfl w.2.1 rfl hs rm hd kk
theorem q_hand (C : Cx p l R s m args meth c G RL cc nL ret nm) (hst : l.stackTraces = false) (w : RA G h x dy sz S sv sl D nx z cf len) {a b r2 : Int32} {i : Nat} (ha : g_has S a = true) (hi : i < 2147483648) (eb : b = nI i) (hr : (if g_holds S a (nI i) then g_hand S a (nI i) else -1) = r2) (hs : st = .int b :: .int a :: .ref x :: rest) (rm : Rm R k n 7 3 111 2 12 rest) (hd : decode cc pc = .ok (.invokevirtual 57, 3)) (kk : V p l e R s m args below meth c G nL Q h sz (k + 2) (n + 12) (pc + 3) L (.int r2 :: rest)) : V p l e R s m args below meth c G nL Q h sz k n pc L st := by
  subst eb
  exact r_look C (c_X5_hand hst w) (th2_n ha (by rw [decide_eq_false (nI_pos hi)]; rfl)) hr lk_L_57 rfl w.2.1 rfl hs rm hd kk
theorem q_stock (C : Cx p l R s m args meth c G RL cc nL ret nm) (hst : l.stackTraces = false) (w : RA G h x dy sz S sv sl D nx z cf len) {b r2 : Int32} {i : Nat} (hi : i < 2147483648) (eb : b = nI i) (hr : (if nI i < g_stock S then g_stile S (nI i) else -1) = r2) (hs : st = .int b :: .ref x :: rest) (rm : Rm R k n 7 2 110 1 6 rest) (hd : decode cc pc = .ok (.invokevirtual 66, 3)) (kk : V p l e R s m args below meth c G nL Q h sz (k + 1) (n + 6) (pc + 3) L (.int r2 :: rest)) : V p l e R s m args below meth c G nL Q h sz k n pc L st := by
  subst eb
  exact r_look C (c_X5_stock hst w) (th1_n (by rw [decide_eq_false (nI_pos hi)]; rfl)) hr lk_L_66 rfl w.2.1 rfl hs rm hd kk
theorem q_why (C : Cx p l R s m args meth c G RL cc nL ret nm) (hst : l.stackTraces = false) (w : RA G h x dy sz S sv sl D nx z cf len) {a b d r2 : Int32} (hb : okN b 3 = true) (hd1 : okEnd d = true) (hr : g_reason S a b d = r2) (hs : st = .int d :: .int b :: .int a :: .ref x :: rest) (rm : Rm R k n 7 4 110 2 12 rest) (hd : decode cc pc = .ok (.invokevirtual 76, 3)) (kk : V p l e R s m args below meth c G nL Q h sz (k + 2) (n + 12) (pc + 3) L (.int r2 :: rest)) : V p l e R s m args below meth c G nL Q h sz k n pc L st :=
  r_look C (c_X5_whyNot hst w) (th2_n hb hd1) hr lk_L_76 rfl w.2.1 rfl hs rm hd kk
theorem q_adv (C : Cx p l R s m args meth c G RL cc nL ret nm) (w : RA G h x dy sz S sv sl D nx z cf len) (hs : st = .ref x :: rest) (rm : Rm R k n 4 1 92 0 0 rest) (hd : decode cc pc = .ok (.invokevirtual 45, 3)) (kk : V p l e R s m args below meth c G nL Q h sz k n (pc + 3) L (.int (g_adv S) :: rest)) : V p l e R s m args below meth c G nL Q h sz k n pc L st :=
  r_lookM C (c_X5_advice w) rfl lk_L_45 rfl w.2.1 rfl hs rm hd kk
theorem q_set (C : Cx p l R s m args meth c G RL cc nL ret nm) (w : RA G h x dy sz S sv sl D nx z cf len) (hs : st = .ref x :: rest) (rm : Rm R k n 0 1 0 0 0 rest) (hd : decode cc pc = .ok (.invokevirtual 48, 3)) (kk : V p l e R s m args below meth c G nL Q h sz k n (pc + 3) L (.int (S 5 7) :: rest)) : V p l e R s m args below meth c G nL Q h sz k n pc L st :=
  r_lookM C (c_X5_setting w) rfl lk_L_48 rfl w.2.1 rfl hs rm hd kk
theorem q_share (C : Cx p l R s m args meth c G RL cc nL ret nm) (w : RA G h x dy sz S sv sl D nx z cf len) (hz : vf_n64 (FP.ddiv (FP.i2d (g_tal S 1)) 4640114991075164160)) (hs : st = .ref x :: rest) (rm : Rm R k n 3 1 66 0 0 rest) (hd : decode cc pc = .ok (.invokevirtual 70, 3)) (kk : V p l e R s m args below meth c G nL Q h sz k n (pc + 3) L (.double (FP.ddiv (FP.i2d (g_tal S 1)) 4640114991075164160) :: rest)) : V p l e R s m args below meth c G nL Q h sz k n pc L st :=
  r_callV C (c_X5_rustShare w hz) lk_L_70 rfl w.2.1 rfl hs rm hd (fun v h1 s1 hp => by
    obtain ⟨rfl, rfl, rfl⟩ := hp
    exact kk)
theorem q_long (C : Cx p l R s m args meth c G RL cc nL ret nm) (hst : l.stackTraces = false) (w : RA G h x dy sz S sv sl D nx z cf len) {a b : Int32} {i : Nat} (ha : g_has S a = true) (hk0 : ¬ g_held S a < 0) (hi : i < 7) (eb : b = nI i) (hs : st = .int b :: .int a :: .ref x :: rest) (rm : Rm R k n 7 3 111 2 12 rest) (hd : decode cc pc = .ok (.invokevirtual 79, 3)) (kk : ∀ h1 hf of, fr_ h h1 x dy → RA G h1 x dy sz S sv sl D nx z cf len → V p l e R s m args below meth c G nL Q h1 sz (k + 2) (n + 12) (pc + 3) L (.int (k_long S a (nI i) hf of) :: rest)) : V p l e R s m args below meth c G nL Q h sz k n pc L st := by
  subst eb
  exact r_nV C (c_X5_longest hst w (fun _ => hk0)) (fun E h1 s1 q => by
    obtain ⟨q1, -⟩ := q
    have e7 : okN (nI i) 7 = true := okN_i (k := 7) hi (by decide)
    rw [th2_n ha e7] at q1
    cases q1) lk_L_79 rfl w.2.1 rfl hs rm hd (fun v h1 s1 hp => by
    obtain ⟨-, rfl, hfr, w1, hf, of, rfl⟩ := hp
    exact kk h1 hf of hfr w1)
theorem q_whole (C : Cx p l R s m args meth c G RL cc nL ret nm) (hst : l.stackTraces = false) (w : RA G h x dy sz S sv sl D nx z cf len) {a b d : Int32} {i : Nat} (ha : g_has S a = true) (hk0 : ¬ g_held S a < 0) (hi : i < 7) (eb : b = nI i) (hd2 : okN d 2 = true) (hs : st = .int d :: .int b :: .int a :: .ref x :: rest) (rm : Rm R k n 7 4 111 3 18 rest) (hd : decode cc pc = .ok (.invokevirtual 82, 3)) (kk : ∀ h1 hf of, fr_ h h1 x dy → RA G h1 x dy sz S sv sl D nx z cf len → V p l e R s m args below meth c G nL Q h1 sz (k + 3) (n + 18) (pc + 3) L (.int (if d = 1 then k_count S a (nI i) hf else k_try S a (nI i) hf of) :: rest)) : V p l e R s m args below meth c G nL Q h sz k n pc L st := by
  subst eb
  exact r_nV C (c_X5_whole hst w (fun _ => hk0)) (fun E h1 s1 q => by
    obtain ⟨q1, -⟩ := q
    have e7 : okN (nI i) 7 = true := okN_i (k := 7) hi (by decide)
    rw [th3_n ha e7 hd2] at q1
    cases q1) lk_L_82 rfl w.2.1 rfl hs rm hd (fun v h1 s1 hp => by
    obtain ⟨-, rfl, hfr, w1, hf, of, rfl⟩ := hp
    exact kk h1 hf of hfr w1)
/-- a contract that may read the script -/
def Ms (G : ga_) (l : Launch) (y : MethodName) (cc : ByteArray) (nL : Nat) (ret : Option FieldType) (fr lo mc ms b0 N : Nat) (xs : Nat → Int32) (av : List Value) (h : HP) (sz : Nat) (Post : Option Value → HP → Nat → Prop) : Prop :=
  Met l y (.code y cc nL ret :: TB) { frames := fr, cells := mc, slots := ms, locals := lo } (va_Pc av (fun U => (hr_ G h sz U.heap ∧ ev_ G U) ∧ va_X b0 N xs U U.heap)) (fun _ _ oc t => ∃ v h1 s1, oc = .returned v ∧ Post v h1 s1 ∧ hr_ G h1 s1 t.heap) mc ms (fun q => G.2.2.1 ≤ q)
theorem Ms.ofV {y : MethodName} {fr lo mc ms b0 N : Nat} {xs : Nat → Int32} {av : List Value} {Post : Option Value → HP → Nat → Prop} (L0 : List (Nat × Value)) (hy : plainName y.cls = true) (hn : (lg_sl av).length ≤ nL) (hL : lv_args 0 av = L0)
    (body : ∀ (p : Program) (e : Env) (s : State) (m : MethodId) (args : Array Value) (below : List Frame) (meth : Method) (c : Code), Cx p l { frames := fr, cells := mc, slots := ms, locals := lo } s m args meth c G y.cls cc nL ret y.name → va_X b0 N xs s s.heap → hr_ G h sz s.heap →
      V p l e { frames := fr, cells := mc, slots := ms, locals := lo } s m args below meth c G nL (Qg G below args s mc ms Post) h sz 0 0 0 L0 []) : Ms G l y cc nL ret fr lo mc ms b0 N xs av h sz Post := by
  refine Met.ofW hy rfl ?_
  intro p e s m args below meth c s₁ B hml hv
  obtain ⟨rfl, ⟨hr0, hev⟩, hX⟩ := hv
  have hts := atoms_spec (ws := .code y cc nL ret :: TB) B.pre
  have hC : Cx p l { frames := fr, cells := mc, slots := ms, locals := lo } s m av.toArray meth c G y.cls cc nL ret y.name :=
    ⟨B.exec, B.bytes, hml, findClass_of_methodNamed B.named, fun w hw => hts w (List.mem_cons_of_mem _ hw), hev, B.returns, B.notSynchronized, (name_of_methodNamed B.named B.method).1⟩
  have hl := lv_entry av (n := nL) hn
  rw [lg_entry_eq]
  rw [hL] at hl
  exact body p e s m av.toArray below meth c hC hX hr0 s.heap [] _ hr0 (fun q hq => by cases hq) hl
theorem r_callX {y : MethodName} {bytes : ByteArray} {maxL fr lo mc ms index q b0 N : Nat} {xs : Nat → Int32} {rt : Option FieldType} {As rest : List Value} {Post : Option Value → HP → Nat → Prop} (C : Cx p l R s m args meth c G own cc nL ret nm) (X : Sx G s b0 N xs) (hM : Ms G l y bytes maxL rt fr lo mc ms b0 N xs As h sz Post) (lk : LkS own index y bytes maxL rt q) (hq : As.length = q) (hs : st = As.reverse ++ rest) (rm : Rm R k n fr maxL lo mc ms rest) (hd : decode cc pc = .ok (.invokestatic index, 3)) (kk : ∀ v h1 s1, Post v h1 s1 → V p l e R s m args below meth c G nL Q h1 s1 (k + mc) (n + ms) (pc + 3) L (v.toList ++ rest)) : V p l e R s m args below meth c G nL Q h sz k n pc L st := by
  intro H locs ls a b d T0 hT Y
  subst hs
  obtain ⟨l1, l2, l4, l5, l6, l7, l8⟩ := lk
  obtain ⟨g1, g2, g3, g4, g5⟩ := rm
  have hts := C.2.2.2.2.1
  have ok : ∀ w ∈ (va_wsS own index y (.code y bytes maxL rt :: TB)), w ∈ TB := by
    intro w hw
    simp only [va_wsS, List.cons_append, List.nil_append, List.mem_cons] at hw
    rcases hw with rfl | rfl | rfl | rfl | hw
    · exact l1
    · exact l2
    · exact l4
    · exact l5
    · exact hw
  have hXH : va_X b0 N xs s H := X.1.kept (by rw [a.2.2.1 b0 (by rw [X.2.2.1]; exact X.2.1), X.2.2.2 b0 X.2.1])
  have HR := va_runS (p := p) (l := l) (e := e) (s := s) (m := m) (meth := meth) (c := c) (R := R) (args := args) (below := below) (locs := locs) (cells := k) (slots := n) (As := As) (rest := rest) (g := F0 m pc ls (As.reverse ++ rest)) ⟨C.1, C.2.1, C.2.2.1, C.2.2.2.1, hts⟩ hM (va_cwS q hts (fun w hw => ⟨ok w hw, good_of_word (law_good w (ok w hw))⟩) rfl rfl rfl ⟨l6, l7, l8⟩ ⟨g1, g2⟩)
    ⟨fun a U g mk q => ⟨q.1, ⟨q.2.1.1, ev_.same (s := U) (U := U.calling g mk a) rfl q.2.1.2⟩, va_X.moved (Vm.Alike.refl U.vm) q.2.2⟩, fun U hU hW => ⟨rfl, ⟨by rw [hU]; exact a, ev_.moved hW C.2.2.2.2.2.1⟩, by rw [hU]; exact va_X.moved hW.alike hXH⟩⟩ rfl hq d.1 rfl (by show 2 * 0 + _ ≤ 8; omega) hd ⟨g3, g4⟩
  obtain ⟨v, st₀, t, T', L1, h0, X', hL, e1, e2, ⟨v1, h1, s1, hv, hp, hh⟩, stp⟩ := HR T0 hT Y
  cases hv
  obtain ⟨t2, a1, b1⟩ := kk _ h1 s1 hp T'.heap (locs ++ L1) ls (by rw [e1]; exact hh) (fun q hq => by
    rcases List.mem_append.mp hq with z | z
    · exact b q z
    · exact hL q z) d T' rfl X'
  exact ⟨t2, stp t2 a1, b1⟩
end LC
theorem lk_L_34 : LkW RL 34 yL_changes cL_changes 7 (some .int) [(0, 51, 54, 25), (0, 51, 58, 27)] 6 := ⟨mw_ 395 (by decide +kernel) rfl, mw_ 396 (by decide +kernel) rfl, mw_ 28 (by decide +kernel) rfl, mw_ 397 (by decide +kernel) rfl, ⟨by decide +kernel, by decide +kernel, by decide +kernel⟩⟩
