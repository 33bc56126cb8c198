/-! THROWS: contracts of methods that may throw, and their rows -/
section LX
variable {p : Program} {l : Launch} {e : Env} {R : Room} {s : State} {m : MethodId} {args : Array Value} {below : List Frame} {meth : Method} {c : Code} {Q : State → Prop}
variable {G : ga_} {own : String} {cc : ByteArray} {nL : Nat} {ret : Option FieldType} {nm : String}
def qc_ (G : ga_) (Post : Option Value → HP → Nat → Prop) : Array Value → State → Outcome → State → Prop := fun _ _ oc t => ∃ v h1 s1, oc = .returned v ∧ Post v h1 s1 ∧ hr_ G h1 s1 t.heap
def xc_ (G : ga_) (PX : String → HP → Nat → Prop) : String → State → State → Prop := fun E _ t => ∃ h1 s1, PX E h1 s1 ∧ hr_ G h1 s1 t.heap
def Qx (G : ga_) (below : List Frame) (args : Array Value) (s : State) (mc ms : Nat) (Post : Option Value → HP → Nat → Prop) (PX : String → HP → Nat → Prop) : State → Prop := vx_MQ below (qc_ G Post) (xc_ G PX) args s mc ms (fun q => G.2.2.1 ≤ q)
def Mx (G : ga_) (l : Launch) (y : MethodName) (cc : ByteArray) (nL : Nat) (ret : Option FieldType) (fr lo mc ms : Nat) (av : List Value) (h : HP) (sz : Nat) (Post : Option Value → HP → Nat → Prop) (PX : String → HP → Nat → Prop) : Prop :=
  vx_Met l y (.code y cc nL ret :: TB) { frames := fr, cells := mc, slots := ms, locals := lo } (va_Pc av (fun U => hr_ G h sz U.heap ∧ ev_ G U)) (qc_ G Post) (xc_ G PX) mc ms (fun q => G.2.2.1 ≤ q)
/-- what a body that may throw knows beside: no table of its own, the launch without traces, its start -/
def Cz (G : ga_) (l : Launch) (s : State) (c : Code) (sz : Nat) : Prop := (∀ x ∈ c.exceptionTable.toList, False) ∧ l.stackTraces = false ∧ ∃ h0 s0, s0 ≤ sz ∧ hr_ G h0 s0 s.heap
theorem Mx.ofV {y : MethodName} {fr lo mc ms : Nat} {av : List Value} {h : HP} {sz : Nat} {Post : Option Value → HP → Nat → Prop} {PX : String → HP → Nat → Prop} (L0 : List (Nat × Value)) (hst : l.stackTraces = false) (hy : plainName y.cls = true) (hn : (lg_sl av).length ≤ nL) (hL : lv_args 0 av = L0)
    (body : ∀ (p : Program) (e : Env) (s : State) (m : MethodId) (args : Array Value) (below : List Frame) (meth : Method) (c : Code), Cx p l { frames := fr, cells := mc, slots := ms, locals := lo } s m args meth c G y.cls cc nL ret y.name → Cz G l s c sz →
      V p l e { frames := fr, cells := mc, slots := ms, locals := lo } s m args below meth c G nL (Qx G below args s mc ms Post PX) h sz 0 0 0 L0 []) : Mx G l y cc nL ret fr lo mc ms av h sz Post PX := by
  refine vx_ofW hy rfl ?_
  intro p e s m args below meth c s₁ B hml hE hv
  obtain ⟨rfl, hh, hev⟩ := hv
  have hts := atoms_spec (ws := .code y cc nL ret :: TB) B.pre
  have hC : Cx p l { frames := fr, cells := mc, slots := ms, locals := lo } s m av.toArray meth c G y.cls cc nL ret y.name :=
    ⟨B.exec, B.bytes, hml, findClass_of_methodNamed B.named, fun w hw => hts w (List.mem_cons_of_mem _ hw), hev, B.returns, B.notSynchronized, (name_of_methodNamed B.named B.method).1⟩
  have hl := lv_entry av (n := nL) hn
  rw [lg_entry_eq]
  rw [hL] at hl
  exact body p e s m av.toArray below meth c hC ⟨hE, hst, h, sz, Nat.le_refl _, hh⟩ s.heap [] _ hh (fun q hq => by cases hq) hl
variable {h : HP} {sz k n pc : Nat} {L : List (Nat × Value)} {st : List Value}
theorem Cz.le {sz2 : Nat} (Z : Cz G l s c sz) (hle : sz ≤ sz2) : Cz G l s c sz2 := by
  obtain ⟨z1, z2, h0, s0, z3, z4⟩ := Z
  exact ⟨z1, z2, h0, s0, Nat.le_trans z3 hle, z4⟩
theorem V.retx {mc ms : Nat} {Post : Option Value → HP → Nat → Prop} {PX : String → HP → Nat → Prop} (kk : V p l e R s m args below meth c G nL (Qg G below args s mc ms Post) h sz k n pc L st) : V p l e R s m args below meth c G nL (Qx G below args s mc ms Post PX) h sz k n pc L st := fun H locs ls a b d => vx_ret (kk H locs ls a b d)
def throwWs (own : String) (ic : Nat) (X : String) : List Cond := vx_atS own ic X ["java/lang/RuntimeException", "java/lang/Exception"]
/-- the words of a throw: the good ones stand in TB, the others are castables -/
def Lt_ (own : String) (ik ic : Nat) (X : String) : Prop := X ∈ XB ∧ Bundle.fit X = true ∧ Cond.classLink own ik X ∈ TB ∧ Cond.initialized X ∈ TB ∧ (∀ w ∈ (throwWs own ic X).filter goodWord, w ∈ TB) ∧ (∀ w ∈ (throwWs own ic X).filter (fun w => !goodWord w), w ∈ Cond.castable X X :: DB.map Cond.declares) ∧ (∀ w ∈ Cond.classLink own ik X :: Cond.initialized X :: throwWs own ic X, vx_ot w = true)
theorem hr_.zq {C d n0 : String} {h0 : HP} {s0 : Nat} {H0 H : Heap} {U : State} (hz : ∀ q, q < G.2.2.1 → H0[q]? = G.2.2.2 q) (w : hr_ G h0 s0 H) (z : vx_Zq C n0 d (fun q => G.2.2.1 ≤ q) U H0) : vx_Zq C n0 d (fun q => G.2.2.1 ≤ q) U H :=
  z.kept (fun a _ h2 => by
    have hl : a < G.2.2.1 := Nat.not_le.mp h2
    rw [w.2.2.1 a hl, hz a hl])
theorem r_throw {ik is ic mc ms : Nat} {X text : String} {Post : Option Value → HP → Nat → Prop} {PX : String → HP → Nat → Prop} (C : Cx p l R s m args meth c G RX5 cc nL ret nm) (Z : Cz G l s c sz) (lk : Lt_ RX5 ik ic X) (hsr : (is, text) ∈ SR)
    (d0 : decode cc pc = .ok (.new ik, 3)) (d3 : decode cc (pc + 3) = .ok (.dup, 1)) (d4 : decode cc (pc + 4) = .ok (.ldc is, 2)) (d6 : decode cc (pc + 6) = .ok (.invokespecial ic, 3)) (d9 : decode cc (pc + 9) = .ok (.athrow, 1))
    (hf : 5 < R.frames) (hlo : (st.map fun v => v.category).sum + 82 ≤ R.locals) (hk : k + 1 ≤ R.cells) (hn : n + 6 ≤ R.slots) (hkm : k + 1 ≤ mc) (hnm : n + 6 ≤ ms) (hp : ∀ s1, sz ≤ s1 → PX X h s1) :
    V p l e R s m args below meth c G nL (Qx G below args s mc ms Post PX) h sz k n pc L st := by
  intro H locs ls a b d
  obtain ⟨l1, l2, l3, l4, l5, l6, l7⟩ := lk
  obtain ⟨z1, z2, h0, s0, z3, z4⟩ := Z
  obtain ⟨x1, x2, x3, xd, H0, x4, x5, x6⟩ := C.2.2.2.2.2.1.2.2.2
  obtain ⟨sa, hsa⟩ := x3 _ hsr
  have hts := C.2.2.2.2.1
  have hat : ∀ w ∈ throwWs RX5 ic X, w.before args s = true := vx_hat (B := Cond.castable X X :: DB.map Cond.declares) (fun w hw => hts w (l5 w hw)) l6 (vx_c (va_Nw.use rfl (x1 X l1)) (fun w hw => by
    obtain ⟨y, hy, rfl⟩ := List.mem_map.mp hw
    exact va_Nw.use rfl (xd y hy)))
  refine vx_throwS (names := ["java/lang/RuntimeException", "java/lang/Exception"]) (A := fun q => G.2.2.1 ≤ q) C.1 C.2.1 z2 C.2.2.2.1 l2 (by decide +kernel) (hts _ l3) (hts _ l4) hsa hat l7 (hr_.zq x4 z4 x5) (hr_.zq x4 z4 x6) ⟨?_, ?_, b⟩ (by rw [C.2.2.1]; exact d.1) d0 d3 d4 d6 d9 (fun x hx => absurd (z1 x hx) id) hf hlo hk hn C.2.2.2.2.2.2.2.1 ?_ b hkm hnm
  · rw [z4.1, a.1]; exact z3
  · intro q hq hA
    have hl : q < G.2.2.1 := Nat.not_le.mp hA
    rw [a.2.2.1 q hl, z4.2.2.1 q hl]
  · intro t hA hz hq
    refine ⟨h, t.heap.size, hp _ (by rw [← a.1]; exact hz), rfl, Nat.le_trans a.2.1 (by rw [← a.1]; exact hz), fun q hl => ?_, fun a2 e2 h2 => ?_⟩
    · rw [hq q (by rw [a.1]; have := a.2.1; omega)]; exact a.2.2.1 q hl
    · exact ⟨(a.2.2.2 a2 e2 h2).1, (a.2.2.2 a2 e2 h2).2.kept (hq a2 (by rw [a.1]; exact a.lt h2))⟩
/-- behind a call that threw: it leaves this method too -/
theorem callx_core {mc ms mc2 ms2 : Nat} {Post Post2 : Option Value → HP → Nat → Prop} {PX PX2 : String → HP → Nat → Prop} {H : Heap} {locs : List Loc} {ls : Array Slot} {a0 : Array Value} {rest : List Value} {pc0 : Nat} {st0 : List Value} (C : Cx p l R s m args meth c G own cc nL ret nm) (Z : Cz G l s c sz)
    (HR : vx_Run p l e R s m args below meth c H locs k n mc2 ms2 (F0 m pc0 ls st0) rest (qc_ G Post2 a0) (xc_ G PX2) (fun q => G.2.2.1 ≤ q)) (b : ∀ q ∈ locs, G.2.2.1 ≤ q.base) (d : lv_has ls nL L)
    (hkm : k + mc2 ≤ mc) (hnm : n + ms2 ≤ ms) (kx : ∀ E h1 s1, PX2 E h1 s1 → PX E h1 s1)
    (kk : ∀ v h1 s1, Post2 v h1 s1 → V p l e R s m args below meth c G nL (Qx G below args s mc ms Post PX) h1 s1 (k + mc2) (n + ms2) (pc0 + 3) L (v.toList ++ rest)) : W p l e R s m args below meth c H locs k n (Qx G below args s mc ms Post PX) (F0 m pc0 ls st0) := by
  intro T hT X
  rcases HR T hT X with ⟨v, st₀, t, T', L1, h0, X', hL, e1, e2, ⟨v1, h1, s1, hv, hp, hh⟩, stp⟩ | ⟨q, st₀, t, T', L1, E, ce, h0, X', hL, e1, e2, ⟨h1, s1, hp, hh⟩, hce, hcv, hcl, stp⟩
  · cases hv
    obtain ⟨t2, a1, b1⟩ := kk _ h1 s1 hp T'.heap (locs ++ L1) ls (by rw [e1]; exact hh) (fun q hq => by
      rcases List.mem_append.mp hq with z | z
      · exact b q z
      · exact hL q z) d T' rfl X'
    exact ⟨t2, stp t2 a1, b1⟩
  · have K := vx_out (p := p) (l := l) (e := e) (R := R) (s := s) (m := m) (args := args) (below := below) (meth := meth) (c := c) (H := T'.heap) (locs := locs ++ L1) (cells := k + mc2) (slots := n + ms2) (Qc := qc_ G Post) (XC := xc_ G PX) (free := fun q => G.2.2.1 ≤ q) (pc := pc0) (ls := ls) (rest := rest) (mc := mc) (ms := ms)
      (fun x hx => absurd (Z.1 x hx) id) C.2.2.2.2.2.2.2.1 (by rw [e1]; exact hce) hcv hcl (fun t2 ht2 _ => ⟨h1, s1, kx E h1 s1 hp, by rw [ht2, e1]; exact hh⟩) (fun z hz => by
        rcases List.mem_append.mp hz with y | y
        · exact b z y
        · exact hL z y) hkm hnm
    obtain ⟨t2, a1, b1⟩ := K T' rfl X'
    exact ⟨t2, stp.trans a1, b1⟩
theorem r_xS {y : MethodName} {bytes : ByteArray} {maxL fr lo mc2 ms2 index q mc ms : Nat} {rt : Option FieldType} {As rest : List Value} {Post Post2 : Option Value → HP → Nat → Prop} {PX PX2 : String → HP → Nat → Prop} (C : Cx p l R s m args meth c G own cc nL ret nm) (Z : Cz G l s c sz) (hM : Mx G l y bytes maxL rt fr lo mc2 ms2 As h sz Post2 PX2) (lk : LkS own index y bytes maxL rt q) (hq : As.length = q) (hs : st = As.reverse ++ rest) (rm : Rm R k n fr maxL lo mc2 ms2 rest) (hd : decode cc pc = .ok (.invokestatic index, 3))
    (hkm : k + mc2 ≤ mc) (hnm : n + ms2 ≤ ms) (kx : ∀ E h1 s1, PX2 E h1 s1 → PX E h1 s1)
    (kk : ∀ v h1 s1, Post2 v h1 s1 → V p l e R s m args below meth c G nL (Qx G below args s mc ms Post PX) h1 s1 (k + mc2) (n + ms2) (pc + 3) L (v.toList ++ rest)) : V p l e R s m args below meth c G nL (Qx G below args s mc ms Post PX) h sz k n pc L st := by
  intro H locs ls a b d
  subst hs
  obtain ⟨l1, l2, l4, l5, l6, l7, l8⟩ := lk
  obtain ⟨g1, g2, g3, g4, g5⟩ := rm
  have hts := C.2.2.2.2.1
  have ok : ∀ w ∈ (va_wsS own index y (.code y bytes maxL rt :: TB)), w ∈ TB := by
    intro w hw
    simp only [va_wsS, List.cons_append, List.nil_append, List.mem_cons] at hw
    rcases hw with rfl | rfl | rfl | rfl | hw
    · exact l1
    · exact l2
    · exact l4
    · exact l5
    · exact hw
  have HR := vx_runS (p := p) (l := l) (e := e) (s := s) (m := m) (meth := meth) (c := c) (R := R) (args := args) (below := below) (locs := locs) (cells := k) (slots := n) (As := As) (rest := rest) (g := F0 m pc ls (As.reverse ++ rest)) ⟨C.1, C.2.1, C.2.2.1, C.2.2.2.1, hts⟩ hM (va_cwS q hts (fun w hw => ⟨ok w hw, good_of_word (law_good w (ok w hw))⟩) rfl rfl rfl ⟨l6, l7, l8⟩ ⟨g1, g2⟩)
    ⟨pc_blind, fun U hU hW => ⟨rfl, by rw [hU]; exact a, ev_.moved hW C.2.2.2.2.2.1⟩⟩ rfl hq d.1 rfl (by show 2 * 0 + _ ≤ 8; omega) hd ⟨g3, g4⟩
  exact callx_core C Z HR b d hkm hnm kx kk
theorem r_xV {y : MethodName} {bytes : ByteArray} {maxL fr lo mc2 ms2 index q mc ms b0 ci N : Nat} {T : u_T} {fs : List Value} {rt : Option FieldType} {As rest : List Value} {Post Post2 : Option Value → HP → Nat → Prop} {PX PX2 : String → HP → Nat → Prop} (C : Cx p l R s m args meth c G own cc nL ret nm) (Z : Cz G l s c sz) (hM : Mx G l y bytes maxL rt fr lo mc2 ms2 (.ref b0 :: As) h sz Post2 PX2) (lk : LkV own index y bytes maxL rt q) (hc : vwCl[ci]? = some (y.cls, T, N)) (he : h b0 = some (ob_ ci fs)) (hq : As.length = q) (hs : st = As.reverse ++ .ref b0 :: rest) (rm : Rm R k n fr maxL lo mc2 ms2 rest) (hd : decode cc pc = .ok (.invokevirtual index, 3))
    (hkm : k + mc2 ≤ mc) (hnm : n + ms2 ≤ ms) (kx : ∀ E h1 s1, PX2 E h1 s1 → PX E h1 s1)
    (kk : ∀ v h1 s1, Post2 v h1 s1 → V p l e R s m args below meth c G nL (Qx G below args s mc ms Post PX) h1 s1 (k + mc2) (n + ms2) (pc + 3) L (v.toList ++ rest)) : V p l e R s m args below meth c G nL (Qx G below args s mc ms Post PX) h sz k n pc L st := by
  intro H locs ls a b d
  subst hs
  obtain ⟨l1, l2, l3, l4, l5, l6, l7, l8⟩ := lk
  obtain ⟨g1, g2, g3, g4, g5⟩ := rm
  have hts := C.2.2.2.2.1
  have ok : ∀ w ∈ (wsV own index y.cls y (.code y bytes maxL rt :: TB)), w ∈ TB := by
    intro w hw
    simp only [wsV, List.cons_append, List.nil_append, List.mem_cons] at hw
    rcases hw with rfl | rfl | rfl | rfl | rfl | hw
    · exact l1
    · exact l2
    · exact l3
    · exact l4
    · exact l5
    · exact hw
  have HR := vx_runV (p := p) (l := l) (e := e) (s := s) (m := m) (meth := meth) (c := c) (R := R) (args := args) (below := below) (locs := locs) (cells := k) (slots := n) (As := As) (rest := rest) (g := F0 m pc ls (As.reverse ++ .ref b0 :: rest)) ⟨C.1, C.2.1, C.2.2.1, C.2.2.2.1, hts⟩ hM (cwV q hts (fun w hw => ⟨ok w hw, good_of_word (law_good w (ok w hw))⟩) rfl rfl rfl ⟨rfl, l6, l7, l8⟩ ⟨g1, g2⟩)
    ⟨pc_blind, by
      obtain ⟨r', h1', cell, k1, k2, k3, -⟩ := (a.2.2.2 _ _ he).2
      exact ⟨cell, k1, by rw [k3]; rfl, by rw [k2]; exact (C.2.2.2.2.2.1.1.1 ci _ hc).2.1⟩, fun U hU hW => ⟨rfl, by rw [hU]; exact a, ev_.moved hW C.2.2.2.2.2.1⟩⟩ rfl hq d.1 rfl (by show 2 * 0 + _ ≤ 8; omega) hd ⟨g3, g4⟩
  exact callx_core C Z HR b d hkm hnm kx kk
end LX
set_option maxRecDepth 20000 in
theorem lt_IA : Lt_ RX5 45 49 "java/lang/IllegalArgumentException" := ⟨by decide +kernel, by decide +kernel, by decide +kernel, by decide +kernel, by decide +kernel, by decide +kernel, by decide +kernel⟩
set_option maxRecDepth 20000 in
theorem lt_IO : Lt_ RX5 89 93 "java/lang/IndexOutOfBoundsException" := ⟨by decide +kernel, by decide +kernel, by decide +kernel, by decide +kernel, by decide +kernel, by decide +kernel, by decide +kernel⟩
set_option maxRecDepth 20000 in
theorem lt_IS : Lt_ RX5 108 112 "java/lang/IllegalStateException" := ⟨by decide +kernel, by decide +kernel, by decide +kernel, by decide +kernel, by decide +kernel, by decide +kernel, by decide +kernel⟩
