/-! CATCHES, METHODS WITH A TABLE, THE SCRIPT -/
section LC
variable {p : Program} {l : Launch} {e : Env} {R : Room} {s : State} {m : MethodId} {args : Array Value} {below : List Frame} {meth : Method} {c : Code} {Q : State → Prop}
variable {G : ga_} {own : String} {cc : ByteArray} {nL : Nat} {ret : Option FieldType} {nm : String}
variable {h : HP} {sz k n pc : Nat} {L : List (Nat × Value)} {st : List Value}
/-- the row of the table that takes E, thrown at pc0; its handler begins at hp -/
def Ct_ (own : String) (tb : List ExceptionTableEntry) (pc0 : Nat) (E : String) (hp : Nat) : Prop := ∃ pre x suf, tb = pre ++ x :: suf ∧ (∀ z ∈ pre, z.catchType ≠ 0 ∧ ∃ n2 : String, Cond.classLink own z.catchType n2 ∈ TB ∧ n2 ∈ XB ∧ E ≠ n2) ∧ covers x pc0 = true ∧ x.catchType ≠ 0 ∧ Cond.classLink own x.catchType E ∈ TB ∧ E ∈ XB ∧ x.handlerPc = hp
theorem callc_core {mc2 ms2 : Nat} {Post2 : Option Value → HP → Nat → Prop} {PX2 : String → HP → Nat → Prop} {H : Heap} {locs : List Loc} {ls : Array Slot} {a0 : Array Value} {rest : List Value} {pc0 : Nat} {st0 : List Value} {tb : List ExceptionTableEntry} (C : Cx p l R s m args meth c G own cc nL ret nm) (hT : c.exceptionTable.toList = tb)
    (HR : vx_Run p l e R s m args below meth c H locs k n mc2 ms2 (F0 m pc0 ls st0) rest (qc_ G Post2 a0) (xc_ G PX2) (fun q => G.2.2.1 ≤ q)) (b : ∀ q ∈ locs, G.2.2.1 ≤ q.base) (d : lv_has ls nL L)
    (kx : ∀ E h1 s1, PX2 E h1 s1 → ∃ hp, Ct_ own tb pc0 E hp ∧ ∀ q : Nat, V p l e R s m args below meth c G nL Q h1 s1 (k + mc2) (n + ms2) hp L [.ref q])
    (kk : ∀ v h1 s1, Post2 v h1 s1 → V p l e R s m args below meth c G nL Q h1 s1 (k + mc2) (n + ms2) (pc0 + 3) L (v.toList ++ rest)) : W p l e R s m args below meth c H locs k n Q (F0 m pc0 ls st0) := by
  intro T hT0 X
  rcases HR T hT0 X with ⟨v, st₀, t, T', L1, h0, X', hL, e1, e2, ⟨v1, h1, s1, hv, hp, hh⟩, stp⟩ | ⟨q, st₀, t, T', L1, E, ce, h0, X', hL, e1, e2, ⟨h1, s1, hp, hh⟩, hce, hcv, hcl, stp⟩
  · cases hv
    obtain ⟨t2, a1, b1⟩ := kk _ h1 s1 hp T'.heap (locs ++ L1) ls (by rw [e1]; exact hh) (fun q hq => by
      rcases List.mem_append.mp hq with z | z
      · exact b q z
      · exact hL q z) d T' rfl X'
    exact ⟨t2, stp t2 a1, b1⟩
  · obtain ⟨hp0, ⟨pre, x, suf, c1, c2, c3, c4, c5, c6, c7⟩, kq⟩ := kx E h1 s1 hp
    obtain ⟨x1, x2, -⟩ := C.2.2.2.2.2.1.2.2.2
    have hts := C.2.2.2.2.1
    have K := vx_catch (p := p) (l := l) (e := e) (R := R) (s := s) (m := m) (args := args) (below := below) (meth := meth) (c := c) (H := T'.heap) (locs := locs ++ L1) (cells := k + mc2) (slots := n + ms2) (Q := Q) (pc := pc0) (ls := ls) (rest := rest) (own := own) (name := E) (E := E) (ce := ce) (q := q)
      C.2.2.2.1 pre x suf (hT.trans c1) (fun z hz => by
        obtain ⟨z1, n2, z2, z3, z4⟩ := c2 z hz
        exact Or.inr ⟨z1, n2, hts _ z2, x2 E c6 n2 z3 z4⟩) c3 c4 (hts _ c5) (va_Nw.use rfl (x1 E c6)) (by rw [e1]; exact hce) hcv hcl
      (by
        rw [c7]
        exact kq q T'.heap (locs ++ L1) ls (by rw [e1]; exact hh) (fun z hz => by
          rcases List.mem_append.mp hz with y | y
          · exact b z y
          · exact hL z y) d)
    obtain ⟨t2, a1, b1⟩ := K T' rfl X'
    exact ⟨t2, stp.trans a1, b1⟩
/-- a virtual call inside a try -/
theorem r_xVc {y : MethodName} {bytes : ByteArray} {maxL fr lo mc2 ms2 index q b0 ci N : Nat} {T : u_T} {fs : List Value} {rt : Option FieldType} {As rest : List Value} {Post2 : Option Value → HP → Nat → Prop} {PX2 : String → HP → Nat → Prop} {tb : List ExceptionTableEntry} (C : Cx p l R s m args meth c G own cc nL ret nm) (hT : c.exceptionTable.toList = tb) (hM : Mx G l y bytes maxL rt fr lo mc2 ms2 (.ref b0 :: As) h sz Post2 PX2) (lk : LkV own index y bytes maxL rt q) (hc : vwCl[ci]? = some (y.cls, T, N)) (he : h b0 = some (ob_ ci fs)) (hq : As.length = q) (hs : st = As.reverse ++ .ref b0 :: rest) (rm : Rm R k n fr maxL lo mc2 ms2 rest) (hd : decode cc pc = .ok (.invokevirtual index, 3))
    (kx : ∀ E h1 s1, PX2 E h1 s1 → ∃ hp, Ct_ own tb pc E hp ∧ ∀ q : Nat, V p l e R s m args below meth c G nL Q h1 s1 (k + mc2) (n + ms2) hp L [.ref q])
    (kk : ∀ v h1 s1, Post2 v h1 s1 → V p l e R s m args below meth c G nL Q h1 s1 (k + mc2) (n + ms2) (pc + 3) L (v.toList ++ rest)) : V p l e R s m args below meth c G nL Q h sz k n pc L st := by
  intro H locs ls a b d
  subst hs
  obtain ⟨l1, l2, l3, l4, l5, l6, l7, l8⟩ := lk
  obtain ⟨g1, g2, g3, g4, g5⟩ := rm
  have hts := C.2.2.2.2.1
  have ok : ∀ w ∈ (wsV own index y.cls y (.code y bytes maxL rt :: TB)), w ∈ TB := by
    intro w hw
    simp only [wsV, List.cons_append, List.nil_append, List.mem_cons] at hw
    rcases hw with rfl | rfl | rfl | rfl | rfl | hw
    · exact l1
    · exact l2
    · exact l3
    · exact l4
    · exact l5
    · exact hw
  have HR := vx_runV (p := p) (l := l) (e := e) (s := s) (m := m) (meth := meth) (c := c) (R := R) (args := args) (below := below) (locs := locs) (cells := k) (slots := n) (As := As) (rest := rest) (g := F0 m pc ls (As.reverse ++ .ref b0 :: rest)) ⟨C.1, C.2.1, C.2.2.1, C.2.2.2.1, hts⟩ hM (cwV q hts (fun w hw => ⟨ok w hw, good_of_word (law_good w (ok w hw))⟩) rfl rfl rfl ⟨rfl, l6, l7, l8⟩ ⟨g1, g2⟩)
    ⟨pc_blind, by
      obtain ⟨r', h1', cell, k1, k2, k3, -⟩ := (a.2.2.2 _ _ he).2
      exact ⟨cell, k1, by rw [k3]; rfl, by rw [k2]; exact (C.2.2.2.2.2.1.1.1 ci _ hc).2.1⟩, fun U hU hW => ⟨rfl, by rw [hU]; exact a, ev_.moved hW C.2.2.2.2.2.1⟩⟩ rfl hq d.1 rfl (by show 2 * 0 + _ ≤ 8; omega) hd ⟨g3, g4⟩
  exact callc_core C hT HR b d kx kk
/-- a static method with a table of its own, that never throws -/
def Mw (G : ga_) (l : Launch) (y : MethodName) (cc : ByteArray) (nL : Nat) (ret : Option FieldType) (hh : List (Nat × Nat × Nat × Nat)) (fr lo mc ms : Nat) (av : List Value) (h : HP) (sz : Nat) (Post : Option Value → HP → Nat → Prop) : Prop :=
  vx_Met l y (.codeWith y cc nL ret hh :: TB) { frames := fr, cells := mc, slots := ms, locals := lo } (va_Pc av (fun U => hr_ G h sz U.heap ∧ ev_ G U)) (qc_ G Post) (xc_ G (fun _ _ _ => False)) mc ms (fun q => G.2.2.1 ≤ q)
theorem Mw.ofV {y : MethodName} {fr lo mc ms : Nat} {hh : List (Nat × Nat × Nat × Nat)} {av : List Value} {h : HP} {sz : Nat} {Post : Option Value → HP → Nat → Prop} (L0 : List (Nat × Value)) (hy : plainName y.cls = true) (hn : (lg_sl av).length ≤ nL) (hL : lv_args 0 av = L0)
    (body : ∀ (p : Program) (e : Env) (s : State) (m : MethodId) (args : Array Value) (below : List Frame) (meth : Method) (c : Code), Cx p l { frames := fr, cells := mc, slots := ms, locals := lo } s m args meth c G y.cls cc nL ret y.name → c.exceptionTable.toList = tableOf hh →
      V p l e { frames := fr, cells := mc, slots := ms, locals := lo } s m args below meth c G nL (Qx G below args s mc ms Post (fun _ _ _ => False)) h sz 0 0 0 L0 []) : Mw G l y cc nL ret hh fr lo mc ms av h sz Post := by
  refine vx_ofWH hy rfl ?_
  intro p e s m args below meth c s₁ B hml hv
  obtain ⟨rfl, hr0, hev⟩ := hv
  have hts := atoms_spec (ws := .codeWith y cc nL ret hh :: TB) B.pre
  have hC : Cx p l { frames := fr, cells := mc, slots := ms, locals := lo } s m av.toArray meth c G y.cls cc nL ret y.name :=
    ⟨B.exec, B.bytes, hml, findClass_of_methodNamed B.named, fun w hw => hts w (List.mem_cons_of_mem _ hw), hev, B.returns, B.notSynchronized, (name_of_methodNamed B.named B.method).1⟩
  have hl := lv_entry av (n := nL) hn
  rw [lg_entry_eq]
  rw [hL] at hl
  exact body p e s m av.toArray below meth c hC (vx_table (x := y) B (hts _ List.mem_cons_self)) s.heap [] _ hr0 (fun q hq => by cases hq) hl
def LkW (own : String) (index : Nat) (y : MethodName) (bytes : ByteArray) (maxL : Nat) (rt : Option FieldType) (hh : List (Nat × Nat × Nat × Nat)) (q : Nat) : Prop := Cond.methodLink own index y ∈ TB ∧ Cond.static y ∈ TB ∧ Cond.initialized y.cls ∈ TB ∧ Cond.codeWith y bytes maxL rt hh ∈ TB ∧ (y.cls ≠ "java/lang/invoke/MethodHandle" ∧ y.cls ≠ "java/lang/invoke/VarHandle" ∧ (parseMethodDescriptor y.desc).map (fun d => d.parameters.length) = some q)
theorem callw_core {mc2 ms2 : Nat} {Post2 : Option Value → HP → Nat → Prop} {H : Heap} {locs : List Loc} {ls : Array Slot} {a0 : Array Value} {rest : List Value} {pc0 : Nat} {st0 : List Value}
    (HR : vx_Run p l e R s m args below meth c H locs k n mc2 ms2 (F0 m pc0 ls st0) rest (qc_ G Post2 a0) (xc_ G (fun _ _ _ => False)) (fun q => G.2.2.1 ≤ q)) (b : ∀ q ∈ locs, G.2.2.1 ≤ q.base) (d : lv_has ls nL L)
    (kk : ∀ v h1 s1, Post2 v h1 s1 → V p l e R s m args below meth c G nL Q h1 s1 (k + mc2) (n + ms2) (pc0 + 3) L (v.toList ++ rest)) : W p l e R s m args below meth c H locs k n Q (F0 m pc0 ls st0) := by
  intro T hT0 X
  rcases HR T hT0 X with ⟨v, st₀, t, T', L1, h0, X', hL, e1, e2, ⟨v1, h1, s1, hv, hp, hh⟩, stp⟩ | ⟨q, st₀, t, T', L1, E, ce, h0, X', hL, e1, e2, ⟨h1, s1, hp, hh⟩, hce, hcv, hcl, stp⟩
  · cases hv
    obtain ⟨t2, a1, b1⟩ := kk _ h1 s1 hp T'.heap (locs ++ L1) ls (by rw [e1]; exact hh) (fun q hq => by
      rcases List.mem_append.mp hq with z | z
      · exact b q z
      · exact hL q z) d T' rfl X'
    exact ⟨t2, stp t2 a1, b1⟩
  · exact hp.elim
theorem r_cSW {y : MethodName} {bytes : ByteArray} {maxL fr lo mc2 ms2 index q : Nat} {rt : Option FieldType} {hh : List (Nat × Nat × Nat × Nat)} {As rest : List Value} {Post2 : Option Value → HP → Nat → Prop} (C : Cx p l R s m args meth c G own cc nL ret nm) (hM : Mw G l y bytes maxL rt hh fr lo mc2 ms2 As h sz Post2) (lk : LkW own index y bytes maxL rt hh q) (hq : As.length = q) (hs : st = As.reverse ++ rest) (rm : Rm R k n fr maxL lo mc2 ms2 rest) (hd : decode cc pc = .ok (.invokestatic index, 3))
    (kk : ∀ v h1 s1, Post2 v h1 s1 → V p l e R s m args below meth c G nL Q h1 s1 (k + mc2) (n + ms2) (pc + 3) L (v.toList ++ rest)) : V p l e R s m args below meth c G nL Q h sz k n pc L st := by
  intro H locs ls a b d
  subst hs
  obtain ⟨l1, l2, l4, l5, l6, l7, l8⟩ := lk
  obtain ⟨g1, g2, g3, g4, g5⟩ := rm
  have hts := C.2.2.2.2.1
  have ok : ∀ w ∈ (va_wsS own index y (.codeWith y bytes maxL rt hh :: TB)), w ∈ TB := by
    intro w hw
    simp only [va_wsS, List.cons_append, List.nil_append, List.mem_cons] at hw
    rcases hw with rfl | rfl | rfl | rfl | hw
    · exact l1
    · exact l2
    · exact l4
    · exact l5
    · exact hw
  have HR := vx_runSX (p := p) (l := l) (e := e) (s := s) (m := m) (meth := meth) (c := c) (R := R) (args := args) (below := below) (locs := locs) (cells := k) (slots := n) (As := As) (rest := rest) (g := F0 m pc ls (As.reverse ++ rest)) ⟨C.1, C.2.1, C.2.2.1, C.2.2.2.1, hts⟩ hM (vx_cwSW q hts (fun w hw => ⟨ok w hw, good_of_word (law_good w (ok w hw))⟩) rfl rfl rfl ⟨l6, l7, l8⟩ ⟨g1, g2⟩)
    ⟨pc_blind, fun U hU hW => ⟨rfl, by rw [hU]; exact a, ev_.moved hW C.2.2.2.2.2.1⟩⟩ rfl hq d.1 rfl (by show 2 * 0 + _ ≤ 8; omega) hd ⟨g3, g4⟩
  exact callw_core HR b d kk
-- the script
/-- the script lies below all that is told of -/
def Sx (G : ga_) (s : State) (b N : Nat) (xs : Nat → Int32) : Prop := va_X b N xs s s.heap ∧ b < s.heap.size ∧ G.2.2.1 = s.heap.size ∧ ∀ q, q < s.heap.size → G.2.2.2 q = s.heap[q]?
theorem hr_.vs {H : Heap} {locs : List Loc} {b N : Nat} {xs : Nat → Int32} (w : hr_ G h sz H) (X : Sx G s b N xs) (hl : ∀ q ∈ locs, G.2.2.1 ≤ q.base) : va_S (fun q => s.heap.size ≤ q) s.heap H locs := by
  obtain ⟨x1, x2, x3, x4⟩ := X
  refine ⟨by rw [w.1, ← x3]; exact w.2.1, fun q hq _ => ?_, fun q hq => by rw [← x3]; exact hl q hq⟩
  rw [w.2.2.1 q (by rw [x3]; exact hq), x4 q hq]
theorem r_sld {b0 N : Nat} {xs : Nat → Int32} (C : Cx p l R s m args meth c G own cc nL ret nm) (X : Sx G s b0 N xs) {i : Int32} (hi : vp_in i N) (hd : decode cc pc = .ok (.iaload, 1)) (kk : V p l e R s m args below meth c G nL Q h sz k n (pc + 1) L (.int (xs i.toNatClampNeg) :: st)) : V p l e R s m args below meth c G nL Q h sz k n pc L (.int i :: .ref b0 :: st) :=
  fun H locs ls a b d => va_sld C.1 C.2.1 X.1 X.2.1 (Nat.not_le.mpr X.2.1) (a.vs X b) hi hd (kk H locs ls a b d)
theorem r_slen {b0 N : Nat} {xs : Nat → Int32} (C : Cx p l R s m args meth c G own cc nL ret nm) (X : Sx G s b0 N xs) (hd : decode cc pc = .ok (.arraylength, 1)) (kk : V p l e R s m args below meth c G nL Q h sz k n (pc + 1) L (.int (nI N) :: st)) : V p l e R s m args below meth c G nL Q h sz k n pc L (.ref b0 :: st) :=
  fun H locs ls a b d => va_slen C.1 C.2.1 X.1 X.2.1 (Nat.not_le.mpr X.2.1) (a.vs X b) hd (kk H locs ls a b d)
end LC
theorem lk_L_77 : LkW RL 77 yL_begin cL_begin 5 (some .int) [(0, 10, 13, 13)] 4 := ⟨mw_ 531 (by decide +kernel) rfl, mw_ 532 (by decide +kernel) rfl, mw_ 70 (by decide +kernel) rfl, mw_ 533 (by decide +kernel) rfl, ⟨by decide +kernel, by decide +kernel, by decide +kernel⟩⟩
theorem lk_L_86 : LkW RL 86 yL_lay cL_lay 6 (some .int) [(0, 12, 15, 19), (0, 12, 19, 13)] 5 := ⟨mw_ 607 (by decide +kernel) rfl, mw_ 608 (by decide +kernel) rfl, mw_ 70 (by decide +kernel) rfl, mw_ 609 (by decide +kernel) rfl, ⟨by decide +kernel, by decide +kernel, by decide +kernel⟩⟩
theorem lk_L_98 : LkW RL 98 yL_oil cL_oil 4 (some .int) [(0, 9, 12, 19)] 3 := ⟨mw_ 658 (by decide +kernel) rfl, mw_ 659 (by decide +kernel) rfl, mw_ 70 (by decide +kernel) rfl, mw_ 660 (by decide +kernel) rfl, ⟨by decide +kernel, by decide +kernel, by decide +kernel⟩⟩
theorem lk_L_102 : LkW RL 102 yL_set cL_set 4 (some .int) [(0, 9, 12, 13)] 3 := ⟨mw_ 672 (by decide +kernel) rfl, mw_ 673 (by decide +kernel) rfl, mw_ 70 (by decide +kernel) rfl, mw_ 674 (by decide +kernel) rfl, ⟨by decide +kernel, by decide +kernel, by decide +kernel⟩⟩
theorem lk_L_105 : LkW RL 105 yL_append cL_append 4 (some .int) [(0, 9, 12, 13), (0, 9, 15, 31)] 3 := ⟨mw_ 680 (by decide +kernel) rfl, mw_ 681 (by decide +kernel) rfl, mw_ 70 (by decide +kernel) rfl, mw_ 682 (by decide +kernel) rfl, ⟨by decide +kernel, by decide +kernel, by decide +kernel⟩⟩
theorem lk_L_116 : LkW RL 116 yL_run cL_run 3 (some .int) [(0, 8, 11, 13)] 2 := ⟨mw_ 709 (by decide +kernel) rfl, mw_ 710 (by decide +kernel) rfl, mw_ 70 (by decide +kernel) rfl, mw_ 711 (by decide +kernel) rfl, ⟨by decide +kernel, by decide +kernel, by decide +kernel⟩⟩
theorem lk_L_120 : LkW RL 120 yL_keep cL_keep 4 (some .int) [(0, 9, 12, 13)] 3 := ⟨mw_ 728 (by decide +kernel) rfl, mw_ 729 (by decide +kernel) rfl, mw_ 70 (by decide +kernel) rfl, mw_ 730 (by decide +kernel) rfl, ⟨by decide +kernel, by decide +kernel, by decide +kernel⟩⟩
theorem lk_L_123 : LkW RL 123 yL_goBack cL_goBack 4 (some .int) [(0, 9, 12, 13), (0, 9, 15, 31)] 3 := ⟨mw_ 737 (by decide +kernel) rfl, mw_ 738 (by decide +kernel) rfl, mw_ 70 (by decide +kernel) rfl, mw_ 739 (by decide +kernel) rfl, ⟨by decide +kernel, by decide +kernel, by decide +kernel⟩⟩
theorem lk_L_126 : LkW RL 126 yL_undo cL_undo 3 (some .int) [(0, 8, 11, 31)] 2 := ⟨mw_ 745 (by decide +kernel) rfl, mw_ 746 (by decide +kernel) rfl, mw_ 70 (by decide +kernel) rfl, mw_ 747 (by decide +kernel) rfl, ⟨by decide +kernel, by decide +kernel, by decide +kernel⟩⟩
theorem lk_L_129 : LkW RL 129 yL_tileOf cL_tileOf 5 (some .int) [(0, 10, 13, 19), (0, 10, 17, 13)] 4 := ⟨mw_ 757 (by decide +kernel) rfl, mw_ 758 (by decide +kernel) rfl, mw_ 70 (by decide +kernel) rfl, mw_ 759 (by decide +kernel) rfl, ⟨by decide +kernel, by decide +kernel, by decide +kernel⟩⟩
theorem lk_L_132 : LkW RL 132 yL_hand cL_hand 5 (some .int) [(0, 10, 13, 19), (0, 10, 17, 13)] 4 := ⟨mw_ 769 (by decide +kernel) rfl, mw_ 770 (by decide +kernel) rfl, mw_ 70 (by decide +kernel) rfl, mw_ 771 (by decide +kernel) rfl, ⟨by decide +kernel, by decide +kernel, by decide +kernel⟩⟩
theorem lk_L_135 : LkW RL 135 yL_stock cL_stock 4 (some .int) [(0, 9, 12, 13)] 3 := ⟨mw_ 789 (by decide +kernel) rfl, mw_ 790 (by decide +kernel) rfl, mw_ 70 (by decide +kernel) rfl, mw_ 791 (by decide +kernel) rfl, ⟨by decide +kernel, by decide +kernel, by decide +kernel⟩⟩
theorem lk_L_138 : LkW RL 138 yL_playerOf cL_playerOf 5 (some .int) [(0, 10, 13, 19), (0, 10, 17, 13)] 4 := ⟨mw_ 796 (by decide +kernel) rfl, mw_ 797 (by decide +kernel) rfl, mw_ 70 (by decide +kernel) rfl, mw_ 798 (by decide +kernel) rfl, ⟨by decide +kernel, by decide +kernel, by decide +kernel⟩⟩
theorem lk_L_141 : LkW RL 141 yL_rowOf cL_rowOf 5 (some .int) [(0, 10, 13, 19), (0, 10, 17, 13)] 4 := ⟨mw_ 803 (by decide +kernel) rfl, mw_ 804 (by decide +kernel) rfl, mw_ 70 (by decide +kernel) rfl, mw_ 805 (by decide +kernel) rfl, ⟨by decide +kernel, by decide +kernel, by decide +kernel⟩⟩
theorem lk_L_144 : LkW RL 144 yL_count cL_count 4 (some .int) [(0, 9, 12, 13)] 3 := ⟨mw_ 810 (by decide +kernel) rfl, mw_ 811 (by decide +kernel) rfl, mw_ 70 (by decide +kernel) rfl, mw_ 812 (by decide +kernel) rfl, ⟨by decide +kernel, by decide +kernel, by decide +kernel⟩⟩
theorem lk_L_151 : LkW RL 151 yL_whyNot cL_whyNot 6 (some .int) [(0, 12, 15, 19), (0, 12, 19, 13)] 5 := ⟨mw_ 817 (by decide +kernel) rfl, mw_ 818 (by decide +kernel) rfl, mw_ 70 (by decide +kernel) rfl, mw_ 819 (by decide +kernel) rfl, ⟨by decide +kernel, by decide +kernel, by decide +kernel⟩⟩
theorem lk_L_154 : LkW RL 154 yL_longest cL_longest 5 (some .int) [(0, 10, 13, 19), (0, 10, 17, 13)] 4 := ⟨mw_ 825 (by decide +kernel) rfl, mw_ 826 (by decide +kernel) rfl, mw_ 70 (by decide +kernel) rfl, mw_ 827 (by decide +kernel) rfl, ⟨by decide +kernel, by decide +kernel, by decide +kernel⟩⟩
theorem lk_L_157 : LkW RL 157 yL_whole cL_whole 6 (some .int) [(0, 12, 15, 19), (0, 12, 19, 13)] 5 := ⟨mw_ 836 (by decide +kernel) rfl, mw_ 837 (by decide +kernel) rfl, mw_ 70 (by decide +kernel) rfl, mw_ 838 (by decide +kernel) rfl, ⟨by decide +kernel, by decide +kernel, by decide +kernel⟩⟩
