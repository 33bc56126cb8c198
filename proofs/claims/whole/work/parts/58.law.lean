/-! THE CLAIM OUT OF ONE WALK OF THE LAW'S BODY. Your part is whole_start (and what it stands on); all else here is the same for every law, but numbers. -/
def R_law : String := "RustTilesLaw"
def lw_P (b : Addr) (xs : List Int32) (args : Array Value) (s : State) : Prop := args = #[.ref b] ∧ s.IntsAt b xs ∧ xs.length ≤ 2048 ∧ (Jvm.Cond.and given_1 narrow_1).before args s = true
/-- what a walk over the start with the record d0 says of its end, said of the start itself -/
theorem lw_closed {s t : State} {o : Outcome} {d0 : Drawn} {L : List Loc} {k n : Nat} (hd0 : s.drawn.sameBut d0 lw_cs) (hv : ∃ v, o = .returned v) (hW : (s.setDrawn d0).WarmedH t.vm) (hs : (s.setDrawn d0).sameButNew ({ t with vm := s.vm } : State) L k n) : State.butDraws s t lw_cs (fun t1 => Framed s o t1 L k n) := by
  have h2 : t.drawn = d0 := congrArg State.drawn hs.1
  refine ⟨⟨hv, hW, State.sameButNew.setDrawn hs s.drawn⟩, ?_, by decide⟩
  rw [h2]
  exact hd0
def lw_Q (_ : Array Value) (s : State) (o : Outcome) (t : State) : Prop := o = .returned (some (.int 1)) ∧ State.butDraws s t lw_cs (fun t1 => Framed s o t1 [] 601024 7293034)
def lw_Z (below : List Frame) (a : Array Value) (s : State) : State → Prop := fun t => ∃ o, t.status = .running ∧ Ended t below o ∧ lw_Q a s o t
/-- the law's own end, with 1 on the stack, nothing written that was there before, its room as the claim has it; d0: the record of draws at this point (at the entry s.drawn: begin with 'refine W.base ?_' and 'have hd0 := Drawn.sameBut.refl s.drawn lw_cs') -/
theorem lw_ret {p : Program} {l : Launch} {e : Env} {s : State} {m : MethodId} {below : List Frame} {meth : Method} {c : Code} {b : Nat} {d0 : Drawn} (hd0 : s.drawn.sameBut d0 lw_cs) (hx : p.tables.exec = Jvm.exec) (hb : c.code = code) (hr : meth.sig.returnType = ret) (hlocks : meth.locks = false) {pc : Nat} {H : Heap} {ls : Array Slot} (hdg : decode code pc = .ok (.ireturn, 1)) : W p l e room_1 (s.setDrawn d0) m #[Value.ref b] below meth c H [] 601024 7293034 (lw_Z below #[Value.ref b] s) (F0 m pc ls [.int 1]) := by
  intro T hT X
  obtain ⟨fs, hret, hrun, hended, hW, hframe⟩ := X.leave (v := some (.int 1)) (hlocks := hlocks) (fun h => by rw [hr] at h; cases h)
  have hmeth' : T.vm.method? m = some meth := X.method'
  refine ⟨T.setFrames fs, ?_, .returned (some (.int 1)), hrun, hended, rfl, lw_closed hd0 ⟨_, rfl⟩ hW hframe⟩
  jvm_step X.here [X.here.top, hx, hb, hdg, hmeth', hr, ret, narrow_b1]
  (try refine ⟨rfl, ?_⟩); (try refine ⟨rfl, ?_⟩)
  first | (intro acts; rw [hret _ acts rfl rfl rfl]) | rw [hret _ _ rfl rfl rfl]
  exact Steps.refl _
/-- what holds at the law's entry: the machine, the code, the tables' words (any of lw_tbl by 'hts w (by decide +kernel)'), the script of L ints xs at the cell b, what the Statement gives of the start (any of its parts by flat_of_before) -/
def lw_At (p : Program) (s : State) (m : MethodId) (meth : Method) (c : Code) (b L : Nat) (xs : Nat → Int32) : Prop :=
  p.tables.exec = Jvm.exec ∧ c.code = code ∧ meth.sig.returnType = ret ∧ c.maxLocals = 9 ∧ s.vm.findClass R_law = some m.cls ∧ (∀ w ∈ lw_tbl, w.before #[Value.ref b] s = true) ∧ va_X b L xs s s.heap ∧ b < s.heap.size ∧ meth.locks = false ∧ (Jvm.Cond.and given_1 narrow_1).before #[Value.ref b] s = true
-- ===== YOUR PART BEGINS =====
section ST
theorem nx_pair : ∀ X ∈ XB, ∀ Y ∈ XB, X ≠ Y → Cond.not (.castable X Y) ∈ flatC (Jvm.Cond.and given_1 narrow_1) := by decide +kernel
theorem nx_self : ∀ X ∈ XB, Cond.castable X X ∈ lw_tbl := by decide +kernel
theorem nx_str : ∀ q ∈ SR, Cond.stringRef RX5 q.1 q.2 ∈ lw_tbl ∧ Cond.exactly (.string RX5 q.1) "java/lang/String" ∈ flatC (Jvm.Cond.and given_1 narrow_1) := by decide +kernel
theorem nx_dec : ∀ y ∈ DB, Cond.declares y ∈ lw_tbl := by decide +kernel
theorem nx_nb : ∀ w ∈ NB, w ∈ lw_tbl ∧ w.onTables = true := by decide +kernel
theorem nx_un : Cond.laysStatic Bundle.tN "UNASSIGNED_STACK" Bundle.steD ∈ lw_tbl ∧ Cond.initialized Bundle.tN ∈ lw_tbl ∧ Cond.isRef (.static Bundle.tN "UNASSIGNED_STACK" Bundle.steD) ∈ flatC (Jvm.Cond.and given_1 narrow_1) := by decide +kernel
theorem nx_su : Cond.laysStatic Bundle.tN "SUPPRESSED_SENTINEL" Bundle.listD ∈ lw_tbl ∧ Cond.isRef (.static Bundle.tN "SUPPRESSED_SENTINEL" Bundle.listD) ∈ flatC (Jvm.Cond.and given_1 narrow_1) := by decide +kernel
theorem nx_ar : Cond.arrayClass .int ∈ lw_tbl ∧ Cond.arrayClass .char ∈ lw_tbl ∧ Cond.arrayClass .boolean ∈ lw_tbl ∧ Cond.arrayClass .long ∈ lw_tbl ∧ Cond.arrayOver (.object RX0) ∈ lw_tbl := by decide +kernel
theorem nx_in : Cond.instantiable RX0 13 ∈ lw_tbl ∧ Cond.instantiable RX1 3 ∈ lw_tbl ∧ Cond.instantiable RX2 2 ∈ lw_tbl ∧ Cond.instantiable RX3 2 ∈ lw_tbl ∧ Cond.instantiable RX4 3 ∈ lw_tbl ∧ Cond.instantiable RX5 5 ∈ lw_tbl ∧ Cond.instantiable RX6 17 ∈ lw_tbl := by decide +kernel
theorem in_tbl {w : Cond} (h : w ∈ TB) : w ∈ lw_tbl := (List.mem_filter.mp h).1
theorem arr_of {s : State} {A : Array Value} {t : FieldType} (h : (Cond.arrayClass t).before A s = true) : ∃ cA, s.vm.findClass ("[" ++ t.toString) = some cA ∧ ∃ kA comp, s.vm.classes[cA]? = some kA ∧ kA.kind = .array comp t := by
  obtain ⟨cA, kA, comp, h1, h2, h3⟩ := Cond.arrayClass_spec h
  exact ⟨cA, h1, kA, comp, h2, h3⟩
set_option maxHeartbeats 1600000 in
/-- what every method is told, at the law's start -/
theorem ev_start {s : State} {b : Nat} (hts : ∀ w ∈ lw_tbl, w.before #[Value.ref b] s = true) (hgv : (Jvm.Cond.and given_1 narrow_1).before #[Value.ref b] s = true) : ∃ G : ga_, G.2.2.1 = s.heap.size ∧ G.2.2.2 = (fun q => s.heap[q]?) ∧ ev_ G s := by
  have hfl := flat_of_before _ hgv
  obtain ⟨n0, n1, n2, n3, n4, n5, n6⟩ := nx_in
  obtain ⟨c0, i0, k0⟩ := u_known (C := RX0) (T := TX0) (N := 13) (n := 13) hts (fun w h => in_tbl (in_X0 w h)) (hts _ n0)
  obtain ⟨c1, i1, k1⟩ := u_known (C := RX1) (T := TX1) (N := 3) (n := 3) hts (fun w h => in_tbl (in_X1 w h)) (hts _ n1)
  obtain ⟨c2, i2, k2⟩ := u_known (C := RX2) (T := TX2) (N := 2) (n := 2) hts (fun w h => in_tbl (in_X2 w h)) (hts _ n2)
  obtain ⟨c3, i3, k3⟩ := u_known (C := RX3) (T := TX3) (N := 2) (n := 2) hts (fun w h => in_tbl (in_X3 w h)) (hts _ n3)
  obtain ⟨c4, i4, k4⟩ := u_known (C := RX4) (T := TX4) (N := 3) (n := 3) hts (fun w h => in_tbl (in_X4 w h)) (hts _ n4)
  obtain ⟨c5, i5, k5⟩ := u_known (C := RX5) (T := TX5) (N := 5) (n := 5) hts (fun w h => in_tbl (in_X5 w h)) (hts _ n5)
  obtain ⟨c6, i6, k6⟩ := u_known (C := RX6) (T := TX6) (N := 17) (n := 17) hts (fun w h => in_tbl (in_X6 w h)) (hts _ n6)
  obtain ⟨y0, y1, y2, y3, y4⟩ := nx_ar
  obtain ⟨a0, d0, ka0, co0, e0, f0⟩ := arr_of (hts _ y0)
  obtain ⟨a1, d1, ka1, co1, e1, f1⟩ := arr_of (hts _ y1)
  obtain ⟨a2, d2, ka2, co2, e2, f2⟩ := arr_of (hts _ y2)
  obtain ⟨a3, d3, ka3, co3, e3, f3⟩ := arr_of (hts _ y3)
  obtain ⟨co4, a4, ka4, g1, -, e4, f4, d4⟩ := Cond.arrayOver_spec (hts _ y4)
  refine ⟨((fun k => if k = 0 then c0 else if k = 1 then c1 else if k = 2 then c2 else if k = 3 then c3 else if k = 4 then c4 else if k = 5 then c5 else c6, fun k => if k = 0 then i0 else if k = 1 then i1 else if k = 2 then i2 else if k = 3 then i3 else if k = 4 then i4 else if k = 5 then i5 else i6), fun k => if k = 0 then a0 else if k = 1 then a1 else if k = 2 then a2 else if k = 3 then a3 else a4, s.heap.size, fun q => s.heap[q]?), rfl, rfl, ⟨?_, ?_⟩, ?_, ?_, ?_, ?_, ?_, ?_, s.heap, fun _ _ => rfl, ?_, ?_⟩
  · intro k q hq
    match k, hq with
    | 0, hq => cases hq; exact k0
    | 1, hq => cases hq; exact k1
    | 2, hq => cases hq; exact k2
    | 3, hq => cases hq; exact k3
    | 4, hq => cases hq; exact k4
    | 5, hq => cases hq; exact k5
    | 6, hq => cases hq; exact k6
    | k + 7, hq => simp [vwCl] at hq
  · intro k q hq
    match k, hq with
    | 0, hq => cases hq; exact ⟨fun n z => ⟨fun k h => (by cases h), ka0, e0, co0, f0⟩, d0⟩
    | 1, hq => cases hq; exact ⟨fun n z => ⟨fun k h => (by cases h), ka1, e1, co1, f1⟩, d1⟩
    | 2, hq => cases hq; exact ⟨fun n z => ⟨fun k h => (by cases h), ka2, e2, co2, f2⟩, d2⟩
    | 3, hq => cases hq; exact ⟨fun n z => ⟨fun k h => (by cases h), ka3, e3, co3, f3⟩, d3⟩
    | 4, hq => cases hq; exact ⟨fun n z => ⟨fun k h => (by cases h), ka4, e4, co4, f4⟩, ka4, co4, e4, f4, g1, d4⟩
    | k + 5, hq => simp [tys_] at hq
  · exact fun w hw => va_Nw.of (nx_nb w hw).2 (hts w (nx_nb w hw).1)
  · exact va_AO.of (A := #[Value.ref b]) (hts _ y4)
  · exact fun X hX => va_Nw.of rfl (hts _ (nx_self X hX))
  · exact fun X hX Y hY hne => va_Nc.of (hfl _ (nx_pair X hX Y hY hne))
  · intro q hq
    obtain ⟨q1, q2⟩ := nx_str q hq
    obtain ⟨a, -, -, -, ha, -⟩ := Cond.exactly_spec (hfl _ q2)
    exact ⟨a, vk_R.of (A := #[Value.ref b]) (hts _ q1) ha⟩
  · exact fun y hy => va_Nw.of rfl (hts _ (nx_dec y hy))
  · exact vx_Zqof (hts _ nx_un.1) (hts _ nx_un.2.1) (hfl _ nx_un.2.2) (fun a ha => Nat.not_le.mpr ha)
  · exact vx_Zqof (hts _ nx_su.1) (hts _ nx_un.2.1) (hfl _ nx_su.2) (fun a ha => Nat.not_le.mpr ha)
end ST
section LP
theorem RA.start {G : ga_} {h h1 : HP} {x sz s1 : Nat} {S : gS} {D : Nat → gS} {nx z len : Nat} {cf : Nat → Int32} (w : RA G h x (x + 21) sz S (fun _ => none) (fun _ => none) D nx z cf len) (hs : x + 29 ≤ s1) (he : ∀ a, x ≤ a → a < x + 21 → h1 a = h a) : RA G h1 x (x + 29) s1 S (fun _ => none) (fun _ => none) D nx z cf len := by
  have gn : ∀ i, gmI (fun _ => none) (fun _ => none) i = none := fun i => by unfold gmI; split <;> rfl
  obtain ⟨a1, a2, a3, -, ⟨hf, of, t, t1, t2, t3, t4⟩, ⟨b1, b2⟩, ⟨c1, c2⟩, d1, d2, d3⟩ := w
  exact ⟨by omega, (he x (by omega) (by omega)).trans a2, a3.eq (fun a q r => he a (by omega) (by omega)), trivial,
    ⟨hf, of, t, (he _ (by omega) (by omega)).trans t1, (he _ (by omega) (by omega)).trans t2, (he _ (by omega) (by omega)).trans t3, (he _ (by omega) (by omega)).trans t4⟩,
    ⟨(he _ (by omega) (by omega)).trans b1, (he _ (by omega) (by omega)).trans b2⟩, ⟨(he _ (by omega) (by omega)).trans c1, (he _ (by omega) (by omega)).trans c2⟩,
    (he _ (by omega) (by omega)).trans d1, ⟨hs, fun i q _ e => by rw [gn] at e; (cases e), fun i j q r _ _ _ e _ => by rw [gn] at e; (cases e)⟩, d3⟩
theorem wf_0 : wf_ 2 gS0 := ⟨3, 0, by decide, by decide, by decide, by decide, by decide⟩
/-- what holds at the law's first turn -/
theorem LI.start {G : ga_} {h h1 : HP} {x : Nat} {F : Nat → Int32} (w : RA G h x (x + 21) (x + 21) (s_3 gS0 2 1) (fun _ => none) (fun _ => none) (fun _ => gS0) 0 0 (fun _ => 0) 0) (he : ∀ a, x ≤ a → a < x + 21 → h1 a = h a) (wM : MA G h1 (x + 21) (m_bg (fun _ => 0) gS0 2 1) (gu (fun _ _ => 0) 5 F) 0) (wo : h1 (x + 28) = some (aJ_ G 1 (fun _ => 0))) : LI G h1 (x + 29) x 2 := by
  obtain ⟨g2, H2, m1, m2⟩ := begin_eq0 (f5 := fun _ => 0) (Hf := gS0 1) (x := 1) (u := 2) ⟨1, by decide, rfl⟩ wf_0 (by decide) (by decide)
  rw [gu_id] at m1
  rw [show (2 : Int32) = nI 2 from rfl] at w
  have a6 : ∀ j, (gu (fun _ _ => (0 : Int32)) 5 F) 6 j = 0 := fun j => congrFun (gu_n (by decide)) j
  refine ⟨_, _, _, _, _, _, _, _, gu (fun _ _ => 0) 5 F, 0, H2, _, 0, w.start (Nat.le_refl _) he, ?_, wo, g2, m2, a6 1, a6 2, by decide, a6 3, fun i hi => absurd hi (Nat.not_lt_zero i), ⟨0, false, a6 4, a6 5⟩, fun i hi => absurd hi (Nat.not_lt_zero i), fun j hj => ⟨⟨fun q => ?_, fun q => absurd (show (none : Option Nat).isSome = true from q) (by decide)⟩, fun q hq => by cases hq⟩⟩
  · rw [m1] at wM
    exact wM
  · rw [Nat.zero_div] at q
    exact absurd q (by decide)
variable {p : Program} {l : Launch} {e : Env} {s : State} {m : MethodId} {args : Array Value} {below : List Frame} {meth : Method} {c : Code} {Q : State → Prop} {G : ga_} {nm : String} {x b0 N : Nat} {xs : Nat → Int32}
theorem LI.up {h : HP} {sz n n2 : Nat} (I : LI G h sz x n) (hn : n ≤ n2) : LI G h sz x n2 := by
  obtain ⟨S, st, sl, D, nx, z, cf, len, A, dg, Hf, fo, kk, w, wM, wo, R⟩ := I
  exact ⟨S, st, sl, D, nx, z, cf, len, A, dg, Hf, fo, kk, w, wM, wo, R.up hn⟩
set_option maxHeartbeats 1600000 in
set_option maxRecDepth 100000 in
theorem law_step {h : HP} {sz n k mm i : Nat} (C : Cx p l room_1 s m args meth c G RL code 9 ret nm) (X : Sx G s b0 N xs) (hst : l.stackTraces = false) (I : LI G h sz x n) (hn : n < 999000) (hi : i + 3 < N) (hN : N ≤ 2048) (hk : k + 13 ≤ 601024) (hm : mm + 400 ≤ 7293034)
    (kk : ∀ h3 s3, LI G h3 s3 x (n + 2) → V p l e room_1 s m args below meth c G 9 Q h3 s3 (k + 13) (mm + 400) 1434 (LL_ b0 x i) []) (v : Int32) : V p l e room_1 s m args below meth c G 9 Q h sz k mm 39 (LL_ b0 x i) [.int v] := by
  by_cases q : v.toInt < 0 ∨ 26 < v.toInt
  · refine r_tswO C 1434 dL_law_39 q (by decide) ?_
    exact V.widen (by omega) (by omega) (kk h sz (I.up (by omega)))
  · obtain ⟨j, hj, rfl⟩ := okN_nat (a := v) (k := 27) (by decide) (by
      unfold okN
      rw [decide_eq_false (fun y => q (Or.inl (by have := Int32.lt_iff_toInt_lt.mp y; rw [show (0 : Int32).toInt = 0 from rfl] at this; exact this))), decide_eq_true (Int32.lt_iff_toInt_lt.mpr (by rw [nI_toInt (by decide)]; omega))]
      rfl)
    rcases (show j = 0 ∨ j = 1 ∨ j = 2 ∨ j = 3 ∨ j = 4 ∨ j = 5 ∨ j = 6 ∨ j = 7 ∨ j = 8 ∨ j = 9 ∨ j = 10 ∨ j = 11 ∨ j = 12 ∨ j = 13 ∨ j = 14 ∨ j = 15 ∨ j = 16 ∨ j = 17 ∨ j = 18 ∨ j = 19 ∨ j = 20 ∨ j = 21 ∨ j = 22 ∨ j = 23 ∨ j = 24 ∨ j = 25 ∨ j = 26 by omega) with rfl | rfl | rfl | rfl | rfl | rfl | rfl | rfl | rfl | rfl | rfl | rfl | rfl | rfl | rfl | rfl | rfl | rfl | rfl | rfl | rfl | rfl | rfl | rfl | rfl | rfl | rfl
    · exact r_tsw C 160 dL_law_39 (by decide) (by decide) rfl (by decide) (k_0 C X hst I hn hi hN hk hm kk)
    · exact r_tsw C 228 dL_law_39 (by decide) (by decide) rfl (by decide) (k_1 C X hst I hn hi hN hk hm kk)
    · exact r_tsw C 308 dL_law_39 (by decide) (by decide) rfl (by decide) (k_2 C X hst I hn hi hN hk hm kk)
    · exact r_tsw C 321 dL_law_39 (by decide) (by decide) rfl (by decide) (k_3 C X hst I hn hi hN hk hm kk)
    · exact r_tsw C 334 dL_law_39 (by decide) (by decide) rfl (by decide) (k_4 C X hst I hn hi hN hk hm kk)
    · exact r_tsw C 390 dL_law_39 (by decide) (by decide) rfl (by decide) (k_5 C X hst I hn hi hN hk hm kk)
    · exact r_tsw C 446 dL_law_39 (by decide) (by decide) rfl (by decide) (k_6 C X hst I hn hi hN hk hm kk)
    · exact r_tsw C 502 dL_law_39 (by decide) (by decide) rfl (by decide) (k_7 C X hst I hn hi hN hk hm kk)
    · exact r_tsw C 515 dL_law_39 (by decide) (by decide) rfl (by decide) (k_8 C X hst I hn hi hN hk hm kk)
    · exact r_tsw C 528 dL_law_39 (by decide) (by decide) rfl (by decide) (k_9 C X hst I hn hi hN hk hm kk)
    · exact r_tsw C 572 dL_law_39 (by decide) (by decide) rfl (by decide) (k_10 C X hst I hn hi hN hk hm kk)
    · exact r_tsw C 628 dL_law_39 (by decide) (by decide) rfl (by decide) (k_11 C X hst I hn hi hN hk hm kk)
    · exact r_tsw C 684 dL_law_39 (by decide) (by decide) rfl (by decide) (k_12 C X hst I hn hi hN hk hm kk)
    · exact r_tsw C 728 dL_law_39 (by decide) (by decide) rfl (by decide) (k_13 C X hst I hn hi hN hk hm kk)
    · exact r_tsw C 796 dL_law_39 (by decide) (by decide) rfl (by decide) (k_14 C X hst I hn hi hN hk hm kk)
    · exact r_tsw C 864 dL_law_39 (by decide) (by decide) rfl (by decide) (k_15 C X hst I hn hi hN hk hm kk)
    · exact r_tsw C 920 dL_law_39 (by decide) (by decide) rfl (by decide) (k_16 C X hst I hn hi hN hk hm kk)
    · exact r_tsw C 988 dL_law_39 (by decide) (by decide) rfl (by decide) (k_17 C X hst I hn hi hN hk hm kk)
    · exact r_tsw C 1056 dL_law_39 (by decide) (by decide) rfl (by decide) (k_18 C X hst I hn hi hN hk hm kk)
    · exact r_tsw C 1112 dL_law_39 (by decide) (by decide) rfl (by decide) (k_19 C X hst I hn hi hN hk hm kk)
    · exact r_tsw C 1125 dL_law_39 (by decide) (by decide) rfl (by decide) (k_20 C X hst I hn hi hN hk hm kk)
    · exact r_tsw C 1205 dL_law_39 (by decide) (by decide) rfl (by decide) (k_21 C X hst I hn hi hN hk hm kk)
    · exact r_tsw C 1273 dL_law_39 (by decide) (by decide) rfl (by decide) (k_22 C X hst I hn hi hN hk hm kk)
    · exact r_tsw C 1353 dL_law_39 (by decide) (by decide) rfl (by decide) (k_23 C X hst I hn hi hN hk hm kk)
    · exact r_tsw C 1366 dL_law_39 (by decide) (by decide) rfl (by decide) (k_24 C X hst I hn hi hN hk hm kk)
    · exact r_tsw C 1379 dL_law_39 (by decide) (by decide) rfl (by decide) (k_25 C X hst I hn hi hN hk hm kk)
    · exact r_tsw C 1420 dL_law_39 (by decide) (by decide) rfl (by decide) (k_26 C X hst I hn hi hN hk hm kk)
theorem cmp4 {N i : Nat} (hN : N ≤ 2048) (hi : i ≤ 2048) (h : ¬ nI N - 4 < nI i) : i + 4 ≤ N := by
  by_cases q : 4 ≤ N
  · rw [show (4 : Int32) = nI 4 from rfl, pk_sub q] at h
    have y : ¬ N - 4 < i := fun y => h (nI_lt y (by omega))
    omega
  · exfalso
    apply h
    rw [Int32.lt_iff_toInt_lt, nI_toInt (show i < 2147483648 by omega)]
    rcases (show N = 0 ∨ N = 1 ∨ N = 2 ∨ N = 3 by omega) with rfl | rfl | rfl | rfl
    · rw [show (nI 0 - 4).toInt = -4 by decide]; omega
    · rw [show (nI 1 - 4).toInt = -3 by decide]; omega
    · rw [show (nI 2 - 4).toInt = -2 by decide]; omega
    · rw [show (nI 3 - 4).toInt = -1 by decide]; omega
set_option maxHeartbeats 1600000 in
set_option maxRecDepth 100000 in
theorem law_loop (C : Cx p l room_1 s m args meth c G RL code 9 ret nm) (X : Sx G s b0 N xs) (hst : l.stackTraces = false) (hN : N ≤ 2048)
    (ke : ∀ h sz k mm i, k ≤ 601024 → mm ≤ 7293034 → V p l e room_1 s m args below meth c G 9 Q h sz k mm 1440 (LL_ b0 x i) []) :
    ∀ t i n k mm h sz, N ≤ i + 4 * t → i ≤ N → n + 2 * t < 999000 → k + 13 * t ≤ 601024 → mm + 400 * t ≤ 7293034 → LI G h sz x n → V p l e room_1 s m args below meth c G 9 Q h sz k mm 23 (LL_ b0 x i) [] := by
  intro t
  induction t with
  | zero =>
    intro i n k mm h sz h1 h2 h3 h4 h5 I
    refine r_iload C dL_law_23 rfl ?_
    refine r_aload_n C dL_law_25 rfl rfl ?_
    refine r_slen C X dL_law_26 ?_
    refine r_iconst C (v := 4) dL_law_27 rfl ?_
    refine r_isub C dL_law_28 ?_
    refine r_icmp_gt C 1440 dL_law_29 (by decide) (fun _ => ke h sz k mm i (by omega) (by omega)) (fun q => ?_)
    have := cmp4 hN (by omega) q
    omega
  | succ t ih =>
    intro i n k mm h sz h1 h2 h3 h4 h5 I
    refine r_iload C dL_law_23 rfl ?_
    refine r_aload_n C dL_law_25 rfl rfl ?_
    refine r_slen C X dL_law_26 ?_
    refine r_iconst C (v := 4) dL_law_27 rfl ?_
    refine r_isub C dL_law_28 ?_
    refine r_icmp_gt C 1440 dL_law_29 (by decide) (fun _ => ke h sz k mm i (by omega) (by omega)) (fun q => ?_)
    have hi := cmp4 hN (by omega) q
    refine r_aload_n C dL_law_32 rfl rfl ?_
    refine r_iload C dL_law_33 rfl ?_
    refine r_sld C X (vp_in_nI (show i < N by omega) (by omega)) dL_law_35 ?_
    refine r_bipush C (v := 31) dL_law_36 rfl ?_
    refine r_iand C dL_law_38 ?_
    refine law_step C X hst I (by omega) (by omega) hN (by omega) (by omega) (fun h3 s3 I3 => ?_) _
    refine r_iinc C (v := 4) dL_law_1434 rfl rfl (by decide) ?_
    refine r_goto C 23 dL_law_1437 (by decide) ?_
    refine V.sub (LL_ b0 x (i + 4)) ⟨?_, rfl, rfl, rfl, rfl, trivial⟩ (ih (i + 4) (n + 2) (k + 13) (mm + 400) h3 s3 (by omega) (by omega) (by omega) (by omega) (by omega) I3)
    show some (Value.int (nI i + 4)) = some (Value.int (nI (i + 4)))
    rw [show (4 : Int32) = nI 4 from rfl, nI_add]
end LP
set_option maxHeartbeats 1600000 in
set_option maxRecDepth 100000 in
/-- the law, from its entry, for every script -/
theorem whole_start {p : Program} {e : Env} {s : State} {m : MethodId} {below : List Frame} {meth : Method} {c : Code} (l : Launch) (hflags : l.flags = flags0) {b L : Nat} {xs : Nat → Int32} (hL : L ≤ 2048) (C0 : lw_At p s m meth c b L xs) : W p l e room_1 s m #[Value.ref b] below meth c s.heap [] 0 0 (lw_Z below #[Value.ref b] s) (entryFrame m ([Value.ref b] : List Value).toArray 9) := by
  obtain ⟨hx, hb, hr, hml, hown, hts, hX, hbl, hlocks, hgv⟩ := id C0
  obtain ⟨G, hG1, hG2, hev⟩ := ev_start hts hgv
  have hst : l.stackTraces = false := by unfold Launch.stackTraces; rw [hflags]; decide
  have C : Cx p l room_1 s m #[Value.ref b] meth c G RL code 9 ret meth.name := ⟨hx, hb, hml, hown, fun w hw => hts w (in_tbl hw), hev, hr, hlocks, rfl⟩
  have X : Sx G s b L xs := ⟨hX, hbl, hG1, fun q _ => by rw [hG2]⟩
  have hs : s.setDrawn s.drawn = s := by cases s; rfl
  have ke : ∀ h sz k mm i, k ≤ 601024 → mm ≤ 7293034 → V p l e room_1 s m #[Value.ref b] below meth c G 9 (lw_Z below #[Value.ref b] s) h sz k mm 1440 (LL_ b s.heap.size i) [] := by
    intro h sz k mm i hk hm
    refine r_iconst C (v := 1) dL_law_1440 rfl ?_
    intro H locs ls a b1 d
    refine va_forget (fun q hq => by rw [← hG1]; exact b1 q hq) ?_
    refine W.widen (k := 601024) (n := 7293034) hk hm ?_
    have w := lw_ret (l := l) (e := e) (s := s) (m := m) (below := below) (c := c) (b := b) (d0 := s.drawn) (Drawn.sameBut.refl s.drawn lw_cs) hx hb hr hlocks (pc := 1441) (H := H) (ls := ls) dL_law_1441
    rw [hs] at w
    exact w
  have K : V p l e room_1 s m #[Value.ref b] below meth c G 9 (lw_Z below #[Value.ref b] s) (fun _ => none) s.heap.size 0 0 0 [(0, .ref b)] [] := by
    refine r_new C (ci := 5) (fs := [.null, .null, .null, .null, .null]) tyX5 tyX5_ok rfl in_X5 cl_L_8 iz_X5 ii_X5 (fun j hj => by rcases (show j = 0 ∨ j = 1 ∨ j = 2 ∨ j = 3 ∨ j = 4 by omega) with rfl | rfl | rfl | rfl | rfl <;> rfl) (Nat.le_of_ble_eq_true rfl) (Nat.le_of_ble_eq_true rfl) dL_law_0 ?_
    refine r_dup C dL_law_3 rfl ?_
    refine r_callI C (c_X5_init (fun _ => gS0) (up_s _ _ _)) lk_L_73 rfl rfl (rmk (by decide) (by decide) (by decide) (by decide) (Nat.le_of_ble_eq_true rfl)) dL_law_4 ?_
    rintro v h1 s1 ⟨rfl, rfl, hf, w⟩
    refine r_astore_n C dL_law_7 rfl (by decide) ?_
    refine r_new C (ci := 6) (fs := [.int 0, .null, .null, .int 0, .null, .int 0, .null, .int 0, .null, .null, .int 0, .int 0, .int 0, .int 0, .int 0, .int 0, .long 0]) tyX6 tyX6_ok rfl in_X6 cl_L_74 iz_X6 ii_X6 (fun j hj => by rcases (show j = 0 ∨ j = 1 ∨ j = 2 ∨ j = 3 ∨ j = 4 ∨ j = 5 ∨ j = 6 ∨ j = 7 ∨ j = 8 ∨ j = 9 ∨ j = 10 ∨ j = 11 ∨ j = 12 ∨ j = 13 ∨ j = 14 ∨ j = 15 ∨ j = 16 by omega) with rfl | rfl | rfl | rfl | rfl | rfl | rfl | rfl | rfl | rfl | rfl | rfl | rfl | rfl | rfl | rfl | rfl <;> rfl) (Nat.le_of_ble_eq_true rfl) (Nat.le_of_ble_eq_true rfl) dL_law_8 ?_
    refine r_dup C dL_law_11 rfl ?_
    refine r_cIv C (c_X6_init (up_s _ _ _)) lk_L_76 rfl rfl (rmk (by decide) (by decide) (Nat.le_of_ble_eq_true rfl) (Nat.le_of_ble_eq_true rfl) (Nat.le_of_ble_eq_true rfl)) dL_law_12 ?_
    refine r_astore_n C dL_law_15 rfl (by decide) ?_
    refine r_iconst C (v := 1) dL_law_16 rfl ?_
    refine r_newaJ C ac_long (by decide) rfl (Nat.le_of_ble_eq_true rfl) (Nat.le_of_ble_eq_true rfl) (Nat.le_of_ble_eq_true rfl) dL_law_17 ?_
    refine r_astore_n C dL_law_19 rfl (by decide) ?_
    refine r_iconst C (v := 0) dL_law_20 rfl ?_
    refine r_istore C dL_law_21 (by decide) ?_
    refine V.sub (LL_ b s.heap.size 0) ⟨rfl, rfl, rfl, rfl, rfl, trivial⟩ ?_
    refine law_loop C X hst hL ke 512 0 2 _ _ _ _ (by omega) (Nat.zero_le _) (by omega) (Nat.le_of_ble_eq_true rfl) (Nat.le_of_ble_eq_true rfl) ?_
    refine LI.start w (fun a a1 a2 => ?_) (MA.upk MA_pM _) (up_s _ _ _)
    rw [up_n (by omega), pM_out (by omega), up_n (by omega)]
  have hl := lv_entry ([.ref b]) (n := 9) (Nat.le_of_ble_eq_true rfl)
  rw [lg_entry_eq]
  generalize (lg_sl ([.ref b]) ++ List.replicate (9 - (lg_sl ([.ref b])).length) Slot.unset).toArray = ls at hl ⊢
  have hl : lv_has ls 9 [(0, .ref b)] := hl
  exact K s.heap [] ls ⟨rfl, by rw [hG1]; exact Nat.le_refl _, fun q _ => by rw [hG2], fun a e h => by cases h⟩ (fun q hq => by cases hq) hl
-- ===== YOUR PART ENDS =====
set_option maxHeartbeats 4000000 in
theorem lw_walk (l : Launch) (hflags : l.flags = flags0) (b : Addr) (xs : List Int32) : MetFree l x (headSpec (Jvm.Cond.code x code maxLocals ret :: tables_1) room_1) (lw_P b xs) (fun _ _ _ _ _ => True) lw_Q := by
  refine MetFree.of_bodyS (code := code) (maxLocals := maxLocals) (ret := ret) (by decide) ?_ ?_
  · intro args s m h hn
    obtain ⟨meth, c, h1, h2, h3, h4, h5, h6, -, -⟩ := Cond.code_spec hn (atoms_spec (ws := Jvm.Cond.code x code maxLocals ret :: tables_1) h _ List.mem_cons_self)
    exact ⟨meth, c, h1, h2, h3, h4, h5, h6⟩
  · intro p e s m args below meth c s₁ B hml0 hP _
    obtain ⟨rfl, hx, hbd, hgv⟩ := hP
    obtain ⟨scr, harrAt, hlist, hof, hsmall⟩ := hx
    obtain ⟨hcb, hkn, -, -⟩ := State.arrayAt?_spec harrAt
    have hown : s.vm.findClass R_law = some m.cls := findClass_of_methodNamed B.named
    have hts0 : ∀ c ∈ (Jvm.Cond.code x code maxLocals ret :: tables_1), c.before #[Value.ref b] s = true := atoms_spec (ws := Jvm.Cond.code x code maxLocals ret :: tables_1) B.pre
    have hts : ∀ w ∈ lw_tbl, w.before #[Value.ref b] s = true := k2_hts_sels lw_privs (fun w hw => hts0 w (List.mem_cons_of_mem _ hw)) lw_privs_ok
    have hml : c.maxLocals = 9 := B.maxLocals_eq (hts0 _ List.mem_cons_self)
    have X₀ : Stand p l e room_1 s m #[Value.ref b] below meth c s₁ [] 0 0 := Stand.of_body B
    have hh0 : s₁.heap = s.heap := by rw [B.state]; rfl
    have hsz : scr.slots.size = xs.length := by rw [← Array.length_toList, hlist, List.length_map]
    have hval : ∀ j : Nat, j < xs.length → scr.slots[j]? = some (.int (xs.getD j 0)) := fun j hj => by
      rw [← Array.getElem?_toList, hlist]
      simp [hj]
    have hbl : b < s.heap.size := (Array.getElem?_eq_some_iff.mp hcb).1
    have hX : va_X b xs.length (fun j => xs.getD j 0) s s.heap := ⟨scr, hcb, hof, hkn, hsz, hval⟩
    have K : W p l e room_1 s m #[Value.ref b] below meth c s₁.heap [] 0 0 (lw_Z below #[Value.ref b] s) (entryFrame m ([Value.ref b] : List Value).toArray 9) := by
      rw [hh0]
      exact whole_start l hflags hbd ⟨B.exec, B.bytes, B.returns, hml, hown, hts, hX, hbl, B.notSynchronized, hgv⟩
    obtain ⟨t, a1, o, b1, b2, b3⟩ := K s₁ rfl X₀
    exact ⟨t, o, a1, b1, b2, b3⟩
theorem lw_pre_spec {args : Array Value} {s : State} (h : (Jvm.Cond.and given_1 narrow_1).before args s = true) (hr : rest_1_c.before args s = true) : ∃ (b : Addr) (xs : List Int32), lw_P b xs args s := by
  have hs := flat_of_before _ h
  have hq := flat_of_before _ hr
  have hc : (Cond.count 1).before args s = true := hs _ (by decide +kernel)
  have harr : (Cond.arrayOf (.arg 0) .int).before args s = true := hs _ (by decide +kernel)
  have hle : (Cond.le (.length (.arg 0)) (.int 2048)).before args s = true := hs _ (by decide +kernel)
  have hlen : (Cond.isInt (.length (.arg 0))).before args s = true := hq _ (by decide +kernel)
  have hall : (Cond.all (.arg 0) (.isInt (.elem (.arg 0) (.index 0)))).before args s = true := hq _ (by decide +kernel)
  obtain ⟨b, xs, hb, hx⟩ := State.ints_of_pre rfl harr hlen hall
  have hsm : xs.length < 2 ^ 31 := hx.choose_spec.2.2.2
  have hev : (Term.length (.arg 0)).eval args s none [] s = some (.int xs.length.toInt32) := hx.length_eval hb
  have hv := Cond.le_ints hev (show (Term.int 2048).eval args s none [] s = some (.int 2048) from rfl)
  have hd : xs.length.toInt32 ≤ 2048 := by
    simpa [Cond.before, Cond.holds, hv] using hle
  have hN : xs.length ≤ 2048 := (Int32.ofNat_le_ofNat hsm (by decide)).mp (show Int32.ofNat xs.length ≤ Int32.ofNat 2048 from hd)
  exact ⟨b, xs, Cond.one_arg hc (show args[0]? = some (.ref b) from hb), hx, hN, h⟩
theorem lw_comes (l : Launch) (hflags : l.flags = flags0) : Comes l x (Jvm.Cond.code x code maxLocals ret :: tables_1) room_1 (fun tb e args s => Calls_1 tb e args s ∧ rest_1 tb e args s ∧ Pre_1 tb e args s)
    (fun _ _ args s o t => lw_Q args s o t) := by
  intro p e ha hc hk s m args below hf hfit hheap happ hpre
  obtain ⟨b, xs, hP⟩ := lw_pre_spec hpre.2.2 hpre.2.1
  obtain ⟨k, o, h1, h2, h3, hQ⟩ := lw_walk l hflags b xs p e ha hc hk s m args below hf ((Spec.applies_iff_loose hf).mp happ).1 hP trivial
  exact ⟨k, o, h1, h2, h3, hQ⟩
theorem lw_frame {s t : State} {o : Outcome} {args : Array Value} (h : State.butDraws s t lw_cs (fun t1 => Framed s o t1 [] 601024 7293034)) :
    State.butDraws s t [Jvm.Choice.named "NaN.bits"] (fun t1 => Framed s o t1 (fieldLocs frame_1_writes args s ++ arrayLocs frame_1_arrays args s ++ staticLocs frame_1_statics s) 601024 7293034) := h
theorem lw_limb (L : Cond) (hL : ∀ (args : Array Value) (s t : State), L.after args s (.returned (some (.int 1))) t = true) :
    ArmFor flags0 classFile x code maxLocals ret World_1 tables_1 room_1 Calls_1 rest_1 Pre_1
      (fun tb e a s o t => postC L tb e a s o t ∧ State.butDraws s t [Jvm.Choice.named "NaN.bits"] (fun t1 => Framed s o t1 (fieldLocs frame_1_writes a s ++ arrayLocs frame_1_arrays a s ++ staticLocs frame_1_statics s) 601024 7293034)) := by
  intro l hflags _ _ p e ha hc hk s m args below hf hfit hheap happ hpre
  obtain ⟨k, o, h1, h2, h3, rfl, hF⟩ := lw_comes l hflags p e ha hc hk s m args below hf hfit hheap happ hpre
  exact ⟨k, _, h1, h2, h3, hL args s _, lw_frame hF⟩
theorem i_vc : Claimed_1_1 ∧ Claimed_1_2 := ⟨lw_limb limb_1_1 (fun args s t => by simp [limb_1_1, Cond.after, Cond.holds, Cond.value]), lw_limb limb_1_2 (fun args s t => Cond.after_iff.mpr (by
  first | (rw [show limb_1_2 = Cond.eq .result (.int 1) from rfl, Cond.eq_ints (x := 1) (y := 1) rfl rfl]; simp; done) | (simp [limb_1_2, Cond.value, Term.eval]; done)))⟩
