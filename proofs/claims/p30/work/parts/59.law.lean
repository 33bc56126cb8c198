/-! THE CLAIM OUT OF ONE WALK OF THE LAW'S BODY. Your part is whole_start (and what it stands on); all else here is the same for every law, but numbers. -/
def R_law : String := "RustTilesLaw"
def lw_P (b : Addr) (xs : List Int32) (args : Array Value) (s : State) : Prop := args = #[.ref b] ∧ s.IntsAt b xs ∧ xs.length ≤ 260 ∧ (Jvm.Cond.and given_1 narrow_1).before args s = true
/-- what a walk over the start with the record d0 says of its end, said of the start itself -/
theorem lw_closed {s t : State} {o : Outcome} {d0 : Drawn} {L : List Loc} {k n : Nat} (hd0 : s.drawn.sameBut d0 lw_cs) (hv : ∃ v, o = .returned v) (hW : (s.setDrawn d0).WarmedH t.vm) (hs : (s.setDrawn d0).sameButNew ({ t with vm := s.vm } : State) L k n) : State.butDraws s t lw_cs (fun t1 => Framed s o t1 L k n) := by
  have h2 : t.drawn = d0 := congrArg State.drawn hs.1
  refine ⟨⟨hv, hW, State.sameButNew.setDrawn hs s.drawn⟩, ?_, by decide⟩
  rw [h2]
  exact hd0
def lw_Q (_ : Array Value) (s : State) (o : Outcome) (t : State) : Prop := o = .returned (some (.int 1)) ∧ State.butDraws s t lw_cs (fun t1 => Framed s o t1 [] 600130 7301080)
def lw_Z (below : List Frame) (a : Array Value) (s : State) : State → Prop := fun t => ∃ o, t.status = .running ∧ Ended t below o ∧ lw_Q a s o t
/-- the law's own end, with 1 on the stack, nothing written that was there before, its room as the claim has it; d0: the record of draws at this point (at the entry s.drawn: begin with 'refine W.base ?_' and 'have hd0 := Drawn.sameBut.refl s.drawn lw_cs') -/
theorem lw_ret {p : Program} {l : Launch} {e : Env} {s : State} {m : MethodId} {below : List Frame} {meth : Method} {c : Code} {b : Nat} {d0 : Drawn} (hd0 : s.drawn.sameBut d0 lw_cs) (hx : p.tables.exec = Jvm.exec) (hb : c.code = code) (hr : meth.sig.returnType = ret) (hlocks : meth.locks = false) {pc : Nat} {H : Heap} {ls : Array Slot} (hdg : decode code pc = .ok (.ireturn, 1)) : W p l e room_1 (s.setDrawn d0) m #[Value.ref b] below meth c H [] 600130 7301080 (lw_Z below #[Value.ref b] s) (F0 m pc ls [.int 1]) := by
  intro T hT X
  obtain ⟨fs, hret, hrun, hended, hW, hframe⟩ := X.leave (v := some (.int 1)) (hlocks := hlocks) (fun h => by rw [hr] at h; cases h)
  have hmeth' : T.vm.method? m = some meth := X.method'
  refine ⟨T.setFrames fs, ?_, .returned (some (.int 1)), hrun, hended, rfl, lw_closed hd0 ⟨_, rfl⟩ hW hframe⟩
  jvm_step X.here [X.here.top, hx, hb, hdg, hmeth', hr, ret, narrow_b1]
  (try refine ⟨rfl, ?_⟩); (try refine ⟨rfl, ?_⟩)
  first | (intro acts; rw [hret _ acts rfl rfl rfl]) | rw [hret _ _ rfl rfl rfl]
  exact Steps.refl _
/-- what holds at the law's entry: the machine, the code, the tables' words (any of lw_tbl by 'hts w (by decide +kernel)'), the script of L ints xs at the cell b, what the Statement gives of the start (any of its parts by flat_of_before) -/
def lw_At (p : Program) (s : State) (m : MethodId) (meth : Method) (c : Code) (b L : Nat) (xs : Nat → Int32) : Prop :=
  p.tables.exec = Jvm.exec ∧ c.code = code ∧ meth.sig.returnType = ret ∧ c.maxLocals = 10 ∧ s.vm.findClass R_law = some m.cls ∧ (∀ w ∈ lw_tbl, w.before #[Value.ref b] s = true) ∧ va_X b L xs s s.heap ∧ b < s.heap.size ∧ meth.locks = false ∧ (Jvm.Cond.and given_1 narrow_1).before #[Value.ref b] s = true
section ST
theorem nx_pair : ∀ X ∈ XB, ∀ Y ∈ YB, X ≠ Y → Cond.not (.castable X Y) ∈ flatC (Jvm.Cond.and given_1 narrow_1) := by decide +kernel
theorem nx_self : ∀ X ∈ XB, Cond.castable X X ∈ lw_tbl := by decide +kernel
theorem nx_str : ∀ q ∈ SR, Cond.stringRef RX5 q.1 q.2 ∈ lw_tbl ∧ Cond.exactly (.string RX5 q.1) "java/lang/String" ∈ flatC (Jvm.Cond.and given_1 narrow_1) := by decide +kernel
theorem nx_dec : ∀ y ∈ DB, Cond.declares y ∈ lw_tbl := by decide +kernel
theorem nx_nb : ∀ w ∈ NB, w ∈ lw_tbl ∧ w.onTables = true := by decide +kernel
theorem nx_un : Cond.laysStatic Bundle.tN "UNASSIGNED_STACK" Bundle.steD ∈ lw_tbl ∧ Cond.initialized Bundle.tN ∈ lw_tbl ∧ Cond.isRef (.static Bundle.tN "UNASSIGNED_STACK" Bundle.steD) ∈ flatC (Jvm.Cond.and given_1 narrow_1) := by decide +kernel
theorem nx_su : Cond.laysStatic Bundle.tN "SUPPRESSED_SENTINEL" Bundle.listD ∈ lw_tbl ∧ Cond.isRef (.static Bundle.tN "SUPPRESSED_SENTINEL" Bundle.listD) ∈ flatC (Jvm.Cond.and given_1 narrow_1) := by decide +kernel
theorem nx_ar : Cond.arrayClass .int ∈ lw_tbl ∧ Cond.arrayClass .char ∈ lw_tbl ∧ Cond.arrayOver (.object RX0) ∈ lw_tbl := by decide +kernel
theorem nx_in : Cond.instantiable RX0 13 ∈ lw_tbl ∧ Cond.instantiable RX1 3 ∈ lw_tbl ∧ Cond.instantiable RX2 2 ∈ lw_tbl ∧ Cond.instantiable RX3 2 ∈ lw_tbl ∧ Cond.instantiable RX4 3 ∈ lw_tbl ∧ Cond.instantiable RX5 5 ∈ lw_tbl := by decide +kernel
theorem in_tbl {w : Cond} (h : w ∈ TB) : w ∈ lw_tbl := (List.mem_filter.mp h).1
theorem arr_of {s : State} {A : Array Value} {t : FieldType} (h : (Cond.arrayClass t).before A s = true) : ∃ cA, s.vm.findClass ("[" ++ t.toString) = some cA ∧ ∃ kA comp, s.vm.classes[cA]? = some kA ∧ kA.kind = .array comp t := by
  obtain ⟨cA, kA, comp, h1, h2, h3⟩ := Cond.arrayClass_spec h
  exact ⟨cA, h1, kA, comp, h2, h3⟩
set_option maxHeartbeats 1600000 in
/-- what every method is told, at the law's start -/
theorem ev_start {s : State} {b : Nat} (hts : ∀ w ∈ lw_tbl, w.before #[Value.ref b] s = true) (hgv : (Jvm.Cond.and given_1 narrow_1).before #[Value.ref b] s = true) : ∃ G : ga_, G.2.2.1 = s.heap.size ∧ G.2.2.2 = (fun q => s.heap[q]?) ∧ ev_ G s := by
  have hfl := flat_of_before _ hgv
  obtain ⟨n0, n1, n2, n3, n4, n5⟩ := nx_in
  obtain ⟨c0, i0, k0⟩ := u_known (C := RX0) (T := TX0) (N := 13) (n := 13) hts (fun w h => in_tbl (in_X0 w h)) (hts _ n0)
  obtain ⟨c1, i1, k1⟩ := u_known (C := RX1) (T := TX1) (N := 3) (n := 3) hts (fun w h => in_tbl (in_X1 w h)) (hts _ n1)
  obtain ⟨c2, i2, k2⟩ := u_known (C := RX2) (T := TX2) (N := 2) (n := 2) hts (fun w h => in_tbl (in_X2 w h)) (hts _ n2)
  obtain ⟨c3, i3, k3⟩ := u_known (C := RX3) (T := TX3) (N := 2) (n := 2) hts (fun w h => in_tbl (in_X3 w h)) (hts _ n3)
  obtain ⟨c4, i4, k4⟩ := u_known (C := RX4) (T := TX4) (N := 3) (n := 3) hts (fun w h => in_tbl (in_X4 w h)) (hts _ n4)
  obtain ⟨c5, i5, k5⟩ := u_known (C := RX5) (T := TX5) (N := 5) (n := 5) hts (fun w h => in_tbl (in_X5 w h)) (hts _ n5)
  obtain ⟨y0, y1, y4⟩ := nx_ar
  obtain ⟨a0, d0, ka0, co0, e0, f0⟩ := arr_of (hts _ y0)
  obtain ⟨a1, d1, ka1, co1, e1, f1⟩ := arr_of (hts _ y1)
  obtain ⟨co4, a4, ka4, g1, -, e4, f4, d4⟩ := Cond.arrayOver_spec (hts _ y4)
  refine ⟨((fun k => if k = 0 then c0 else if k = 1 then c1 else if k = 2 then c2 else if k = 3 then c3 else if k = 4 then c4 else c5, fun k => if k = 0 then i0 else if k = 1 then i1 else if k = 2 then i2 else if k = 3 then i3 else if k = 4 then i4 else i5), fun k => if k = 0 then a0 else if k = 1 then a1 else if k = 2 then a0 else if k = 3 then a0 else a4, s.heap.size, fun q => s.heap[q]?), rfl, rfl, ⟨?_, ?_⟩, ?_, ?_, ?_, ?_, ?_, ?_, s.heap, fun _ _ => rfl, ?_, ?_⟩
  · intro k q hq
    match k, hq with
    | 0, hq => cases hq; exact k0
    | 1, hq => cases hq; exact k1
    | 2, hq => cases hq; exact k2
    | 3, hq => cases hq; exact k3
    | 4, hq => cases hq; exact k4
    | 5, hq => cases hq; exact k5
    | k + 6, hq => simp [vwCl] at hq
  · intro k q hq
    match k, hq with
    | 0, hq => cases hq; exact ⟨fun n z => ⟨fun k h => (by cases h), ka0, e0, co0, f0⟩, d0⟩
    | 1, hq => cases hq; exact ⟨fun n z => ⟨fun k h => (by cases h), ka1, e1, co1, f1⟩, d1⟩
    | 2, hq => cases hq; exact ⟨fun n z => ⟨fun k h => (by cases h), ka0, e0, co0, f0⟩, d0⟩
    | 3, hq => cases hq; exact ⟨fun n z => ⟨fun k h => (by cases h), ka0, e0, co0, f0⟩, d0⟩
    | 4, hq => cases hq; exact ⟨fun n z => ⟨fun k h => (by cases h), ka4, e4, co4, f4⟩, ka4, co4, e4, f4, g1, d4⟩
    | k + 5, hq => simp [tys_] at hq
  · exact fun w hw => va_Nw.of (nx_nb w hw).2 (hts w (nx_nb w hw).1)
  · exact va_AO.of (A := #[Value.ref b]) (hts _ y4)
  · exact fun X hX => va_Nw.of rfl (hts _ (nx_self X hX))
  · exact fun X hX Y hY hne => va_Nc.of (hfl _ (nx_pair X hX Y hY hne))
  · intro q hq
    obtain ⟨q1, q2⟩ := nx_str q hq
    obtain ⟨a, -, -, -, ha, -⟩ := Cond.exactly_spec (hfl _ q2)
    exact ⟨a, vk_R.of (A := #[Value.ref b]) (hts _ q1) ha⟩
  · exact fun y hy => va_Nw.of rfl (hts _ (nx_dec y hy))
  · exact vx_Zqof (hts _ nx_un.1) (hts _ nx_un.2.1) (hfl _ nx_un.2.2) (fun a ha => Nat.not_le.mpr ha)
  · exact vx_Zqof (hts _ nx_su.1) (hts _ nx_un.2.1) (hfl _ nx_su.2) (fun a ha => Nat.not_le.mpr ha)
end ST
section LP
variable {p : Program} {l : Launch} {e : Env} {s : State} {m : MethodId} {args : Array Value} {below : List Frame} {meth : Method} {c : Code} {Q : State → Prop} {G : ga_} {nm : String} {x b0 N : Nat} {xs : Nat → Int32}
set_option maxHeartbeats 800000 in
set_option maxRecDepth 100000 in
theorem law_loop (C : Cx p l room_1 s m args meth c G RL code 10 ret nm) (X : Sx G s b0 N xs) (hst : l.stackTraces = false) (hN : N ≤ 260)
    (ke : ∀ h sz k n, LI G h sz x 52 → k ≤ 440200 → n ≤ 2680000 → V p l e room_1 s m args below meth c G 10 Q h sz k n 238 (LL_ b0 x 50) []) :
    ∀ t i, i + t = 50 → ∀ h sz k n, LI G h sz x (i + 2) → k ≤ 200 + 8800 * i → n ≤ 5000 + 53500 * i → V p l e room_1 s m args below meth c G 10 Q h sz k n 23 (LL_ b0 x i) [] := by
  intro t
  induction t with
  | zero =>
    intro i hi h sz k n I hk hn
    have hi : i = 50 := by omega
    subst hi
    refine r_iload C dL_law_23 rfl ?_
    refine r_bipush C (v := 50) dL_law_25 rfl ?_
    refine r_icmp_ge C 238 dL_law_27 (by decide) (fun _ => ke h sz k n I (by omega) (by omega)) (fun q => absurd (show (50 : Int32) ≤ nI 50 by decide) q)
  | succ t ih =>
    intro i hi h sz k n I hk hn
    refine r_iload C dL_law_23 rfl ?_
    refine r_bipush C (v := 50) dL_law_25 rfl ?_
    refine r_icmp_ge C 238 dL_law_27 (by decide) (fun q => absurd q (show ¬ nI 50 ≤ nI i from nI_ge (by omega) (by decide))) (fun _ => ?_)
    exact law_30 C X hst hN (by omega) I hk hn (fun h3 s3 k3 n3 I3 hk3 hn3 => ih (i + 1) (by omega) h3 s3 k3 n3 (by rw [show i + 1 + 2 = i + 3 by omega]; exact I3) hk3 hn3)
end LP
theorem LI.start {G : ga_} {h1 h2 h3 : HP} {x : Nat} {D : Nat → gS} (w1 : RA G h1 x (fun a => x + 21 ≤ a) (x + 21) (s_3 gS0 2 1) (fun _ => none) (fun _ => none) D 0 0 (fun _ => 0) 0) (w2 : RA G h2 (x + 21) (fun a => x + 21 + 21 ≤ a) (x + 21 + 21) (s_3 gS0 2 1) (fun _ => none) (fun _ => none) D 0 0 (fun _ => 0) 0) (e1 : ∀ a, a < x + 21 → h3 a = h1 a) (e2 : ∀ a, x + 21 ≤ a → a < x + 42 → h3 a = h2 a) (wo : h3 (x + 42) = some (aI_ G 1 (fun _ => 0))) : LI G h3 (x + 43) x (0 + 2) := by
  refine ⟨s_3 gS0 2 1, (fun a => x + 43 ≤ a, fun _ => none, fun _ => none, D, 0, 0, fun _ => 0, 0), (fun a => x + 43 ≤ a, fun _ => none, fun _ => none, D, 0, 0, fun _ => 0, 0), _, ⟨?_, ?_, wo, fun a q => q, fun a q => q, fun a ha q => ?_⟩, gX.first⟩
  · exact RA.shift w1 (by omega) (fun a q => by omega) (fun a q => q) (fun a q1 q2 => by omega) (fun a q => e1 a (by omega))
  · exact RA.shift w2 (by omega) (fun a q => by omega) (fun a q => q) (fun a q1 q2 => by omega) (fun a q => e2 a (by omega) (by omega))
  · have := q.1
    omega
set_option maxHeartbeats 1600000 in
set_option maxRecDepth 100000 in
/-- the law, from its entry, for every script -/
theorem whole_start {p : Program} {e : Env} {s : State} {m : MethodId} {below : List Frame} {meth : Method} {c : Code} (l : Launch) (hflags : l.flags = flags0) {b L : Nat} {xs : Nat → Int32} (hL : L ≤ 260) (C0 : lw_At p s m meth c b L xs) : W p l e room_1 s m #[Value.ref b] below meth c s.heap [] 0 0 (lw_Z below #[Value.ref b] s) (entryFrame m ([Value.ref b] : List Value).toArray 10) := by
  obtain ⟨hx, hb, hr, hml, hown, hts, hX, hbl, hlocks, hgv⟩ := id C0
  obtain ⟨G, hG1, hG2, hev⟩ := ev_start hts hgv
  have hst : l.stackTraces = false := by unfold Launch.stackTraces; rw [hflags]; decide
  have C : Cx p l room_1 s m #[Value.ref b] meth c G RL code 10 ret meth.name := ⟨hx, hb, hml, hown, fun w hw => hts w (in_tbl hw), hev, hr, hlocks, rfl⟩
  have X : Sx G s b L xs := ⟨hX, hbl, hG1, fun q _ => by rw [hG2]⟩
  have hs : s.setDrawn s.drawn = s := by cases s; rfl
  have ke : ∀ h sz k n, LI G h sz s.heap.size 52 → k ≤ 440200 → n ≤ 2680000 → V p l e room_1 s m #[Value.ref b] below meth c G 10 (lw_Z below #[Value.ref b] s) h sz k n 238 (LL_ b s.heap.size 50) [] := by
    intro h sz k n I hk hn
    obtain ⟨S, u1, u2, f, R, g⟩ := I
    refine r_aload_n C dL_law_238 rfl rfl ?_
    refine r_cSi C (c_L_areSums hst R.1 g) lk_L_101 rfl rfl ⟨(Nat.le_of_ble_eq_true rfl), (Nat.le_of_ble_eq_true rfl), (by show _ + _ ≤ 600130; omega), (by show _ + _ ≤ 7301080; omega), (Nat.le_of_ble_eq_true rfl)⟩ dL_law_239 ?_
    intro H locs ls a b1 d
    refine va_forget (fun q hq => by rw [← hG1]; exact b1 q hq) ?_
    refine W.widen (k := 600130) (n := 7301080) (by omega) (by omega) ?_
    have w := lw_ret (l := l) (e := e) (s := s) (m := m) (below := below) (c := c) (b := b) (d0 := s.drawn) (Drawn.sameBut.refl s.drawn lw_cs) hx hb hr hlocks (pc := 242) (H := H) (ls := ls) dL_law_242
    rw [hs] at w
    exact w
  have K : V p l e room_1 s m #[Value.ref b] below meth c G 10 (lw_Z below #[Value.ref b] s) (fun _ => none) s.heap.size 0 0 0 [(0, .ref b)] [] := by
    refine r_new C (ci := 5) (fs := [.null, .null, .null, .null, .null]) tyX5 tyX5_ok rfl in_X5 cl_L_9 iz_X5 ii_X5 (fun j hj => by rcases (show j = 0 ∨ j = 1 ∨ j = 2 ∨ j = 3 ∨ j = 4 by omega) with rfl | rfl | rfl | rfl | rfl <;> rfl) (Nat.le_of_ble_eq_true rfl) (Nat.le_of_ble_eq_true rfl) dL_law_0 ?_
    refine r_dup C dL_law_3 rfl ?_
    refine r_callI C (c_X5_init (fun _ => gS0) (up_s _ _ _)) lk_L_85 rfl rfl ⟨(Nat.le_of_ble_eq_true rfl), (Nat.le_of_ble_eq_true rfl), (Nat.le_of_ble_eq_true rfl), (Nat.le_of_ble_eq_true rfl), (Nat.le_of_ble_eq_true rfl)⟩ dL_law_4 ?_
    rintro v h1 s1 ⟨rfl, rfl, hf1, w1⟩
    refine r_astore_n C dL_law_7 rfl (by decide) ?_
    refine r_new C (ci := 5) (fs := [.null, .null, .null, .null, .null]) tyX5 tyX5_ok rfl in_X5 cl_L_9 iz_X5 ii_X5 (fun j hj => by rcases (show j = 0 ∨ j = 1 ∨ j = 2 ∨ j = 3 ∨ j = 4 by omega) with rfl | rfl | rfl | rfl | rfl <;> rfl) (Nat.le_of_ble_eq_true rfl) (Nat.le_of_ble_eq_true rfl) dL_law_8 ?_
    refine r_dup C dL_law_11 rfl ?_
    refine r_callI C (c_X5_init (x := s.heap.size + 21) (fun _ => gS0) (up_s _ _ _)) lk_L_85 rfl rfl ⟨(Nat.le_of_ble_eq_true rfl), (Nat.le_of_ble_eq_true rfl), (Nat.le_of_ble_eq_true rfl), (Nat.le_of_ble_eq_true rfl), (Nat.le_of_ble_eq_true rfl)⟩ dL_law_12 ?_
    rintro v h2 s2 ⟨rfl, rfl, hf2, w2⟩
    refine r_astore_n C dL_law_15 rfl (by decide) ?_
    refine r_iconst C (v := 1) dL_law_16 rfl ?_
    refine r_newaI C ac_int (by decide) rfl (Nat.le_of_ble_eq_true rfl) (Nat.le_of_ble_eq_true rfl) (Nat.le_of_ble_eq_true rfl) dL_law_17 ?_
    refine r_astore_n C dL_law_19 rfl (by decide) ?_
    refine r_iconst C (v := 0) dL_law_20 rfl ?_
    refine r_istore C dL_law_21 (by decide) ?_
    refine V.sub (LL_ b s.heap.size 0) ⟨rfl, rfl, rfl, rfl, rfl, trivial⟩ ?_
    refine law_loop C X hst hL ke 50 0 rfl _ _ _ _ ?_ (Nat.le_of_ble_eq_true rfl) (Nat.le_of_ble_eq_true rfl)
    refine LI.start w1 w2 (fun a ha => ?_) (fun a h1 h2 => ?_) (up_s _ _ _)
    · rw [up_n (by omega), hf2 a (by omega), up_n (by omega)]
    · exact up_n (by omega)
  have hl := lv_entry ([.ref b]) (n := 10) (Nat.le_of_ble_eq_true rfl)
  rw [lg_entry_eq]
  generalize (lg_sl ([.ref b]) ++ List.replicate (10 - (lg_sl ([.ref b])).length) Slot.unset).toArray = ls at hl ⊢
  have hl : lv_has ls 10 [(0, .ref b)] := hl
  exact K s.heap [] ls ⟨rfl, by rw [hG1]; exact Nat.le_refl _, fun q _ => by rw [hG2], fun a e h => by cases h⟩ (fun q hq => by cases hq) hl
-- ===== YOUR PART ENDS =====
set_option maxHeartbeats 4000000 in
theorem lw_walk (l : Launch) (hflags : l.flags = flags0) (b : Addr) (xs : List Int32) : MetFree l x (headSpec (Jvm.Cond.code x code maxLocals ret :: tables_1) room_1) (lw_P b xs) (fun _ _ _ _ _ => True) lw_Q := by
  refine MetFree.of_bodyS (code := code) (maxLocals := maxLocals) (ret := ret) (by decide) ?_ ?_
  · intro args s m h hn
    obtain ⟨meth, c, h1, h2, h3, h4, h5, h6, -, -⟩ := Cond.code_spec hn (atoms_spec (ws := Jvm.Cond.code x code maxLocals ret :: tables_1) h _ List.mem_cons_self)
    exact ⟨meth, c, h1, h2, h3, h4, h5, h6⟩
  · intro p e s m args below meth c s₁ B hml0 hP _
    obtain ⟨rfl, hx, hbd, hgv⟩ := hP
    obtain ⟨scr, harrAt, hlist, hof, hsmall⟩ := hx
    obtain ⟨hcb, hkn, -, -⟩ := State.arrayAt?_spec harrAt
    have hown : s.vm.findClass R_law = some m.cls := findClass_of_methodNamed B.named
    have hts0 : ∀ c ∈ (Jvm.Cond.code x code maxLocals ret :: tables_1), c.before #[Value.ref b] s = true := atoms_spec (ws := Jvm.Cond.code x code maxLocals ret :: tables_1) B.pre
    have hts : ∀ w ∈ lw_tbl, w.before #[Value.ref b] s = true := k2_hts_sels lw_privs (fun w hw => hts0 w (List.mem_cons_of_mem _ hw)) lw_privs_ok
    have hml : c.maxLocals = 10 := B.maxLocals_eq (hts0 _ List.mem_cons_self)
    have X₀ : Stand p l e room_1 s m #[Value.ref b] below meth c s₁ [] 0 0 := Stand.of_body B
    have hh0 : s₁.heap = s.heap := by rw [B.state]; rfl
    have hsz : scr.slots.size = xs.length := by rw [← Array.length_toList, hlist, List.length_map]
    have hval : ∀ j : Nat, j < xs.length → scr.slots[j]? = some (.int (xs.getD j 0)) := fun j hj => by
      rw [← Array.getElem?_toList, hlist]
      simp [hj]
    have hbl : b < s.heap.size := (Array.getElem?_eq_some_iff.mp hcb).1
    have hX : va_X b xs.length (fun j => xs.getD j 0) s s.heap := ⟨scr, hcb, hof, hkn, hsz, hval⟩
    have K : W p l e room_1 s m #[Value.ref b] below meth c s₁.heap [] 0 0 (lw_Z below #[Value.ref b] s) (entryFrame m ([Value.ref b] : List Value).toArray 10) := by
      rw [hh0]
      exact whole_start l hflags hbd ⟨B.exec, B.bytes, B.returns, hml, hown, hts, hX, hbl, B.notSynchronized, hgv⟩
    obtain ⟨t, a1, o, b1, b2, b3⟩ := K s₁ rfl X₀
    exact ⟨t, o, a1, b1, b2, b3⟩
theorem lw_pre_spec {args : Array Value} {s : State} (h : (Jvm.Cond.and given_1 narrow_1).before args s = true) (hr : rest_1_c.before args s = true) : ∃ (b : Addr) (xs : List Int32), lw_P b xs args s := by
  have hs := flat_of_before _ h
  have hq := flat_of_before _ hr
  have hc : (Cond.count 1).before args s = true := hs _ (by decide +kernel)
  have harr : (Cond.arrayOf (.arg 0) .int).before args s = true := hs _ (by decide +kernel)
  have hle : (Cond.le (.length (.arg 0)) (.int 260)).before args s = true := hs _ (by decide +kernel)
  have hlen : (Cond.isInt (.length (.arg 0))).before args s = true := hq _ (by decide +kernel)
  have hall : (Cond.all (.arg 0) (.isInt (.elem (.arg 0) (.index 0)))).before args s = true := hq _ (by decide +kernel)
  obtain ⟨b, xs, hb, hx⟩ := State.ints_of_pre rfl harr hlen hall
  have hsm : xs.length < 2 ^ 31 := hx.choose_spec.2.2.2
  have hev : (Term.length (.arg 0)).eval args s none [] s = some (.int xs.length.toInt32) := hx.length_eval hb
  have hv := Cond.le_ints hev (show (Term.int 260).eval args s none [] s = some (.int 260) from rfl)
  have hd : xs.length.toInt32 ≤ 260 := by
    simpa [Cond.before, Cond.holds, hv] using hle
  have hN : xs.length ≤ 260 := (Int32.ofNat_le_ofNat hsm (by decide)).mp (show Int32.ofNat xs.length ≤ Int32.ofNat 260 from hd)
  exact ⟨b, xs, Cond.one_arg hc (show args[0]? = some (.ref b) from hb), hx, hN, h⟩
theorem lw_comes (l : Launch) (hflags : l.flags = flags0) : Comes l x (Jvm.Cond.code x code maxLocals ret :: tables_1) room_1 (fun tb e args s => Calls_1 tb e args s ∧ rest_1 tb e args s ∧ Pre_1 tb e args s)
    (fun _ _ args s o t => lw_Q args s o t) := by
  intro p e ha hc hk s m args below hf hfit hheap happ hpre
  obtain ⟨b, xs, hP⟩ := lw_pre_spec hpre.2.2 hpre.2.1
  obtain ⟨k, o, h1, h2, h3, hQ⟩ := lw_walk l hflags b xs p e ha hc hk s m args below hf ((Spec.applies_iff_loose hf).mp happ).1 hP trivial
  exact ⟨k, o, h1, h2, h3, hQ⟩
theorem lw_frame {s t : State} {o : Outcome} {args : Array Value} (h : State.butDraws s t lw_cs (fun t1 => Framed s o t1 [] 600130 7301080)) :
    State.butDraws s t [Jvm.Choice.named "NaN.bits"] (fun t1 => Framed s o t1 (fieldLocs frame_1_writes args s ++ arrayLocs frame_1_arrays args s ++ staticLocs frame_1_statics s) 600130 7301080) := h
theorem lw_limb (L : Cond) (hL : ∀ (args : Array Value) (s t : State), L.after args s (.returned (some (.int 1))) t = true) :
    ArmFor flags0 classFile x code maxLocals ret World_1 tables_1 room_1 Calls_1 rest_1 Pre_1
      (fun tb e a s o t => postC L tb e a s o t ∧ State.butDraws s t [Jvm.Choice.named "NaN.bits"] (fun t1 => Framed s o t1 (fieldLocs frame_1_writes a s ++ arrayLocs frame_1_arrays a s ++ staticLocs frame_1_statics s) 600130 7301080)) := by
  intro l hflags _ _ p e ha hc hk s m args below hf hfit hheap happ hpre
  obtain ⟨k, o, h1, h2, h3, rfl, hF⟩ := lw_comes l hflags p e ha hc hk s m args below hf hfit hheap happ hpre
  exact ⟨k, _, h1, h2, h3, hL args s _, lw_frame hF⟩
theorem i_vc : Claimed_1_1 ∧ Claimed_1_2 := ⟨lw_limb limb_1_1 (fun args s t => by simp [limb_1_1, Cond.after, Cond.holds, Cond.value]), lw_limb limb_1_2 (fun args s t => Cond.after_iff.mpr (by
  first | (rw [show limb_1_2 = Cond.eq .result (.int 1) from rfl, Cond.eq_ints (x := 1) (y := 1) rfl rfl]; simp; done) | (simp [limb_1_2, Cond.value, Term.eval]; done)))⟩
