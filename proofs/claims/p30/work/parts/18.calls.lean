/-! THE CLASS'S CALLS -/
theorem RA_pa {G : ga_} {h : HP} {x sz : Nat} {dyn : Nat → Prop} {S : gS} {st sl : Nat → Option Nat} {D : Nat → gS} {nx z len : Nat} {cf : Nat → Int32} (w : RA G h x dyn sz S st sl D nx z cf len) : PA G h (x + 18) st (nI nx) (nI z) := w.2.2.2.2.2.2.1
theorem RA_xa {G : ga_} {h : HP} {x sz : Nat} {dyn : Nat → Prop} {S : gS} {st sl : Nat → Option Nat} {D : Nat → gS} {nx z len : Nat} {cf : Nat → Int32} (w : RA G h x dyn sz S st sl D nx z cf len) : XA G h (x + 16) cf (nI len) := w.2.2.2.2.2.1
theorem RA_sl {G : ga_} {h : HP} {x sz : Nat} {dyn : Nat → Prop} {S : gS} {st sl : Nat → Option Nat} {D : Nat → gS} {nx z len : Nat} {cf : Nat → Int32} (w : RA G h x dyn sz S st sl D nx z cf len) : h (x + 20) = some (aG_ G 2 sl) := w.2.2.2.2.2.2.2.1
theorem RA_len {G : ga_} {h : HP} {x sz : Nat} {dyn : Nat → Prop} {S : gS} {st sl : Nat → Option Nat} {D : Nat → gS} {nx z len : Nat} {cf : Nat → Int32} (w : RA G h x dyn sz S st sl D nx z cf len) : len ≤ 60 := w.2.2.2.2.2.2.2.2.2.2.2
/-- behind a call that saved a state ahead -/
def poM (G : ga_) (h : HP) (x : Nat) (dyn : Nat → Prop) (sz : Nat) (S : gS) (st sl : Nat → Option Nat) (D : Nat → gS) (nx z : Nat) (cf : Nat → Int32) (len : Nat) (ok : Bool) (r : Int32) (S2 : gS) (len2 : Nat) : Option Value → HP → Nat → Prop := fun v h1 s1 => v = some (.int r) ∧ ok = true ∧ sz ≤ s1 ∧ fr_ h h1 x dyn ∧ ∃ q Sq, (st nx = some q ∧ Sq = D q ∨ st nx = none ∧ Sq = gS0) ∧ RA G h1 x dyn s1 S2 (va_up st nx (some q)) sl (dU D q (g_bec Sq S)) (p_nx nx) (p_z z) cf len2
/-- a look: nothing is changed -/
def poL (h : HP) (sz : Nat) (ok : Bool) (r : Int32) : Option Value → HP → Nat → Prop := fun v h1 s1 => v = some (.int r) ∧ ok = true ∧ h1 = h ∧ s1 = sz
/-- what is thrown: the class's name, nothing changed -/
def pxE (h : HP) (sz : Nat) (t : Option String) : String → HP → Nat → Prop := fun E h1 s1 => t = some E ∧ h1 = h ∧ sz ≤ s1
theorem fr_.trans {h h1 h2 : HP} {x : Nat} {dyn : Nat → Prop} (a : fr_ h h1 x dyn) (b : fr_ h1 h2 x dyn) : fr_ h h2 x dyn := fun q c d => (b q c d).trans (a q c d)
theorem fr_G {G : ga_} {h : HP} {x : Nat} {dyn : Nat → Prop} {S : gS} : fr_ h (pG G h (x + 1) S) x dyn := fun a _ hb => pG_out (by omega)
theorem fr_X {G : ga_} {h : HP} {x : Nat} {dyn : Nat → Prop} {cf : Nat → Int32} {n : Int32} : fr_ h (pX G h (x + 16) cf n) x dyn := fun a _ hb => pX_out (by omega)
theorem fr_T {G : ga_} {h : HP} {x : Nat} {dyn : Nat → Prop} {hf of : Nat → Int32} {n : Int32} : fr_ h (pT G h (x + 12) hf of n) x dyn := fun a _ hb => pT_out (by omega)
def th2 (b1 : Bool) (e1 : String) (b2 : Bool) (e2 : String) : Option String := if b1 then (if b2 then none else some e2) else some e1
def th1 (b1 : Bool) (e1 : String) : Option String := if b1 then none else some e1
set_option maxHeartbeats 800000 in
set_option maxRecDepth 100000 in
theorem c_X5_draw {G : ga_} {l : Launch} {h : HP} {sz : Nat} {x : Nat} {dyn : Nat → Prop} {S : gS} {st sl : Nat → Option Nat} {D : Nat → gS} {nx z len : Nat} {cf : Nat → Int32}  (w : RA G h x dyn sz S st sl D nx z cf len)  : Mg G l yX5_draw cX5_draw 1 (some .int) 5 113 11 387 [.ref x] h sz (poM G h x dyn sz S st sl D nx z cf len (true) (g_drawA S) (g_draw S) len)  := by
  refine Mg.ofV [(0, .ref x)] (by decide) (Nat.le_of_ble_eq_true rfl) rfl ?_
  intro p e s m args below meth c C
  refine r_aload_n C dX5_draw_0 rfl rfl ?_
  refine r_get C (j := 3) rfl in_X5 (w.2.1) (by decide) fl_X5_33 rfl rfl dX5_draw_1 ?_
  refine r_aload_n C dX5_draw_4 rfl rfl ?_
  refine r_get C (j := 0) rfl in_X5 (w.2.1) (by decide) fl_X5_10 rfl rfl dX5_draw_5 ?_
  refine r_callV C (c_rem w) lk_X5_52 rfl (RA_pa w).1 rfl rfl ⟨(Nat.le_of_ble_eq_true rfl), (Nat.le_of_ble_eq_true rfl), (Nat.le_of_ble_eq_true rfl), (Nat.le_of_ble_eq_true rfl), (Nat.le_of_ble_eq_true rfl)⟩ dX5_draw_8 (fun v h1 s1 hp => ?_)
  obtain ⟨rfl, hs1, hfr, q, Sq, hq, w2⟩ := hp
  refine V.stack (st2 := []) rfl ?_
  refine r_aload_n C dX5_draw_11 rfl rfl ?_
  refine r_get C (j := 0) rfl in_X5 (w2.2.1) (by decide) fl_X5_10 rfl rfl dX5_draw_12 ?_
  refine r_cVi C (c_X0_turnToDraw w2.2.2.1) lk_X5_71 rfl (GA_o w2.2.2.1) rfl rfl ⟨(Nat.le_of_ble_eq_true rfl), (Nat.le_of_ble_eq_true rfl), (Nat.le_of_ble_eq_true rfl), (Nat.le_of_ble_eq_true rfl), (Nat.le_of_ble_eq_true rfl)⟩ dX5_draw_15 ?_
  exact r_iret C rfl (Nat.le_of_ble_eq_true rfl) (Nat.le_of_ble_eq_true rfl) (⟨rfl, rfl, hs1, hfr.trans fr_G, q, Sq, hq, RA_G w2⟩) dX5_draw_18

set_option maxHeartbeats 800000 in
set_option maxRecDepth 100000 in
theorem c_X5_pass {G : ga_} {l : Launch} {h : HP} {sz : Nat} {x : Nat} {dyn : Nat → Prop} {S : gS} {st sl : Nat → Option Nat} {D : Nat → gS} {nx z len : Nat} {cf : Nat → Int32}  (w : RA G h x dyn sz S st sl D nx z cf len)  : Mg G l yX5_pass cX5_pass 1 (some .int) 5 112 11 387 [.ref x] h sz (poM G h x dyn sz S st sl D nx z cf len (true) (g_passA S) (g_pass S) len)  := by
  refine Mg.ofV [(0, .ref x)] (by decide) (Nat.le_of_ble_eq_true rfl) rfl ?_
  intro p e s m args below meth c C
  refine r_aload_n C dX5_pass_0 rfl rfl ?_
  refine r_get C (j := 3) rfl in_X5 (w.2.1) (by decide) fl_X5_33 rfl rfl dX5_pass_1 ?_
  refine r_aload_n C dX5_pass_4 rfl rfl ?_
  refine r_get C (j := 0) rfl in_X5 (w.2.1) (by decide) fl_X5_10 rfl rfl dX5_pass_5 ?_
  refine r_callV C (c_rem w) lk_X5_52 rfl (RA_pa w).1 rfl rfl ⟨(Nat.le_of_ble_eq_true rfl), (Nat.le_of_ble_eq_true rfl), (Nat.le_of_ble_eq_true rfl), (Nat.le_of_ble_eq_true rfl), (Nat.le_of_ble_eq_true rfl)⟩ dX5_pass_8 (fun v h1 s1 hp => ?_)
  obtain ⟨rfl, hs1, hfr, q, Sq, hq, w2⟩ := hp
  refine V.stack (st2 := []) rfl ?_
  refine r_aload_n C dX5_pass_11 rfl rfl ?_
  refine r_get C (j := 0) rfl in_X5 (w2.2.1) (by decide) fl_X5_10 rfl rfl dX5_pass_12 ?_
  refine r_cVi C (c_X0_turnToPass w2.2.2.1) lk_X5_74 rfl (GA_o w2.2.2.1) rfl rfl ⟨(Nat.le_of_ble_eq_true rfl), (Nat.le_of_ble_eq_true rfl), (Nat.le_of_ble_eq_true rfl), (Nat.le_of_ble_eq_true rfl), (Nat.le_of_ble_eq_true rfl)⟩ dX5_pass_15 ?_
  exact r_iret C rfl (Nat.le_of_ble_eq_true rfl) (Nat.le_of_ble_eq_true rfl) (⟨rfl, rfl, hs1, hfr.trans fr_G, q, Sq, hq, RA_G w2⟩) dX5_pass_18

set_option maxHeartbeats 800000 in
set_option maxRecDepth 100000 in
theorem c_X5_lay {G : ga_} {l : Launch} {h : HP} {sz : Nat} {x : Nat} {dyn : Nat → Prop} {S : gS} {st sl : Nat → Option Nat} {D : Nat → gS} {nx z len : Nat} {cf : Nat → Int32} {a b d : Int32} (hst : l.stackTraces = false) (w : RA G h x dyn sz S st sl D nx z cf len)  : Mx G l yX5_lay cX5_lay 4 (some .int) 7 117 13 399 [.ref x, .int a, .int b, .int d] h sz (poM G h x dyn sz S st sl D nx z cf len (okN b 3 && okEnd d) (g_layA S a b d) (g_lay S a b d) len) (pxE h sz (th2 (okN b 3) eIO (okEnd d) eIA)) := by
  refine Mx.ofV [(0, .ref x), (1, .int a), (2, .int b), (3, .int d)] hst (by decide) (Nat.le_of_ble_eq_true rfl) rfl ?_
  intro p e s m args below meth c C Z
  refine r_iload_n C dX5_lay_0 rfl rfl ?_
  refine r_xS C Z (c_X5_requireRow hst) lk_X5_60 rfl rfl ⟨(Nat.le_of_ble_eq_true rfl), (Nat.le_of_ble_eq_true rfl), (Nat.le_of_ble_eq_true rfl), (Nat.le_of_ble_eq_true rfl), (Nat.le_of_ble_eq_true rfl)⟩ dX5_lay_1 (Nat.le_of_ble_eq_true rfl) (Nat.le_of_ble_eq_true rfl) (fun E h1 s1 q0 => by obtain ⟨rfl, rfl, q1, q2⟩ := q0; exact ⟨by simp [th2, q2], rfl, q1⟩) (fun v h1 s1 q0 => ?_)
  obtain ⟨rfl, rfl, rfl, ok_1⟩ := q0
  refine V.stack (st2 := []) rfl ?_
  refine r_iload_n C dX5_lay_4 rfl rfl ?_
  refine r_xS C Z (c_X5_requireEnd hst) lk_X5_64 rfl rfl ⟨(Nat.le_of_ble_eq_true rfl), (Nat.le_of_ble_eq_true rfl), (Nat.le_of_ble_eq_true rfl), (Nat.le_of_ble_eq_true rfl), (Nat.le_of_ble_eq_true rfl)⟩ dX5_lay_5 (Nat.le_of_ble_eq_true rfl) (Nat.le_of_ble_eq_true rfl) (fun E h1 s1 q0 => by obtain ⟨rfl, rfl, q1, q2⟩ := q0; exact ⟨by simp [th2, ok_1, q2], rfl, q1⟩) (fun v h1 s1 q0 => ?_)
  obtain ⟨rfl, rfl, rfl, ok_5⟩ := q0
  refine V.stack (st2 := []) rfl ?_
  refine r_aload_n C dX5_lay_8 rfl rfl ?_
  refine r_get C (j := 3) rfl in_X5 (w.2.1) (by decide) fl_X5_33 rfl rfl dX5_lay_9 ?_
  refine r_aload_n C dX5_lay_12 rfl rfl ?_
  refine r_get C (j := 0) rfl in_X5 (w.2.1) (by decide) fl_X5_10 rfl rfl dX5_lay_13 ?_
  refine r_callV C (c_rem w) lk_X5_52 rfl (RA_pa w).1 rfl rfl ⟨(Nat.le_of_ble_eq_true rfl), (Nat.le_of_ble_eq_true rfl), (Nat.le_of_ble_eq_true rfl), (Nat.le_of_ble_eq_true rfl), (Nat.le_of_ble_eq_true rfl)⟩ dX5_lay_16 (fun v h1 s1 hp => ?_)
  obtain ⟨rfl, hs1, hfr, q, Sq, hq, w2⟩ := hp
  refine V.stack (st2 := []) rfl ?_
  refine r_aload_n C dX5_lay_19 rfl rfl ?_
  refine r_get C (j := 0) rfl in_X5 (w2.2.1) (by decide) fl_X5_10 rfl rfl dX5_lay_20 ?_
  refine r_iload_n C dX5_lay_23 rfl rfl ?_
  refine r_iload_n C dX5_lay_24 rfl rfl ?_
  refine r_iload_n C dX5_lay_25 rfl rfl ?_
  refine r_cVi C (c_X0_turnToLay w2.2.2.1) lk_X5_67 rfl (GA_o w2.2.2.1) rfl rfl ⟨(Nat.le_of_ble_eq_true rfl), (Nat.le_of_ble_eq_true rfl), (Nat.le_of_ble_eq_true rfl), (Nat.le_of_ble_eq_true rfl), (Nat.le_of_ble_eq_true rfl)⟩ dX5_lay_26 ?_
  exact V.retx (r_iret C rfl (Nat.le_of_ble_eq_true rfl) (Nat.le_of_ble_eq_true rfl) (⟨rfl, by simp [ok_1, ok_5], hs1, hfr.trans fr_G, q, Sq, hq, RA_G w2⟩) dX5_lay_29)

set_option maxHeartbeats 800000 in
set_option maxRecDepth 100000 in
theorem c_X5_whyNot {G : ga_} {l : Launch} {h : HP} {sz : Nat} {x : Nat} {dyn : Nat → Prop} {S : gS} {st sl : Nat → Option Nat} {D : Nat → gS} {nx z len : Nat} {cf : Nat → Int32} {a b d : Int32} (hst : l.stackTraces = false) (w : RA G h x dyn sz S st sl D nx z cf len)  : Mx G l yX5_whyNot cX5_whyNot 4 (some .int) 7 110 2 12 [.ref x, .int a, .int b, .int d] h sz (poL h sz (okN b 3 && okEnd d) (g_reason S a b d)) (pxE h sz (th2 (okN b 3) eIO (okEnd d) eIA)) := by
  refine Mx.ofV [(0, .ref x), (1, .int a), (2, .int b), (3, .int d)] hst (by decide) (Nat.le_of_ble_eq_true rfl) rfl ?_
  intro p e s m args below meth c C Z
  refine r_iload_n C dX5_whyNot_0 rfl rfl ?_
  refine r_xS C Z (c_X5_requireRow hst) lk_X5_60 rfl rfl ⟨(Nat.le_of_ble_eq_true rfl), (Nat.le_of_ble_eq_true rfl), (Nat.le_of_ble_eq_true rfl), (Nat.le_of_ble_eq_true rfl), (Nat.le_of_ble_eq_true rfl)⟩ dX5_whyNot_1 (Nat.le_of_ble_eq_true rfl) (Nat.le_of_ble_eq_true rfl) (fun E h1 s1 q0 => by obtain ⟨rfl, rfl, q1, q2⟩ := q0; exact ⟨by simp [th2, q2], rfl, q1⟩) (fun v h1 s1 q0 => ?_)
  obtain ⟨rfl, rfl, rfl, ok_1⟩ := q0
  refine V.stack (st2 := []) rfl ?_
  refine r_iload_n C dX5_whyNot_4 rfl rfl ?_
  refine r_xS C Z (c_X5_requireEnd hst) lk_X5_64 rfl rfl ⟨(Nat.le_of_ble_eq_true rfl), (Nat.le_of_ble_eq_true rfl), (Nat.le_of_ble_eq_true rfl), (Nat.le_of_ble_eq_true rfl), (Nat.le_of_ble_eq_true rfl)⟩ dX5_whyNot_5 (Nat.le_of_ble_eq_true rfl) (Nat.le_of_ble_eq_true rfl) (fun E h1 s1 q0 => by obtain ⟨rfl, rfl, q1, q2⟩ := q0; exact ⟨by simp [th2, ok_1, q2], rfl, q1⟩) (fun v h1 s1 q0 => ?_)
  obtain ⟨rfl, rfl, rfl, ok_5⟩ := q0
  refine V.stack (st2 := []) rfl ?_
  refine r_aload_n C dX5_whyNot_8 rfl rfl ?_
  refine r_get C (j := 0) rfl in_X5 (w.2.1) (by decide) fl_X5_10 rfl rfl dX5_whyNot_9 ?_
  refine r_iload_n C dX5_whyNot_12 rfl rfl ?_
  refine r_iload_n C dX5_whyNot_13 rfl rfl ?_
  refine r_iload_n C dX5_whyNot_14 rfl rfl ?_
  refine r_cVi C (c_X0_reasonAgainst w.2.2.1) lk_X5_179 rfl (GA_o w.2.2.1) rfl rfl ⟨(Nat.le_of_ble_eq_true rfl), (Nat.le_of_ble_eq_true rfl), (Nat.le_of_ble_eq_true rfl), (Nat.le_of_ble_eq_true rfl), (Nat.le_of_ble_eq_true rfl)⟩ dX5_whyNot_15 ?_
  exact V.retx (r_iret C rfl (Nat.le_of_ble_eq_true rfl) (Nat.le_of_ble_eq_true rfl) (⟨rfl, by simp [ok_1, ok_5], rfl, rfl⟩) dX5_whyNot_18)

set_option maxHeartbeats 800000 in
set_option maxRecDepth 100000 in
theorem c_X5_rowOf {G : ga_} {l : Launch} {h : HP} {sz : Nat} {x : Nat} {dyn : Nat → Prop} {S : gS} {st sl : Nat → Option Nat} {D : Nat → gS} {nx z len : Nat} {cf : Nat → Int32} {a b : Int32} (hst : l.stackTraces = false) (w : RA G h x dyn sz S st sl D nx z cf len)  : Mx G l yX5_rowOf cX5_rowOf 3 (some .int) 7 111 2 12 [.ref x, .int a, .int b] h sz (poL h sz (okN a 3 && okN b 4) (tAt 4 12 (S 3) a b)) (pxE h sz (th2 (okN a 3) eIO (okN b 4) eIA)) := by
  refine Mx.ofV [(0, .ref x), (1, .int a), (2, .int b)] hst (by decide) (Nat.le_of_ble_eq_true rfl) rfl ?_
  intro p e s m args below meth c C Z
  refine r_iload_n C dX5_rowOf_0 rfl rfl ?_
  refine r_xS C Z (c_X5_requireRow hst) lk_X5_60 rfl rfl ⟨(Nat.le_of_ble_eq_true rfl), (Nat.le_of_ble_eq_true rfl), (Nat.le_of_ble_eq_true rfl), (Nat.le_of_ble_eq_true rfl), (Nat.le_of_ble_eq_true rfl)⟩ dX5_rowOf_1 (Nat.le_of_ble_eq_true rfl) (Nat.le_of_ble_eq_true rfl) (fun E h1 s1 q0 => by obtain ⟨rfl, rfl, q1, q2⟩ := q0; exact ⟨by simp [th2, q2], rfl, q1⟩) (fun v h1 s1 q0 => ?_)
  obtain ⟨rfl, rfl, rfl, ok_1⟩ := q0
  refine V.stack (st2 := []) rfl ?_
  refine r_iload_n C dX5_rowOf_4 rfl rfl ?_
  refine r_iconst C (v := 4) dX5_rowOf_5 rfl ?_
  refine r_xS C Z (c_X5_requireWhat hst) lk_X5_145 rfl rfl ⟨(Nat.le_of_ble_eq_true rfl), (Nat.le_of_ble_eq_true rfl), (Nat.le_of_ble_eq_true rfl), (Nat.le_of_ble_eq_true rfl), (Nat.le_of_ble_eq_true rfl)⟩ dX5_rowOf_6 (Nat.le_of_ble_eq_true rfl) (Nat.le_of_ble_eq_true rfl) (fun E h1 s1 q0 => by obtain ⟨rfl, rfl, q1, q2⟩ := q0; exact ⟨by simp [th2, ok_1, q2], rfl, q1⟩) (fun v h1 s1 q0 => ?_)
  obtain ⟨rfl, rfl, rfl, ok_6⟩ := q0
  refine V.stack (st2 := []) rfl ?_
  refine r_aload_n C dX5_rowOf_9 rfl rfl ?_
  refine r_get C (j := 0) rfl in_X5 (w.2.1) (by decide) fl_X5_10 rfl rfl dX5_rowOf_10 ?_
  refine r_getN C (j := 3) rfl in_X0 (GA_o w.2.2.1) (by decide) fn_X5_173 rfl rfl dX5_rowOf_13 ?_
  refine r_iload_n C dX5_rowOf_16 rfl rfl ?_
  refine r_iload_n C dX5_rowOf_17 rfl rfl ?_
  refine r_cVi C (c_at3 w.2.2.1) lk_X5_152 rfl (GA_t3 w.2.2.1) rfl rfl ⟨(Nat.le_of_ble_eq_true rfl), (Nat.le_of_ble_eq_true rfl), (Nat.le_of_ble_eq_true rfl), (Nat.le_of_ble_eq_true rfl), (Nat.le_of_ble_eq_true rfl)⟩ dX5_rowOf_18 ?_
  exact V.retx (r_iret C rfl (Nat.le_of_ble_eq_true rfl) (Nat.le_of_ble_eq_true rfl) (⟨rfl, by simp [ok_1, ok_6], rfl, rfl⟩) dX5_rowOf_21)

set_option maxHeartbeats 800000 in
set_option maxRecDepth 100000 in
theorem c_X5_playerOf {G : ga_} {l : Launch} {h : HP} {sz : Nat} {x : Nat} {dyn : Nat → Prop} {S : gS} {st sl : Nat → Option Nat} {D : Nat → gS} {nx z len : Nat} {cf : Nat → Int32} {a b : Int32} (hst : l.stackTraces = false) (w : RA G h x dyn sz S st sl D nx z cf len)  : Mx G l yX5_playerOf cX5_playerOf 3 (some .int) 7 119 2 12 [.ref x, .int a, .int b] h sz (poL h sz (g_has S a && okN b 7) (g_prop S a b)) (pxE h sz (th2 (g_has S a) eIO (okN b 7) eIA)) := by
  refine Mx.ofV [(0, .ref x), (1, .int a), (2, .int b)] hst (by decide) (Nat.le_of_ble_eq_true rfl) rfl ?_
  intro p e s m args below meth c C Z
  refine r_aload_n C dX5_playerOf_0 rfl rfl ?_
  refine r_iload_n C dX5_playerOf_1 rfl rfl ?_
  refine r_xV C Z (c_X5_requirePlayer hst w.2.1 w.2.2.1) lk_X5_158 rfl w.2.1 rfl rfl ⟨(Nat.le_of_ble_eq_true rfl), (Nat.le_of_ble_eq_true rfl), (Nat.le_of_ble_eq_true rfl), (Nat.le_of_ble_eq_true rfl), (Nat.le_of_ble_eq_true rfl)⟩ dX5_playerOf_2 (Nat.le_of_ble_eq_true rfl) (Nat.le_of_ble_eq_true rfl) (fun E h1 s1 q0 => by obtain ⟨rfl, rfl, q1, q2⟩ := q0; exact ⟨by simp [th2, q2], rfl, q1⟩) (fun v h1 s1 q0 => ?_)
  obtain ⟨rfl, rfl, rfl, ok_2⟩ := q0
  refine V.stack (st2 := []) rfl ?_
  refine r_iload_n C dX5_playerOf_5 rfl rfl ?_
  refine r_bipush C (v := 7) dX5_playerOf_6 rfl ?_
  refine r_xS C Z (c_X5_requireWhat hst) lk_X5_145 rfl rfl ⟨(Nat.le_of_ble_eq_true rfl), (Nat.le_of_ble_eq_true rfl), (Nat.le_of_ble_eq_true rfl), (Nat.le_of_ble_eq_true rfl), (Nat.le_of_ble_eq_true rfl)⟩ dX5_playerOf_8 (Nat.le_of_ble_eq_true rfl) (Nat.le_of_ble_eq_true rfl) (fun E h1 s1 q0 => by obtain ⟨rfl, rfl, q1, q2⟩ := q0; exact ⟨by simp [th2, ok_2, q2], rfl, q1⟩) (fun v h1 s1 q0 => ?_)
  obtain ⟨rfl, rfl, rfl, ok_8⟩ := q0
  refine V.stack (st2 := []) rfl ?_
  refine r_aload_n C dX5_playerOf_11 rfl rfl ?_
  refine r_get C (j := 0) rfl in_X5 (w.2.1) (by decide) fl_X5_10 rfl rfl dX5_playerOf_12 ?_
  refine r_iload_n C dX5_playerOf_15 rfl rfl ?_
  refine r_iload_n C dX5_playerOf_16 rfl rfl ?_
  refine r_cVi C (c_X0_playerProperty w.2.2.1) lk_X5_170 rfl (GA_o w.2.2.1) rfl rfl ⟨(Nat.le_of_ble_eq_true rfl), (Nat.le_of_ble_eq_true rfl), (Nat.le_of_ble_eq_true rfl), (Nat.le_of_ble_eq_true rfl), (Nat.le_of_ble_eq_true rfl)⟩ dX5_playerOf_17 ?_
  exact V.retx (r_iret C rfl (Nat.le_of_ble_eq_true rfl) (Nat.le_of_ble_eq_true rfl) (⟨rfl, by simp [ok_2, ok_8], rfl, rfl⟩) dX5_playerOf_20)

set_option maxHeartbeats 800000 in
set_option maxRecDepth 100000 in
theorem c_X5_hand {G : ga_} {l : Launch} {h : HP} {sz : Nat} {x : Nat} {dyn : Nat → Prop} {S : gS} {st sl : Nat → Option Nat} {D : Nat → gS} {nx z len : Nat} {cf : Nat → Int32} {a b : Int32} (hst : l.stackTraces = false) (w : RA G h x dyn sz S st sl D nx z cf len)  : Mx G l yX5_hand cX5_hand 3 (some .int) 7 111 2 12 [.ref x, .int a, .int b] h sz (poL h sz (g_has S a && !decide (b < 0)) (if g_holds S a b then g_hand S a b else -1)) (pxE h sz (th2 (g_has S a) eIO (!decide (b < 0)) eIA)) := by
  refine Mx.ofV [(0, .ref x), (1, .int a), (2, .int b)] hst (by decide) (Nat.le_of_ble_eq_true rfl) rfl ?_
  intro p e s m args below meth c C Z
  refine r_aload_n C dX5_hand_0 rfl rfl ?_
  refine r_iload_n C dX5_hand_1 rfl rfl ?_
  refine r_xV C Z (c_X5_requirePlayer hst w.2.1 w.2.2.1) lk_X5_158 rfl w.2.1 rfl rfl ⟨(Nat.le_of_ble_eq_true rfl), (Nat.le_of_ble_eq_true rfl), (Nat.le_of_ble_eq_true rfl), (Nat.le_of_ble_eq_true rfl), (Nat.le_of_ble_eq_true rfl)⟩ dX5_hand_2 (Nat.le_of_ble_eq_true rfl) (Nat.le_of_ble_eq_true rfl) (fun E h1 s1 q0 => by obtain ⟨rfl, rfl, q1, q2⟩ := q0; exact ⟨by simp [th2, q2], rfl, q1⟩) (fun v h1 s1 q0 => ?_)
  obtain ⟨rfl, rfl, rfl, ok_2⟩ := q0
  refine V.stack (st2 := []) rfl ?_
  refine r_iload_n C dX5_hand_5 rfl rfl ?_
  refine r_xS C Z (c_X5_requirePlace hst) lk_X5_161 rfl rfl ⟨(Nat.le_of_ble_eq_true rfl), (Nat.le_of_ble_eq_true rfl), (Nat.le_of_ble_eq_true rfl), (Nat.le_of_ble_eq_true rfl), (Nat.le_of_ble_eq_true rfl)⟩ dX5_hand_6 (Nat.le_of_ble_eq_true rfl) (Nat.le_of_ble_eq_true rfl) (fun E h1 s1 q0 => by obtain ⟨rfl, rfl, q1, q2⟩ := q0; exact ⟨by simp only [th2, ok_2, q2]; rfl, rfl, q1⟩) (fun v h1 s1 q0 => ?_)
  obtain ⟨rfl, rfl, rfl, ok_6⟩ := q0
  refine V.stack (st2 := []) rfl ?_
  refine r_aload_n C dX5_hand_9 rfl rfl ?_
  refine r_get C (j := 0) rfl in_X5 (w.2.1) (by decide) fl_X5_10 rfl rfl dX5_hand_10 ?_
  refine r_iload_n C dX5_hand_13 rfl rfl ?_
  refine r_iload_n C dX5_hand_14 rfl rfl ?_
  refine r_cVi C (c_X0_holdsPlace w.2.2.1) lk_X5_85 rfl (GA_o w.2.2.1) rfl rfl ⟨(Nat.le_of_ble_eq_true rfl), (Nat.le_of_ble_eq_true rfl), (Nat.le_of_ble_eq_true rfl), (Nat.le_of_ble_eq_true rfl), (Nat.le_of_ble_eq_true rfl)⟩ dX5_hand_15 ?_
  refine r_if_eq C 36 dX5_hand_18 (by decide) (fun c_18 => ?_) (fun c_18 => ?_)
  · have c_18 := bI_f c_18
    refine r_iconst C (v := -1) dX5_hand_36 rfl ?_
    exact V.retx (r_iret C rfl (Nat.le_of_ble_eq_true rfl) (Nat.le_of_ble_eq_true rfl) (⟨by simp [g_hand, c_18], by simp only [ok_2, ok_6, Bool.and_self], rfl, rfl⟩) dX5_hand_37)
  · have c_18 := bI_t c_18
    refine r_aload_n C dX5_hand_21 rfl rfl ?_
    refine r_get C (j := 0) rfl in_X5 (w.2.1) (by decide) fl_X5_10 rfl rfl dX5_hand_22 ?_
    refine r_getN C (j := 1) rfl in_X0 (GA_o w.2.2.1) (by decide) fn_X5_164 rfl rfl dX5_hand_25 ?_
    refine r_iload_n C dX5_hand_28 rfl rfl ?_
    refine r_iload_n C dX5_hand_29 rfl rfl ?_
    refine r_cVi C (c_at1 w.2.2.1) lk_X5_152 rfl (GA_t1 w.2.2.1) rfl rfl ⟨(Nat.le_of_ble_eq_true rfl), (Nat.le_of_ble_eq_true rfl), (Nat.le_of_ble_eq_true rfl), (Nat.le_of_ble_eq_true rfl), (Nat.le_of_ble_eq_true rfl)⟩ dX5_hand_30 ?_
    refine r_goto C 37 dX5_hand_33 (by decide) ?_
    exact V.retx (r_iret C rfl (Nat.le_of_ble_eq_true rfl) (Nat.le_of_ble_eq_true rfl) (⟨by simp [g_hand, c_18], by simp only [ok_2, ok_6, Bool.and_self], rfl, rfl⟩) dX5_hand_37)

set_option maxHeartbeats 800000 in
set_option maxRecDepth 100000 in
theorem c_X5_stock {G : ga_} {l : Launch} {h : HP} {sz : Nat} {x : Nat} {dyn : Nat → Prop} {S : gS} {st sl : Nat → Option Nat} {D : Nat → gS} {nx z len : Nat} {cf : Nat → Int32} {a : Int32} (hst : l.stackTraces = false) (w : RA G h x dyn sz S st sl D nx z cf len)  : Mx G l yX5_stock cX5_stock 2 (some .int) 7 110 1 6 [.ref x, .int a] h sz (poL h sz (!decide (a < 0)) (if a < g_stock S then g_stile S a else -1)) (pxE h sz (th1 (!decide (a < 0)) eIA)) := by
  refine Mx.ofV [(0, .ref x), (1, .int a)] hst (by decide) (Nat.le_of_ble_eq_true rfl) rfl ?_
  intro p e s m args below meth c C Z
  refine r_iload_n C dX5_stock_0 rfl rfl ?_
  refine r_xS C Z (c_X5_requirePlace hst) lk_X5_161 rfl rfl ⟨(Nat.le_of_ble_eq_true rfl), (Nat.le_of_ble_eq_true rfl), (Nat.le_of_ble_eq_true rfl), (Nat.le_of_ble_eq_true rfl), (Nat.le_of_ble_eq_true rfl)⟩ dX5_stock_1 (Nat.le_of_ble_eq_true rfl) (Nat.le_of_ble_eq_true rfl) (fun E h1 s1 q0 => by obtain ⟨rfl, rfl, q1, q2⟩ := q0; exact ⟨by simp only [th1, q2]; rfl, rfl, q1⟩) (fun v h1 s1 q0 => ?_)
  obtain ⟨rfl, rfl, rfl, ok_1⟩ := q0
  refine V.stack (st2 := []) rfl ?_
  refine r_iload_n C dX5_stock_4 rfl rfl ?_
  refine r_aload_n C dX5_stock_5 rfl rfl ?_
  refine r_get C (j := 0) rfl in_X5 (w.2.1) (by decide) fl_X5_10 rfl rfl dX5_stock_6 ?_
  refine r_cVi C (c_X0_stockSize w.2.2.1) lk_X5_56 rfl (GA_o w.2.2.1) rfl rfl ⟨(Nat.le_of_ble_eq_true rfl), (Nat.le_of_ble_eq_true rfl), (Nat.le_of_ble_eq_true rfl), (Nat.le_of_ble_eq_true rfl), (Nat.le_of_ble_eq_true rfl)⟩ dX5_stock_9 ?_
  refine r_icmp_ge C 26 dX5_stock_12 (by decide) (fun c_12 => ?_) (fun c_12 => ?_)
  · have e_12 := i32_nlt c_12
    refine r_iconst C (v := -1) dX5_stock_26 rfl ?_
    exact V.retx (r_iret C rfl (Nat.le_of_ble_eq_true rfl) (Nat.le_of_ble_eq_true rfl) (⟨by simp [c_12, e_12], ok_1, rfl, rfl⟩) dX5_stock_27)
  · have e_12 := i32_lt c_12
    refine r_aload_n C dX5_stock_15 rfl rfl ?_
    refine r_get C (j := 0) rfl in_X5 (w.2.1) (by decide) fl_X5_10 rfl rfl dX5_stock_16 ?_
    refine r_iload_n C dX5_stock_19 rfl rfl ?_
    refine r_cVi C (c_X0_stockTile w.2.2.1) lk_X5_167 rfl (GA_o w.2.2.1) rfl rfl ⟨(Nat.le_of_ble_eq_true rfl), (Nat.le_of_ble_eq_true rfl), (Nat.le_of_ble_eq_true rfl), (Nat.le_of_ble_eq_true rfl), (Nat.le_of_ble_eq_true rfl)⟩ dX5_stock_20 ?_
    refine r_goto C 27 dX5_stock_23 (by decide) ?_
    exact V.retx (r_iret C rfl (Nat.le_of_ble_eq_true rfl) (Nat.le_of_ble_eq_true rfl) (⟨by simp [c_12, e_12], ok_1, rfl, rfl⟩) dX5_stock_27)

set_option maxHeartbeats 800000 in
set_option maxRecDepth 100000 in
theorem c_X5_count {G : ga_} {l : Launch} {h : HP} {sz : Nat} {x : Nat} {dyn : Nat → Prop} {S : gS} {st sl : Nat → Option Nat} {D : Nat → gS} {nx z len : Nat} {cf : Nat → Int32} {a : Int32} (hst : l.stackTraces = false) (w : RA G h x dyn sz S st sl D nx z cf len)  : Mx G l yX5_count cX5_count 2 (some .int) 7 133 1 6 [.ref x, .int a] h sz (poL h sz (okN a 12) (g_num S a (nI z))) (pxE h sz (th1 (okN a 12) eIA)) := by
  refine Mx.ofV [(0, .ref x), (1, .int a)] hst (by decide) (Nat.le_of_ble_eq_true rfl) rfl ?_
  intro p e s m args below meth c C Z
  refine r_iload_n C dX5_count_0 rfl rfl ?_
  refine r_bipush C (v := 12) dX5_count_1 rfl ?_
  refine r_xS C Z (c_X5_requireWhat hst) lk_X5_145 rfl rfl ⟨(Nat.le_of_ble_eq_true rfl), (Nat.le_of_ble_eq_true rfl), (Nat.le_of_ble_eq_true rfl), (Nat.le_of_ble_eq_true rfl), (Nat.le_of_ble_eq_true rfl)⟩ dX5_count_3 (Nat.le_of_ble_eq_true rfl) (Nat.le_of_ble_eq_true rfl) (fun E h1 s1 q0 => by obtain ⟨rfl, rfl, q1, q2⟩ := q0; exact ⟨by simp only [th1, q2]; rfl, rfl, q1⟩) (fun v h1 s1 q0 => ?_)
  obtain ⟨rfl, rfl, rfl, ok_3⟩ := q0
  refine V.stack (st2 := []) rfl ?_
  refine r_aload_n C dX5_count_6 rfl rfl ?_
  refine r_get C (j := 0) rfl in_X5 (w.2.1) (by decide) fl_X5_10 rfl rfl dX5_count_7 ?_
  refine r_iload_n C dX5_count_10 rfl rfl ?_
  refine r_aload_n C dX5_count_11 rfl rfl ?_
  refine r_get C (j := 3) rfl in_X5 (w.2.1) (by decide) fl_X5_33 rfl rfl dX5_count_12 ?_
  refine r_getN C (j := 2) rfl in_X1 ((RA_pa w).1) (by decide) fn_X5_135 rfl rfl dX5_count_15 ?_
  refine r_cVi C (c_X0_numberOf w.2.2.1) lk_X5_176 rfl (GA_o w.2.2.1) rfl rfl ⟨(Nat.le_of_ble_eq_true rfl), (Nat.le_of_ble_eq_true rfl), (Nat.le_of_ble_eq_true rfl), (Nat.le_of_ble_eq_true rfl), (Nat.le_of_ble_eq_true rfl)⟩ dX5_count_18 ?_
  exact V.retx (r_iret C rfl (Nat.le_of_ble_eq_true rfl) (Nat.le_of_ble_eq_true rfl) (⟨rfl, ok_3, rfl, rfl⟩) dX5_count_21)

set_option maxHeartbeats 800000 in
set_option maxRecDepth 100000 in
theorem c_X5_tileOf {G : ga_} {l : Launch} {h : HP} {sz : Nat} {x : Nat} {dyn : Nat → Prop} {S : gS} {st sl : Nat → Option Nat} {D : Nat → gS} {nx z len : Nat} {cf : Nat → Int32} {a b : Int32} (hst : l.stackTraces = false) (w : RA G h x dyn sz S st sl D nx z cf len)  : Mx G l yX5_tileOf cX5_tileOf 3 (some .int) 7 111 2 12 [.ref x, .int a, .int b] h sz (poL h sz (okN a 28 && okN b 7) (tAt 7 196 (S 0) a b)) (pxE h sz (th2 (okN a 28) eIO (okN b 7) eIA)) := by
  refine Mx.ofV [(0, .ref x), (1, .int a), (2, .int b)] hst (by decide) (Nat.le_of_ble_eq_true rfl) rfl ?_
  intro p e s m args below meth c C Z
  refine r_iload_n C dX5_tileOf_0 rfl rfl ?_
  refine r_if_lt C 10 dX5_tileOf_1 (by decide) (fun c_1 => ?_) (fun c_1 => ?_)
  · have e_1 := i32_nle c_1
    exact r_throw C Z lt_IO (is := 143) (by simp [SR]; try rfl) dX5_tileOf_10 dX5_tileOf_13 dX5_tileOf_14 dX5_tileOf_16 dX5_tileOf_19 (Nat.le_of_ble_eq_true rfl) (Nat.le_of_ble_eq_true rfl) (Nat.le_of_ble_eq_true rfl) (Nat.le_of_ble_eq_true rfl) (Nat.le_of_ble_eq_true rfl) (Nat.le_of_ble_eq_true rfl) (fun s1 hs1 => ⟨by rw [show okN a 28 = false by simp [okN, c_1, e_1]]; rfl, rfl, hs1⟩)
  · have e_1 := i32_le c_1
    refine r_iload_n C dX5_tileOf_4 rfl rfl ?_
    refine r_bipush C (v := 28) dX5_tileOf_5 rfl ?_
    refine r_icmp_lt C 20 dX5_tileOf_7 (by decide) (fun c_7 => ?_) (fun c_7 => ?_)
    · have e_7 := i32_nle c_7
      refine r_iload_n C dX5_tileOf_20 rfl rfl ?_
      refine r_bipush C (v := 7) dX5_tileOf_21 rfl ?_
      refine r_xS C Z (c_X5_requireWhat hst) lk_X5_145 rfl rfl ⟨(Nat.le_of_ble_eq_true rfl), (Nat.le_of_ble_eq_true rfl), (Nat.le_of_ble_eq_true rfl), (Nat.le_of_ble_eq_true rfl), (Nat.le_of_ble_eq_true rfl)⟩ dX5_tileOf_23 (Nat.le_of_ble_eq_true rfl) (Nat.le_of_ble_eq_true rfl) (fun E h1 s1 q0 => by obtain ⟨rfl, rfl, q1, q2⟩ := q0; exact ⟨by rw [show okN a 28 = true by simp [okN, c_1, c_7]]; simp only [th2, q2]; rfl, rfl, q1⟩) (fun v h1 s1 q0 => ?_)
      obtain ⟨rfl, rfl, rfl, ok_23⟩ := q0
      refine V.stack (st2 := []) rfl ?_
      refine r_aload_n C dX5_tileOf_26 rfl rfl ?_
      refine r_get C (j := 0) rfl in_X5 (w.2.1) (by decide) fl_X5_10 rfl rfl dX5_tileOf_27 ?_
      refine r_getN C (j := 0) rfl in_X0 (GA_o w.2.2.1) (by decide) fn_X5_148 rfl rfl dX5_tileOf_30 ?_
      refine r_iload_n C dX5_tileOf_33 rfl rfl ?_
      refine r_iload_n C dX5_tileOf_34 rfl rfl ?_
      refine r_cVi C (c_at0 w.2.2.1) lk_X5_152 rfl (GA_t0 w.2.2.1) rfl rfl ⟨(Nat.le_of_ble_eq_true rfl), (Nat.le_of_ble_eq_true rfl), (Nat.le_of_ble_eq_true rfl), (Nat.le_of_ble_eq_true rfl), (Nat.le_of_ble_eq_true rfl)⟩ dX5_tileOf_35 ?_
      exact V.retx (r_iret C rfl (Nat.le_of_ble_eq_true rfl) (Nat.le_of_ble_eq_true rfl) (⟨rfl, by rw [ok_23, show okN a 28 = true by simp [okN, c_1, e_1, c_7, e_7]]; rfl, rfl, rfl⟩) dX5_tileOf_38)
    · have e_7 := i32_le c_7
      exact r_throw C Z lt_IO (is := 143) (by simp [SR]; try rfl) dX5_tileOf_10 dX5_tileOf_13 dX5_tileOf_14 dX5_tileOf_16 dX5_tileOf_19 (Nat.le_of_ble_eq_true rfl) (Nat.le_of_ble_eq_true rfl) (Nat.le_of_ble_eq_true rfl) (Nat.le_of_ble_eq_true rfl) (Nat.le_of_ble_eq_true rfl) (Nat.le_of_ble_eq_true rfl) (fun s1 hs1 => ⟨by rw [show okN a 28 = false by simp [okN, c_1, e_1, c_7, e_7]]; rfl, rfl, hs1⟩)

set_option maxHeartbeats 800000 in
set_option maxRecDepth 100000 in
theorem c_X5_setting {G : ga_} {l : Launch} {h : HP} {sz : Nat} {x : Nat} {dyn : Nat → Prop} {S : gS} {st sl : Nat → Option Nat} {D : Nat → gS} {nx z len : Nat} {cf : Nat → Int32}  (w : RA G h x dyn sz S st sl D nx z cf len)  : Mg G l yX5_setting cX5_setting 1 (some .int) 0 0 0 0 [.ref x] h sz (poL h sz true (S 5 7))  := by
  refine Mg.ofV [(0, .ref x)] (by decide) (Nat.le_of_ble_eq_true rfl) rfl ?_
  intro p e s m args below meth c C
  refine r_aload_n C dX5_setting_0 rfl rfl ?_
  refine r_get C (j := 0) rfl in_X5 (w.2.1) (by decide) fl_X5_10 rfl rfl dX5_setting_1 ?_
  refine r_getN C (j := 12) rfl in_X0 (GA_o w.2.2.1) (by decide) fn_X5_100 rfl rfl dX5_setting_4 ?_
  exact r_iret C rfl (Nat.le_of_ble_eq_true rfl) (Nat.le_of_ble_eq_true rfl) (⟨rfl, rfl, rfl, rfl⟩) dX5_setting_7

set_option maxHeartbeats 800000 in
set_option maxRecDepth 100000 in
theorem c_X5_advice {G : ga_} {l : Launch} {h : HP} {sz : Nat} {x : Nat} {dyn : Nat → Prop} {S : gS} {st sl : Nat → Option Nat} {D : Nat → gS} {nx z len : Nat} {cf : Nat → Int32}  (w : RA G h x dyn sz S st sl D nx z cf len)  : Mg G l yX5_advice cX5_advice 1 (some .int) 4 92 0 0 [.ref x] h sz (poL h sz true (g_adv S))  := by
  refine Mg.ofV [(0, .ref x)] (by decide) (Nat.le_of_ble_eq_true rfl) rfl ?_
  intro p e s m args below meth c C
  refine r_aload_n C dX5_advice_0 rfl rfl ?_
  refine r_get C (j := 0) rfl in_X5 (w.2.1) (by decide) fl_X5_10 rfl rfl dX5_advice_1 ?_
  refine r_cVi C (c_X0_bestPlace w.2.2.1) lk_X5_201 rfl (GA_o w.2.2.1) rfl rfl ⟨(Nat.le_of_ble_eq_true rfl), (Nat.le_of_ble_eq_true rfl), (Nat.le_of_ble_eq_true rfl), (Nat.le_of_ble_eq_true rfl), (Nat.le_of_ble_eq_true rfl)⟩ dX5_advice_4 ?_
  exact r_iret C rfl (Nat.le_of_ble_eq_true rfl) (Nat.le_of_ble_eq_true rfl) (⟨rfl, rfl, rfl, rfl⟩) dX5_advice_7

set_option maxHeartbeats 800000 in
set_option maxRecDepth 100000 in
theorem c_X5_rustShare {G : ga_} {l : Launch} {h : HP} {sz : Nat} {x : Nat} {dyn : Nat → Prop} {S : gS} {st sl : Nat → Option Nat} {D : Nat → gS} {nx z len : Nat} {cf : Nat → Int32}  (w : RA G h x dyn sz S st sl D nx z cf len) (hz : vf_n64 (FP.ddiv (FP.i2d (g_tal S 1)) 4640114991075164160)) : Mg G l yX5_rustShare cX5_rustShare 1 (some .double) 3 66 0 0 [.ref x] h sz (fun v h1 s1 => v = some (.double (FP.ddiv (FP.i2d (g_tal S 1)) 4640114991075164160)) ∧ h1 = h ∧ s1 = sz)  := by
  refine Mg.ofV [(0, .ref x)] (by decide) (Nat.le_of_ble_eq_true rfl) rfl ?_
  intro p e s m args below meth c C
  refine r_aload_n C dX5_rustShare_0 rfl rfl ?_
  refine r_get C (j := 0) rfl in_X5 (w.2.1) (by decide) fl_X5_10 rfl rfl dX5_rustShare_1 ?_
  refine r_cVd C (c_X0_shareOfRust w.2.2.1 hz) lk_X5_207 rfl (GA_o w.2.2.1) rfl rfl ⟨(Nat.le_of_ble_eq_true rfl), (Nat.le_of_ble_eq_true rfl), (Nat.le_of_ble_eq_true rfl), (Nat.le_of_ble_eq_true rfl), (Nat.le_of_ble_eq_true rfl)⟩ dX5_rustShare_4 ?_
  exact r_dret C rfl (Nat.le_of_ble_eq_true rfl) (Nat.le_of_ble_eq_true rfl) (⟨rfl, rfl, rfl⟩) dX5_rustShare_7

def tBegin (a b : Int32) : Bool := !decide (a < 2) && (!decide (4 < a) && (!decide (b < 0) && decide (b < 10000)))
set_option maxHeartbeats 800000 in
set_option maxRecDepth 100000 in
theorem c_X5_begin {G : ga_} {l : Launch} {h : HP} {sz : Nat} {x : Nat} {dyn : Nat → Prop} {S : gS} {st sl : Nat → Option Nat} {D : Nat → gS} {nx z len : Nat} {cf : Nat → Int32} {a b : Int32} (hst : l.stackTraces = false) (w : RA G h x dyn sz S st sl D nx z cf len)  : Mx G l yX5_begin cX5_begin 3 (some .int) 6 110 12 393 [.ref x, .int a, .int b] h sz (fun v h1 s1 => tBegin a b = true ∧ sz ≤ s1 ∧ fr_ h h1 x dyn ∧ ∃ q Sq, v = some (.int (g_stock (s_3 S a b))) ∧ (st nx = some q ∧ Sq = D q ∨ st nx = none ∧ Sq = gS0) ∧ RA G h1 x dyn s1 (s_3 S a b) (va_up st nx (some q)) sl (dU D q (g_bec Sq S)) (p_nx nx) (p_z z) cf len) (pxE h sz (th1 (tBegin a b) eIA)) := by
  refine Mx.ofV [(0, .ref x), (1, .int a), (2, .int b)] hst (by decide) (Nat.le_of_ble_eq_true rfl) rfl ?_
  intro p e s m args below meth c C Z
  refine r_iload_n C dX5_begin_0 rfl rfl ?_
  refine r_iconst C (v := 2) dX5_begin_1 rfl ?_
  refine r_icmp_lt C 21 dX5_begin_2 (by decide) (fun c_2 => ?_) (fun c_2 => ?_)
  · have e_2 := i32_nle c_2
    exact r_throw C Z lt_IA (is := 47) (by simp [SR]; try rfl) dX5_begin_21 dX5_begin_24 dX5_begin_25 dX5_begin_27 dX5_begin_30 (Nat.le_of_ble_eq_true rfl) (Nat.le_of_ble_eq_true rfl) (Nat.le_of_ble_eq_true rfl) (Nat.le_of_ble_eq_true rfl) (Nat.le_of_ble_eq_true rfl) (Nat.le_of_ble_eq_true rfl) (fun s1 hs1 => ⟨by rw [show tBegin a b = false by simp [tBegin, c_2, e_2]]; rfl, rfl, hs1⟩)
  · have e_2 := i32_le c_2
    refine r_iload_n C dX5_begin_5 rfl rfl ?_
    refine r_iconst C (v := 4) dX5_begin_6 rfl ?_
    refine r_icmp_gt C 21 dX5_begin_7 (by decide) (fun c_7 => ?_) (fun c_7 => ?_)
    · have e_7 := i32_nle c_7
      exact r_throw C Z lt_IA (is := 47) (by simp [SR]; try rfl) dX5_begin_21 dX5_begin_24 dX5_begin_25 dX5_begin_27 dX5_begin_30 (Nat.le_of_ble_eq_true rfl) (Nat.le_of_ble_eq_true rfl) (Nat.le_of_ble_eq_true rfl) (Nat.le_of_ble_eq_true rfl) (Nat.le_of_ble_eq_true rfl) (Nat.le_of_ble_eq_true rfl) (fun s1 hs1 => ⟨by rw [show tBegin a b = false by simp [tBegin, c_2, e_2, c_7, e_7]]; rfl, rfl, hs1⟩)
    · have e_7 := i32_le c_7
      refine r_iload_n C dX5_begin_10 rfl rfl ?_
      refine r_if_lt C 21 dX5_begin_11 (by decide) (fun c_11 => ?_) (fun c_11 => ?_)
      · have e_11 := i32_nle c_11
        exact r_throw C Z lt_IA (is := 47) (by simp [SR]; try rfl) dX5_begin_21 dX5_begin_24 dX5_begin_25 dX5_begin_27 dX5_begin_30 (Nat.le_of_ble_eq_true rfl) (Nat.le_of_ble_eq_true rfl) (Nat.le_of_ble_eq_true rfl) (Nat.le_of_ble_eq_true rfl) (Nat.le_of_ble_eq_true rfl) (Nat.le_of_ble_eq_true rfl) (fun s1 hs1 => ⟨by rw [show tBegin a b = false by simp [tBegin, c_2, e_2, c_7, e_7, c_11, e_11]]; rfl, rfl, hs1⟩)
      · have e_11 := i32_le c_11
        refine r_iload_n C dX5_begin_14 rfl rfl ?_
        refine r_sipush C (v := 10000) dX5_begin_15 rfl ?_
        refine r_icmp_lt C 31 dX5_begin_18 (by decide) (fun c_18 => ?_) (fun c_18 => ?_)
        · have e_18 := i32_nle c_18
          refine r_aload_n C dX5_begin_31 rfl rfl ?_
          refine r_get C (j := 3) rfl in_X5 (w.2.1) (by decide) fl_X5_33 rfl rfl dX5_begin_32 ?_
          refine r_aload_n C dX5_begin_35 rfl rfl ?_
          refine r_get C (j := 0) rfl in_X5 (w.2.1) (by decide) fl_X5_10 rfl rfl dX5_begin_36 ?_
          refine r_callV C (c_rem w) lk_X5_52 rfl (RA_pa w).1 rfl rfl ⟨(Nat.le_of_ble_eq_true rfl), (Nat.le_of_ble_eq_true rfl), (Nat.le_of_ble_eq_true rfl), (Nat.le_of_ble_eq_true rfl), (Nat.le_of_ble_eq_true rfl)⟩ dX5_begin_39 (fun v h1 s1 hp => ?_)
          obtain ⟨rfl, hs1, hfr, q, Sq, hq, w2⟩ := hp
          refine V.stack (st2 := []) rfl ?_
          refine r_aload_n C dX5_begin_42 rfl rfl ?_
          refine r_get C (j := 0) rfl in_X5 (w2.2.1) (by decide) fl_X5_10 rfl rfl dX5_begin_43 ?_
          refine r_iload_n C dX5_begin_46 rfl rfl ?_
          refine r_iload_n C dX5_begin_47 rfl rfl ?_
          refine r_cVv C (c_X0_start w2.2.2.1) lk_X5_41 rfl (GA_o w2.2.2.1) rfl rfl ⟨(Nat.le_of_ble_eq_true rfl), (Nat.le_of_ble_eq_true rfl), (Nat.le_of_ble_eq_true rfl), (Nat.le_of_ble_eq_true rfl), (Nat.le_of_ble_eq_true rfl)⟩ dX5_begin_48 ?_
          refine r_aload_n C dX5_begin_51 rfl rfl ?_
          refine r_get C (j := 0) rfl in_X5 ((RA_G w2).2.1) (by decide) fl_X5_10 rfl rfl dX5_begin_52 ?_
          refine r_cVi C (c_X0_stockSize GA_pG) lk_X5_56 rfl (GA_o (RA_G w2).2.2.1) rfl rfl ⟨(Nat.le_of_ble_eq_true rfl), (Nat.le_of_ble_eq_true rfl), (Nat.le_of_ble_eq_true rfl), (Nat.le_of_ble_eq_true rfl), (Nat.le_of_ble_eq_true rfl)⟩ dX5_begin_55 ?_
          exact V.retx (r_iret C rfl (Nat.le_of_ble_eq_true rfl) (Nat.le_of_ble_eq_true rfl) (⟨by simp [tBegin, c_2, e_2, c_7, e_7, c_11, e_11, c_18, e_18], hs1, hfr.trans fr_G, q, Sq, rfl, hq, RA_G w2⟩) dX5_begin_58)
        · have e_18 := i32_le c_18
          exact r_throw C Z lt_IA (is := 47) (by simp [SR]; try rfl) dX5_begin_21 dX5_begin_24 dX5_begin_25 dX5_begin_27 dX5_begin_30 (Nat.le_of_ble_eq_true rfl) (Nat.le_of_ble_eq_true rfl) (Nat.le_of_ble_eq_true rfl) (Nat.le_of_ble_eq_true rfl) (Nat.le_of_ble_eq_true rfl) (Nat.le_of_ble_eq_true rfl) (fun s1 hs1 => ⟨by rw [show tBegin a b = false by simp [tBegin, c_2, e_2, c_7, e_7, c_11, e_11, c_18, e_18]]; rfl, rfl, hs1⟩)

set_option maxHeartbeats 800000 in
set_option maxRecDepth 100000 in
theorem c_X5_set {G : ga_} {l : Launch} {h : HP} {sz : Nat} {x : Nat} {dyn : Nat → Prop} {S : gS} {st sl : Nat → Option Nat} {D : Nat → gS} {nx z len : Nat} {cf : Nat → Int32} {a : Int32} (hst : l.stackTraces = false) (w : RA G h x dyn sz S st sl D nx z cf len)  : Mx G l yX5_set cX5_set 3 (some .int) 6 94 12 393 [.ref x, .int a] h sz (poM G h x dyn sz S st sl D nx z cf len (!decide (a < 1) && !decide (9 < a)) (S 5 7) (gc S 7 a) len) (pxE h sz (th1 (!decide (a < 1) && !decide (9 < a)) eIA)) := by
  refine Mx.ofV [(0, .ref x), (1, .int a)] hst (by decide) (Nat.le_of_ble_eq_true rfl) rfl ?_
  intro p e s m args below meth c C Z
  refine r_iload_n C dX5_set_0 rfl rfl ?_
  refine r_iconst C (v := 1) dX5_set_1 rfl ?_
  refine r_icmp_lt C 11 dX5_set_2 (by decide) (fun c_2 => ?_) (fun c_2 => ?_)
  · have e_2 := i32_nle c_2
    exact r_throw C Z lt_IA (is := 98) (by simp [SR]; try rfl) dX5_set_11 dX5_set_14 dX5_set_15 dX5_set_17 dX5_set_20 (Nat.le_of_ble_eq_true rfl) (Nat.le_of_ble_eq_true rfl) (Nat.le_of_ble_eq_true rfl) (Nat.le_of_ble_eq_true rfl) (Nat.le_of_ble_eq_true rfl) (Nat.le_of_ble_eq_true rfl) (fun s1 hs1 => ⟨by rw [show (!decide (a < 1) && !decide (9 < a)) = false by simp [c_2, e_2]]; rfl, rfl, hs1⟩)
  · have e_2 := i32_le c_2
    refine r_iload_n C dX5_set_5 rfl rfl ?_
    refine r_bipush C (v := 9) dX5_set_6 rfl ?_
    refine r_icmp_le C 21 dX5_set_8 (by decide) (fun c_8 => ?_) (fun c_8 => ?_)
    · have e_8 := i32_nlt c_8
      refine r_aload_n C dX5_set_21 rfl rfl ?_
      refine r_get C (j := 3) rfl in_X5 (w.2.1) (by decide) fl_X5_33 rfl rfl dX5_set_22 ?_
      refine r_aload_n C dX5_set_25 rfl rfl ?_
      refine r_get C (j := 0) rfl in_X5 (w.2.1) (by decide) fl_X5_10 rfl rfl dX5_set_26 ?_
      refine r_callV C (c_rem w) lk_X5_52 rfl (RA_pa w).1 rfl rfl ⟨(Nat.le_of_ble_eq_true rfl), (Nat.le_of_ble_eq_true rfl), (Nat.le_of_ble_eq_true rfl), (Nat.le_of_ble_eq_true rfl), (Nat.le_of_ble_eq_true rfl)⟩ dX5_set_29 (fun v h1 s1 hp => ?_)
      obtain ⟨rfl, hs1, hfr, q, Sq, hq, w2⟩ := hp
      refine V.stack (st2 := []) rfl ?_
      refine r_aload_n C dX5_set_32 rfl rfl ?_
      refine r_get C (j := 0) rfl in_X5 (w2.2.1) (by decide) fl_X5_10 rfl rfl dX5_set_33 ?_
      refine r_getN C (j := 12) rfl in_X0 (GA_o w2.2.2.1) (by decide) fn_X5_100 rfl rfl dX5_set_36 ?_
      refine r_istore_n C dX5_set_39 rfl (by decide) ?_
      refine r_aload_n C dX5_set_40 rfl rfl ?_
      refine r_get C (j := 0) rfl in_X5 (w2.2.1) (by decide) fl_X5_10 rfl rfl dX5_set_41 ?_
      refine r_iload_n C dX5_set_44 rfl rfl ?_
      refine r_putN C (j := 12) tyX0 tyX0_ok nmX0 rfl in_X0 (GA_o w2.2.2.1) (by decide) fn_X5_100 rfl rfl rfl (by first | rfl | decide) (by first | rfl | decide) (Nat.le_of_ble_eq_true rfl) dX5_set_45 ?_
      refine V.heap (pG_num w2.2.2.1 7 _ rfl) ?_
      refine r_iload_n C dX5_set_48 rfl rfl ?_
      exact V.retx (r_iret C rfl (Nat.le_of_ble_eq_true rfl) (Nat.le_of_ble_eq_true rfl) (⟨rfl, by simp [c_2, e_2, c_8, e_8], hs1, hfr.trans fr_G, q, Sq, hq, RA_G w2⟩) dX5_set_49)
    · have e_8 := i32_lt c_8
      exact r_throw C Z lt_IA (is := 98) (by simp [SR]; try rfl) dX5_set_11 dX5_set_14 dX5_set_15 dX5_set_17 dX5_set_20 (Nat.le_of_ble_eq_true rfl) (Nat.le_of_ble_eq_true rfl) (Nat.le_of_ble_eq_true rfl) (Nat.le_of_ble_eq_true rfl) (Nat.le_of_ble_eq_true rfl) (Nat.le_of_ble_eq_true rfl) (fun s1 hs1 => ⟨by rw [show (!decide (a < 1) && !decide (9 < a)) = false by simp [c_2, e_2, c_8, e_8]]; rfl, rfl, hs1⟩)

