/-! THE CLASS'S OTHER CALLS -/
def th3 (b1 : Bool) (e1 : String) (b2 : Bool) (e2 : String) (b3 : Bool) (e3 : String) : Option String := if b1 then (if b2 then (if b3 then none else some e3) else some e2) else some e1
/-- behind a change of the text alone -/
def poX (G : ga_) (h : HP) (x : Nat) (dyn : Nat → Prop) (sz : Nat) (S : gS) (st sl : Nat → Option Nat) (D : Nat → gS) (nx z : Nat) (ok : Bool) (r : Int32) (cf2 : Nat → Int32) (len2 : Nat) : Option Value → HP → Nat → Prop := fun v h1 s1 => v = some (.int r) ∧ ok = true ∧ s1 = sz ∧ fr_ h h1 x dyn ∧ RA G h1 x dyn s1 S st sl D nx z cf2 len2
def okCh (a : Int32) : Bool := !decide (a < 33) && !decide (126 < a)
theorem clI {a : Int32} (h : ¬ a < 0) : a = nI a.toNatClampNeg := by
  have h0 : (0 : Int) ≤ a.toInt := by
    have := Int32.not_lt.mp h
    simpa [Int32.le_iff_toInt_le] using this
  apply Int32.toInt_inj.mp
  rw [nI_toInt (tn_lt a)]
  show a.toInt = ((a.toInt).toNat : Int)
  omega
set_option maxHeartbeats 800000 in
set_option maxRecDepth 100000 in
theorem c_X5_oil {G : ga_} {l : Launch} {h : HP} {sz : Nat} {x : Nat} {dyn : Nat → Prop} {S : gS} {st sl : Nat → Option Nat} {D : Nat → gS} {nx z len : Nat} {cf : Nat → Int32} {a : Int32} (hst : l.stackTraces = false) (w : RA G h x dyn sz S st sl D nx z cf len)  : Mx G l yX5_oil cX5_oil 2 (some .int) 6 94 12 393 [.ref x, .int a] h sz (poM G h x dyn sz S st sl D nx z cf len (g_over S || g_holds S (S 5 1) a) (g_oilA S a) (g_oil S a) len) (pxE h sz (th1 (g_over S || g_holds S (S 5 1) a) eIO)) := by
  refine Mx.ofV [(0, .ref x), (1, .int a)] hst (by decide) (Nat.le_of_ble_eq_true rfl) rfl ?_
  intro p e s m args below meth c C Z
  refine r_aload_n C dX5_oil_0 rfl rfl ?_
  refine r_get C (j := 0) rfl in_X5 (w.2.1) (by decide) fl_X5_10 rfl rfl dX5_oil_1 ?_
  refine r_cVi C (c_X0_isOver w.2.2.1) lk_X5_77 rfl (GA_o w.2.2.1) rfl rfl ⟨(Nat.le_of_ble_eq_true rfl), (Nat.le_of_ble_eq_true rfl), (Nat.le_of_ble_eq_true rfl), (Nat.le_of_ble_eq_true rfl), (Nat.le_of_ble_eq_true rfl)⟩ dX5_oil_4 ?_
  refine r_if_ne C 38 dX5_oil_7 (by decide) (fun c_7 => ?_) (fun c_7 => ?_)
  · have c_7 := bI_t c_7
    refine r_aload_n C dX5_oil_38 rfl rfl ?_
    refine r_get C (j := 3) rfl in_X5 (w.2.1) (by decide) fl_X5_33 rfl rfl dX5_oil_39 ?_
    refine r_aload_n C dX5_oil_42 rfl rfl ?_
    refine r_get C (j := 0) rfl in_X5 (w.2.1) (by decide) fl_X5_10 rfl rfl dX5_oil_43 ?_
    refine r_callV C (c_rem w) lk_X5_52 rfl (RA_pa w).1 rfl rfl ⟨(Nat.le_of_ble_eq_true rfl), (Nat.le_of_ble_eq_true rfl), (Nat.le_of_ble_eq_true rfl), (Nat.le_of_ble_eq_true rfl), (Nat.le_of_ble_eq_true rfl)⟩ dX5_oil_46 (fun v h1 s1 hp => ?_)
    obtain ⟨rfl, hs1, hfr, q, Sq, hq, w2⟩ := hp
    refine V.stack (st2 := []) rfl ?_
    refine r_aload_n C dX5_oil_49 rfl rfl ?_
    refine r_get C (j := 0) rfl in_X5 (w2.2.1) (by decide) fl_X5_10 rfl rfl dX5_oil_50 ?_
    refine r_iload_n C dX5_oil_53 rfl rfl ?_
    refine r_cVi C (c_X0_oilTile w2.2.2.1) lk_X5_94 rfl (GA_o w2.2.2.1) rfl rfl ⟨(Nat.le_of_ble_eq_true rfl), (Nat.le_of_ble_eq_true rfl), (Nat.le_of_ble_eq_true rfl), (Nat.le_of_ble_eq_true rfl), (Nat.le_of_ble_eq_true rfl)⟩ dX5_oil_54 ?_
    exact V.retx (r_iret C rfl (Nat.le_of_ble_eq_true rfl) (Nat.le_of_ble_eq_true rfl) (⟨rfl, by simp [c_7], hs1, hfr.trans fr_G, q, Sq, hq, RA_G w2⟩) dX5_oil_57)
  · have c_7 := bI_f c_7
    refine r_aload_n C dX5_oil_10 rfl rfl ?_
    refine r_get C (j := 0) rfl in_X5 (w.2.1) (by decide) fl_X5_10 rfl rfl dX5_oil_11 ?_
    refine r_aload_n C dX5_oil_14 rfl rfl ?_
    refine r_get C (j := 0) rfl in_X5 (w.2.1) (by decide) fl_X5_10 rfl rfl dX5_oil_15 ?_
    refine r_getN C (j := 6) rfl in_X0 (GA_o w.2.2.1) (by decide) fn_X5_81 rfl rfl dX5_oil_18 ?_
    refine r_iload_n C dX5_oil_21 rfl rfl ?_
    refine r_cVi C (c_X0_holdsPlace w.2.2.1) lk_X5_85 rfl (GA_o w.2.2.1) rfl rfl ⟨(Nat.le_of_ble_eq_true rfl), (Nat.le_of_ble_eq_true rfl), (Nat.le_of_ble_eq_true rfl), (Nat.le_of_ble_eq_true rfl), (Nat.le_of_ble_eq_true rfl)⟩ dX5_oil_22 ?_
    refine r_if_ne C 38 dX5_oil_25 (by decide) (fun c_25 => ?_) (fun c_25 => ?_)
    · have c_25 := bI_t c_25
      refine r_aload_n C dX5_oil_38 rfl rfl ?_
      refine r_get C (j := 3) rfl in_X5 (w.2.1) (by decide) fl_X5_33 rfl rfl dX5_oil_39 ?_
      refine r_aload_n C dX5_oil_42 rfl rfl ?_
      refine r_get C (j := 0) rfl in_X5 (w.2.1) (by decide) fl_X5_10 rfl rfl dX5_oil_43 ?_
      refine r_callV C (c_rem w) lk_X5_52 rfl (RA_pa w).1 rfl rfl ⟨(Nat.le_of_ble_eq_true rfl), (Nat.le_of_ble_eq_true rfl), (Nat.le_of_ble_eq_true rfl), (Nat.le_of_ble_eq_true rfl), (Nat.le_of_ble_eq_true rfl)⟩ dX5_oil_46 (fun v h1 s1 hp => ?_)
      obtain ⟨rfl, hs1, hfr, q, Sq, hq, w2⟩ := hp
      refine V.stack (st2 := []) rfl ?_
      refine r_aload_n C dX5_oil_49 rfl rfl ?_
      refine r_get C (j := 0) rfl in_X5 (w2.2.1) (by decide) fl_X5_10 rfl rfl dX5_oil_50 ?_
      refine r_iload_n C dX5_oil_53 rfl rfl ?_
      refine r_cVi C (c_X0_oilTile w2.2.2.1) lk_X5_94 rfl (GA_o w2.2.2.1) rfl rfl ⟨(Nat.le_of_ble_eq_true rfl), (Nat.le_of_ble_eq_true rfl), (Nat.le_of_ble_eq_true rfl), (Nat.le_of_ble_eq_true rfl), (Nat.le_of_ble_eq_true rfl)⟩ dX5_oil_54 ?_
      exact V.retx (r_iret C rfl (Nat.le_of_ble_eq_true rfl) (Nat.le_of_ble_eq_true rfl) (⟨rfl, by simp [c_7, c_25], hs1, hfr.trans fr_G, q, Sq, hq, RA_G w2⟩) dX5_oil_57)
    · have c_25 := bI_f c_25
      exact r_throw C Z lt_IO (is := 91) (by simp [SR]; try rfl) dX5_oil_28 dX5_oil_31 dX5_oil_32 dX5_oil_34 dX5_oil_37 (Nat.le_of_ble_eq_true rfl) (Nat.le_of_ble_eq_true rfl) (Nat.le_of_ble_eq_true rfl) (Nat.le_of_ble_eq_true rfl) (Nat.le_of_ble_eq_true rfl) (Nat.le_of_ble_eq_true rfl) (fun s1 hs1 => ⟨by rw [show (g_over S || g_holds S (S 5 1) a) = false by simp [c_7, c_25]]; rfl, rfl, hs1⟩)

theorem pG_bl {G : ga_} {h : HP} {q : Nat} {S : gS} {e : va_E} : pG G (up_ h q e) q S = pG G h q S := by
  funext a
  by_cases c : q ≤ a ∧ a < q + 11
  · rw [pG_in c.1 c.2, pG_in c.1 c.2]
  · rw [pG_out (by omega), pG_out (by omega), up_n (by omega)]
theorem pG_up {G : ga_} {h : HP} {q b : Nat} {S : gS} {e : va_E} (d : b < q ∨ q + 11 ≤ b) : pG G (up_ h b e) q S = up_ (pG G h q S) b e := by
  funext a
  by_cases c : q ≤ a ∧ a < q + 11
  · rw [pG_in c.1 c.2, up_n (by omega), pG_in c.1 c.2]
  · rw [pG_out (by omega)]
    by_cases c2 : a = b
    · rw [c2, up_s, up_s]
    · rw [up_n c2, up_n c2, pG_out (by omega)]
theorem RA_saved {G : ga_} {h : HP} {x sz j q : Nat} {dyn : Nat → Prop} {S : gS} {st sl : Nat → Option Nat} {D : Nat → gS} {nx z len : Nat} {cf : Nat → Int32} (w : RA G h x dyn sz S st sl D nx z cf len) (hj : j < 6) (e : st j = some q) : x + 21 ≤ q ∧ q + 11 ≤ sz ∧ GA G h q (D q) := by
  obtain ⟨k1, k2, k3⟩ := w.2.2.2.2.2.2.2.2.1.2.1 j q (by omega) (by unfold gmI; rw [if_pos hj]; exact e)
  exact ⟨w.1.2 q (k1 q (Nat.le_refl _) (by omega)), k2, k3⟩
theorem sl_ix {a : Int32} (h0 : ¬ a < 0) (h1 : a < 2) : a.toNatClampNeg < 2 := by
  have e := clI h0
  rw [e] at h1
  exact (nI_ltI (tn_lt a) (by decide)).mp (show nI _ < nI 2 from h1)
theorem sl_in {a : Int32} (h0 : ¬ a < 0) (h1 : a < 2) : vp_in a 2 := fun q => by
  rcases q with q | q
  · exact h0 q
  · have := sl_ix h0 h1; omega
theorem RA_P {G : ga_} {h : HP} {x sz : Nat} {dyn : Nat → Prop} {S : gS} {st sl : Nat → Option Nat} {D : Nat → gS} {nx z len nx2 z2 : Nat} {cf : Nat → Int32} (w : RA G h x dyn sz S st sl D nx z cf len) (h1 : nx2 < 6) (h2 : z2 ≤ 6) : RA G (pP G h (x + 18) st (nI nx2) (nI z2)) x dyn sz S st sl D nx2 z2 cf len := by
  obtain ⟨w0, w1, w2, -, ⟨hf, of, t, w5, w6, w7, w8⟩, ⟨w9, w10⟩, ⟨w11, w12⟩, w13, w14, w15, w16, w17⟩ := w
  exact ⟨w0, (pP_out (by omega)).trans w1, w2.eq (fun a h1 h2 => pP_out (by omega)), trivial, ⟨hf, of, t, (pP_out (by omega)).trans w5, (pP_out (by omega)).trans w6, (pP_out (by omega)).trans w7, (pP_out (by omega)).trans w8⟩, ⟨(pP_out (by omega)).trans w9, (pP_out (by omega)).trans w10⟩, PA_pP, (pP_out (by omega)).trans w13, w14.eq (Nat.le_refl _) (fun a ha => by have := w0.2 a ha; exact pP_out (by omega)), h1, h2, w17⟩
theorem fr_P {G : ga_} {h : HP} {x : Nat} {dyn : Nat → Prop} {st : Nat → Option Nat} {nx z : Int32} : fr_ h (pP G h (x + 18) st nx z) x dyn := fun a _ hb => pP_out (by omega)
def kD (sl : Nat → Option Nat) (D : Nat → gS) (j : Nat) : gS := match sl j with
  | some r => D r
  | none => gS0
theorem GA_up {G : ga_} {h : HP} {g b : Nat} {S : gS} {e : va_E} (w : GA G h g S) (d : b < g ∨ g + 11 ≤ b) : GA G (up_ h b e) g S := w.eq (fun a h1 h2 => up_n (by omega))
theorem va_upid {f : Nat → Option Nat} {k q : Nat} (h : f k = some q) : va_up f k (some q) = f := by funext a; by_cases c : a = k <;> simp [va_up, c, h]
theorem nI_inj0 {z : Nat} (h : z ≤ 6) (e : nI z = 0) : z = 0 := by
  have := congrArg Int32.toNatClampNeg e
  rw [nI_clamp (by omega)] at this
  exact this
set_option maxHeartbeats 800000 in
set_option maxRecDepth 100000 in
theorem c_X5_undo {G : ga_} {l : Launch} {h : HP} {sz : Nat} {x : Nat} {dyn : Nat → Prop} {S : gS} {st sl : Nat → Option Nat} {D : Nat → gS} {nx z len : Nat} {cf : Nat → Int32}  (hst : l.stackTraces = false) (w : RA G h x dyn sz S st sl D nx z cf len) (hs : z ≠ 0 → (st (p_last nx)).isSome = true) : Mx G l yX5_undo cX5_undo 1 (some .int) 6 94 1 6 [.ref x] h sz (fun v h1 s1 => z ≠ 0 ∧ s1 = sz ∧ fr_ h h1 x dyn ∧ ∃ q, st (p_last nx) = some q ∧ v = some (.int (nI (z - 1))) ∧ RA G h1 x dyn s1 (g_bec S (D q)) st sl D (p_last nx) (z - 1) cf len) (pxE h sz (th1 (!decide (z = 0)) eIS)) := by
  refine Mx.ofV [(0, .ref x)] hst (by decide) (Nat.le_of_ble_eq_true rfl) rfl ?_
  intro p e s m args below meth c C Z
  have hz6 : z ≤ 6 := w.2.2.2.2.2.2.2.2.2.2.1
  refine r_aload_n C dX5_undo_0 rfl rfl ?_
  refine r_get C (j := 3) rfl in_X5 (w.2.1) (by decide) fl_X5_33 rfl rfl dX5_undo_1 ?_
  refine r_getN C (j := 2) rfl in_X1 ((RA_pa w).1) (by decide) fn_X5_135 rfl rfl dX5_undo_4 ?_
  refine r_if_ne C 20 dX5_undo_7 (by decide) (fun c_7 => ?_) (fun c_7 => ?_)
  · have hz0 : z ≠ 0 := fun q => c_7 (by rw [q]; rfl)
    obtain ⟨q, hq⟩ := Option.isSome_iff_exists.mp (hs hz0)
    have gq := RA_saved w (p_last_lt w.2.2.2.2.2.2.2.2.2.1) hq
    have hz1 : z - 1 < 6 := by omega
    have wp : PA G h (x + 18) st (nI nx) (nI (z - 1 + 1)) := by rw [show z - 1 + 1 = z by omega]; exact RA_pa w
    refine r_aload_n C dX5_undo_20 rfl rfl ?_
    refine r_get C (j := 3) rfl in_X5 (w.2.1) (by decide) fl_X5_33 rfl rfl dX5_undo_21 ?_
    refine r_aload_n C dX5_undo_24 rfl rfl ?_
    refine r_get C (j := 0) rfl in_X5 (w.2.1) (by decide) fl_X5_10 rfl rfl dX5_undo_25 ?_
    refine r_cVv C (c_X1_restore wp w.2.2.1 w.2.2.2.2.2.2.2.2.2.1 hz1 hq gq.2.2 (by omega) (by omega) (by omega)) lk_X5_140 rfl ((RA_pa w).1) rfl rfl ⟨(Nat.le_of_ble_eq_true rfl), (Nat.le_of_ble_eq_true rfl), (Nat.le_of_ble_eq_true rfl), (Nat.le_of_ble_eq_true rfl), (Nat.le_of_ble_eq_true rfl)⟩ dX5_undo_28 ?_
    refine r_aload_n C dX5_undo_31 rfl rfl ?_
    refine r_get C (j := 3) rfl in_X5 ((RA_P (RA_G w) (p_last_lt w.2.2.2.2.2.2.2.2.2.1) (Nat.le_of_lt hz1)).2.1) (by decide) fl_X5_33 rfl rfl dX5_undo_32 ?_
    refine r_getN C (j := 2) rfl in_X1 ((RA_pa (RA_P (RA_G w) (p_last_lt w.2.2.2.2.2.2.2.2.2.1) (Nat.le_of_lt hz1))).1) (by decide) fn_X5_135 rfl rfl dX5_undo_35 ?_
    exact V.retx (r_iret C rfl (Nat.le_of_ble_eq_true rfl) (Nat.le_of_ble_eq_true rfl) (⟨by omega, rfl, fr_G.trans fr_P, q, hq, rfl, RA_P (RA_G w) (p_last_lt w.2.2.2.2.2.2.2.2.2.1) (by omega)⟩) dX5_undo_38)
  · exact r_throw C Z lt_IS (is := 138) (by simp [SR]; try rfl) dX5_undo_10 dX5_undo_13 dX5_undo_14 dX5_undo_16 dX5_undo_19 (Nat.le_of_ble_eq_true rfl) (Nat.le_of_ble_eq_true rfl) (Nat.le_of_ble_eq_true rfl) (Nat.le_of_ble_eq_true rfl) (Nat.le_of_ble_eq_true rfl) (Nat.le_of_ble_eq_true rfl) (fun s1 hs1 => ⟨by rw [show z = 0 from nI_inj0 hz6 c_7]; rfl, rfl, hs1⟩)

/-- the trains behind take: what the halves are -/
def k_hf (S : gS) (p : Int32) (hf : Nat → Int32) : Nat → Int32 := t_tk S p hf (min (g_held S p).toNatClampNeg 10)
def k_k (S : gS) (p : Int32) : Nat := (g_held S p).toNatClampNeg
def k_long (S : gS) (p g : Int32) (hf of : Nat → Int32) : Int32 := t_most (t_of (k_hf S p hf) (k_k S p) g of) (k_k S p)
def k_try (S : gS) (p g : Int32) (hf of : Nat → Int32) : Int32 := t_whole (t_of (k_hf S p hf) (k_k S p) g of) (k_k S p)
def k_count (S : gS) (p g : Int32) (hf : Nat → Int32) : Int32 := t_count (k_hf S p hf) (k_k S p) g
theorem RA_ta {G : ga_} {h : HP} {x sz : Nat} {dyn : Nat → Prop} {S : gS} {st sl : Nat → Option Nat} {D : Nat → gS} {nx z len : Nat} {cf : Nat → Int32} (w : RA G h x dyn sz S st sl D nx z cf len) : ∃ hf of t, TA G h (x + 12) hf of t := w.2.2.2.2.1
theorem c_takeR {G : ga_} {l : Launch} {h : HP} {sz : Nat} {x : Nat} {dyn : Nat → Prop} {S : gS} {st sl : Nat → Option Nat} {D : Nat → gS} {nx z len : Nat} {cf : Nat → Int32} {hf of : Nat → Int32} {t a : Int32} (w : RA G (pT G h (x + 12) hf of t) x dyn sz S st sl D nx z cf len) (hk : ¬ g_held S a < 0) : Mf G l yX4_take cX4_take 5 none 2 44 0 0 [.ref (x + 12), .ref (x + 1), .int a] (pT G h (x + 12) hf of t) sz none (pT G h (x + 12) (k_hf S a hf) of (nI (k_k S a))) sz := by
  have k := c_X4_take (G := G) (l := l) (sz := sz) (a := a) (TA_pT (G := G) (h := h) (tr := x + 12) (hf := hf) (of := of) (n := t)) w.2.2.1 (by omega)
  rw [pT_pT] at k
  unfold k_k k_hf
  rw [← clI hk]
  exact k
set_option maxHeartbeats 800000 in
set_option maxRecDepth 100000 in
theorem c_X5_longest {G : ga_} {l : Launch} {h : HP} {sz : Nat} {x : Nat} {dyn : Nat → Prop} {S : gS} {st sl : Nat → Option Nat} {D : Nat → gS} {nx z len : Nat} {cf : Nat → Int32} {a b : Int32} (hst : l.stackTraces = false) (w : RA G h x dyn sz S st sl D nx z cf len) (hk : g_has S a = true → ¬ g_held S a < 0) : Mx G l yX5_longest cX5_longest 3 (some .int) 7 111 2 12 [.ref x, .int a, .int b] h sz (fun v h1 s1 => (g_has S a && okN b 7) = true ∧ s1 = sz ∧ fr_ h h1 x dyn ∧ RA G h1 x dyn s1 S st sl D nx z cf len ∧ ∃ hf of, v = some (.int (k_long S a b hf of))) (pxE h sz (th2 (g_has S a) eIO (okN b 7) eIA)) := by
  refine Mx.ofV [(0, .ref x), (1, .int a), (2, .int b)] hst (by decide) (Nat.le_of_ble_eq_true rfl) rfl ?_
  intro p e s m args below meth c C Z
  refine r_aload_n C dX5_longest_0 rfl rfl ?_
  refine r_iload_n C dX5_longest_1 rfl rfl ?_
  refine r_xV C Z (c_X5_requirePlayer hst w.2.1 w.2.2.1) lk_X5_158 rfl w.2.1 rfl rfl ⟨(Nat.le_of_ble_eq_true rfl), (Nat.le_of_ble_eq_true rfl), (Nat.le_of_ble_eq_true rfl), (Nat.le_of_ble_eq_true rfl), (Nat.le_of_ble_eq_true rfl)⟩ dX5_longest_2 (Nat.le_of_ble_eq_true rfl) (Nat.le_of_ble_eq_true rfl) (fun E h1 s1 q0 => by obtain ⟨rfl, rfl, q1, q2⟩ := q0; exact ⟨by simp [th2, q2], rfl, q1⟩) (fun v h1 s1 q0 => ?_)
  obtain ⟨rfl, rfl, rfl, ok_2⟩ := q0
  refine V.stack (st2 := []) rfl ?_
  refine r_iload_n C dX5_longest_5 rfl rfl ?_
  refine r_xS C Z (c_X5_requireGrade hst) lk_X5_182 rfl rfl ⟨(Nat.le_of_ble_eq_true rfl), (Nat.le_of_ble_eq_true rfl), (Nat.le_of_ble_eq_true rfl), (Nat.le_of_ble_eq_true rfl), (Nat.le_of_ble_eq_true rfl)⟩ dX5_longest_6 (Nat.le_of_ble_eq_true rfl) (Nat.le_of_ble_eq_true rfl) (fun E h1 s1 q0 => by obtain ⟨rfl, rfl, q1, q2⟩ := q0; exact ⟨by simp only [th2, ok_2, q2]; rfl, rfl, q1⟩) (fun v h1 s1 q0 => ?_)
  obtain ⟨rfl, rfl, rfl, ok_6⟩ := q0
  refine V.stack (st2 := []) rfl ?_
  obtain ⟨hf, of, t, wt⟩ := RA_ta w
  refine V.heap (pT_id wt).symm ?_
  refine r_aload_n C dX5_longest_9 rfl rfl ?_
  refine r_get C (j := 1) rfl in_X5 ((RA_T w).2.1) (by decide) fl_X5_19 rfl rfl dX5_longest_10 ?_
  refine r_aload_n C dX5_longest_13 rfl rfl ?_
  refine r_get C (j := 0) rfl in_X5 ((RA_T w).2.1) (by decide) fl_X5_10 rfl rfl dX5_longest_14 ?_
  refine r_iload_n C dX5_longest_17 rfl rfl ?_
  refine r_cVv C (c_takeR (RA_T w) (hk ok_2)) lk_X5_185 rfl (TA_pT.1) rfl rfl ⟨(Nat.le_of_ble_eq_true rfl), (Nat.le_of_ble_eq_true rfl), (Nat.le_of_ble_eq_true rfl), (Nat.le_of_ble_eq_true rfl), (Nat.le_of_ble_eq_true rfl)⟩ dX5_longest_18 ?_
  refine r_aload_n C dX5_longest_21 rfl rfl ?_
  refine r_get C (j := 1) rfl in_X5 ((RA_T w).2.1) (by decide) fl_X5_19 rfl rfl dX5_longest_22 ?_
  refine r_iload_n C dX5_longest_25 rfl rfl ?_
  refine r_cVv C (c_X4_tryFrom TA_pT rfl (tn_lt _)) lk_X5_189 rfl (TA_pT.1) rfl rfl ⟨(Nat.le_of_ble_eq_true rfl), (Nat.le_of_ble_eq_true rfl), (Nat.le_of_ble_eq_true rfl), (Nat.le_of_ble_eq_true rfl), (Nat.le_of_ble_eq_true rfl)⟩ dX5_longest_26 ?_
  refine V.heap pT_pT ?_
  refine r_aload_n C dX5_longest_29 rfl rfl ?_
  refine r_get C (j := 1) rfl in_X5 ((RA_T w).2.1) (by decide) fl_X5_19 rfl rfl dX5_longest_30 ?_
  refine r_cVi C (c_X4_mostTiles TA_pT rfl (tn_lt _)) lk_X5_192 rfl (TA_pT.1) rfl rfl ⟨(Nat.le_of_ble_eq_true rfl), (Nat.le_of_ble_eq_true rfl), (Nat.le_of_ble_eq_true rfl), (Nat.le_of_ble_eq_true rfl), (Nat.le_of_ble_eq_true rfl)⟩ dX5_longest_33 ?_
  exact V.retx (r_iret C rfl (Nat.le_of_ble_eq_true rfl) (Nat.le_of_ble_eq_true rfl) ⟨by simp only [ok_2, ok_6, Bool.and_self], rfl, fr_T, RA_T w, hf, of, rfl⟩ dX5_longest_36)

set_option maxHeartbeats 800000 in
set_option maxRecDepth 100000 in
theorem c_X5_whole {G : ga_} {l : Launch} {h : HP} {sz : Nat} {x : Nat} {dyn : Nat → Prop} {S : gS} {st sl : Nat → Option Nat} {D : Nat → gS} {nx z len : Nat} {cf : Nat → Int32} {a b d : Int32} (hst : l.stackTraces = false) (w : RA G h x dyn sz S st sl D nx z cf len) (hk : g_has S a = true → ¬ g_held S a < 0) : Mx G l yX5_whole cX5_whole 4 (some .int) 7 111 3 18 [.ref x, .int a, .int b, .int d] h sz (fun v h1 s1 => (g_has S a && okN b 7 && okN d 2) = true ∧ s1 = sz ∧ fr_ h h1 x dyn ∧ RA G h1 x dyn s1 S st sl D nx z cf len ∧ ∃ hf of, v = some (.int (if d = 1 then k_count S a b hf else k_try S a b hf of))) (pxE h sz (th3 (g_has S a) eIO (okN b 7) eIA (okN d 2) eIA)) := by
  refine Mx.ofV [(0, .ref x), (1, .int a), (2, .int b), (3, .int d)] hst (by decide) (Nat.le_of_ble_eq_true rfl) rfl ?_
  intro p e s m args below meth c C Z
  refine r_aload_n C dX5_whole_0 rfl rfl ?_
  refine r_iload_n C dX5_whole_1 rfl rfl ?_
  refine r_xV C Z (c_X5_requirePlayer hst w.2.1 w.2.2.1) lk_X5_158 rfl w.2.1 rfl rfl ⟨(Nat.le_of_ble_eq_true rfl), (Nat.le_of_ble_eq_true rfl), (Nat.le_of_ble_eq_true rfl), (Nat.le_of_ble_eq_true rfl), (Nat.le_of_ble_eq_true rfl)⟩ dX5_whole_2 (Nat.le_of_ble_eq_true rfl) (Nat.le_of_ble_eq_true rfl) (fun E h1 s1 q0 => by obtain ⟨rfl, rfl, q1, q2⟩ := q0; exact ⟨by simp [th3, q2], rfl, q1⟩) (fun v h1 s1 q0 => ?_)
  obtain ⟨rfl, rfl, rfl, ok_2⟩ := q0
  refine V.stack (st2 := []) rfl ?_
  refine r_iload_n C dX5_whole_5 rfl rfl ?_
  refine r_xS C Z (c_X5_requireGrade hst) lk_X5_182 rfl rfl ⟨(Nat.le_of_ble_eq_true rfl), (Nat.le_of_ble_eq_true rfl), (Nat.le_of_ble_eq_true rfl), (Nat.le_of_ble_eq_true rfl), (Nat.le_of_ble_eq_true rfl)⟩ dX5_whole_6 (Nat.le_of_ble_eq_true rfl) (Nat.le_of_ble_eq_true rfl) (fun E h1 s1 q0 => by obtain ⟨rfl, rfl, q1, q2⟩ := q0; exact ⟨by simp only [th3, ok_2, q2]; rfl, rfl, q1⟩) (fun v h1 s1 q0 => ?_)
  obtain ⟨rfl, rfl, rfl, ok_6⟩ := q0
  refine V.stack (st2 := []) rfl ?_
  refine r_iload_n C dX5_whole_9 rfl rfl ?_
  refine r_iconst C (v := 2) dX5_whole_10 rfl ?_
  refine r_xS C Z (c_X5_requireWhat hst) lk_X5_145 rfl rfl ⟨(Nat.le_of_ble_eq_true rfl), (Nat.le_of_ble_eq_true rfl), (Nat.le_of_ble_eq_true rfl), (Nat.le_of_ble_eq_true rfl), (Nat.le_of_ble_eq_true rfl)⟩ dX5_whole_11 (Nat.le_of_ble_eq_true rfl) (Nat.le_of_ble_eq_true rfl) (fun E h1 s1 q0 => by obtain ⟨rfl, rfl, q1, q2⟩ := q0; exact ⟨by simp only [th3, ok_2, ok_6, q2]; rfl, rfl, q1⟩) (fun v h1 s1 q0 => ?_)
  obtain ⟨rfl, rfl, rfl, ok_11⟩ := q0
  refine V.stack (st2 := []) rfl ?_
  obtain ⟨hf, of, t, wt⟩ := RA_ta w
  refine V.heap (pT_id wt).symm ?_
  refine r_aload_n C dX5_whole_14 rfl rfl ?_
  refine r_get C (j := 1) rfl in_X5 ((RA_T w).2.1) (by decide) fl_X5_19 rfl rfl dX5_whole_15 ?_
  refine r_aload_n C dX5_whole_18 rfl rfl ?_
  refine r_get C (j := 0) rfl in_X5 ((RA_T w).2.1) (by decide) fl_X5_10 rfl rfl dX5_whole_19 ?_
  refine r_iload_n C dX5_whole_22 rfl rfl ?_
  refine r_cVv C (c_takeR (RA_T w) (hk ok_2)) lk_X5_185 rfl (TA_pT.1) rfl rfl ⟨(Nat.le_of_ble_eq_true rfl), (Nat.le_of_ble_eq_true rfl), (Nat.le_of_ble_eq_true rfl), (Nat.le_of_ble_eq_true rfl), (Nat.le_of_ble_eq_true rfl)⟩ dX5_whole_23 ?_
  refine r_iload_n C dX5_whole_26 rfl rfl ?_
  refine r_iconst C (v := 1) dX5_whole_27 rfl ?_
  refine r_icmp_ne C 40 dX5_whole_28 (by decide) (fun c_28 => ?_) (fun c_28 => ?_)
  · refine r_aload_n C dX5_whole_40 rfl rfl ?_
    refine r_get C (j := 1) rfl in_X5 ((RA_T w).2.1) (by decide) fl_X5_19 rfl rfl dX5_whole_41 ?_
    refine r_iload_n C dX5_whole_44 rfl rfl ?_
    refine r_cVv C (c_X4_tryFrom TA_pT rfl (tn_lt _)) lk_X5_189 rfl (TA_pT.1) rfl rfl ⟨(Nat.le_of_ble_eq_true rfl), (Nat.le_of_ble_eq_true rfl), (Nat.le_of_ble_eq_true rfl), (Nat.le_of_ble_eq_true rfl), (Nat.le_of_ble_eq_true rfl)⟩ dX5_whole_45 ?_
    refine V.heap pT_pT ?_
    refine r_aload_n C dX5_whole_48 rfl rfl ?_
    refine r_get C (j := 1) rfl in_X5 ((RA_T w).2.1) (by decide) fl_X5_19 rfl rfl dX5_whole_49 ?_
    refine r_cVi C (c_X4_wholeByTrying TA_pT rfl (tn_lt _)) lk_X5_198 rfl (TA_pT.1) rfl rfl ⟨(Nat.le_of_ble_eq_true rfl), (Nat.le_of_ble_eq_true rfl), (Nat.le_of_ble_eq_true rfl), (Nat.le_of_ble_eq_true rfl), (Nat.le_of_ble_eq_true rfl)⟩ dX5_whole_52 ?_
    exact V.retx (r_iret C rfl (Nat.le_of_ble_eq_true rfl) (Nat.le_of_ble_eq_true rfl) ⟨by simp only [ok_2, ok_6, ok_11, Bool.and_self], rfl, fr_T, RA_T w, hf, of, by rw [if_neg c_28]; rfl⟩ dX5_whole_55)
  · refine r_aload_n C dX5_whole_31 rfl rfl ?_
    refine r_get C (j := 1) rfl in_X5 ((RA_T w).2.1) (by decide) fl_X5_19 rfl rfl dX5_whole_32 ?_
    refine r_iload_n C dX5_whole_35 rfl rfl ?_
    refine r_cVi C (c_X4_wholeByCounting TA_pT rfl (tn_lt _)) lk_X5_195 rfl (TA_pT.1) rfl rfl ⟨(Nat.le_of_ble_eq_true rfl), (Nat.le_of_ble_eq_true rfl), (Nat.le_of_ble_eq_true rfl), (Nat.le_of_ble_eq_true rfl), (Nat.le_of_ble_eq_true rfl)⟩ dX5_whole_36 ?_
    exact V.retx (r_iret C rfl (Nat.le_of_ble_eq_true rfl) (Nat.le_of_ble_eq_true rfl) ⟨by simp only [ok_2, ok_6, ok_11, Bool.and_self], rfl, fr_T, RA_T w, hf, of, by rw [if_pos c_28]; rfl⟩ dX5_whole_39)

