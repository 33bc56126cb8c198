/-! AN ACT -/
def ch_c (S : gS) (how a b d : Int32) : Int32 := if how = 0 then (if tBegin a b then 0 else 2) else if how = 1 then (if okN b 3 then (if okEnd d then 0 else 2) else 1) else if how = 2 then (if g_over S || g_holds S (S 5 1) a then 0 else 1) else (if !decide (a < 1) && !decide (9 < a) then 0 else 2)
def ch_S (S : gS) (how a b d : Int32) : gS := if how = 0 then s_3 S a b else if how = 1 then g_lay S a b d else if how = 2 then g_oil S a else gc S 7 a
def ch_r (S : gS) (how a b d : Int32) : Int32 := if how = 0 then g_stock (s_3 S a b) else if how = 1 then g_layA S a b d else if how = 2 then g_oilA S a else S 5 7
/-- behind a call of the object at x that was made: its state is S2, the answer lies at out -/
def acQ (G : ga_) (h : HP) (x : Nat) (dy : Nat → Prop) (sz out : Nat) (f : Nat → Int32) (S : gS) (sv sl : Nat → Option Nat) (D : Nat → gS) (nx z : Nat) (cf : Nat → Int32) (len : Nat) (S2 : gS) (r : Int32) (h2 : HP) (s2 : Nat) : Prop :=
  sz ≤ s2 ∧ (∀ a, a ≠ out → ¬ dy a → (a < x ∨ x + 21 ≤ a) → h2 a = h a) ∧ h2 out = some (aI_ G 1 (upd f 0 r)) ∧ ∃ q Sq, (sv nx = some q ∧ Sq = D q ∨ sv nx = none ∧ Sq = gS0) ∧ RA G h2 x dy s2 S2 (va_up sv nx (some q)) sl (dU D q (g_bec Sq S)) (p_nx nx) (p_z z) cf len
def acP (G : ga_) (h : HP) (x : Nat) (dy : Nat → Prop) (sz out : Nat) (f : Nat → Int32) (S : gS) (sv sl : Nat → Option Nat) (D : Nat → gS) (nx z : Nat) (cf : Nat → Int32) (len : Nat) (c : Int32) (S2 : gS) (r : Int32) : Option Value → HP → Nat → Prop := fun v h2 s2 => v = some (.int c) ∧ ((c = 0 ∧ acQ G h x dy sz out f S sv sl D nx z cf len S2 r h2 s2) ∨ (¬ c = 0 ∧ h2 = h ∧ sz ≤ s2))
theorem xbA : eIA ∈ XB := by decide
theorem xbO : eIO ∈ XB := by decide
theorem ybO : eIO ∈ YB := by decide
theorem vin0 : vp_in (0 : Int32) 1 := vp_in_nI (n := 0) (N := 1) (by decide) (by decide)
section AC
variable {G : ga_} {h h1 : HP} {x sz s1 out : Nat} {dy : Nat → Prop} {S S2 : gS} {sv sl : Nat → Option Nat} {D : Nat → gS} {nx z len : Nat} {cf f : Nat → Int32} {r : Int32}
theorem RA.moved (w : RA G h x dy sz S sv sl D nx z cf len) (hs : sz ≤ s1) (he : ∀ a, (x ≤ a ∧ a < x + 21) ∨ dy a → h1 a = h a) : RA G h1 x dy s1 S sv sl D nx z cf len := by
  obtain ⟨w0, w1, w2, -, ⟨hf, of, t, w5, w6, w7, w8⟩, ⟨w9, w10⟩, ⟨w11, w12⟩, w13, w14, w15⟩ := w
  exact ⟨⟨Nat.le_trans w0.1 hs, w0.2⟩, (he _ (Or.inl (by omega))).trans w1, w2.eq (fun a q1 q2 => he a (Or.inl (by omega))), trivial, ⟨hf, of, t, (he _ (Or.inl (by omega))).trans w5, (he _ (Or.inl (by omega))).trans w6, (he _ (Or.inl (by omega))).trans w7, (he _ (Or.inl (by omega))).trans w8⟩, ⟨(he _ (Or.inl (by omega))).trans w9, (he _ (Or.inl (by omega))).trans w10⟩, ⟨(he _ (Or.inl (by omega))).trans w11, (he _ (Or.inl (by omega))).trans w12⟩, (he _ (Or.inl (by omega))).trans w13, w14.eq hs (fun a ha => he a (Or.inr ha)), w15⟩
theorem acQ.of (hs : sz ≤ s1) (hfr : fr_ h h1 x dy) (ho : ¬ dy out) (hx : out < x ∨ x + 21 ≤ out) (hq : ∃ q Sq, (sv nx = some q ∧ Sq = D q ∨ sv nx = none ∧ Sq = gS0) ∧ RA G h1 x dy s1 S2 (va_up sv nx (some q)) sl (dU D q (g_bec Sq S)) (p_nx nx) (p_z z) cf len) : acQ G h x dy sz out f S sv sl D nx z cf len S2 r (up_ h1 out (aI_ G 1 (upd f (0 : Int32).toNatClampNeg r))) s1 := by
  obtain ⟨q, Sq, e, w⟩ := hq
  refine ⟨hs, fun a h1 h2 h3 => by rw [up_n h1]; exact hfr a h2 h3, up_s _ _ _, q, Sq, e, w.moved (Nat.le_refl _) (fun a ha => up_n (fun z => ?_))⟩
  subst z
  rcases ha with ha | ha
  · omega
  · exact ho ha
end AC
set_option maxHeartbeats 800000 in
set_option maxRecDepth 100000 in
theorem c_L_changes {G : ga_} {l : Launch} {h : HP} {sz x out : Nat} {dy : Nat → Prop} {S : gS} {sv sl : Nat → Option Nat} {D : Nat → gS} {nx z len : Nat} {cf f : Nat → Int32} {how a b d : Int32} (hst : l.stackTraces = false) (w : RA G h x dy sz S sv sl D nx z cf len) (wo : h out = some (aI_ G 1 f)) (ho : ¬ dy out) (hx : out < x ∨ x + 21 ≤ out) : Mw G l yL_changes cL_changes 7 (some .int) [(0, 51, 54, 25), (0, 51, 58, 27)] 8 140 13 400 [.ref x, .int how, .int a, .int b, .int d, .ref out] h sz (acP G h x dy sz out f S sv sl D nx z cf len (ch_c S how a b d) (ch_S S how a b d) (ch_r S how a b d)) := by
  refine Mw.ofV [(0, .ref x), (1, .int how), (2, .int a), (3, .int b), (4, .int d), (5, .ref out)] (by decide) (Nat.le_of_ble_eq_true rfl) rfl ?_
  intro p e s m args below meth c C hT
  refine r_aload C dL_changes_0 rfl ?_
  refine r_iconst C (v := 0) dL_changes_2 rfl ?_
  refine r_iload_n C dL_changes_3 rfl rfl ?_
  refine r_if_ne C 16 dL_changes_4 (by decide) (fun c_4 => ?_) (fun c_4 => ?_)
  · refine r_iload_n C dL_changes_16 rfl rfl ?_
    refine r_iconst C (v := 1) dL_changes_17 rfl ?_
    refine r_icmp_ne C 32 dL_changes_18 (by decide) (fun c_18 => ?_) (fun c_18 => ?_)
    · refine r_iload_n C dL_changes_32 rfl rfl ?_
      refine r_iconst C (v := 2) dL_changes_33 rfl ?_
      refine r_icmp_ne C 45 dL_changes_34 (by decide) (fun c_34 => ?_) (fun c_34 => ?_)
      · have kc : ∀ q, (!decide (a < 1) && !decide (9 < a)) = q → ch_c S how a b d = if q then 0 else 2 := fun q hq => by unfold ch_c; rw [if_neg c_4, if_neg c_18, if_neg c_34, hq]
        have kS : ch_S S how a b d = gc S 7 a := by unfold ch_S; rw [if_neg c_4, if_neg c_18, if_neg c_34]
        have kr : ch_r S how a b d = S 5 7 := by unfold ch_r; rw [if_neg c_4, if_neg c_18, if_neg c_34]
        refine r_aload_n C dL_changes_45 rfl rfl ?_
        refine r_iload_n C dL_changes_46 rfl rfl ?_
        refine r_xVc C hT (c_X5_set hst w) lk_L_22 rfl w.2.1 rfl rfl ⟨(Nat.le_of_ble_eq_true rfl), (Nat.le_of_ble_eq_true rfl), (by dsimp only; omega), (by dsimp only; omega), (Nat.le_of_ble_eq_true rfl)⟩ dL_changes_47 ?_ ?_
        · rintro E h1 s1 ⟨e1, rfl, e2⟩
          have hB : (!decide (a < 1) && !decide (9 < a)) = false := by cases hq : (!decide (a < 1) && !decide (9 < a)) with
            | false => rfl
            | true => rw [hq] at e1; cases e1
          rw [hB] at e1
          cases e1
          have kc2 : ch_c S how a b d = 2 := kc false hB
          refine ⟨58, ⟨[_], _, [], rfl, (fun z hz => by rw [List.mem_singleton.mp hz]; exact ⟨by decide, _, cl_L_25, ybO, by decide⟩), by decide, by decide, cl_L_27, xbA, rfl⟩, fun q => ?_⟩
          refine r_astore C dL_changes_58 (by decide) ?_
          refine r_iconst C (v := 2) dL_changes_60 rfl ?_
          exact V.retx (r_iret C rfl (by omega) (by omega) ⟨by rw [kc2], Or.inr ⟨by rw [kc2]; decide, rfl, e2⟩⟩ dL_changes_61)
        · intro v h1 s1 hp
          obtain ⟨rfl, hB, hs1, hfr, q, Sq, hq, w2⟩ := hp
          have kc2 : ch_c S how a b d = 0 := kc true hB
          refine r_iast C ((hfr out ho hx).trans wo) vin0 dL_changes_50 ?_
          refine r_goto C 62 dL_changes_51 (by decide) ?_
          refine r_iconst C (v := 0) dL_changes_62 rfl ?_
          exact V.retx (r_iret C rfl (by omega) (by omega) ⟨by rw [kc2], Or.inl ⟨kc2, by rw [kS, kr]; exact acQ.of hs1 hfr ho hx ⟨q, Sq, hq, w2⟩⟩⟩ dL_changes_63)
      · have kc : ∀ q, (g_over S || g_holds S (S 5 1) a) = q → ch_c S how a b d = if q then 0 else 1 := fun q hq => by unfold ch_c; rw [if_neg c_4, if_neg c_18, if_pos c_34, hq]
        have kS : ch_S S how a b d = g_oil S a := by unfold ch_S; rw [if_neg c_4, if_neg c_18, if_pos c_34]
        have kr : ch_r S how a b d = g_oilA S a := by unfold ch_r; rw [if_neg c_4, if_neg c_18, if_pos c_34]
        refine r_aload_n C dL_changes_37 rfl rfl ?_
        refine r_iload_n C dL_changes_38 rfl rfl ?_
        refine r_xVc C hT (c_X5_oil hst w) lk_L_18 rfl w.2.1 rfl rfl ⟨(Nat.le_of_ble_eq_true rfl), (Nat.le_of_ble_eq_true rfl), (by dsimp only; omega), (by dsimp only; omega), (Nat.le_of_ble_eq_true rfl)⟩ dL_changes_39 ?_ ?_
        · rintro E h1 s1 ⟨e1, rfl, e2⟩
          have hB : (g_over S || g_holds S (S 5 1) a) = false := by cases hq : (g_over S || g_holds S (S 5 1) a) with
            | false => rfl
            | true => rw [hq] at e1; cases e1
          rw [hB] at e1
          cases e1
          have kc2 : ch_c S how a b d = 1 := kc false hB
          refine ⟨54, ⟨[], _, [_], rfl, (fun z hz => absurd hz List.not_mem_nil), by decide, by decide, cl_L_25, xbO, rfl⟩, fun q => ?_⟩
          refine r_astore C dL_changes_54 (by decide) ?_
          refine r_iconst C (v := 1) dL_changes_56 rfl ?_
          exact V.retx (r_iret C rfl (by omega) (by omega) ⟨by rw [kc2], Or.inr ⟨by rw [kc2]; decide, rfl, e2⟩⟩ dL_changes_57)
        · intro v h1 s1 hp
          obtain ⟨rfl, hB, hs1, hfr, q, Sq, hq, w2⟩ := hp
          have kc2 : ch_c S how a b d = 0 := kc true hB
          refine r_goto C 50 dL_changes_42 (by decide) ?_
          refine r_iast C ((hfr out ho hx).trans wo) vin0 dL_changes_50 ?_
          refine r_goto C 62 dL_changes_51 (by decide) ?_
          refine r_iconst C (v := 0) dL_changes_62 rfl ?_
          exact V.retx (r_iret C rfl (by omega) (by omega) ⟨by rw [kc2], Or.inl ⟨kc2, by rw [kS, kr]; exact acQ.of hs1 hfr ho hx ⟨q, Sq, hq, w2⟩⟩⟩ dL_changes_63)
    · have kc : ∀ q1 q2, okN b 3 = q1 → okEnd d = q2 → ch_c S how a b d = if q1 then (if q2 then 0 else 2) else 1 := fun q1 q2 hq1 hq2 => by unfold ch_c; rw [if_neg c_4, if_pos c_18, hq1, hq2]
      have kS : ch_S S how a b d = g_lay S a b d := by unfold ch_S; rw [if_neg c_4, if_pos c_18]
      have kr : ch_r S how a b d = g_layA S a b d := by unfold ch_r; rw [if_neg c_4, if_pos c_18]
      refine r_aload_n C dL_changes_21 rfl rfl ?_
      refine r_iload_n C dL_changes_22 rfl rfl ?_
      refine r_iload_n C dL_changes_23 rfl rfl ?_
      refine r_iload C dL_changes_24 rfl ?_
      refine r_xVc C hT (c_X5_lay hst w) lk_L_14 rfl w.2.1 rfl rfl ⟨(Nat.le_of_ble_eq_true rfl), (Nat.le_of_ble_eq_true rfl), (by dsimp only; omega), (by dsimp only; omega), (Nat.le_of_ble_eq_true rfl)⟩ dL_changes_26 ?_ ?_
      · rintro E h1 s1 ⟨e1, rfl, e2⟩
        cases hq1 : okN b 3 with
        | false =>
          rw [hq1] at e1
          cases e1
          have kc2 : ch_c S how a b d = 1 := kc false _ hq1 rfl
          refine ⟨54, ⟨[], _, [_], rfl, (fun z hz => absurd hz List.not_mem_nil), by decide, by decide, cl_L_25, xbO, rfl⟩, fun q => ?_⟩
          refine r_astore C dL_changes_54 (by decide) ?_
          refine r_iconst C (v := 1) dL_changes_56 rfl ?_
          exact V.retx (r_iret C rfl (by omega) (by omega) ⟨by rw [kc2], Or.inr ⟨by rw [kc2]; decide, rfl, e2⟩⟩ dL_changes_57)
        | true =>
          have hE : okEnd d = false := by cases hq : okEnd d with
            | false => rfl
            | true => rw [hq1, hq] at e1; cases e1
          rw [hq1, hE] at e1
          cases e1
          have kc2 : ch_c S how a b d = 2 := kc true false hq1 hE
          refine ⟨58, ⟨[_], _, [], rfl, (fun z hz => by rw [List.mem_singleton.mp hz]; exact ⟨by decide, _, cl_L_25, ybO, by decide⟩), by decide, by decide, cl_L_27, xbA, rfl⟩, fun q => ?_⟩
          refine r_astore C dL_changes_58 (by decide) ?_
          refine r_iconst C (v := 2) dL_changes_60 rfl ?_
          exact V.retx (r_iret C rfl (by omega) (by omega) ⟨by rw [kc2], Or.inr ⟨by rw [kc2]; decide, rfl, e2⟩⟩ dL_changes_61)
      · intro v h1 s1 hp
        obtain ⟨rfl, hB, hs1, hfr, q, Sq, hq, w2⟩ := hp
        rw [Bool.and_eq_true] at hB
        have kc2 : ch_c S how a b d = 0 := kc true true hB.1 hB.2
        refine r_goto C 50 dL_changes_29 (by decide) ?_
        refine r_iast C ((hfr out ho hx).trans wo) vin0 dL_changes_50 ?_
        refine r_goto C 62 dL_changes_51 (by decide) ?_
        refine r_iconst C (v := 0) dL_changes_62 rfl ?_
        exact V.retx (r_iret C rfl (by omega) (by omega) ⟨by rw [kc2], Or.inl ⟨kc2, by rw [kS, kr]; exact acQ.of hs1 hfr ho hx ⟨q, Sq, hq, w2⟩⟩⟩ dL_changes_63)
  · have kc : ∀ q, tBegin a b = q → ch_c S how a b d = if q then 0 else 2 := fun q hq => by unfold ch_c; rw [if_pos c_4, hq]
    have kS : ch_S S how a b d = s_3 S a b := by unfold ch_S; rw [if_pos c_4]
    have kr : ch_r S how a b d = g_stock (s_3 S a b) := by unfold ch_r; rw [if_pos c_4]
    refine r_aload_n C dL_changes_7 rfl rfl ?_
    refine r_iload_n C dL_changes_8 rfl rfl ?_
    refine r_iload_n C dL_changes_9 rfl rfl ?_
    refine r_xVc C hT (c_X5_begin hst w) lk_L_8 rfl w.2.1 rfl rfl ⟨(Nat.le_of_ble_eq_true rfl), (Nat.le_of_ble_eq_true rfl), (by dsimp only; omega), (by dsimp only; omega), (Nat.le_of_ble_eq_true rfl)⟩ dL_changes_10 ?_ ?_
    · rintro E h1 s1 ⟨e1, rfl, e2⟩
      have hB : tBegin a b = false := by cases hq : tBegin a b with
        | false => rfl
        | true => rw [hq] at e1; cases e1
      rw [hB] at e1
      cases e1
      have kc2 : ch_c S how a b d = 2 := kc false hB
      refine ⟨58, ⟨[_], _, [], rfl, (fun z hz => by rw [List.mem_singleton.mp hz]; exact ⟨by decide, _, cl_L_25, ybO, by decide⟩), by decide, by decide, cl_L_27, xbA, rfl⟩, fun q => ?_⟩
      refine r_astore C dL_changes_58 (by decide) ?_
      refine r_iconst C (v := 2) dL_changes_60 rfl ?_
      exact V.retx (r_iret C rfl (by omega) (by omega) ⟨by rw [kc2], Or.inr ⟨by rw [kc2]; decide, rfl, e2⟩⟩ dL_changes_61)
    · intro v h1 s1 hp
      obtain ⟨hB, hs1, hfr, q, Sq, rfl, hq, w2⟩ := hp
      have kc2 : ch_c S how a b d = 0 := kc true hB
      refine r_goto C 50 dL_changes_13 (by decide) ?_
      refine r_iast C ((hfr out ho hx).trans wo) vin0 dL_changes_50 ?_
      refine r_goto C 62 dL_changes_51 (by decide) ?_
      refine r_iconst C (v := 0) dL_changes_62 rfl ?_
      exact V.retx (r_iret C rfl (by omega) (by omega) ⟨by rw [kc2], Or.inl ⟨kc2, by rw [kS, kr]; exact acQ.of hs1 hfr ho hx ⟨q, Sq, hq, w2⟩⟩⟩ dL_changes_63)
