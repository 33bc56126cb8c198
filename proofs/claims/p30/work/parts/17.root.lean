/-! THE ROOT: what a call requires of its arguments -/
def eIA : String := "java/lang/IllegalArgumentException"
def eIS : String := "java/lang/IllegalStateException"
def eIO : String := "java/lang/IndexOutOfBoundsException"
def okN (a : Int32) (n : Int32) : Bool := !decide (a < 0) && decide (a < n)
def okEnd (a : Int32) : Bool := !decide (a < 0) && !decide (1 < a)
def pxQ (h : HP) (sz : Nat) (X : String) (b : Bool) : String → HP → Nat → Prop := fun E h1 s1 => E = X ∧ h1 = h ∧ sz ≤ s1 ∧ b = false
def poQ (h : HP) (sz : Nat) (b : Bool) : Option Value → HP → Nat → Prop := fun v h1 s1 => v = none ∧ h1 = h ∧ s1 = sz ∧ b = true
set_option maxHeartbeats 800000 in
set_option maxRecDepth 100000 in
theorem c_X5_requireRow {G : ga_} {l : Launch} {h : HP} {sz : Nat} {a : Int32}  (hst : l.stackTraces = false)  : Mx G l yX5_requireRow cX5_requireRow 1 none 6 90 1 6 [.int a] h sz (poQ h sz (okN a 3)) (pxQ h sz eIO (okN a 3)) := by
  refine Mx.ofV [(0, .int a)] hst (by decide) (Nat.le_of_ble_eq_true rfl) rfl ?_
  intro p e s m args below meth c C Z
  refine r_iload_n C dX5_requireRow_0 rfl rfl ?_
  refine r_if_lt C 9 dX5_requireRow_1 (by decide) (fun c_1 => ?_) (fun c_1 => ?_)
  · have e_1 := i32_nle c_1
    exact r_throw C Z lt_IO (is := 231) (by simp [SR]; try rfl) dX5_requireRow_9 dX5_requireRow_12 dX5_requireRow_13 dX5_requireRow_15 dX5_requireRow_18 (Nat.le_of_ble_eq_true rfl) (Nat.le_of_ble_eq_true rfl) (Nat.le_of_ble_eq_true rfl) (Nat.le_of_ble_eq_true rfl) (Nat.le_of_ble_eq_true rfl) (Nat.le_of_ble_eq_true rfl) (fun s1 hs1 => ⟨rfl, rfl, hs1, by simp [okN, okEnd, c_1, e_1]⟩)
  · have e_1 := i32_le c_1
    refine r_iload_n C dX5_requireRow_4 rfl rfl ?_
    refine r_iconst C (v := 3) dX5_requireRow_5 rfl ?_
    refine r_icmp_lt C 19 dX5_requireRow_6 (by decide) (fun c_6 => ?_) (fun c_6 => ?_)
    · have e_6 := i32_nle c_6
      exact V.retx (r_vret C rfl (Nat.le_of_ble_eq_true rfl) (Nat.le_of_ble_eq_true rfl) ⟨rfl, rfl, rfl, by simp [okN, okEnd, c_1, e_1, c_6, e_6]⟩ dX5_requireRow_19)
    · have e_6 := i32_le c_6
      exact r_throw C Z lt_IO (is := 231) (by simp [SR]; try rfl) dX5_requireRow_9 dX5_requireRow_12 dX5_requireRow_13 dX5_requireRow_15 dX5_requireRow_18 (Nat.le_of_ble_eq_true rfl) (Nat.le_of_ble_eq_true rfl) (Nat.le_of_ble_eq_true rfl) (Nat.le_of_ble_eq_true rfl) (Nat.le_of_ble_eq_true rfl) (Nat.le_of_ble_eq_true rfl) (fun s1 hs1 => ⟨rfl, rfl, hs1, by simp [okN, okEnd, c_1, e_1, c_6, e_6]⟩)

set_option maxHeartbeats 800000 in
set_option maxRecDepth 100000 in
theorem c_X5_requireEnd {G : ga_} {l : Launch} {h : HP} {sz : Nat} {a : Int32}  (hst : l.stackTraces = false)  : Mx G l yX5_requireEnd cX5_requireEnd 1 none 6 90 1 6 [.int a] h sz (poQ h sz (okEnd a)) (pxQ h sz eIA (okEnd a)) := by
  refine Mx.ofV [(0, .int a)] hst (by decide) (Nat.le_of_ble_eq_true rfl) rfl ?_
  intro p e s m args below meth c C Z
  refine r_iload_n C dX5_requireEnd_0 rfl rfl ?_
  refine r_if_lt C 9 dX5_requireEnd_1 (by decide) (fun c_1 => ?_) (fun c_1 => ?_)
  · have e_1 := i32_nle c_1
    exact r_throw C Z lt_IA (is := 233) (by simp [SR]; try rfl) dX5_requireEnd_9 dX5_requireEnd_12 dX5_requireEnd_13 dX5_requireEnd_15 dX5_requireEnd_18 (Nat.le_of_ble_eq_true rfl) (Nat.le_of_ble_eq_true rfl) (Nat.le_of_ble_eq_true rfl) (Nat.le_of_ble_eq_true rfl) (Nat.le_of_ble_eq_true rfl) (Nat.le_of_ble_eq_true rfl) (fun s1 hs1 => ⟨rfl, rfl, hs1, by simp [okN, okEnd, c_1, e_1]⟩)
  · have e_1 := i32_le c_1
    refine r_iload_n C dX5_requireEnd_4 rfl rfl ?_
    refine r_iconst C (v := 1) dX5_requireEnd_5 rfl ?_
    refine r_icmp_le C 19 dX5_requireEnd_6 (by decide) (fun c_6 => ?_) (fun c_6 => ?_)
    · have e_6 := i32_nlt c_6
      exact V.retx (r_vret C rfl (Nat.le_of_ble_eq_true rfl) (Nat.le_of_ble_eq_true rfl) ⟨rfl, rfl, rfl, by simp [okN, okEnd, c_1, e_1, c_6, e_6]⟩ dX5_requireEnd_19)
    · have e_6 := i32_lt c_6
      exact r_throw C Z lt_IA (is := 233) (by simp [SR]; try rfl) dX5_requireEnd_9 dX5_requireEnd_12 dX5_requireEnd_13 dX5_requireEnd_15 dX5_requireEnd_18 (Nat.le_of_ble_eq_true rfl) (Nat.le_of_ble_eq_true rfl) (Nat.le_of_ble_eq_true rfl) (Nat.le_of_ble_eq_true rfl) (Nat.le_of_ble_eq_true rfl) (Nat.le_of_ble_eq_true rfl) (fun s1 hs1 => ⟨rfl, rfl, hs1, by simp [okN, okEnd, c_1, e_1, c_6, e_6]⟩)

set_option maxHeartbeats 800000 in
set_option maxRecDepth 100000 in
theorem c_X5_requirePlace {G : ga_} {l : Launch} {h : HP} {sz : Nat} {a : Int32}  (hst : l.stackTraces = false)  : Mx G l yX5_requirePlace cX5_requirePlace 1 none 6 90 1 6 [.int a] h sz (poQ h sz (!decide (a < 0))) (pxQ h sz eIA (!decide (a < 0))) := by
  refine Mx.ofV [(0, .int a)] hst (by decide) (Nat.le_of_ble_eq_true rfl) rfl ?_
  intro p e s m args below meth c C Z
  refine r_iload_n C dX5_requirePlace_0 rfl rfl ?_
  refine r_if_ge C 14 dX5_requirePlace_1 (by decide) (fun c_1 => ?_) (fun c_1 => ?_)
  · have e_1 := i32_nlt c_1
    exact V.retx (r_vret C rfl (Nat.le_of_ble_eq_true rfl) (Nat.le_of_ble_eq_true rfl) ⟨rfl, rfl, rfl, by simp [okN, okEnd, c_1, e_1]⟩ dX5_requirePlace_14)
  · have e_1 := i32_lt c_1
    exact r_throw C Z lt_IA (is := 241) (by simp [SR]; try rfl) dX5_requirePlace_4 dX5_requirePlace_7 dX5_requirePlace_8 dX5_requirePlace_10 dX5_requirePlace_13 (Nat.le_of_ble_eq_true rfl) (Nat.le_of_ble_eq_true rfl) (Nat.le_of_ble_eq_true rfl) (Nat.le_of_ble_eq_true rfl) (Nat.le_of_ble_eq_true rfl) (Nat.le_of_ble_eq_true rfl) (fun s1 hs1 => ⟨rfl, rfl, hs1, by simp [okN, okEnd, c_1, e_1]⟩)

set_option maxHeartbeats 800000 in
set_option maxRecDepth 100000 in
theorem c_X5_requireWhat {G : ga_} {l : Launch} {h : HP} {sz : Nat} {a b : Int32}  (hst : l.stackTraces = false)  : Mx G l yX5_requireWhat cX5_requireWhat 2 none 6 90 1 6 [.int a, .int b] h sz (poQ h sz (okN a b)) (pxQ h sz eIA (okN a b)) := by
  refine Mx.ofV [(0, .int a), (1, .int b)] hst (by decide) (Nat.le_of_ble_eq_true rfl) rfl ?_
  intro p e s m args below meth c C Z
  refine r_iload_n C dX5_requireWhat_0 rfl rfl ?_
  refine r_if_lt C 9 dX5_requireWhat_1 (by decide) (fun c_1 => ?_) (fun c_1 => ?_)
  · have e_1 := i32_nle c_1
    exact r_throw C Z lt_IA (is := 243) (by simp [SR]; try rfl) dX5_requireWhat_9 dX5_requireWhat_12 dX5_requireWhat_13 dX5_requireWhat_15 dX5_requireWhat_18 (Nat.le_of_ble_eq_true rfl) (Nat.le_of_ble_eq_true rfl) (Nat.le_of_ble_eq_true rfl) (Nat.le_of_ble_eq_true rfl) (Nat.le_of_ble_eq_true rfl) (Nat.le_of_ble_eq_true rfl) (fun s1 hs1 => ⟨rfl, rfl, hs1, by simp [okN, okEnd, c_1, e_1]⟩)
  · have e_1 := i32_le c_1
    refine r_iload_n C dX5_requireWhat_4 rfl rfl ?_
    refine r_iload_n C dX5_requireWhat_5 rfl rfl ?_
    refine r_icmp_lt C 19 dX5_requireWhat_6 (by decide) (fun c_6 => ?_) (fun c_6 => ?_)
    · have e_6 := i32_nle c_6
      exact V.retx (r_vret C rfl (Nat.le_of_ble_eq_true rfl) (Nat.le_of_ble_eq_true rfl) ⟨rfl, rfl, rfl, by simp [okN, okEnd, c_1, e_1, c_6, e_6]⟩ dX5_requireWhat_19)
    · have e_6 := i32_le c_6
      exact r_throw C Z lt_IA (is := 243) (by simp [SR]; try rfl) dX5_requireWhat_9 dX5_requireWhat_12 dX5_requireWhat_13 dX5_requireWhat_15 dX5_requireWhat_18 (Nat.le_of_ble_eq_true rfl) (Nat.le_of_ble_eq_true rfl) (Nat.le_of_ble_eq_true rfl) (Nat.le_of_ble_eq_true rfl) (Nat.le_of_ble_eq_true rfl) (Nat.le_of_ble_eq_true rfl) (fun s1 hs1 => ⟨rfl, rfl, hs1, by simp [okN, okEnd, c_1, e_1, c_6, e_6]⟩)

set_option maxHeartbeats 800000 in
set_option maxRecDepth 100000 in
theorem c_X5_requireGrade {G : ga_} {l : Launch} {h : HP} {sz : Nat} {a : Int32}  (hst : l.stackTraces = false)  : Mx G l yX5_requireGrade cX5_requireGrade 1 none 6 90 1 6 [.int a] h sz (poQ h sz (okN a 7)) (pxQ h sz eIA (okN a 7)) := by
  refine Mx.ofV [(0, .int a)] hst (by decide) (Nat.le_of_ble_eq_true rfl) rfl ?_
  intro p e s m args below meth c C Z
  refine r_iload_n C dX5_requireGrade_0 rfl rfl ?_
  refine r_if_lt C 10 dX5_requireGrade_1 (by decide) (fun c_1 => ?_) (fun c_1 => ?_)
  · have e_1 := i32_nle c_1
    exact r_throw C Z lt_IA (is := 245) (by simp [SR]; try rfl) dX5_requireGrade_10 dX5_requireGrade_13 dX5_requireGrade_14 dX5_requireGrade_16 dX5_requireGrade_19 (Nat.le_of_ble_eq_true rfl) (Nat.le_of_ble_eq_true rfl) (Nat.le_of_ble_eq_true rfl) (Nat.le_of_ble_eq_true rfl) (Nat.le_of_ble_eq_true rfl) (Nat.le_of_ble_eq_true rfl) (fun s1 hs1 => ⟨rfl, rfl, hs1, by simp [okN, okEnd, c_1, e_1]⟩)
  · have e_1 := i32_le c_1
    refine r_iload_n C dX5_requireGrade_4 rfl rfl ?_
    refine r_bipush C (v := 7) dX5_requireGrade_5 rfl ?_
    refine r_icmp_lt C 20 dX5_requireGrade_7 (by decide) (fun c_7 => ?_) (fun c_7 => ?_)
    · have e_7 := i32_nle c_7
      exact V.retx (r_vret C rfl (Nat.le_of_ble_eq_true rfl) (Nat.le_of_ble_eq_true rfl) ⟨rfl, rfl, rfl, by simp [okN, okEnd, c_1, e_1, c_7, e_7]⟩ dX5_requireGrade_20)
    · have e_7 := i32_le c_7
      exact r_throw C Z lt_IA (is := 245) (by simp [SR]; try rfl) dX5_requireGrade_10 dX5_requireGrade_13 dX5_requireGrade_14 dX5_requireGrade_16 dX5_requireGrade_19 (Nat.le_of_ble_eq_true rfl) (Nat.le_of_ble_eq_true rfl) (Nat.le_of_ble_eq_true rfl) (Nat.le_of_ble_eq_true rfl) (Nat.le_of_ble_eq_true rfl) (Nat.le_of_ble_eq_true rfl) (fun s1 hs1 => ⟨rfl, rfl, hs1, by simp [okN, okEnd, c_1, e_1, c_7, e_7]⟩)

set_option maxHeartbeats 800000 in
set_option maxRecDepth 100000 in
theorem c_X5_requirePlayer {G : ga_} {l : Launch} {h : HP} {sz : Nat} {a : Int32} {x : Nat} {S : gS} (hst : l.stackTraces = false) (wx : h x = some (ob_ 5 [.ref (x + 1), .ref (x + 12), .ref (x + 16), .ref (x + 18), .ref (x + 20)])) (w : GA G h (x + 1) S) : Mx G l yX5_requirePlayer cX5_requirePlayer 2 none 6 90 1 6 [.ref x, .int a] h sz (poQ h sz (g_has S a)) (pxQ h sz eIO (g_has S a)) := by
  refine Mx.ofV [(0, .ref x), (1, .int a)] hst (by decide) (Nat.le_of_ble_eq_true rfl) rfl ?_
  intro p e s m args below meth c C Z
  refine r_aload_n C dX5_requirePlayer_0 rfl rfl ?_
  refine r_get C (j := 0) rfl in_X5 (wx) (by decide) fl_X5_10 rfl rfl dX5_requirePlayer_1 ?_
  refine r_iload_n C dX5_requirePlayer_4 rfl rfl ?_
  refine r_cVi C (c_X0_hasPlayer w) lk_X5_235 rfl (GA_o w) rfl rfl ⟨(Nat.le_of_ble_eq_true rfl), (Nat.le_of_ble_eq_true rfl), (Nat.le_of_ble_eq_true rfl), (Nat.le_of_ble_eq_true rfl), (Nat.le_of_ble_eq_true rfl)⟩ dX5_requirePlayer_5 ?_
  refine r_if_ne C 21 dX5_requirePlayer_8 (by decide) (fun c_8 => ?_) (fun c_8 => ?_)
  · have c_8 := bI_t c_8
    exact V.retx (r_vret C rfl (Nat.le_of_ble_eq_true rfl) (Nat.le_of_ble_eq_true rfl) ⟨rfl, rfl, rfl, by exact c_8⟩ dX5_requirePlayer_21)
  · have c_8 := bI_f c_8
    exact r_throw C Z lt_IO (is := 239) (by simp [SR]; try rfl) dX5_requirePlayer_11 dX5_requirePlayer_14 dX5_requirePlayer_15 dX5_requirePlayer_17 dX5_requirePlayer_20 (Nat.le_of_ble_eq_true rfl) (Nat.le_of_ble_eq_true rfl) (Nat.le_of_ble_eq_true rfl) (Nat.le_of_ble_eq_true rfl) (Nat.le_of_ble_eq_true rfl) (Nat.le_of_ble_eq_true rfl) (fun s1 hs1 => ⟨rfl, rfl, hs1, by exact c_8⟩)

theorem Mg.mono {G : ga_} {l : Launch} {y : MethodName} {cc : ByteArray} {nL : Nat} {ret : Option FieldType} {fr lo mc ms : Nat} {av : List Value} {h : HP} {sz : Nat} {P1 P2 : Option Value → HP → Nat → Prop} (hM : Mg G l y cc nL ret fr lo mc ms av h sz P1) (hp : ∀ v h1 s1, P1 v h1 s1 → P2 v h1 s1) : Mg G l y cc nL ret fr lo mc ms av h sz P2 := by
  unfold Mg Met at hM ⊢
  refine MetFree.mono hM (fun _ _ q => q) (fun _ _ _ _ _ q => q) (fun _ _ _ _ _ q => ?_)
  obtain ⟨⟨v, h1, s1, q1, q2, q3⟩, q4⟩ := q
  exact ⟨⟨v, h1, s1, q1, hp v h1 s1 q2, q3⟩, q4⟩
def gmI (st sl : Nat → Option Nat) (i : Nat) : Option Nat := if i < 6 then st i else sl (i - 6)
/-- the games that are saved or kept, by their addresses: D says what each holds -/
def RD (G : ga_) (h : HP) (dyn : Nat → Prop) (sz : Nat) (st sl : Nat → Option Nat) (D : Nat → gS) : Prop := (∀ a, sz ≤ a → dyn a) ∧ (∀ i q, i < 8 → gmI st sl i = some q → (∀ a, q ≤ a → a < q + 11 → dyn a) ∧ q + 11 ≤ sz ∧ GA G h q (D q)) ∧ (∀ i j q r, i < 8 → j < 8 → i ≠ j → gmI st sl i = some q → gmI st sl j = some r → q + 11 ≤ r ∨ r + 11 ≤ q)
def RA (G : ga_) (h : HP) (x : Nat) (dyn : Nat → Prop) (sz : Nat) (S : gS) (st sl : Nat → Option Nat) (D : Nat → gS) (nx z : Nat) (cf : Nat → Int32) (len : Nat) : Prop :=
  (x + 21 ≤ sz ∧ ∀ a, dyn a → x + 21 ≤ a) ∧ h x = some (ob_ 5 [.ref (x + 1), .ref (x + 12), .ref (x + 16), .ref (x + 18), .ref (x + 20)]) ∧ GA G h (x + 1) S ∧ True ∧ (∃ hf of t, TA G h (x + 12) hf of t) ∧ XA G h (x + 16) cf (nI len) ∧ PA G h (x + 18) st (nI nx) (nI z) ∧ h (x + 20) = some (aG_ G 2 sl) ∧ RD G h dyn sz st sl D ∧ nx < 6 ∧ z ≤ 6 ∧ len ≤ 60
def fr_ (h h1 : HP) (x : Nat) (dyn : Nat → Prop) : Prop := ∀ a, ¬ dyn a → (a < x ∨ x + 21 ≤ a) → h1 a = h a
theorem GA.eq {G : ga_} {h h1 : HP} {g : Nat} {S : gS} (w : GA G h g S) (he : ∀ a, g ≤ a → a < g + 11 → h1 a = h a) : GA G h1 g S := fun j hj => by rw [he (g + j) (by omega) (by omega)]; exact w j hj
theorem RD.eq {G : ga_} {h h1 : HP} {sz s1 : Nat} {dyn : Nat → Prop} {st sl : Nat → Option Nat} {D : Nat → gS} (w : RD G h dyn sz st sl D) (hs : sz ≤ s1) (he : ∀ a, dyn a → h1 a = h a) : RD G h1 dyn s1 st sl D :=
  ⟨fun a ha => w.1 a (Nat.le_trans hs ha), fun i q hi hq => ⟨(w.2.1 i q hi hq).1, Nat.le_trans (w.2.1 i q hi hq).2.1 hs, (w.2.1 i q hi hq).2.2.eq (fun a h1 h2 => he a ((w.2.1 i q hi hq).1 a h1 h2))⟩, w.2.2⟩
theorem RA_G {G : ga_} {h : HP} {x sz : Nat} {dyn : Nat → Prop} {S S2 : gS} {st sl : Nat → Option Nat} {D : Nat → gS} {nx z len : Nat} {cf : Nat → Int32} (w : RA G h x dyn sz S st sl D nx z cf len) : RA G (pG G h (x + 1) S2) x dyn sz S2 st sl D nx z cf len := by
  obtain ⟨w0, w1, w2, -, ⟨hf, of, t, w5, w6, w7, w8⟩, ⟨w9, w10⟩, ⟨w11, w12⟩, w13, w14, w15⟩ := w
  refine ⟨w0, (pG_out (by omega)).trans w1, GA_pG, trivial, ⟨hf, of, t, (pG_out (by omega)).trans w5, (pG_out (by omega)).trans w6, (pG_out (by omega)).trans w7, (pG_out (by omega)).trans w8⟩, ⟨(pG_out (by omega)).trans w9, (pG_out (by omega)).trans w10⟩, ⟨(pG_out (by omega)).trans w11, (pG_out (by omega)).trans w12⟩, (pG_out (by omega)).trans w13, w14.eq (Nat.le_refl _) (fun a ha => by have := w0.2 a ha; exact pG_out (by omega)), w15⟩
theorem RA_X {G : ga_} {h : HP} {x sz : Nat} {dyn : Nat → Prop} {S : gS} {st sl : Nat → Option Nat} {D : Nat → gS} {nx z len len2 : Nat} {cf cf2 : Nat → Int32} (w : RA G h x dyn sz S st sl D nx z cf len) (hl : len2 ≤ 60) : RA G (pX G h (x + 16) cf2 (nI len2)) x dyn sz S st sl D nx z cf2 len2 := by
  obtain ⟨w0, w1, w2, -, ⟨hf, of, t, w5, w6, w7, w8⟩, ⟨w9, w10⟩, ⟨w11, w12⟩, w13, w14, w15, w16, -⟩ := w
  refine ⟨w0, (pX_out (by omega)).trans w1, w2.eq (fun a h1 h2 => pX_out (by omega)), trivial, ⟨hf, of, t, (pX_out (by omega)).trans w5, (pX_out (by omega)).trans w6, (pX_out (by omega)).trans w7, (pX_out (by omega)).trans w8⟩, XA_pX, ⟨(pX_out (by omega)).trans w11, (pX_out (by omega)).trans w12⟩, (pX_out (by omega)).trans w13, w14.eq (Nat.le_refl _) (fun a ha => by have := w0.2 a ha; exact pX_out (by omega)), w15, w16, hl⟩
theorem RA_T {G : ga_} {h : HP} {x sz : Nat} {dyn : Nat → Prop} {S : gS} {st sl : Nat → Option Nat} {D : Nat → gS} {nx z len : Nat} {cf hf of : Nat → Int32} {t : Int32} (w : RA G h x dyn sz S st sl D nx z cf len) : RA G (pT G h (x + 12) hf of t) x dyn sz S st sl D nx z cf len := by
  obtain ⟨w0, w1, w2, -, -, ⟨w9, w10⟩, ⟨w11, w12⟩, w13, w14, w15⟩ := w
  refine ⟨w0, (pT_out (by omega)).trans w1, w2.eq (fun a h1 h2 => pT_out (by omega)), trivial, ⟨hf, of, t, TA_pT⟩, ⟨(pT_out (by omega)).trans w9, (pT_out (by omega)).trans w10⟩, ⟨(pT_out (by omega)).trans w11, (pT_out (by omega)).trans w12⟩, (pT_out (by omega)).trans w13, w14.eq (Nat.le_refl _) (fun a ha => by have := w0.2 a ha; exact pT_out (by omega)), w15⟩
def dU (D : Nat → gS) (q : Nat) (S : gS) : Nat → gS := fun a => if a = q then S else D a
/-- behind remember, at the root: a state is saved at nx -/
def remP (G : ga_) (h : HP) (x : Nat) (dyn : Nat → Prop) (sz : Nat) (S : gS) (st sl : Nat → Option Nat) (D : Nat → gS) (nx z : Nat) (cf : Nat → Int32) (len : Nat) (h1 : HP) (s1 : Nat) : Prop := sz ≤ s1 ∧ fr_ h h1 x dyn ∧ ∃ q Sq, (st nx = some q ∧ Sq = D q ∨ st nx = none ∧ Sq = gS0) ∧ RA G h1 x dyn s1 S (va_up st nx (some q)) sl (dU D q (g_bec Sq S)) (p_nx nx) (p_z z) cf len
theorem p_nx_lt {nx : Nat} (h : nx < 6) : p_nx nx < 6 := by unfold p_nx; split <;> omega
theorem p_z_le {z : Nat} : p_z z ≤ 6 := by unfold p_z; split <;> omega
theorem gmI_up {st sl : Nat → Option Nat} {nx i : Nat} {q : Nat} (hnx : nx < 6) : gmI (va_up st nx (some q)) sl i = if i = nx then some q else gmI st sl i := by
  unfold gmI va_up
  by_cases c : i < 6
  · rw [if_pos c, if_pos c]
  · rw [if_neg c, if_neg c, if_neg (by omega)]
theorem rem_ok {G : ga_} {h : HP} {x sz s2 q : Nat} {dyn : Nat → Prop} {S Sq : gS} {st sl : Nat → Option Nat} {D : Nat → gS} {nx z len : Nat} {cf : Nat → Int32} (w : RA G h x dyn sz S st sl D nx z cf len) (hq : (st nx = some q ∧ Sq = D q ∧ s2 = sz) ∨ (st nx = none ∧ q = sz ∧ Sq = gS0 ∧ s2 = sz + 11)) :
    remP G h x dyn sz S st sl D nx z cf len (pP G (pG G h q (g_bec Sq S)) (x + 18) (va_up st nx (some q)) (nI (p_nx nx)) (nI (p_z z))) s2 := by
  obtain ⟨w0, w1, w2, -, ⟨hf, of, t, w5, w6, w7, w8⟩, ⟨w9, w10⟩, ⟨w11, w12⟩, w13, w14, w15, w16, w17⟩ := w
  have hqd : (∀ a, q ≤ a → a < q + 11 → dyn a) ∧ q + 11 ≤ s2 ∧ sz ≤ s2 ∧ x + 21 ≤ q := by
    rcases hq with ⟨e1, -, e2⟩ | ⟨-, e1, -, e2⟩
    · obtain ⟨k1, k2, -⟩ := w14.2.1 nx q (by omega) (by unfold gmI; rw [if_pos w15]; exact e1)
      exact ⟨k1, by omega, by omega, w0.2 q (k1 q (Nat.le_refl _) (by omega))⟩
    · have := w0.1
      exact ⟨fun a h1 _ => w14.1 a (by omega), by omega, by omega, by omega⟩
  have hq21 := hqd.2.2.2
  have ho : ∀ a, (a < x + 18 ∨ x + 20 ≤ a) → (a < q ∨ q + 11 ≤ a) → pP G (pG G h q (g_bec Sq S)) (x + 18) (va_up st nx (some q)) (nI (p_nx nx)) (nI (p_z z)) a = h a := fun a h1 h2 => by rw [pP_out h1, pG_out h2]
  refine ⟨hqd.2.2.1, fun a h1 h2 => ho a (by omega) (by rcases Nat.lt_or_ge a q with c | c; exact Or.inl c; exact Or.inr (Nat.not_lt.mp fun c2 => h1 (hqd.1 a c c2))), q, Sq, ?_, ⟨Nat.le_trans w0.1 hqd.2.2.1, w0.2⟩, (ho _ (by omega) (by omega)).trans w1, w2.eq (fun a h1 h2 => ho a (by omega) (by omega)), trivial, ⟨hf, of, t, (ho _ (by omega) (by omega)).trans w5, (ho _ (by omega) (by omega)).trans w6, (ho _ (by omega) (by omega)).trans w7, (ho _ (by omega) (by omega)).trans w8⟩, ⟨(ho _ (by omega) (by omega)).trans w9, (ho _ (by omega) (by omega)).trans w10⟩, PA_pP, (ho _ (by omega) (by omega)).trans w13, ⟨fun a ha => w14.1 a (Nat.le_trans hqd.2.2.1 ha), ?_, ?_⟩, p_nx_lt w15, p_z_le, w17⟩
  · rcases hq with ⟨e1, e2, -⟩ | ⟨e1, -, e2, -⟩
    · exact Or.inl ⟨e1, e2⟩
    · exact Or.inr ⟨e1, e2⟩
  · intro i r hi hr
    rw [gmI_up w15] at hr
    by_cases c : i = nx
    · rw [if_pos c] at hr
      cases hr
      refine ⟨hqd.1, hqd.2.1, ?_⟩
      unfold dU
      rw [if_pos rfl]
      exact GA_P GA_pG (by omega)
    · rw [if_neg c] at hr
      obtain ⟨k1, k2, k3⟩ := w14.2.1 i r hi hr
      have ha : r + 11 ≤ q ∨ q + 11 ≤ r := by
        rcases hq with ⟨e1, -, -⟩ | ⟨-, e1, -, -⟩
        · exact w14.2.2 i nx r q hi (by omega) c hr (by unfold gmI; rw [if_pos w15]; exact e1)
        · omega
      refine ⟨k1, by omega, ?_⟩
      have hr21 : x + 21 ≤ r := w0.2 r (k1 r (Nat.le_refl _) (by omega))
      unfold dU
      rw [if_neg (by omega)]
      exact k3.eq (fun a h1 h2 => ho a (by omega) (by omega))
  · intro i j r1 r2 hi hj hij h1 h2
    rw [gmI_up w15] at h1 h2
    by_cases c : i = nx
    · rw [if_pos c] at h1
      cases h1
      rw [if_neg (by omega)] at h2
      rcases hq with ⟨e1, -, -⟩ | ⟨-, e1, -, -⟩
      · exact w14.2.2 i j _ r2 hi hj hij (by unfold gmI; rw [c, if_pos w15]; exact e1) h2
      · have := (w14.2.1 j r2 hj h2).2.1; omega
    · rw [if_neg c] at h1
      by_cases c2 : j = nx
      · rw [if_pos c2] at h2
        cases h2
        rcases hq with ⟨e1, -, -⟩ | ⟨-, e1, -, -⟩
        · exact w14.2.2 i j r1 _ hi hj hij h1 (by unfold gmI; rw [c2, if_pos w15]; exact e1)
        · have := (w14.2.1 i r1 hi h1).2.1; omega
      · rw [if_neg c2] at h2
        exact w14.2.2 i j r1 r2 hi hj hij h1 h2
theorem c_rem {G : ga_} {l : Launch} {h : HP} {x sz : Nat} {dyn : Nat → Prop} {S : gS} {st sl : Nat → Option Nat} {D : Nat → gS} {nx z len : Nat} {cf : Nat → Int32} (w : RA G h x dyn sz S st sl D nx z cf len) : Mg G l yX1_remember cX1_remember 3 none 3 72 11 387 [.ref (x + 18), .ref (x + 1)] h sz (fun v h1 s1 => v = none ∧ remP G h x dyn sz S st sl D nx z cf len h1 s1) := by
  have w' := w
  obtain ⟨w0, w1, w2, -, -, -, w11, -, w14, w15, w16, -⟩ := w
  cases hst : st nx with
  | some q =>
    obtain ⟨k1, k2, k3⟩ := w14.2.1 nx q (by omega) (by unfold gmI; rw [if_pos w15]; exact hst)
    have := w0.2 q (k1 q (Nat.le_refl _) (by omega))
    refine Mg.mono (c_X1_remember w11 w2 w15 w16 (Or.inl ⟨hst, k3, rfl⟩) (by omega) (by omega) (by omega)) ?_
    rintro v h1 s1 ⟨rfl, rfl, rfl⟩
    exact ⟨rfl, rem_ok w' (Or.inl ⟨hst, rfl, rfl⟩)⟩
  | none =>
    have := w0.1
    refine Mg.mono (c_X1_remember w11 w2 w15 w16 (Or.inr ⟨hst, rfl, rfl, rfl⟩) (by omega) (by omega) (by omega)) ?_
    rintro v h1 s1 ⟨rfl, rfl, rfl⟩
    exact ⟨rfl, rem_ok w' (Or.inr ⟨hst, rfl, rfl, rfl⟩)⟩
