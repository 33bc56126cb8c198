/-! WHAT HOLDS BETWEEN THE CALLS -/
theorem le_nlt (a b : Int32) : decide (a ≤ b) = !decide (b < a) := by
  by_cases q : b < a
  · rw [decide_eq_true q, decide_eq_false (Int32.not_le.mpr q)]; rfl
  · rw [decide_eq_false q, decide_eq_true (Int32.not_lt.mp q)]; rfl
theorem le_lt1 {k : Nat} (hk : k + 1 < 2147483648) (a : Int32) : decide (a ≤ nI k) = decide (a < nI (k + 1)) := by
  apply decide_eq_decide.mpr
  rw [Int32.le_iff_toInt_le, Int32.lt_iff_toInt_lt, nI_toInt (by omega), nI_toInt hk]
  omega
theorem min0 {a : Int32} {k : Nat} (hk : k + 1 < 2147483648) : m_in a 0 (nI k) = okN a (nI (k + 1)) := by
  unfold m_in okN
  rw [le_nlt, le_lt1 hk]
theorem minE (a : Int32) : m_in a 0 1 = okEnd a := by
  unfold m_in okEnd
  rw [le_nlt, le_nlt]
theorem minS (a : Int32) : m_in a 1 9 = (!decide (a < 1) && !decide (9 < a)) := by
  unfold m_in
  rw [le_nlt, le_nlt]
theorem minC (a : Int32) : m_in a 33 126 = okCh a := by
  unfold m_in okCh
  rw [le_nlt, le_nlt]
theorem minB (a b : Int32) : (m_in a 2 4 && m_in b 0 9999) = tBegin a b := by
  unfold tBegin
  rw [show m_in b 0 9999 = okN b (nI 10000) from min0 (k := 9999) (by decide)]
  unfold m_in okN
  rw [le_nlt, le_nlt, Bool.and_assoc]
  rfl
theorem min3 (a : Int32) : m_in a 0 2 = okN a 3 := min0 (k := 2) (by decide)
theorem min4 (a : Int32) : m_in a 0 3 = okN a 4 := min0 (k := 3) (by decide)
theorem min7 (a : Int32) : m_in a 0 6 = okN a 7 := min0 (k := 6) (by decide)
theorem min12 (a : Int32) : m_in a 0 11 = okN a 12 := min0 (k := 11) (by decide)
theorem min28 (a : Int32) : m_in a 0 27 = okN a 28 := min0 (k := 27) (by decide)
theorem min2 (a : Int32) : m_in a 0 1 = okN a 2 := min0 (k := 1) (by decide)
theorem end_nat {a : Int32} (h : okEnd a = true) : ∃ d, d < 2 ∧ a = nI d := okN_nat (k := 2) (by decide) (show okN a (nI 2) = true by rw [show okN a (nI 2) = okN a 2 from rfl, ← min2, minE]; exact h)
theorem hasN {S : gS} {P : Nat} (h : S 5 0 = nI P) (hP : P ≤ 4) (a : Int32) : m_in a 0 (S 5 0 - 1) = g_has S a := by
  unfold g_has
  rw [h, m_inh (by omega)]
theorem has_nat {S : gS} {P : Nat} (h : S 5 0 = nI P) (hP : P ≤ 4) {a : Int32} (q : g_has S a = true) : ∃ p, p < P ∧ a = nI p := okN_nat (k := P) (by omega) (by unfold okN; unfold g_has at q; rw [h] at q; exact q)
-- the model's own numbers
theorem ac_s {A : gS} {k : Nat} {v : Int32} : ac A k v 6 k = v := by unfold ac; rw [gu_s, if_pos rfl]
theorem ac_n {A : gS} {k j : Nat} {v : Int32} (h : j ≠ k) : ac A k v 6 j = A 6 j := by unfold ac; rw [gu_s, if_neg h]
theorem ac_o {A : gS} {k a : Nat} {v : Int32} (h : a ≠ 6) : ac A k v a = A a := by unfold ac; exact gu_n h
theorem tA_of {A : gS} {p : Nat} {w : Bool} (h4 : A 6 4 = nI p) (h5 : A 6 5 = bI w) : ∃ t : tT_, A = tA A t := by
  refine ⟨(p, w, A 6 6, A 6 7, A 6 8, A 6 9), ?_⟩
  funext a
  unfold tA
  by_cases q : a = 6
  · subst q
    rw [gu_s]
    funext b
    by_cases b4 : b = 4
    · rw [if_pos b4, b4, h4]
    · rw [if_neg b4]
      by_cases b5 : b = 5
      · rw [if_pos b5, b5, h5]
      · rw [if_neg b5]
        by_cases b6 : b = 6
        · rw [if_pos b6, b6]
        · rw [if_neg b6]
          by_cases b7 : b = 7
          · rw [if_pos b7, b7]
          · rw [if_neg b7]
            by_cases b8 : b = 8
            · rw [if_pos b8, b8]
            · rw [if_neg b8]
              by_cases b9 : b = 9
              · rw [if_pos b9, b9]
              · rw [if_neg b9]
  · rw [gu_n q]
theorem tA_45 {A : gS} {t : tT_} : tA A t 6 4 = nI t.1 ∧ tA A t 6 5 = bI t.2.1 := by unfold tA; rw [gu_s]; exact ⟨rfl, rfl⟩
theorem tA_n {A : gS} {t : tT_} {b : Nat} (h : b < 4) : tA A t 6 b = A 6 b := by
  unfold tA
  rw [gu_s]
  show (if b = 4 then _ else _) = _
  rw [if_neg (by omega), if_neg (by omega), if_neg (by omega), if_neg (by omega), if_neg (by omega), if_neg (by omega)]
theorem tA_o {A : gS} {t : tT_} {a : Nat} (h : a ≠ 6) : tA A t a = A a := by unfold tA; exact gu_n h
section LW
variable {G : ga_} {h h1 : HP} {x dyn sz s1 : Nat} {S S2 : gS} {st sl : Nat → Option Nat} {D : Nat → gS} {nx z len : Nat} {cf : Nat → Int32}
/-- the class's object as it was, where its cells are as they were -/
theorem RA.moved (w : RA G h x dyn sz S st sl D nx z cf len) (hs : sz ≤ s1) (he : ∀ a, (x ≤ a ∧ a < x + 21) ∨ dyn ≤ a → h1 a = h a) : RA G h1 x dyn s1 S st sl D nx z cf len := by
  obtain ⟨a1, a2, a3, -, ⟨hf, of, t, t1, t2, t3, t4⟩, ⟨b1, b2⟩, ⟨c1, c2⟩, d1, d2, d3⟩ := w
  have g : ∀ a, x ≤ a → a < x + 21 → h1 a = h a := fun a q r => he a (Or.inl ⟨q, r⟩)
  exact ⟨a1, (g x (by omega) (by omega)).trans a2, a3.eq (fun a q r => g a (by omega) (by omega)), trivial,
    ⟨hf, of, t, (g _ (by omega) (by omega)).trans t1, (g _ (by omega) (by omega)).trans t2, (g _ (by omega) (by omega)).trans t3, (g _ (by omega) (by omega)).trans t4⟩,
    ⟨(g _ (by omega) (by omega)).trans b1, (g _ (by omega) (by omega)).trans b2⟩, ⟨(g _ (by omega) (by omega)).trans c1, (g _ (by omega) (by omega)).trans c2⟩,
    (g _ (by omega) (by omega)).trans d1, d2.eq hs (fun a q => he a (Or.inr q)), d3⟩
theorem RA.rd (w : RA G h x dyn sz S st sl D nx z cf len) : RD G h dyn sz st sl D := w.2.2.2.2.2.2.2.2.1
theorem RA.nx6 (w : RA G h x dyn sz S st sl D nx z cf len) : nx < 6 := w.2.2.2.2.2.2.2.2.2.1
theorem RA.z6 (w : RA G h x dyn sz S st sl D nx z cf len) : z ≤ 6 := w.2.2.2.2.2.2.2.2.2.2.1
theorem RA.l60 (w : RA G h x dyn sz S st sl D nx z cf len) : len ≤ 60 := w.2.2.2.2.2.2.2.2.2.2.2
theorem RA.ob (w : RA G h x dyn sz S st sl D nx z cf len) : h x = some (ob_ 5 [.ref (x + 1), .ref (x + 12), .ref (x + 16), .ref (x + 18), .ref (x + 20)]) := w.2.1
theorem RA.ne (w : RA G h x dyn sz S st sl D nx z cf len) {i j q r : Nat} (hi : i < 8) (hj : j < 8) (hij : i ≠ j) (e1 : gmI st sl i = some q) (e2 : gmI st sl j = some r) : r ≠ q := by
  rcases w.rd.2.2 i j q r hi hj hij e1 e2 with k | k <;> omega
theorem gmI_st {i : Nat} (h : i < 6) : gmI st sl i = st i := by unfold gmI; exact if_pos h
theorem gmI_s6 {i : Nat} : gmI st sl (6 + i) = sl i := by unfold gmI; rw [if_neg (by omega), Nat.add_sub_cancel_left]
theorem RA.st_ne {q n0 : Nat} (w : RA G h x dyn sz S (va_up st n0 (some q)) sl D nx z cf len) (hn : n0 < 6) : (∀ i r, i < 6 → i ≠ n0 → st i = some r → r ≠ q) ∧ ∀ j r, j < 2 → sl j = some r → r ≠ q := by
  refine ⟨fun i r hi hne e => w.ne (i := n0) (j := i) (by omega) (by omega) (fun k => hne k.symm) ?_ ?_, fun j r hj e => w.ne (i := n0) (j := 6 + j) (by omega) (by omega) (by omega) ?_ ?_⟩
  · rw [gmI_st hn, vup_s]
  · rw [gmI_st hi, vup_n hne]; exact e
  · rw [gmI_st hn, vup_s]
  · rw [gmI_s6]; exact e
theorem RA.sl_ne {q j : Nat} (w : RA G h x dyn sz S st (va_up sl j (some q)) D nx z cf len) (hj : j < 2) : (∀ i r, i < 6 → st i = some r → r ≠ q) ∧ ∀ i r, i < 2 → i ≠ j → sl i = some r → r ≠ q := by
  refine ⟨fun i r hi e => w.ne (i := 6 + j) (j := i) (by omega) (by omega) (by omega) ?_ ?_, fun i r hi hne e => w.ne (i := 6 + j) (j := 6 + i) (by omega) (by omega) (by omega) ?_ ?_⟩
  · rw [gmI_s6, vup_s]
  · rw [gmI_st hi]; exact e
  · rw [gmI_s6, vup_s]
  · rw [gmI_s6, vup_n hne]; exact e
end LW
/-- the class's state and the model's: the same -/
def RI (n : Nat) (S : gS) (st sl : Nat → Option Nat) (D : Nat → gS) (nx z : Nat) (cf : Nat → Int32) (len : Nat) (A : gS) (Hf : Nat → Int32) (kk : Nat) : Prop :=
  gOk n S ∧ hR S Hf ∧ A 6 1 = nI z ∧ A 6 2 = nI kk ∧ kk < 4 ∧ A 6 3 = nI len ∧ (∀ i, i < len → A 3 i = cf i) ∧ (∃ p w, A 6 4 = nI p ∧ A 6 5 = bI w) ∧ PS n (A 1) st D nx z ∧ SL n (A 2) kk sl D
section LR
variable {n n2 : Nat} {S S2 : gS} {st sl : Nat → Option Nat} {D : Nat → gS} {nx z len : Nat} {cf : Nat → Int32} {A A2 : gS} {Hf H2 : Nat → Int32} {kk : Nat}
theorem RI.ok (w : RI n S st sl D nx z cf len A Hf kk) : gOk n S := w.1
theorem RI.hr (w : RI n S st sl D nx z cf len A Hf kk) : hR S Hf := w.2.1
theorem RI.hz (w : RI n S st sl D nx z cf len A Hf kk) : A 6 1 = nI z := w.2.2.1
theorem RI.hkk (w : RI n S st sl D nx z cf len A Hf kk) : A 6 2 = nI kk := w.2.2.2.1
theorem RI.k4 (w : RI n S st sl D nx z cf len A Hf kk) : kk < 4 := w.2.2.2.2.1
theorem RI.hlen (w : RI n S st sl D nx z cf len A Hf kk) : A 6 3 = nI len := w.2.2.2.2.2.1
theorem RI.hcf (w : RI n S st sl D nx z cf len A Hf kk) : ∀ i, i < len → A 3 i = cf i := w.2.2.2.2.2.2.1
theorem RI.ht (w : RI n S st sl D nx z cf len A Hf kk) : ∃ p w, A 6 4 = nI p ∧ A 6 5 = bI w := w.2.2.2.2.2.2.2.1
theorem RI.ps (w : RI n S st sl D nx z cf len A Hf kk) : PS n (A 1) st D nx z := w.2.2.2.2.2.2.2.2.1
theorem RI.sl_ (w : RI n S st sl D nx z cf len A Hf kk) : SL n (A 2) kk sl D := w.2.2.2.2.2.2.2.2.2
theorem RI.up (w : RI n S st sl D nx z cf len A Hf kk) (hn : n ≤ n2) : RI n2 S st sl D nx z cf len A Hf kk := ⟨w.ok.up hn, w.hr, w.hz, w.hkk, w.k4, w.hlen, w.hcf, w.ht, w.ps.up hn, w.sl_.up hn⟩
theorem RI.thr (w : RI n S st sl D nx z cf len A Hf kk) (v : Int32) : RI n S st sl D nx z cf len (ac A 0 v) Hf kk := by
  refine ⟨w.ok, w.hr, (ac_n (by decide)).trans w.hz, (ac_n (by decide)).trans w.hkk, w.k4, (ac_n (by decide)).trans w.hlen, ?_, ?_, ?_, ?_⟩
  · rw [ac_o (by decide)]; exact w.hcf
  · obtain ⟨p, b, h1, h2⟩ := w.ht
    exact ⟨p, b, (ac_n (by decide)).trans h1, (ac_n (by decide)).trans h2⟩
  · rw [ac_o (by decide)]; exact w.ps
  · rw [ac_o (by decide)]; exact w.sl_
theorem RI.buf (w : RI n S st sl D nx z cf len A Hf kk) {j : Nat} (hj : j = 4 ∨ j = 5) (F : Nat → Int32) : RI n S st sl D nx z cf len (gu A j F) Hf kk := by
  have e : ∀ i, i ≠ 4 → i ≠ 5 → (gu A j F) i = A i := fun i h4 h5 => gu_n (by omega)
  unfold RI
  rw [e 6 (by decide) (by decide), e 3 (by decide) (by decide), e 1 (by decide) (by decide), e 2 (by decide) (by decide)]
  exact w
theorem RI.game (w : RI n S st sl D nx z cf len A Hf kk) (hn : n ≤ n2) (g : gOk n2 S2) (r : hR S2 H2) : RI n2 S2 st sl D nx z cf len A H2 kk := ⟨g, r, (w.up hn).2.2⟩
/-- behind a saving -/
theorem RI.save {q : Nat} {Sq : gS} (w : RI n S st sl D nx z cf len A Hf kk) (hz : z ≤ 6) (hnx : nx < 6) (hq : (∀ i r, i < 6 → i ≠ nx → st i = some r → r ≠ q) ∧ ∀ j r, j < 2 → sl j = some r → r ≠ q) (hn : n ≤ n2) (g : gOk n2 S2) (r : hR S2 H2) :
    RI n2 S2 (va_up st nx (some q)) sl (dU D q (g_bec Sq S)) (p_nx nx) (p_z z) cf len (ac (gu (ac A 0 0) 1 (m_sv (A 1) (en (gu S 1 Hf)) z)) 1 (nI (m_z z))) H2 kk := by
  have e6 : ∀ j, j ≠ 1 → j ≠ 0 → (ac (gu (ac A 0 0) 1 (m_sv (A 1) (en (gu S 1 Hf)) z)) 1 (nI (m_z z))) 6 j = A 6 j := fun j h1 h0 => by
    rw [ac_n h1, gu_n (by decide), ac_n h0]
  have e1 : (ac (gu (ac A 0 0) 1 (m_sv (A 1) (en (gu S 1 Hf)) z)) 1 (nI (m_z z))) 1 = m_sv (A 1) (en (gu S 1 Hf)) z := by rw [ac_o (by decide), gu_s]
  have eo : ∀ a, a ≠ 6 → a ≠ 1 → (ac (gu (ac A 0 0) 1 (m_sv (A 1) (en (gu S 1 Hf)) z)) 1 (nI (m_z z))) a = A a := fun a h6 h1 => by rw [ac_o h6, gu_n h1, ac_o h6]
  refine ⟨g, r, ?_, (e6 2 (by decide) (by decide)).trans w.hkk, w.k4, (e6 3 (by decide) (by decide)).trans w.hlen, ?_, ?_, ?_, ?_⟩
  · rw [ac_s, p_z6 hz]
  · rw [eo 3 (by decide) (by decide)]; exact w.hcf
  · obtain ⟨p, b, h1, h2⟩ := w.ht
    exact ⟨p, b, (e6 4 (by decide) (by decide)).trans h1, (e6 5 (by decide) (by decide)).trans h2⟩
  · rw [e1]
    exact (w.ps.save hz hnx hq.1 (bec_R Sq S) w.ok w.hr).up hn
  · rw [eo 2 (by decide) (by decide)]
    exact (w.sl_.dUs _ hq.2).up hn
theorem sv_0 {F : Nat → Int32} {u : Int32} : (ac (gu (ac A 0 0) 1 F) 1 u) 6 0 = 0 := by rw [ac_n (by decide), gu_n (by decide), ac_s]
end LR
/-- what holds between the calls -/
def LI (G : ga_) (h : HP) (sz x n : Nat) : Prop := ∃ (S : gS) (st sl : Nat → Option Nat) (D : Nat → gS) (nx z : Nat) (cf : Nat → Int32) (len : Nat) (A : gS) (dg : Int64) (Hf : Nat → Int32) (fo : Nat → Int64) (kk : Nat), RA G h x (x + 29) sz S st sl D nx z cf len ∧ MA G h (x + 21) (gu S 1 Hf) A dg ∧ h (x + 28) = some (aJ_ G 1 fo) ∧ RI n S st sl D nx z cf len A Hf kk
/-- the model's call answers b, with thrown k, and leaves all as it should be -/
def StpL (G : ga_) (l : Launch) (y : MethodName) (cc : ByteArray) (nL fr lo : Nat) (av : List Value) (h2 : HP) (s2 x n : Nat) (k : Int32) : Prop := ∃ (b : Int32) (h3 : HP), (∃ fs, h2 (x + 21) = some (ob_ 6 fs)) ∧ Mf G l y cc nL (some .int) fr lo 0 0 av h2 s2 (some (.int b)) h3 s2 ∧ LI G h3 s2 x n ∧ (∃ S2 A2 dg2, MA G h3 (x + 21) S2 A2 dg2 ∧ A2 6 0 = k) ∧ (k = 0 → ∃ fo, h3 (x + 28) = some (aJ_ G 1 fo) ∧ fo (0 : Int32).toNatClampNeg = b.toInt64)
section LS
variable {l : Launch} {G : ga_} {h h1 h2 : HP} {sz s1 s2 x : Nat} {n n2 : Nat} {S S2 : gS} {st sl : Nat → Option Nat} {D : Nat → gS} {nx z len : Nat} {cf : Nat → Int32} {A A2 : gS} {Hf H2 : Nat → Int32} {kk : Nat} {dg : Int64} {fo : Nat → Int64}
variable {y : MethodName} {cc : ByteArray} {nL fr lo : Nat} {av : List Value}
theorem MA.frk (w : MA G h (x + 21) S A dg) (q : fr_ h h1 x (x + 29)) : MA G h1 (x + 21) S A dg := fun j hj => (q (x + 21 + j) (by omega) (by omega)).trans (w j hj)
theorem MA.upk (w : MA G h (x + 21) S A dg) (e : va_E) : MA G (up_ h (x + 28) e) (x + 21) S A dg := fun j hj => (up_n (by omega)).trans (w j hj)
/-- behind the model's call -/
theorem LI.mk (w : RA G h x (x + 29) sz S st sl D nx z cf len) (hs : sz ≤ s1) (wo : h (x + 28) = some (aJ_ G 1 fo)) (R : RI n S st sl D nx z cf len A Hf kk) : LI G (pM G h (x + 21) (gu S 1 Hf) A dg) s1 x n :=
  ⟨S, st, sl, D, nx, z, cf, len, A, dg, Hf, fo, kk, w.moved hs (fun a q => pM_out (by omega)), MA_pM, (pM_out (by omega)).trans wo, R⟩
theorem stp_gen {t : Option String} {E1 : String} {Post : Option Value → HP → Nat → Prop} (w : RA G h x (x + 29) sz S st sl D nx z cf len) (wM : MA G h (x + 21) (gu S 1 Hf) A dg) (wo : h (x + 28) = some (aJ_ G 1 fo)) (R : RI n S st sl D nx z cf len A Hf kk) (hn : n ≤ n2)
    (hX : ∀ E, t = some E → ∀ s2, Mf G l y cc nL (some .int) fr lo 0 0 av h s2 (some (.int 0)) (pM G h (x + 21) (gu S 1 Hf) (ac A 0 (if E = E1 then 1 else 2)) dg) s2)
    (hT : ∀ r h1 s1, Post (some (.int r)) h1 s1 → fr_ h h1 x (x + 29) ∧ ∃ S2 st2 sl2 D2 nx2 z2 cf2 len2 A2 dg2 H2 kk2, RA G h1 x (x + 29) s1 S2 st2 sl2 D2 nx2 z2 cf2 len2 ∧ RI n2 S2 st2 sl2 D2 nx2 z2 cf2 len2 A2 H2 kk2 ∧ A2 6 0 = 0 ∧ ∀ h2, MA G h2 (x + 21) (gu S 1 Hf) A dg → Mf G l y cc nL (some .int) fr lo 0 0 av h2 s1 (some (.int r)) (pM G h2 (x + 21) (gu S2 1 H2) A2 dg2) s1) :
    ∀ v h2 s2, poW G h sz (x + 28) t E1 Post v h2 s2 → ∃ k, v = some (.int k) ∧ StpL G l y cc nL fr lo av h2 s2 x n2 k := by
  rintro v h2 s2 (⟨r, h1, f, rfl, hp, ho, rfl⟩ | ⟨E, ht, rfl, rfl, hs⟩)
  · obtain ⟨q, S2, st2, sl2, D2, nx2, z2, cf2, len2, A2, dg2, H2, kk2, w2, R2, e0, hM⟩ := hT r h1 s2 hp
    have wM2 : MA G (up_ h1 (x + 28) (aJ_ G 1 (vp_updL f (0 : Int32).toNatClampNeg r.toInt64))) (x + 21) (gu S 1 Hf) A dg := (wM.frk q).upk _
    have w3 : RA G (up_ h1 (x + 28) (aJ_ G 1 (vp_updL f (0 : Int32).toNatClampNeg r.toInt64))) x (x + 29) s2 S2 st2 sl2 D2 nx2 z2 cf2 len2 := w2.moved (Nat.le_refl _) (fun a c => up_n (by omega))
    refine ⟨0, rfl, r, _, ⟨_, MA_o wM2⟩, hM _ wM2, LI.mk w3 (Nat.le_refl _) (up_s _ _ _) R2, ⟨_, _, _, MA_pM, e0⟩, fun _ => ⟨_, (pM_out (by omega)).trans (up_s _ _ _), ?_⟩⟩
    unfold vp_updL
    exact if_pos rfl
  · refine ⟨_, rfl, 0, _, ⟨_, MA_o wM⟩, hX E ht s2, LI.mk w hs wo ((R.up hn).thr _), ⟨_, _, _, MA_pM, ac_s⟩, fun k => ?_⟩
    exact absurd k (by split <;> decide)
/-- a call that saves and makes a turn -/
theorem hT_M {ok : Bool} {r0 : Int32} (w : RA G h x (x + 29) sz S st sl D nx z cf len) (R : RI n S st sl D nx z cf len A Hf kk) (hn : n ≤ n2)
    (hM : ok = true → gOk n2 S2 ∧ ∃ H2, hR S2 H2 ∧ ∀ h2 s1, MA G h2 (x + 21) (gu S 1 Hf) A dg → Mf G l y cc nL (some .int) fr lo 0 0 av h2 s1 (some (.int r0)) (pM G h2 (x + 21) (gu S2 1 H2) (ac (gu (ac A 0 0) 1 (m_sv (A 1) (en (gu S 1 Hf)) z)) 1 (nI (m_z z))) dg) s1) :
    ∀ r h1 s1, poM G h x (x + 29) sz S st sl D nx z cf len ok r0 S2 len (some (.int r)) h1 s1 → fr_ h h1 x (x + 29) ∧ ∃ S2 st2 sl2 D2 nx2 z2 cf2 len2 A2 dg2 H2 kk2, RA G h1 x (x + 29) s1 S2 st2 sl2 D2 nx2 z2 cf2 len2 ∧ RI n2 S2 st2 sl2 D2 nx2 z2 cf2 len2 A2 H2 kk2 ∧ A2 6 0 = 0 ∧ ∀ h2, MA G h2 (x + 21) (gu S 1 Hf) A dg → Mf G l y cc nL (some .int) fr lo 0 0 av h2 s1 (some (.int r)) (pM G h2 (x + 21) (gu S2 1 H2) A2 dg2) s1 := by
  rintro r h1 s1 ⟨hv, hok, hs, hf, q, Sq, hq, w2⟩
  cases hv
  obtain ⟨g2, H2, r2, m2⟩ := hM hok
  exact ⟨hf, _, _, _, _, _, _, _, _, _, _, _, _, w2, R.save w.z6 w.nx6 (w2.st_ne w.nx6) hn g2 r2, sv_0, fun h2 k => m2 h2 s1 k⟩
/-- a call that only reads -/
theorem hT_L {ok : Bool} {r0 : Int32} (w : RA G h x (x + 29) sz S st sl D nx z cf len) (R : RI n S st sl D nx z cf len A Hf kk) (hn : n ≤ n2)
    (hM : ok = true → ∀ h2 s1, MA G h2 (x + 21) (gu S 1 Hf) A dg → Mf G l y cc nL (some .int) fr lo 0 0 av h2 s1 (some (.int r0)) (pM G h2 (x + 21) (gu S 1 Hf) (ac A 0 0) dg) s1) :
    ∀ r h1 s1, poL h sz ok r0 (some (.int r)) h1 s1 → fr_ h h1 x (x + 29) ∧ ∃ S2 st2 sl2 D2 nx2 z2 cf2 len2 A2 dg2 H2 kk2, RA G h1 x (x + 29) s1 S2 st2 sl2 D2 nx2 z2 cf2 len2 ∧ RI n2 S2 st2 sl2 D2 nx2 z2 cf2 len2 A2 H2 kk2 ∧ A2 6 0 = 0 ∧ ∀ h2, MA G h2 (x + 21) (gu S 1 Hf) A dg → Mf G l y cc nL (some .int) fr lo 0 0 av h2 s1 (some (.int r)) (pM G h2 (x + 21) (gu S2 1 H2) A2 dg2) s1 := by
  rintro r h1 s1 ⟨hv, hok, rfl, rfl⟩
  cases hv
  exact ⟨fun _ _ _ => rfl, _, _, _, _, _, _, _, _, _, _, _, _, w, (R.up hn).thr 0, ac_s, fun h2 k => hM hok h2 s1 k⟩
theorem hv_of {Post : Option Value → HP → Nat → Prop} (wo : h (x + 28) = some (aJ_ G 1 fo)) (hi : ∀ v h1 s1, Post v h1 s1 → ∃ r, v = some (.int r)) (hT : ∀ r h1 s1, Post (some (.int r)) h1 s1 → fr_ h h1 x (x + 29)) : ∀ v h1 s1, Post v h1 s1 → ∃ r f, v = some (.int r) ∧ h1 (x + 28) = some (aJ_ G 1 f) := by
  intro v h1 s1 hp
  obtain ⟨r, rfl⟩ := hi v h1 s1 hp
  exact ⟨r, fo, rfl, (hT r h1 s1 hp (x + 28) (by omega) (by omega)).trans wo⟩
/-- what the law's walk wants of a wrapper -/
def Wc (G : ga_) (l : Launch) (yL : MethodName) (cL : ByteArray) (mL : Nat) (hh : List (Nat × Nat × Nat × Nat)) (aL : List Value) (y : MethodName) (cc : ByteArray) (nL fr lo : Nat) (av : List Value) (h : HP) (sz x n : Nat) : Prop := ∃ Po, Mw G l yL cL mL (some .int) hh 8 240 13 400 aL h sz Po ∧ ∀ v h2 s2, Po v h2 s2 → ∃ k, v = some (.int k) ∧ StpL G l y cc nL fr lo av h2 s2 x n k
end LS
