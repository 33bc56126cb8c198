/-! THE LAW'S STEPS: WRAPPERS, 2 -/
theorem g_stk {X : gS} {F : Nat → Int32} : g_stock (gu X 1 F) = g_stock X := rfl
theorem xchar_id : ∀ k, k < 127 → x_char (nI k) = nI k := by decide +kernel
section LR2
variable {n n2 : Nat} {S S2 : gS} {st sl : Nat → Option Nat} {D : Nat → gS} {nx z len : Nat} {cf : Nat → Int32} {A A2 : gS} {Hf H2 : Nat → Int32} {kk : Nat}
theorem RI.txt (w : RI n S st sl D nx z cf len A Hf kk) {cf2 : Nat → Int32} {len2 : Nat} (e1 : A2 6 1 = A 6 1) (e2 : A2 6 2 = A 6 2) (e3 : A2 6 3 = nI len2) (ef : ∀ i, i < len2 → A2 3 i = cf2 i) (et : ∃ p w, A2 6 4 = nI p ∧ A2 6 5 = bI w) (a1 : A2 1 = A 1) (a2 : A2 2 = A 2) : RI n S st sl D nx z cf2 len2 A2 Hf kk :=
  ⟨w.ok, w.hr, e1.trans w.hz, e2.trans w.hkk, w.k4, e3, ef, et, by rw [a1]; exact w.ps, by rw [a2]; exact w.sl_⟩
theorem RI.txA (w : RI n S st sl D nx z cf len A Hf kk) (t : tT_) : RI n S st sl D nx z cf len (tA A t) Hf kk :=
  w.txt (tA_n (by decide)) (tA_n (by decide)) ((tA_n (by decide)).trans w.hlen) (by rw [tA_o (by decide)]; exact w.hcf) ⟨_, _, tA_45.1, tA_45.2⟩ (tA_o (by decide)) (tA_o (by decide))
theorem RI.keep {j q : Nat} {Sq : gS} (w : RI n S st sl D nx z cf len A Hf kk) (hj : j < 2) (hq : (∀ i r, i < 6 → st i = some r → r ≠ q) ∧ ∀ i r, i < 2 → i ≠ j → sl i = some r → r ≠ q) : RI n S st (va_up sl j (some q)) (dU D q (g_bec Sq S)) nx z cf len (ac (gu (ac A 0 0) 2 (va_cpy (en (gu S 1 Hf)) (A 2) 0 (372 * j) 372)) 2 (nI (kk ||| 2 ^ j))) Hf (kk ||| 2 ^ j) := by
  have e6 : ∀ i, i ≠ 2 → i ≠ 0 → (ac (gu (ac A 0 0) 2 (va_cpy (en (gu S 1 Hf)) (A 2) 0 (372 * j) 372)) 2 (nI (kk ||| 2 ^ j))) 6 i = A 6 i := fun i h1 h0 => by
    rw [ac_n h1, gu_n (by decide), ac_n h0]
  have eo : ∀ a, a ≠ 6 → a ≠ 2 → (ac (gu (ac A 0 0) 2 (va_cpy (en (gu S 1 Hf)) (A 2) 0 (372 * j) 372)) 2 (nI (kk ||| 2 ^ j))) a = A a := fun a h6 h1 => by rw [ac_o h6, gu_n h1, ac_o h6]
  refine ⟨w.ok, w.hr, (e6 1 (by decide) (by decide)).trans w.hz, ac_s, (bit_or kk w.k4 j hj 0 (by decide)).2, (e6 3 (by decide) (by decide)).trans w.hlen, ?_, ?_, ?_, ?_⟩
  · rw [eo 3 (by decide) (by decide)]; exact w.hcf
  · obtain ⟨p, b, h1, h2⟩ := w.ht
    exact ⟨p, b, (e6 4 (by decide) (by decide)).trans h1, (e6 5 (by decide) (by decide)).trans h2⟩
  · rw [eo 1 (by decide) (by decide)]
    exact w.ps.dUs _ hq.1
  · rw [ac_o (by decide), gu_s]
    exact w.sl_.keep w.k4 hj hq.2 (bec_R Sq S) w.ok w.hr
theorem kp_0 {F : Nat → Int32} {u : Int32} {j k : Nat} (hj : j ≠ 6) (hk : k ≠ 0) : (ac (gu (ac A 0 0) j F) k u) 6 0 = 0 := by rw [ac_n (fun q => hk q.symm), gu_n (fun q => hj q.symm), ac_s]
end LR2
section LS2
variable {l : Launch} {G : ga_} {h h1 h2 : HP} {sz s1 s2 x : Nat} {n n2 : Nat} {S S2 : gS} {st sl : Nat → Option Nat} {D : Nat → gS} {nx z len : Nat} {cf : Nat → Int32} {A A2 : gS} {Hf H2 : Nat → Int32} {kk : Nat} {dg : Int64} {fo : Nat → Int64}
variable {y : MethodName} {cc : ByteArray} {nL fr lo : Nat} {av : List Value}
theorem stp_gen2 {t : Option String} {E1 : String} {Post : Option Value → HP → Nat → Prop} (w : RA G h x (x + 29) sz S st sl D nx z cf len) (wM : MA G h (x + 21) (gu S 1 Hf) A dg) (wo : h (x + 28) = some (aJ_ G 1 fo)) (R : RI n S st sl D nx z cf len A Hf kk) (hn : n ≤ n2)
    (hX : ∀ E, t = some E → ∀ s2, ∃ A3, RI n S st sl D nx z cf len A3 Hf kk ∧ A3 6 0 = (if E = E1 then 1 else 2) ∧ Mf G l y cc nL (some .int) fr lo 0 0 av h s2 (some (.int 0)) (pM G h (x + 21) (gu S 1 Hf) A3 dg) s2)
    (hT : ∀ r h1 s1, Post (some (.int r)) h1 s1 → fr_ h h1 x (x + 29) ∧ ∃ S2 st2 sl2 D2 nx2 z2 cf2 len2 A2 dg2 H2 kk2, RA G h1 x (x + 29) s1 S2 st2 sl2 D2 nx2 z2 cf2 len2 ∧ RI n2 S2 st2 sl2 D2 nx2 z2 cf2 len2 A2 H2 kk2 ∧ A2 6 0 = 0 ∧ ∀ h2, MA G h2 (x + 21) (gu S 1 Hf) A dg → Mf G l y cc nL (some .int) fr lo 0 0 av h2 s1 (some (.int r)) (pM G h2 (x + 21) (gu S2 1 H2) A2 dg2) s1) :
    ∀ v h2 s2, poW G h sz (x + 28) t E1 Post v h2 s2 → ∃ k, v = some (.int k) ∧ StpL G l y cc nL fr lo av h2 s2 x n2 k := by
  rintro v h2 s2 (hp | ⟨E, ht, rfl, rfl, hs⟩)
  · exact stp_gen (t := none) (sz := sz) (E1 := E1) w wM wo R hn (fun E q => by cases q) hT v h2 s2 (Or.inl hp)
  · obtain ⟨A3, q1, q2, q3⟩ := hX E ht s2
    refine ⟨_, rfl, 0, _, ⟨_, MA_o wM⟩, q3, LI.mk w hs wo (q1.up hn), ⟨_, _, _, MA_pM, q2⟩, fun k => ?_⟩
    exact absurd k (by split <;> decide)
end LS2
set_option maxHeartbeats 800000 in
theorem w_begin {l : Launch} {G : ga_} {h : HP} {sz x n : Nat} {a b : Int32} (hst : l.stackTraces = false) (I : LI G h sz x n) (hn : n < 999000) : Wc G l yL_begin cL_begin 5 [(0, 10, 13, 13)] [.ref x, .int a, .int b, .ref (x + 28)] yX6_begin cX6_begin 3 3 67 [.ref (x + 21), .int a, .int b] h sz x (n + 2) := by
  obtain ⟨S, st, sl, D, nx, z, cf, len, A, dg, Hf, fo, kk, w, wM, wo, R⟩ := I
  have gs := R.ok.sw R.hr
  have hk : ∀ p, p < 4 → k_k S (nI p) ≤ 28 := fun p hp => R.ok.kle hp
  obtain ⟨P, hP2, hP4, hP, hmv, -⟩ := R.ok.nb.pl
  have hpl : ∀ u, m_in u 0 ((gu S 1 Hf) 5 0 - 1) = g_has S u := fun u => hasN hP hP4 u
  have hX : ∀ E, th1 (tBegin a b) eIA = some E → ∀ s2, Mf G l yX6_begin cX6_begin 3 (some .int) 3 67 0 0 [.ref (x + 21), .int a, .int b] h s2 (some (.int 0)) (pM G h (x + 21) (gu S 1 Hf) (ac A 0 (if E = eIA then 1 else 2)) dg) s2 := by
    intro E ht s2
    obtain ⟨z1, rfl⟩ := th1_or ht
    rw [if_pos rfl]
    exact c_X6_begin_f wM ((minB _ _).trans z1)
  have hT : ∀ r h1 s1, (fun v h1 s1 => tBegin a b = true ∧ sz ≤ s1 ∧ fr_ h h1 x (x + 29) ∧ ∃ q Sq, v = some (.int (g_stock (s_3 S a b))) ∧ (st nx = some q ∧ Sq = D q ∨ st nx = none ∧ Sq = gS0) ∧ RA G h1 x (x + 29) s1 (s_3 S a b) (va_up st nx (some q)) sl (dU D q (g_bec Sq S)) (p_nx nx) (p_z z) cf len : Option Value → HP → Nat → Prop) (some (.int r)) h1 s1 → fr_ h h1 x (x + 29) ∧ ∃ S2 st2 sl2 D2 nx2 z2 cf2 len2 A2 dg2 H2 kk2, RA G h1 x (x + 29) s1 S2 st2 sl2 D2 nx2 z2 cf2 len2 ∧ RI (n + 2) S2 st2 sl2 D2 nx2 z2 cf2 len2 A2 H2 kk2 ∧ A2 6 0 = 0 ∧ ∀ h2, MA G h2 (x + 21) (gu S 1 Hf) A dg → Mf G l yX6_begin cX6_begin 3 (some .int) 3 67 0 0 [.ref (x + 21), .int a, .int b] h2 s1 (some (.int r)) (pM G h2 (x + 21) (gu S2 1 H2) A2 dg2) s1 := by
    rintro r h1 s1 ⟨hok, hs, hf, q, Sq, hv, hq, w2⟩
    have hv1 := Value.int.inj (Option.some.inj hv)
    subst hv1
    rw [← minB, Bool.and_eq_true] at hok
    obtain ⟨u, hu2, hu4, rfl⟩ := m_in_nat (a := 2) (b := 4) (by decide) hok.1 (by decide)
    obtain ⟨xb, -, hxb, hb⟩ := m_in_nat (a := 0) (b := 9999) (by decide) hok.2 (by decide)
    obtain ⟨g2, H2, m1, m2⟩ := begin_eq (f5 := A 5) (x := b) (Hf := Hf) ⟨xb, by omega, hb⟩ R.ok hu2 hu4
    have hS4 : ∀ i, i < 28 → ∃ t, t < 28 ∧ (gu S 1 Hf) 4 i = nI t := by
      obtain ⟨P, K, W, Q, T, F, H, R, L, gr, ag, o, -⟩ := gs
      exact o.t4.1
    refine ⟨hf, _, _, _, _, _, _, _, _, _, dg, _, _, w2, (R.save (n2 := n + 2) w.z6 w.nx6 (w2.st_ne w.nx6) (by omega) (g2.up (by omega)) m2).buf (Or.inr rfl) (m_la b (A 5) 28), (congrFun (gu_n (by decide)) 0).trans sv_0, fun h2 k => ?_⟩
    have q := c_X6_begin_t (l := l) (sz := s1) (x := b) k hu2 hu4 hok.2 R.hz w.z6 hS4
    rw [m1, g_stk] at q
    exact q
  exact ⟨_, c_L_begin w.ob (c_X5_begin hst w) ⟨by decide, by decide, by decide, by decide⟩ (fun E q => (th1_or q).2) (hv_of wo (fun v h1 s1 hp => by obtain ⟨-, -, -, q, Sq, hv, -⟩ := hp; exact ⟨_, hv⟩) (fun r h1 s1 hp => (hT r h1 s1 hp).1)), stp_gen w wM wo R (by omega) hX hT⟩
set_option maxHeartbeats 800000 in
theorem w_append {l : Launch} {G : ga_} {h : HP} {sz x n : Nat} {a : Int32} (hst : l.stackTraces = false) (I : LI G h sz x n) (hn : n < 999000) : Wc G l yL_append cL_append 4 [(0, 9, 12, 13), (0, 9, 15, 31)] [.ref x, .int a, .ref (x + 28)] yX6_append cX6_append 2 1 22 [.ref (x + 21), .int a] h sz x (n + 2) := by
  obtain ⟨S, st, sl, D, nx, z, cf, len, A, dg, Hf, fo, kk, w, wM, wo, R⟩ := I
  have gs := R.ok.sw R.hr
  have hk : ∀ p, p < 4 → k_k S (nI p) ≤ 28 := fun p hp => R.ok.kle hp
  obtain ⟨P, hP2, hP4, hP, hmv, -⟩ := R.ok.nb.pl
  have hpl : ∀ u, m_in u 0 ((gu S 1 Hf) 5 0 - 1) = g_has S u := fun u => hasN hP hP4 u
  have hX : ∀ E, th2 (okCh a) eIA (decide (len < 60)) eIS = some E → ∀ s2, Mf G l yX6_append cX6_append 2 (some .int) 1 22 0 0 [.ref (x + 21), .int a] h s2 (some (.int 0)) (pM G h (x + 21) (gu S 1 Hf) (ac A 0 (if E = eIA then 1 else 2)) dg) s2 := by
    intro E ht s2
    rcases th2_or ht with ⟨z1, rfl⟩ | ⟨z1, z2, rfl⟩
    · rw [if_pos rfl]
      exact c_X6_append_f wM ((minC _).trans z1)
    · rw [if_neg (by decide)]
      have z3 := of_decide_eq_false z2
      have l6 := w.l60
      exact c_X6_append_n wM (by rw [R.hlen, show len = 60 by omega]; rfl) ((minC _).trans z1)
  have hT : ∀ r h1 s1, poX G h x (x + 29) sz S st sl D nx z (okCh a && decide (len < 60)) (nI (len + 1)) (upd cf len (x_char a)) (len + 1) (some (.int r)) h1 s1 → fr_ h h1 x (x + 29) ∧ ∃ S2 st2 sl2 D2 nx2 z2 cf2 len2 A2 dg2 H2 kk2, RA G h1 x (x + 29) s1 S2 st2 sl2 D2 nx2 z2 cf2 len2 ∧ RI (n + 2) S2 st2 sl2 D2 nx2 z2 cf2 len2 A2 H2 kk2 ∧ A2 6 0 = 0 ∧ ∀ h2, MA G h2 (x + 21) (gu S 1 Hf) A dg → Mf G l yX6_append cX6_append 2 (some .int) 1 22 0 0 [.ref (x + 21), .int a] h2 s1 (some (.int r)) (pM G h2 (x + 21) (gu S2 1 H2) A2 dg2) s1 := by
    rintro r h1 s1 ⟨hv, hok, rfl, hf, w2⟩
    have hv1 := Value.int.inj (Option.some.inj hv)
    subst hv1
    rw [Bool.and_eq_true] at hok
    have l6 := of_decide_eq_true hok.2
    have hc : x_char a = a := by
      have y := hok.1
      rw [← minC] at y
      obtain ⟨u, hu2, hu4, rfl⟩ := m_in_nat (a := 33) (b := 126) (by decide) y (by decide)
      exact xchar_id u (by omega)
    rw [hc] at w2
    have R2 : RI (n + 2) S st sl D nx z (upd cf len a) (len + 1) (ac (gu (ac A 0 0) 3 (upd (A 3) len a)) 3 (nI (len + 1))) Hf kk := by
      refine (R.up (by omega)).txt ?_ ?_ ac_s ?_ ?_ ?_ ?_
      · rw [ac_n (by decide), gu_n (by decide), ac_n (by decide)]
      · rw [ac_n (by decide), gu_n (by decide), ac_n (by decide)]
      · intro i hi
        rw [ac_o (by decide), gu_s]
        by_cases c : i = len
        · subst c; rw [upd_s, upd_s]
        · rw [upd_n c, upd_n c]; exact R.hcf i (by omega)
      · obtain ⟨p, b, t1, t2⟩ := R.ht
        refine ⟨p, b, ?_, ?_⟩
        · rw [ac_n (by decide), gu_n (by decide), ac_n (by decide)]; exact t1
        · rw [ac_n (by decide), gu_n (by decide), ac_n (by decide)]; exact t2
      · rw [ac_o (by decide), gu_n (by decide), ac_o (by decide)]
      · rw [ac_o (by decide), gu_n (by decide), ac_o (by decide)]
    exact ⟨hf, _, _, _, _, _, _, _, _, _, dg, _, _, w2, R2, kp_0 (by decide) (by decide), fun h2 k => c_X6_append_t k R.hlen l6 ((minC _).trans hok.1)⟩
  exact ⟨_, c_L_append w.ob (c_X5_append hst w) ⟨by decide, by decide, by decide, by decide⟩ (fun E q => by rcases th2_or q with ⟨-, q2⟩ | ⟨-, -, q2⟩; exact Or.inl q2; exact Or.inr q2) (hv_of wo (fun v h1 s1 hp => ⟨_, hp.1⟩) (fun r h1 s1 hp => (hT r h1 s1 hp).1)), stp_gen w wM wo R (by omega) hX hT⟩
set_option maxHeartbeats 800000 in
theorem w_keep {l : Launch} {G : ga_} {h : HP} {sz x n : Nat} {a : Int32} (hst : l.stackTraces = false) (I : LI G h sz x n) (hn : n < 999000) : Wc G l yL_keep cL_keep 4 [(0, 9, 12, 13)] [.ref x, .int a, .ref (x + 28)] yX6_keep cX6_keep 3 1 22 [.ref (x + 21), .int a] h sz x (n + 2) := by
  obtain ⟨S, st, sl, D, nx, z, cf, len, A, dg, Hf, fo, kk, w, wM, wo, R⟩ := I
  have gs := R.ok.sw R.hr
  have hk : ∀ p, p < 4 → k_k S (nI p) ≤ 28 := fun p hp => R.ok.kle hp
  obtain ⟨P, hP2, hP4, hP, hmv, -⟩ := R.ok.nb.pl
  have hpl : ∀ u, m_in u 0 ((gu S 1 Hf) 5 0 - 1) = g_has S u := fun u => hasN hP hP4 u
  have hX : ∀ E, th1 (okN a 2) eIA = some E → ∀ s2, Mf G l yX6_keep cX6_keep 3 (some .int) 1 22 0 0 [.ref (x + 21), .int a] h s2 (some (.int 0)) (pM G h (x + 21) (gu S 1 Hf) (ac A 0 (if E = eIA then 1 else 2)) dg) s2 := by
    intro E ht s2
    obtain ⟨z1, rfl⟩ := th1_or ht
    rw [if_pos rfl]
    exact c_X6_keep_f wM ((min2 _).trans z1)
  have hT : ∀ r h1 s1, (fun v h1 s1 => okN a 2 = true ∧ sz ≤ s1 ∧ fr_ h h1 x (x + 29) ∧ ∃ q Sq, v = some (.int (g_stock S)) ∧ (sl a.toNatClampNeg = some q ∧ Sq = D q ∨ sl a.toNatClampNeg = none ∧ Sq = gS0) ∧ RA G h1 x (x + 29) s1 S st (va_up sl a.toNatClampNeg (some q)) (dU D q (g_bec Sq S)) nx z cf len : Option Value → HP → Nat → Prop) (some (.int r)) h1 s1 → fr_ h h1 x (x + 29) ∧ ∃ S2 st2 sl2 D2 nx2 z2 cf2 len2 A2 dg2 H2 kk2, RA G h1 x (x + 29) s1 S2 st2 sl2 D2 nx2 z2 cf2 len2 ∧ RI (n + 2) S2 st2 sl2 D2 nx2 z2 cf2 len2 A2 H2 kk2 ∧ A2 6 0 = 0 ∧ ∀ h2, MA G h2 (x + 21) (gu S 1 Hf) A dg → Mf G l yX6_keep cX6_keep 3 (some .int) 1 22 0 0 [.ref (x + 21), .int a] h2 s1 (some (.int r)) (pM G h2 (x + 21) (gu S2 1 H2) A2 dg2) s1 := by
    rintro r h1 s1 ⟨hok, hs, hf, q, Sq, hv, hq, w2⟩
    have hv1 := Value.int.inj (Option.some.inj hv)
    subst hv1
    obtain ⟨j, hj, rfl⟩ := okN_nat (k := 2) (by decide) hok
    rw [nI_clamp (by omega)] at w2
    exact ⟨hf, _, _, _, _, _, _, _, _, _, dg, _, _, w2, (R.keep hj (w2.sl_ne hj)).up (by omega), kp_0 (by decide) (by decide), fun h2 k => c_X6_keep_t k hj R.hkk R.k4⟩
  exact ⟨_, c_L_keep w.ob (c_X5_keep hst w) ⟨by decide, by decide, by decide, by decide⟩ (fun E q => (th1_or q).2) (hv_of wo (fun v h1 s1 hp => by obtain ⟨-, -, -, q, Sq, hv, -⟩ := hp; exact ⟨_, hv⟩) (fun r h1 s1 hp => (hT r h1 s1 hp).1)), stp_gen w wM wo R (by omega) hX hT⟩
set_option maxHeartbeats 800000 in
theorem w_undo {l : Launch} {G : ga_} {h : HP} {sz x n : Nat} (hst : l.stackTraces = false) (I : LI G h sz x n) (hn : n < 999000) : Wc G l yL_undo cL_undo 3 [(0, 8, 11, 31)] [.ref x, .ref (x + 28)] yX6_undo cX6_undo 2 1 21 [.ref (x + 21)] h sz x (n + 2) := by
  obtain ⟨S, st, sl, D, nx, z, cf, len, A, dg, Hf, fo, kk, w, wM, wo, R⟩ := I
  have gs := R.ok.sw R.hr
  have hk : ∀ p, p < 4 → k_k S (nI p) ≤ 28 := fun p hp => R.ok.kle hp
  obtain ⟨P, hP2, hP4, hP, hmv, -⟩ := R.ok.nb.pl
  have hpl : ∀ u, m_in u 0 ((gu S 1 Hf) 5 0 - 1) = g_has S u := fun u => hasN hP hP4 u
  have hlast : z ≠ 0 → (st (p_last nx)).isSome = true := fun z0 => by
    obtain ⟨q2, Hq, l1, -⟩ := R.ps.last w.z6 (by omega) w.nx6
    rw [l1]; rfl
  have hX : ∀ E, th1 (!decide (z = 0)) eIS = some E → ∀ s2, Mf G l yX6_undo cX6_undo 2 (some .int) 1 21 0 0 [.ref (x + 21)] h s2 (some (.int 0)) (pM G h (x + 21) (gu S 1 Hf) (ac A 0 (if E = eIS then 1 else 2)) dg) s2 := by
    intro E ht s2
    obtain ⟨z1, rfl⟩ := th1_or ht
    rw [if_pos rfl]
    exact c_X6_undo_f wM (by rw [R.hz, of_decide_eq_true (not_t z1)]; rfl)
  have hT : ∀ r h1 s1, (fun v h1 s1 => z ≠ 0 ∧ s1 = sz ∧ fr_ h h1 x (x + 29) ∧ ∃ q, st (p_last nx) = some q ∧ v = some (.int (nI (z - 1))) ∧ RA G h1 x (x + 29) s1 (g_bec S (D q)) st sl D (p_last nx) (z - 1) cf len : Option Value → HP → Nat → Prop) (some (.int r)) h1 s1 → fr_ h h1 x (x + 29) ∧ ∃ S2 st2 sl2 D2 nx2 z2 cf2 len2 A2 dg2 H2 kk2, RA G h1 x (x + 29) s1 S2 st2 sl2 D2 nx2 z2 cf2 len2 ∧ RI (n + 2) S2 st2 sl2 D2 nx2 z2 cf2 len2 A2 H2 kk2 ∧ A2 6 0 = 0 ∧ ∀ h2, MA G h2 (x + 21) (gu S 1 Hf) A dg → Mf G l yX6_undo cX6_undo 2 (some .int) 1 21 0 0 [.ref (x + 21)] h2 s1 (some (.int r)) (pM G h2 (x + 21) (gu S2 1 H2) A2 dg2) s1 := by
    rintro r h1 s1 ⟨hz0, rfl, hf, q, hq, hv, w2⟩
    have hv1 := Value.int.inj (Option.some.inj hv)
    subst hv1
    obtain ⟨q2, Hq, l1, l2, l3, l4⟩ := R.ps.last w.z6 (by omega) w.nx6
    cases hq.symm.trans l1
    have R2 : RI n (g_bec S (D q)) st sl D (p_last nx) (z - 1) cf len (ac (ac A 0 0) 1 (nI (z - 1))) Hq kk := by
      refine ⟨(bec_R S (D q)).ok l2, (bec_R S (D q)).rel l2 l3, ac_s, ?_, R.k4, ?_, ?_, ?_, ?_, ?_⟩
      · rw [ac_n (by decide), ac_n (by decide)]; exact R.hkk
      · rw [ac_n (by decide), ac_n (by decide)]; exact R.hlen
      · rw [ac_o (by decide), ac_o (by decide)]; exact R.hcf
      · obtain ⟨p, b, t1, t2⟩ := R.ht
        refine ⟨p, b, ?_, ?_⟩
        · rw [ac_n (by decide), ac_n (by decide)]; exact t1
        · rw [ac_n (by decide), ac_n (by decide)]; exact t2
      · rw [ac_o (by decide), ac_o (by decide)]; exact R.ps.drop w.z6 (by omega) w.nx6
      · rw [ac_o (by decide), ac_o (by decide)]; exact R.sl_
    refine ⟨hf, _, _, _, _, _, _, _, _, _, dg, _, _, w2, R2.up (by omega), by rw [ac_n (by decide), ac_s], fun h2 k => ?_⟩
    exact c_X6_undo_t (S2 := gu (g_bec S (D q)) 1 Hq) k R.hz (by omega) w.z6 (fun i hi => by rw [(bec_R S (D q)).gus.ens]; exact l4 i hi)
  exact ⟨_, c_L_undo w.ob (c_X5_undo hst w hlast) ⟨by decide, by decide, by decide, by decide⟩ (fun E q => (th1_or q).2) (hv_of wo (fun v h1 s1 hp => by obtain ⟨-, -, -, q, -, hv, -⟩ := hp; exact ⟨_, hv⟩) (fun r h1 s1 hp => (hT r h1 s1 hp).1)), stp_gen w wM wo R (by omega) hX hT⟩
set_option maxHeartbeats 800000 in
theorem w_longest {l : Launch} {G : ga_} {h : HP} {sz x n : Nat} {a b : Int32} (hst : l.stackTraces = false) (I : LI G h sz x n) (hn : n < 999000) : Wc G l yL_longest cL_longest 5 [(0, 10, 13, 19), (0, 10, 17, 13)] [.ref x, .int a, .int b, .ref (x + 28)] yX6_longest cX6_longest 3 4 95 [.ref (x + 21), .int a, .int b] h sz x (n + 2) := by
  obtain ⟨S, st, sl, D, nx, z, cf, len, A, dg, Hf, fo, kk, w, wM, wo, R⟩ := I
  have gs := R.ok.sw R.hr
  have hk : ∀ p, p < 4 → k_k S (nI p) ≤ 28 := fun p hp => R.ok.kle hp
  obtain ⟨P, hP2, hP4, hP, hmv, -⟩ := R.ok.nb.pl
  have hpl : ∀ u, m_in u 0 ((gu S 1 Hf) 5 0 - 1) = g_has S u := fun u => hasN hP hP4 u
  have hheld : g_has S a = true → ¬ g_held S a < 0 := fun q => by
    obtain ⟨u, hu, rfl⟩ := has_nat hP hP4 q
    obtain ⟨k1, k2, -⟩ := R.ok.nb.hk (show u < 4 by omega)
    rw [show g_held S (nI u) = nI (k_k S (nI u)) from k1]
    exact nI_pos (by omega)
  have hX : ∀ E, th2 (g_has S a) eIO (okN b 7) eIA = some E → ∀ s2, Mf G l yX6_longest cX6_longest 3 (some .int) 4 95 0 0 [.ref (x + 21), .int a, .int b] h s2 (some (.int 0)) (pM G h (x + 21) (gu S 1 Hf) (ac A 0 (if E = eIO then 1 else 2)) dg) s2 := by
    intro E ht s2
    rcases th2_or ht with ⟨z1, rfl⟩ | ⟨z1, z2, rfl⟩
    · rw [if_pos rfl]
      exact c_X6_longest_f wM ((hpl _).trans z1)
    · rw [if_neg (by decide)]
      exact c_X6_longest_n wM ((hpl _).trans z1) ((min7 _).trans z2)
  have hT : ∀ r h1 s1, (fun v h1 s1 => (g_has S a && okN b 7) = true ∧ s1 = sz ∧ fr_ h h1 x (x + 29) ∧ RA G h1 x (x + 29) s1 S st sl D nx z cf len ∧ ∃ hf of, v = some (.int (k_long S a b hf of)) : Option Value → HP → Nat → Prop) (some (.int r)) h1 s1 → fr_ h h1 x (x + 29) ∧ ∃ S2 st2 sl2 D2 nx2 z2 cf2 len2 A2 dg2 H2 kk2, RA G h1 x (x + 29) s1 S2 st2 sl2 D2 nx2 z2 cf2 len2 ∧ RI (n + 2) S2 st2 sl2 D2 nx2 z2 cf2 len2 A2 H2 kk2 ∧ A2 6 0 = 0 ∧ ∀ h2, MA G h2 (x + 21) (gu S 1 Hf) A dg → Mf G l yX6_longest cX6_longest 3 (some .int) 4 95 0 0 [.ref (x + 21), .int a, .int b] h2 s1 (some (.int r)) (pM G h2 (x + 21) (gu S2 1 H2) A2 dg2) s1 := by
    rintro r h1 s1 ⟨hok, rfl, hf, w2, hf2, of, hv⟩
    have hv1 := Value.int.inj (Option.some.inj hv)
    subst hv1
    rw [Bool.and_eq_true] at hok
    obtain ⟨u, hu, rfl⟩ := has_nat hP hP4 hok.1
    obtain ⟨g, hg, rfl⟩ := okN_nat (k := 7) (by decide) hok.2
    obtain ⟨k1, k2, k3⟩ := gs.nb.hk (show u < 4 by omega)
    have ek : k_k (gu S 1 Hf) (nI u) = k_k S (nI u) := rfl
    rw [ek] at k1 k2 k3
    have te := (trains_eq R.ok.nb R.hr hk (show u < 4 by omega) hg hf2 of (A 4)).1
    refine ⟨hf, _, _, _, _, _, _, _, _, _, dg, _, _, w2, ((R.up (by omega)).thr 0).buf (Or.inl rfl) (m_lo (gu S 1 Hf) (nI u) (nI g) (k_k S (nI u)) (A 4)).2, (congrFun (gu_n (by decide)) 0).trans ac_s, fun h2 k => ?_⟩
    have q := c_X6_longest_t (l := l) (sz := s1) (u := u) (g := nI g) k (by omega) k1 k2 k3 gs.nb ((hpl _).trans hok.1) ((min7 _).trans hok.2)
    rw [te] at q
    exact q
  exact ⟨_, c_L_longest w.ob (c_X5_longest hst w hheld) ⟨by decide, by decide, by decide, by decide⟩ (fun E q => by rcases th2_or q with ⟨-, q2⟩ | ⟨-, -, q2⟩; exact Or.inl q2; exact Or.inr q2) (hv_of wo (fun v h1 s1 hp => by obtain ⟨-, -, -, -, hf, of, hv⟩ := hp; exact ⟨_, hv⟩) (fun r h1 s1 hp => (hT r h1 s1 hp).1)), stp_gen w wM wo R (by omega) hX hT⟩
set_option maxHeartbeats 800000 in
theorem w_whole {l : Launch} {G : ga_} {h : HP} {sz x n : Nat} {a b d : Int32} (hst : l.stackTraces = false) (I : LI G h sz x n) (hn : n < 999000) : Wc G l yL_whole cL_whole 6 [(0, 12, 15, 19), (0, 12, 19, 13)] [.ref x, .int a, .int b, .int d, .ref (x + 28)] yX6_whole cX6_whole 5 5 118 [.ref (x + 21), .int a, .int b, .int d] h sz x (n + 2) := by
  obtain ⟨S, st, sl, D, nx, z, cf, len, A, dg, Hf, fo, kk, w, wM, wo, R⟩ := I
  have gs := R.ok.sw R.hr
  have hk : ∀ p, p < 4 → k_k S (nI p) ≤ 28 := fun p hp => R.ok.kle hp
  obtain ⟨P, hP2, hP4, hP, hmv, -⟩ := R.ok.nb.pl
  have hpl : ∀ u, m_in u 0 ((gu S 1 Hf) 5 0 - 1) = g_has S u := fun u => hasN hP hP4 u
  have hheld : g_has S a = true → ¬ g_held S a < 0 := fun q => by
    obtain ⟨u, hu, rfl⟩ := has_nat hP hP4 q
    obtain ⟨k1, k2, -⟩ := R.ok.nb.hk (show u < 4 by omega)
    rw [show g_held S (nI u) = nI (k_k S (nI u)) from k1]
    exact nI_pos (by omega)
  have hX : ∀ E, th3 (g_has S a) eIO (okN b 7) eIA (okN d 2) eIA = some E → ∀ s2, Mf G l yX6_whole cX6_whole 5 (some .int) 5 118 0 0 [.ref (x + 21), .int a, .int b, .int d] h s2 (some (.int 0)) (pM G h (x + 21) (gu S 1 Hf) (ac A 0 (if E = eIO then 1 else 2)) dg) s2 := by
    intro E ht s2
    rcases th3_or ht with ⟨z1, rfl⟩ | ⟨z1, z2, rfl⟩ | ⟨z1, z2, z3, rfl⟩
    · rw [if_pos rfl]
      by_cases c : m_in b 0 6 = true
      · by_cases c2 : m_in d 0 1 = true
        · exact c_X6_whole_f2 wM ((hpl _).trans z1) c c2
        · exact c_X6_whole_f1 wM ((hpl _).trans z1) c (by simpa using c2)
      · exact c_X6_whole_f0 wM ((hpl _).trans z1) (by simpa using c)
    · rw [if_neg (by decide)]
      exact c_X6_whole_n0 wM ((hpl _).trans z1) ((min7 _).trans z2)
    · rw [if_neg (by decide)]
      exact c_X6_whole_n1 wM ((hpl _).trans z1) ((min7 _).trans z2) ((min2 _).trans z3)
  have hT : ∀ r h1 s1, (fun v h1 s1 => (g_has S a && okN b 7 && okN d 2) = true ∧ s1 = sz ∧ fr_ h h1 x (x + 29) ∧ RA G h1 x (x + 29) s1 S st sl D nx z cf len ∧ ∃ hf of, v = some (.int (if d = 1 then k_count S a b hf else k_try S a b hf of)) : Option Value → HP → Nat → Prop) (some (.int r)) h1 s1 → fr_ h h1 x (x + 29) ∧ ∃ S2 st2 sl2 D2 nx2 z2 cf2 len2 A2 dg2 H2 kk2, RA G h1 x (x + 29) s1 S2 st2 sl2 D2 nx2 z2 cf2 len2 ∧ RI (n + 2) S2 st2 sl2 D2 nx2 z2 cf2 len2 A2 H2 kk2 ∧ A2 6 0 = 0 ∧ ∀ h2, MA G h2 (x + 21) (gu S 1 Hf) A dg → Mf G l yX6_whole cX6_whole 5 (some .int) 5 118 0 0 [.ref (x + 21), .int a, .int b, .int d] h2 s1 (some (.int r)) (pM G h2 (x + 21) (gu S2 1 H2) A2 dg2) s1 := by
    rintro r h1 s1 ⟨hok, rfl, hf, w2, hf2, of, hv⟩
    have hv1 := Value.int.inj (Option.some.inj hv)
    subst hv1
    rw [Bool.and_eq_true, Bool.and_eq_true] at hok
    obtain ⟨u, hu, rfl⟩ := has_nat hP hP4 hok.1.1
    obtain ⟨g, hg, rfl⟩ := okN_nat (k := 7) (by decide) hok.1.2
    obtain ⟨k1, k2, k3⟩ := gs.nb.hk (show u < 4 by omega)
    have ek : k_k (gu S 1 Hf) (nI u) = k_k S (nI u) := rfl
    rw [ek] at k1 k2 k3
    obtain ⟨-, te, tc⟩ := trains_eq R.ok.nb R.hr hk (show u < 4 by omega) hg hf2 of (A 4)
    have ev : (if d = 1 then k_count S (nI u) (nI g) hf2 else k_try S (nI u) (nI g) hf2 of) = m_wh (gu S 1 Hf) (nI u) (nI g) (k_k S (nI u)) (A 4) := by
      rw [te]
      by_cases c : d = 1
      · rw [if_pos c]; exact tc
      · rw [if_neg c]; rfl
    refine ⟨hf, _, _, _, _, _, _, _, _, _, dg, _, _, w2, ((R.up (by omega)).thr 0).buf (Or.inl rfl) (m_lo (gu S 1 Hf) (nI u) (nI g) (k_k S (nI u)) (A 4)).2, (congrFun (gu_n (by decide)) 0).trans ac_s, fun h2 k => ?_⟩
    rw [ev]
    exact c_X6_whole_t (l := l) (sz := s1) (u := u) (g := nI g) (d := d) k (by omega) k1 k2 k3 gs.nb ((hpl _).trans hok.1.1) ((min7 _).trans hok.1.2) ((min2 _).trans hok.2)
  exact ⟨_, c_L_whole w.ob (c_X5_whole hst w hheld) ⟨by decide, by decide, by decide, by decide⟩ (fun E q => by rcases th3_or q with ⟨-, q2⟩ | ⟨-, -, q2⟩ | ⟨-, -, -, q2⟩; exact Or.inl q2; exact Or.inr q2; exact Or.inr q2) (hv_of wo (fun v h1 s1 hp => by obtain ⟨-, -, -, -, hf, of, hv⟩ := hp; exact ⟨_, hv⟩) (fun r h1 s1 hp => (hT r h1 s1 hp).1)), stp_gen w wM wo R (by omega) hX hT⟩
set_option maxHeartbeats 800000 in
theorem w_run {l : Launch} {G : ga_} {h : HP} {sz x n : Nat} (hst : l.stackTraces = false) (I : LI G h sz x n) (hn : n < 999000) : Wc G l yL_run cL_run 3 [(0, 8, 11, 13)] [.ref x, .ref (x + 28)] yX6_run cX6_run 2 6 139 [.ref (x + 21)] h sz x (n + 2) := by
  obtain ⟨S, st, sl, D, nx, z, cf, len, A, dg, Hf, fo, kk, w, wM, wo, R⟩ := I
  have gs := R.ok.sw R.hr
  obtain ⟨tp, tw, t4, t5⟩ := R.ht
  obtain ⟨t, et⟩ := tA_of t4 t5
  have mv : ∀ H, MA G H (x + 21) (gu S 1 Hf) A dg → MA G H (x + 21) (gu S 1 Hf) (tA A t) dg := fun H k => by rw [← et]; exact k
  have xs := xst_eq (f := A 3) (g := cf) len R.hcf
  have hc := chk (f := A 3) (n := len) (len + 1) 0 (gu S 1 Hf) (0, false, t.2.2) (Nat.zero_le _) rfl rfl (by omega)
  have hX : ∀ E, th1 (decide (x_st cf len = 6)) eIA = some E → ∀ s2, ∃ A3, RI n S st sl D nx z cf len A3 Hf kk ∧ A3 6 0 = (if E = eIA then 1 else 2) ∧ Mf G l yX6_run cX6_run 2 (some .int) 6 139 0 0 [.ref (x + 21)] h s2 (some (.int 0)) (pM G h (x + 21) (gu S 1 Hf) A3 dg) s2 := by
    intro E ht s2
    obtain ⟨z1, rfl⟩ := th1_or ht
    rw [if_pos rfl]
    rcases hc with ⟨c1, c2⟩ | ⟨c1, c2⟩
    · exact ⟨_, (R.thr 1).txA _, (tA_n (by decide)).trans ac_s, c_X6_run_f (mv h wM) R.hlen w.l60 c1⟩
    · exact absurd (xs.symm.trans c2) (of_decide_eq_false z1)
  have hT : ∀ r h1 s1, poM G h x (x + 29) sz S st sl D nx z cf len (decide (x_st cf len = 6)) ((y_run cf len 0 0 0 0 S).1) ((y_run cf len 0 0 0 0 S).2) 0 (some (.int r)) h1 s1 → fr_ h h1 x (x + 29) ∧ ∃ S2 st2 sl2 D2 nx2 z2 cf2 len2 A2 dg2 H2 kk2, RA G h1 x (x + 29) s1 S2 st2 sl2 D2 nx2 z2 cf2 len2 ∧ RI (n + 2) S2 st2 sl2 D2 nx2 z2 cf2 len2 A2 H2 kk2 ∧ A2 6 0 = 0 ∧ ∀ h2, MA G h2 (x + 21) (gu S 1 Hf) A dg → Mf G l yX6_run cX6_run 2 (some .int) 6 139 0 0 [.ref (x + 21)] h2 s1 (some (.int r)) (pM G h2 (x + 21) (gu S2 1 H2) A2 dg2) s1 := by
    rintro r h1 s1 ⟨hv, hok, hs, hf, q, Sq, hq, w2⟩
    have hv1 := Value.int.inj (Option.some.inj hv)
    subst hv1
    have h6 := of_decide_eq_true hok
    rcases hc with ⟨c1, c2⟩ | ⟨c1, c2⟩
    · exact absurd (xs.trans h6) (rdA_n6 c2)
    obtain ⟨H2, m1, m2, m3, m4⟩ := run_eq (f := A 3) (g := cf) (n := len) (by omega) R.ok R.hr R.hcf h6 (0, false, (e_go (A 3) len false (len + 1) 0 (gu S 1 Hf) (0, false, t.2.2)).2.2.2.2) ⟨rfl, rfl⟩
    have R2 := R.save (Sq := Sq) (n2 := n + 2) w.z6 w.nx6 (w2.st_ne w.nx6) (by omega) (m4.up (by omega)) m3
    have R3 : RI (n + 2) (y_run cf len 0 0 0 0 S).2 (va_up st nx (some q)) sl (dU D q (g_bec Sq S)) (p_nx nx) (p_z z) cf 0 (ac (ac (gu (ac A 0 0) 1 (m_sv (A 1) (en (gu S 1 Hf)) z)) 1 (nI (m_z z))) 3 0) H2 kk :=
      R2.txt (ac_n (by decide)) (ac_n (by decide)) ac_s (fun i hi => absurd hi (Nat.not_lt_zero i)) (by
        obtain ⟨p, b, y1, y2⟩ := R2.ht
        exact ⟨p, b, (ac_n (by decide)).trans y1, (ac_n (by decide)).trans y2⟩) (ac_o (by decide)) (ac_o (by decide))
    refine ⟨hf, _, _, _, _, _, _, _, _, _, dg, _, _, w2, R3.txA (e_go (A 3) len true (len + 1) 0 (gu S 1 Hf) (0, false, (e_go (A 3) len false (len + 1) 0 (gu S 1 Hf) (0, false, t.2.2)).2.2.2.2)).2.2, (tA_n (by decide)).trans ((ac_n (by decide)).trans sv_0), fun h2 k => ?_⟩
    have q := c_X6_run_t (l := l) (sz := s1) (mv h2 k) R.hlen w.l60 R.hz w.z6 gs c1
    rw [m1, m2] at q
    exact q
  exact ⟨_, c_L_run w.ob (c_X5_run hst w) ⟨by decide, by decide, by decide, by decide⟩ (fun E q => (th1_or q).2) (hv_of wo (fun v h1 s1 hp => ⟨_, hp.1⟩) (fun r h1 s1 hp => (hT r h1 s1 hp).1)), stp_gen2 w wM wo R (by omega) hX hT⟩
