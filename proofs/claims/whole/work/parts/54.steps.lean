/-! THE LAW'S STEPS: WRAPPERS -/
theorem th1_or {b : Bool} {e E : String} (h : th1 b e = some E) : b = false ∧ E = e := by
  cases b
  · exact ⟨rfl, (Option.some.inj h).symm⟩
  · exact absurd h (by unfold th1; rw [if_pos rfl]; intro q; cases q)
theorem th2_or {a b : Bool} {e f E : String} (h : th2 a e b f = some E) : (a = false ∧ E = e) ∨ (a = true ∧ b = false ∧ E = f) := by
  cases a
  · exact Or.inl ⟨rfl, (Option.some.inj h).symm⟩
  · exact Or.inr ⟨rfl, th1_or (show th1 b f = some E from h)⟩
theorem th3_or {a b c : Bool} {e f g E : String} (h : th3 a e b f c g = some E) : (a = false ∧ E = e) ∨ (a = true ∧ b = false ∧ E = f) ∨ (a = true ∧ b = true ∧ c = false ∧ E = g) := by
  cases a
  · exact Or.inl ⟨rfl, (Option.some.inj h).symm⟩
  · rcases th2_or (show th2 b f c g = some E from h) with ⟨h1, h2⟩ | ⟨h1, h2, h3⟩
    · exact Or.inr (Or.inl ⟨rfl, h1, h2⟩)
    · exact Or.inr (Or.inr ⟨rfl, h1, h2, h3⟩)
theorem hR_gc {S : gS} {Hf : Nat → Int32} (r : hR S Hf) (k : Nat) (v : Int32) : hR (gc S k v) Hf := fun p hp i hi => r p hp i hi
theorem not_t {b : Bool} (h : (!b) = false) : b = true := by cases b; exact absurd h (by decide); rfl
set_option maxHeartbeats 800000 in
theorem w_lay {l : Launch} {G : ga_} {h : HP} {sz x n : Nat} {a b d : Int32} (hst : l.stackTraces = false) (I : LI G h sz x n) (hn : n < 999000) : Wc G l yL_lay cL_lay 6 [(0, 12, 15, 19), (0, 12, 19, 13)] [.ref x, .int a, .int b, .int d, .ref (x + 28)] yX6_lay cX6_lay 4 4 94 [.ref (x + 21), .int a, .int b, .int d] h sz x (n + 2) := by
  obtain ⟨S, st, sl, D, nx, z, cf, len, A, dg, Hf, fo, kk, w, wM, wo, R⟩ := I
  have gs := R.ok.sw R.hr
  have hk : ∀ p, p < 4 → k_k S (nI p) ≤ 28 := fun p hp => R.ok.kle hp
  obtain ⟨P, hP2, hP4, hP, hmv, -⟩ := R.ok.nb.pl
  have hpl : ∀ u, m_in u 0 ((gu S 1 Hf) 5 0 - 1) = g_has S u := fun u => hasN hP hP4 u
  have hX : ∀ E, th2 (okN b 3) eIO (okEnd d) eIA = some E → ∀ s2, Mf G l yX6_lay cX6_lay 4 (some .int) 4 94 0 0 [.ref (x + 21), .int a, .int b, .int d] h s2 (some (.int 0)) (pM G h (x + 21) (gu S 1 Hf) (ac A 0 (if E = eIO then 1 else 2)) dg) s2 := by
    intro E ht s2
    rcases th2_or ht with ⟨z1, rfl⟩ | ⟨z1, z2, rfl⟩
    · rw [if_pos rfl]
      exact c_X6_lay_f wM ((min3 _).trans z1)
    · rw [if_neg (by decide)]
      exact c_X6_lay_n wM ((min3 _).trans z1) ((minE _).trans z2)
  have hT := hT_M (l := l) (y := yX6_lay) (cc := cX6_lay) (nL := 4) (fr := 4) (lo := 94) (av := [.ref (x + 21), .int a, .int b, .int d]) (dg := dg) (n2 := n + 2) (S2 := g_lay S a b d) (ok := okN b 3 && okEnd d) (r0 := g_layA S a b d) w R (by omega) (by
    intro ok
    rw [Bool.and_eq_true] at ok
    obtain ⟨r, hr, rfl⟩ := okN_nat (k := 3) (by decide) ok.1
    obtain ⟨e, he, rfl⟩ := end_nat ok.2
    obtain ⟨H2, m1, m2, m3⟩ := sw_lay R.ok R.hr (a := a) hr he
    refine ⟨(R.ok.lay hr he).up (by omega), H2, m2, fun h2 s1 k => ?_⟩
    have q := c_X6_lay_t (l := l) (sz := s1) (a := a) k R.hz w.z6 gs hr he ((min3 _).trans ok.1) ((minE _).trans ok.2)
    rw [m1, m3] at q
    exact q)
  exact ⟨_, c_L_lay w.ob (c_X5_lay hst w) ⟨by decide, by decide, by decide, by decide⟩ (fun E q => by rcases th2_or q with ⟨-, q2⟩ | ⟨-, -, q2⟩; exact Or.inl q2; exact Or.inr q2) (hv_of wo (fun v h1 s1 hp => ⟨_, hp.1⟩) (fun r h1 s1 hp => (hT r h1 s1 hp).1)), stp_gen w wM wo R (by omega) hX hT⟩
set_option maxHeartbeats 800000 in
theorem w_whyNot {l : Launch} {G : ga_} {h : HP} {sz x n : Nat} {a b d : Int32} (hst : l.stackTraces = false) (I : LI G h sz x n) (hn : n < 999000) : Wc G l yL_whyNot cL_whyNot 6 [(0, 12, 15, 19), (0, 12, 19, 13)] [.ref x, .int a, .int b, .int d, .ref (x + 28)] yX6_whyNot cX6_whyNot 4 3 68 [.ref (x + 21), .int a, .int b, .int d] h sz x (n + 2) := by
  obtain ⟨S, st, sl, D, nx, z, cf, len, A, dg, Hf, fo, kk, w, wM, wo, R⟩ := I
  have gs := R.ok.sw R.hr
  have hk : ∀ p, p < 4 → k_k S (nI p) ≤ 28 := fun p hp => R.ok.kle hp
  obtain ⟨P, hP2, hP4, hP, hmv, -⟩ := R.ok.nb.pl
  have hpl : ∀ u, m_in u 0 ((gu S 1 Hf) 5 0 - 1) = g_has S u := fun u => hasN hP hP4 u
  have hX : ∀ E, th2 (okN b 3) eIO (okEnd d) eIA = some E → ∀ s2, Mf G l yX6_whyNot cX6_whyNot 4 (some .int) 3 68 0 0 [.ref (x + 21), .int a, .int b, .int d] h s2 (some (.int 0)) (pM G h (x + 21) (gu S 1 Hf) (ac A 0 (if E = eIO then 1 else 2)) dg) s2 := by
    intro E ht s2
    rcases th2_or ht with ⟨z1, rfl⟩ | ⟨z1, z2, rfl⟩
    · rw [if_pos rfl]
      exact c_X6_whyNot_f wM ((min3 _).trans z1)
    · rw [if_neg (by decide)]
      exact c_X6_whyNot_n wM ((min3 _).trans z1) ((minE _).trans z2)
  have hT := hT_L (l := l) (y := yX6_whyNot) (cc := cX6_whyNot) (nL := 4) (fr := 3) (lo := 68) (av := [.ref (x + 21), .int a, .int b, .int d]) (dg := dg) (n2 := n + 2) (ok := okN b 3 && okEnd d) (r0 := g_reason S a b d) w R (by omega) (by
    intro ok
    rw [Bool.and_eq_true] at ok
    obtain ⟨r, hr, rfl⟩ := okN_nat (k := 3) (by decide) ok.1
    obtain ⟨e, he, rfl⟩ := end_nat ok.2
    intro h2 s1 k
    have q := c_X6_whyNot_t (l := l) (sz := s1) (a := a) k hr he gs.nb ((min3 _).trans ok.1) ((minE _).trans ok.2)
    rw [sw_reason R.ok.nb R.hr hk] at q
    exact q)
  exact ⟨_, c_L_whyNot w.ob (c_X5_whyNot hst w) ⟨by decide, by decide, by decide, by decide⟩ (fun E q => by rcases th2_or q with ⟨-, q2⟩ | ⟨-, -, q2⟩; exact Or.inl q2; exact Or.inr q2) (hv_of wo (fun v h1 s1 hp => ⟨_, hp.1⟩) (fun r h1 s1 hp => (hT r h1 s1 hp).1)), stp_gen w wM wo R (by omega) hX hT⟩
set_option maxHeartbeats 800000 in
theorem w_rowOf {l : Launch} {G : ga_} {h : HP} {sz x n : Nat} {a b : Int32} (hst : l.stackTraces = false) (I : LI G h sz x n) (hn : n < 999000) : Wc G l yL_rowOf cL_rowOf 5 [(0, 10, 13, 19), (0, 10, 17, 13)] [.ref x, .int a, .int b, .ref (x + 28)] yX6_rowOf cX6_rowOf 3 2 42 [.ref (x + 21), .int a, .int b] h sz x (n + 2) := by
  obtain ⟨S, st, sl, D, nx, z, cf, len, A, dg, Hf, fo, kk, w, wM, wo, R⟩ := I
  have gs := R.ok.sw R.hr
  have hk : ∀ p, p < 4 → k_k S (nI p) ≤ 28 := fun p hp => R.ok.kle hp
  obtain ⟨P, hP2, hP4, hP, hmv, -⟩ := R.ok.nb.pl
  have hpl : ∀ u, m_in u 0 ((gu S 1 Hf) 5 0 - 1) = g_has S u := fun u => hasN hP hP4 u
  have hX : ∀ E, th2 (okN a 3) eIO (okN b 4) eIA = some E → ∀ s2, Mf G l yX6_rowOf cX6_rowOf 3 (some .int) 2 42 0 0 [.ref (x + 21), .int a, .int b] h s2 (some (.int 0)) (pM G h (x + 21) (gu S 1 Hf) (ac A 0 (if E = eIO then 1 else 2)) dg) s2 := by
    intro E ht s2
    rcases th2_or ht with ⟨z1, rfl⟩ | ⟨z1, z2, rfl⟩
    · rw [if_pos rfl]
      exact c_X6_rowOf_f wM ((min3 _).trans z1)
    · rw [if_neg (by decide)]
      exact c_X6_rowOf_n wM ((min3 _).trans z1) ((min4 _).trans z2)
  have hT := hT_L (l := l) (y := yX6_rowOf) (cc := cX6_rowOf) (nL := 3) (fr := 2) (lo := 42) (av := [.ref (x + 21), .int a, .int b]) (dg := dg) (n2 := n + 2) (ok := okN a 3 && okN b 4) (r0 := tAt 4 12 (S 3) a b) w R (by omega) (by
    intro ok
    rw [Bool.and_eq_true] at ok
    obtain ⟨r, hr, rfl⟩ := okN_nat (k := 3) (by decide) ok.1
    obtain ⟨e, he, rfl⟩ := okN_nat (k := 4) (by decide) ok.2
    intro h2 s1 k
    exact c_X6_rowOf_t (l := l) (sz := s1) k hr he ((min3 _).trans ok.1) ((min4 _).trans ok.2))
  exact ⟨_, c_L_rowOf w.ob (c_X5_rowOf hst w) ⟨by decide, by decide, by decide, by decide⟩ (fun E q => by rcases th2_or q with ⟨-, q2⟩ | ⟨-, -, q2⟩; exact Or.inl q2; exact Or.inr q2) (hv_of wo (fun v h1 s1 hp => ⟨_, hp.1⟩) (fun r h1 s1 hp => (hT r h1 s1 hp).1)), stp_gen w wM wo R (by omega) hX hT⟩
set_option maxHeartbeats 800000 in
theorem w_tileOf {l : Launch} {G : ga_} {h : HP} {sz x n : Nat} {a b : Int32} (hst : l.stackTraces = false) (I : LI G h sz x n) (hn : n < 999000) : Wc G l yL_tileOf cL_tileOf 5 [(0, 10, 13, 19), (0, 10, 17, 13)] [.ref x, .int a, .int b, .ref (x + 28)] yX6_tileOf cX6_tileOf 3 1 22 [.ref (x + 21), .int a, .int b] h sz x (n + 2) := by
  obtain ⟨S, st, sl, D, nx, z, cf, len, A, dg, Hf, fo, kk, w, wM, wo, R⟩ := I
  have gs := R.ok.sw R.hr
  have hk : ∀ p, p < 4 → k_k S (nI p) ≤ 28 := fun p hp => R.ok.kle hp
  obtain ⟨P, hP2, hP4, hP, hmv, -⟩ := R.ok.nb.pl
  have hpl : ∀ u, m_in u 0 ((gu S 1 Hf) 5 0 - 1) = g_has S u := fun u => hasN hP hP4 u
  have hX : ∀ E, th2 (okN a 28) eIO (okN b 7) eIA = some E → ∀ s2, Mf G l yX6_tileOf cX6_tileOf 3 (some .int) 1 22 0 0 [.ref (x + 21), .int a, .int b] h s2 (some (.int 0)) (pM G h (x + 21) (gu S 1 Hf) (ac A 0 (if E = eIO then 1 else 2)) dg) s2 := by
    intro E ht s2
    rcases th2_or ht with ⟨z1, rfl⟩ | ⟨z1, z2, rfl⟩
    · rw [if_pos rfl]
      exact c_X6_tileOf_f wM ((min28 _).trans z1)
    · rw [if_neg (by decide)]
      exact c_X6_tileOf_n wM ((min28 _).trans z1) ((min7 _).trans z2)
  have hT := hT_L (l := l) (y := yX6_tileOf) (cc := cX6_tileOf) (nL := 3) (fr := 1) (lo := 22) (av := [.ref (x + 21), .int a, .int b]) (dg := dg) (n2 := n + 2) (ok := okN a 28 && okN b 7) (r0 := tAt 7 196 (S 0) a b) w R (by omega) (by
    intro ok
    rw [Bool.and_eq_true] at ok
    obtain ⟨r, hr, rfl⟩ := okN_nat (k := 28) (by decide) ok.1
    obtain ⟨e, he, rfl⟩ := okN_nat (k := 7) (by decide) ok.2
    intro h2 s1 k
    exact c_X6_tileOf_t (l := l) (sz := s1) k hr he ((min28 _).trans ok.1) ((min7 _).trans ok.2))
  exact ⟨_, c_L_tileOf w.ob (c_X5_tileOf hst w) ⟨by decide, by decide, by decide, by decide⟩ (fun E q => by rcases th2_or q with ⟨-, q2⟩ | ⟨-, -, q2⟩; exact Or.inl q2; exact Or.inr q2) (hv_of wo (fun v h1 s1 hp => ⟨_, hp.1⟩) (fun r h1 s1 hp => (hT r h1 s1 hp).1)), stp_gen w wM wo R (by omega) hX hT⟩
set_option maxHeartbeats 800000 in
theorem w_playerOf {l : Launch} {G : ga_} {h : HP} {sz x n : Nat} {a b : Int32} (hst : l.stackTraces = false) (I : LI G h sz x n) (hn : n < 999000) : Wc G l yL_playerOf cL_playerOf 5 [(0, 10, 13, 19), (0, 10, 17, 13)] [.ref x, .int a, .int b, .ref (x + 28)] yX6_playerOf cX6_playerOf 3 5 115 [.ref (x + 21), .int a, .int b] h sz x (n + 2) := by
  obtain ⟨S, st, sl, D, nx, z, cf, len, A, dg, Hf, fo, kk, w, wM, wo, R⟩ := I
  have gs := R.ok.sw R.hr
  have hk : ∀ p, p < 4 → k_k S (nI p) ≤ 28 := fun p hp => R.ok.kle hp
  obtain ⟨P, hP2, hP4, hP, hmv, -⟩ := R.ok.nb.pl
  have hpl : ∀ u, m_in u 0 ((gu S 1 Hf) 5 0 - 1) = g_has S u := fun u => hasN hP hP4 u
  have hX : ∀ E, th2 (g_has S a) eIO (okN b 7) eIA = some E → ∀ s2, Mf G l yX6_playerOf cX6_playerOf 3 (some .int) 5 115 0 0 [.ref (x + 21), .int a, .int b] h s2 (some (.int 0)) (pM G h (x + 21) (gu S 1 Hf) (ac A 0 (if E = eIO then 1 else 2)) dg) s2 := by
    intro E ht s2
    rcases th2_or ht with ⟨z1, rfl⟩ | ⟨z1, z2, rfl⟩
    · rw [if_pos rfl]
      exact c_X6_playerOf_f wM ((hpl _).trans z1)
    · rw [if_neg (by decide)]
      exact c_X6_playerOf_n wM ((hpl _).trans z1) ((min7 _).trans z2)
  have hT := hT_L (l := l) (y := yX6_playerOf) (cc := cX6_playerOf) (nL := 3) (fr := 5) (lo := 115) (av := [.ref (x + 21), .int a, .int b]) (dg := dg) (n2 := n + 2) (ok := g_has S a && okN b 7) (r0 := g_prop S a b) w R (by omega) (by
    intro ok
    rw [Bool.and_eq_true] at ok
    obtain ⟨u, hu, rfl⟩ := has_nat hP hP4 ok.1
    intro h2 s1 k
    have q := c_X6_playerOf_t (l := l) (sz := s1) (u := u) (v := b) k (by omega) gs.nb ok.2 ((hpl _).trans ok.1) ((min7 _).trans ok.2)
    rw [sw_prop R.hr hk (show u < 4 by omega)] at q
    exact q)
  exact ⟨_, c_L_playerOf w.ob (c_X5_playerOf hst w) ⟨by decide, by decide, by decide, by decide⟩ (fun E q => by rcases th2_or q with ⟨-, q2⟩ | ⟨-, -, q2⟩; exact Or.inl q2; exact Or.inr q2) (hv_of wo (fun v h1 s1 hp => ⟨_, hp.1⟩) (fun r h1 s1 hp => (hT r h1 s1 hp).1)), stp_gen w wM wo R (by omega) hX hT⟩
set_option maxHeartbeats 800000 in
theorem w_hand {l : Launch} {G : ga_} {h : HP} {sz x n : Nat} {a b : Int32} (hst : l.stackTraces = false) (I : LI G h sz x n) (hn : n < 999000) : Wc G l yL_hand cL_hand 5 [(0, 10, 13, 19), (0, 10, 17, 13)] [.ref x, .int a, .int b, .ref (x + 28)] yX6_hand cX6_hand 3 2 43 [.ref (x + 21), .int a, .int b] h sz x (n + 2) := by
  obtain ⟨S, st, sl, D, nx, z, cf, len, A, dg, Hf, fo, kk, w, wM, wo, R⟩ := I
  have gs := R.ok.sw R.hr
  have hk : ∀ p, p < 4 → k_k S (nI p) ≤ 28 := fun p hp => R.ok.kle hp
  obtain ⟨P, hP2, hP4, hP, hmv, -⟩ := R.ok.nb.pl
  have hpl : ∀ u, m_in u 0 ((gu S 1 Hf) 5 0 - 1) = g_has S u := fun u => hasN hP hP4 u
  have hX : ∀ E, th2 (g_has S a) eIO (!decide (b < 0)) eIA = some E → ∀ s2, Mf G l yX6_hand cX6_hand 3 (some .int) 2 43 0 0 [.ref (x + 21), .int a, .int b] h s2 (some (.int 0)) (pM G h (x + 21) (gu S 1 Hf) (ac A 0 (if E = eIO then 1 else 2)) dg) s2 := by
    intro E ht s2
    rcases th2_or ht with ⟨z1, rfl⟩ | ⟨z1, z2, rfl⟩
    · rw [if_pos rfl]
      exact c_X6_hand_f wM ((hpl _).trans z1)
    · rw [if_neg (by decide)]
      exact c_X6_hand_n wM ((hpl _).trans z1) (of_decide_eq_true (not_t z2))
  have hT := hT_L (l := l) (y := yX6_hand) (cc := cX6_hand) (nL := 3) (fr := 2) (lo := 43) (av := [.ref (x + 21), .int a, .int b]) (dg := dg) (n2 := n + 2) (ok := g_has S a && !decide (b < 0)) (r0 := if g_holds S a b then g_hand S a b else -1) w R (by omega) (by
    intro ok
    rw [Bool.and_eq_true] at ok
    obtain ⟨u, hu, rfl⟩ := has_nat hP hP4 ok.1
    obtain ⟨k1, k2, -⟩ := R.ok.nb.hk (show u < 4 by omega)
    have hb0 : ¬ b < 0 := fun q => by
      have y2 := ok.2
      rw [decide_eq_true q] at y2
      exact absurd y2 (by decide)
    have ee : (if b < g_held (gu S 1 Hf) (nI u) then g_hand (gu S 1 Hf) (nI u) b else -1) = (if g_holds S (nI u) b then g_hand S (nI u) b else -1) := by
      rw [show g_held (gu S 1 Hf) (nI u) = nI (k_k S (nI u)) from k1]
      unfold g_holds
      rw [show g_held S (nI u) = nI (k_k S (nI u)) from k1, decide_eq_false hb0, Bool.not_false, Bool.true_and]
      by_cases q : b < nI (k_k S (nI u))
      · obtain ⟨i, hi, rfl⟩ := okN_nat (a := b) (k := k_k S (nI u)) (by omega) (by unfold okN; rw [decide_eq_false hb0, decide_eq_true q]; rfl)
        rw [if_pos q, if_pos (decide_eq_true q), R.hr.hand hk (show u < 4 by omega) hi]
      · rw [if_neg q, if_neg (by rw [decide_eq_false q]; decide)]
    intro h2 s1 k
    have q := c_X6_hand_t (l := l) (sz := s1) (u := u) (b := b) k (by omega) k1 k2 ((hpl _).trans ok.1) hb0
    rw [ee] at q
    exact q)
  exact ⟨_, c_L_hand w.ob (c_X5_hand hst w) ⟨by decide, by decide, by decide, by decide⟩ (fun E q => by rcases th2_or q with ⟨-, q2⟩ | ⟨-, -, q2⟩; exact Or.inl q2; exact Or.inr q2) (hv_of wo (fun v h1 s1 hp => ⟨_, hp.1⟩) (fun r h1 s1 hp => (hT r h1 s1 hp).1)), stp_gen w wM wo R (by omega) hX hT⟩
set_option maxHeartbeats 800000 in
theorem w_stock {l : Launch} {G : ga_} {h : HP} {sz x n : Nat} {a : Int32} (hst : l.stackTraces = false) (I : LI G h sz x n) (hn : n < 999000) : Wc G l yL_stock cL_stock 4 [(0, 9, 12, 13)] [.ref x, .int a, .ref (x + 28)] yX6_stock cX6_stock 2 1 21 [.ref (x + 21), .int a] h sz x (n + 2) := by
  obtain ⟨S, st, sl, D, nx, z, cf, len, A, dg, Hf, fo, kk, w, wM, wo, R⟩ := I
  have gs := R.ok.sw R.hr
  have hk : ∀ p, p < 4 → k_k S (nI p) ≤ 28 := fun p hp => R.ok.kle hp
  obtain ⟨P, hP2, hP4, hP, hmv, -⟩ := R.ok.nb.pl
  have hpl : ∀ u, m_in u 0 ((gu S 1 Hf) 5 0 - 1) = g_has S u := fun u => hasN hP hP4 u
  have hX : ∀ E, th1 (!decide (a < 0)) eIA = some E → ∀ s2, Mf G l yX6_stock cX6_stock 2 (some .int) 1 21 0 0 [.ref (x + 21), .int a] h s2 (some (.int 0)) (pM G h (x + 21) (gu S 1 Hf) (ac A 0 (if E = eIA then 1 else 2)) dg) s2 := by
    intro E ht s2
    obtain ⟨z1, rfl⟩ := th1_or ht
    rw [if_pos rfl]
    exact c_X6_stock_f wM (of_decide_eq_true (not_t z1))
  have hT := hT_L (l := l) (y := yX6_stock) (cc := cX6_stock) (nL := 2) (fr := 1) (lo := 21) (av := [.ref (x + 21), .int a]) (dg := dg) (n2 := n + 2) (ok := !decide (a < 0)) (r0 := if a < g_stock S then g_stile S a else -1) w R (by omega) (by
    intro ok
    have hb0 : ¬ a < 0 := fun q => by
      rw [decide_eq_true q] at ok
      exact absurd ok (by decide)
    obtain ⟨k0, k1, k2⟩ := R.ok.nb.gone
    intro h2 s1 k
    exact c_X6_stock_t (l := l) (sz := s1) (b := a) (S := gu S 1 Hf) k k2 k1 hb0)
  exact ⟨_, c_L_stock w.ob (c_X5_stock hst w) ⟨by decide, by decide, by decide, by decide⟩ (fun E q => (th1_or q).2) (hv_of wo (fun v h1 s1 hp => ⟨_, hp.1⟩) (fun r h1 s1 hp => (hT r h1 s1 hp).1)), stp_gen w wM wo R (by omega) hX hT⟩
set_option maxHeartbeats 800000 in
theorem w_count {l : Launch} {G : ga_} {h : HP} {sz x n : Nat} {a : Int32} (hst : l.stackTraces = false) (I : LI G h sz x n) (hn : n < 999000) : Wc G l yL_count cL_count 4 [(0, 9, 12, 13)] [.ref x, .int a, .ref (x + 28)] yX6_count cX6_count 2 7 161 [.ref (x + 21), .int a] h sz x (n + 2) := by
  obtain ⟨S, st, sl, D, nx, z, cf, len, A, dg, Hf, fo, kk, w, wM, wo, R⟩ := I
  have gs := R.ok.sw R.hr
  have hk : ∀ p, p < 4 → k_k S (nI p) ≤ 28 := fun p hp => R.ok.kle hp
  obtain ⟨P, hP2, hP4, hP, hmv, -⟩ := R.ok.nb.pl
  have hpl : ∀ u, m_in u 0 ((gu S 1 Hf) 5 0 - 1) = g_has S u := fun u => hasN hP hP4 u
  have hX : ∀ E, th1 (okN a 12) eIA = some E → ∀ s2, Mf G l yX6_count cX6_count 2 (some .int) 7 161 0 0 [.ref (x + 21), .int a] h s2 (some (.int 0)) (pM G h (x + 21) (gu S 1 Hf) (ac A 0 (if E = eIA then 1 else 2)) dg) s2 := by
    intro E ht s2
    obtain ⟨z1, rfl⟩ := th1_or ht
    rw [if_pos rfl]
    exact c_X6_count_f wM ((min12 _).trans z1)
  have hT := hT_L (l := l) (y := yX6_count) (cc := cX6_count) (nL := 2) (fr := 7) (lo := 161) (av := [.ref (x + 21), .int a]) (dg := dg) (n2 := n + 2) (ok := okN a 12) (r0 := g_num S a (nI z)) w R (by omega) (by
    intro ok
    intro h2 s1 k
    have q := c_X6_count_t (l := l) (sz := s1) (v := a) k gs.nb ok ((min12 _).trans ok)
    rw [sw_num R.ok.nb R.hr hk, R.hz] at q
    exact q)
  exact ⟨_, c_L_count w.ob (c_X5_count hst w) ⟨by decide, by decide, by decide, by decide⟩ (fun E q => (th1_or q).2) (hv_of wo (fun v h1 s1 hp => ⟨_, hp.1⟩) (fun r h1 s1 hp => (hT r h1 s1 hp).1)), stp_gen w wM wo R (by omega) hX hT⟩
set_option maxHeartbeats 800000 in
theorem w_set {l : Launch} {G : ga_} {h : HP} {sz x n : Nat} {a : Int32} (hst : l.stackTraces = false) (I : LI G h sz x n) (hn : n < 999000) : Wc G l yL_set cL_set 4 [(0, 9, 12, 13)] [.ref x, .int a, .ref (x + 28)] yX6_set cX6_set 3 1 22 [.ref (x + 21), .int a] h sz x (n + 2) := by
  obtain ⟨S, st, sl, D, nx, z, cf, len, A, dg, Hf, fo, kk, w, wM, wo, R⟩ := I
  have gs := R.ok.sw R.hr
  have hk : ∀ p, p < 4 → k_k S (nI p) ≤ 28 := fun p hp => R.ok.kle hp
  obtain ⟨P, hP2, hP4, hP, hmv, -⟩ := R.ok.nb.pl
  have hpl : ∀ u, m_in u 0 ((gu S 1 Hf) 5 0 - 1) = g_has S u := fun u => hasN hP hP4 u
  have hX : ∀ E, th1 (!decide (a < 1) && !decide (9 < a)) eIA = some E → ∀ s2, Mf G l yX6_set cX6_set 3 (some .int) 1 22 0 0 [.ref (x + 21), .int a] h s2 (some (.int 0)) (pM G h (x + 21) (gu S 1 Hf) (ac A 0 (if E = eIA then 1 else 2)) dg) s2 := by
    intro E ht s2
    obtain ⟨z1, rfl⟩ := th1_or ht
    rw [if_pos rfl]
    exact c_X6_set_f wM ((minS _).trans z1)
  have hT := hT_M (l := l) (y := yX6_set) (cc := cX6_set) (nL := 3) (fr := 1) (lo := 22) (av := [.ref (x + 21), .int a]) (dg := dg) (n2 := n + 2) (S2 := gc S 7 a) (ok := !decide (a < 1) && !decide (9 < a)) (r0 := S 5 7) w R (by omega) (by
    intro ok
    refine ⟨(R.ok.set ok).up (by omega), Hf, hR_gc R.hr 7 a, fun h2 s1 k => ?_⟩
    have q := c_X6_set_t (l := l) (sz := s1) (a := a) k R.hz w.z6 ((minS _).trans ok)
    rw [gc_1] at q
    exact q)
  exact ⟨_, c_L_set w.ob (c_X5_set hst w) ⟨by decide, by decide, by decide, by decide⟩ (fun E q => (th1_or q).2) (hv_of wo (fun v h1 s1 hp => ⟨_, hp.1⟩) (fun r h1 s1 hp => (hT r h1 s1 hp).1)), stp_gen w wM wo R (by omega) hX hT⟩
set_option maxHeartbeats 800000 in
theorem w_oil {l : Launch} {G : ga_} {h : HP} {sz x n : Nat} {a : Int32} (hst : l.stackTraces = false) (I : LI G h sz x n) (hn : n < 999000) : Wc G l yL_oil cL_oil 4 [(0, 9, 12, 19)] [.ref x, .int a, .ref (x + 28)] yX6_oil cX6_oil 5 1 22 [.ref (x + 21), .int a] h sz x (n + 2) := by
  obtain ⟨S, st, sl, D, nx, z, cf, len, A, dg, Hf, fo, kk, w, wM, wo, R⟩ := I
  have gs := R.ok.sw R.hr
  have hk : ∀ p, p < 4 → k_k S (nI p) ≤ 28 := fun p hp => R.ok.kle hp
  obtain ⟨P, hP2, hP4, hP, hmv, -⟩ := R.ok.nb.pl
  have hpl : ∀ u, m_in u 0 ((gu S 1 Hf) 5 0 - 1) = g_has S u := fun u => hasN hP hP4 u
  have hX : ∀ E, th1 (g_over S || g_holds S (S 5 1) a) eIO = some E → ∀ s2, Mf G l yX6_oil cX6_oil 5 (some .int) 1 22 0 0 [.ref (x + 21), .int a] h s2 (some (.int 0)) (pM G h (x + 21) (gu S 1 Hf) (ac A 0 (if E = eIO then 1 else 2)) dg) s2 := by
    intro E ht s2
    obtain ⟨z1, rfl⟩ := th1_or ht
    rw [if_pos rfl]
    rw [Bool.or_eq_false_iff] at z1
    rcases hmv with hm | ⟨q, hq, hm⟩
    · exact absurd z1.1 (by unfold g_over; rw [decide_eq_true hm]; decide)
    · obtain ⟨k1, k2, -⟩ := R.ok.nb.hk (show q < 4 by omega)
      refine c_X6_oil_f wM hm (by omega) k1 ?_
      rw [m_inh (by omega)]
      have y := z1.2
      unfold g_holds at y
      rw [hm, show g_held S (nI q) = nI (k_k S (nI q)) from k1] at y
      exact y
  have hT := hT_M (l := l) (y := yX6_oil) (cc := cX6_oil) (nL := 5) (fr := 1) (lo := 22) (av := [.ref (x + 21), .int a]) (dg := dg) (n2 := n + 2) (S2 := g_oil S a) (ok := g_over S || g_holds S (S 5 1) a) (r0 := g_oilA S a) w R (by omega) (by
    intro ok
    obtain ⟨m1, m2, m3⟩ := sw_oil R.ok R.hr ok
    refine ⟨(R.ok.oil ok).up (by omega), Hf, m2, fun h2 s1 k => ?_⟩
    rw [← m1, ← m3]
    by_cases c : g_over S = true
    · have q := c_X6_oil_o (l := l) (sz := s1) (a := a) k R.hz w.z6 (of_decide_eq_true c)
      unfold g_oil g_oilA
      rw [show g_over (gu S 1 Hf) = g_over S from rfl, if_pos c, if_pos c]
      exact q
    · have c' : g_over S = false := by simpa using c
      rcases hmv with hm | ⟨u, hu, hm⟩
      · exact absurd c' (by unfold g_over; rw [decide_eq_true hm]; decide)
      · rw [c', Bool.false_or, hm] at ok
        obtain ⟨k1, k2, k3⟩ := gs.nb.hk (show u < 4 by omega)
        have hh : g_held S (nI u) = nI (k_k (gu S 1 Hf) (nI u)) := k1
        unfold g_holds at ok
        rw [hh] at ok
        obtain ⟨i, hi, rfl⟩ := okN_nat (a := a) (k := k_k (gu S 1 Hf) (nI u)) (by omega) ok
        obtain ⟨t, ht, et⟩ := k3 i hi
        exact c_X6_oil_t (l := l) (sz := s1) k R.hz w.z6 hm (by omega) k1 k2 hi ht et)
  exact ⟨_, c_L_oil w.ob (c_X5_oil hst w) ⟨by decide, by decide, by decide, by decide⟩ (fun E q => (th1_or q).2) (hv_of wo (fun v h1 s1 hp => ⟨_, hp.1⟩) (fun r h1 s1 hp => (hT r h1 s1 hp).1)), stp_gen w wM wo R (by omega) hX hT⟩
set_option maxHeartbeats 800000 in
theorem w_goBack {l : Launch} {G : ga_} {h : HP} {sz x n : Nat} {a : Int32} (hst : l.stackTraces = false) (I : LI G h sz x n) (hn : n < 999000) : Wc G l yL_goBack cL_goBack 4 [(0, 9, 12, 13), (0, 9, 15, 31)] [.ref x, .int a, .ref (x + 28)] yX6_goBack cX6_goBack 3 1 22 [.ref (x + 21), .int a] h sz x (n + 2) := by
  obtain ⟨S, st, sl, D, nx, z, cf, len, A, dg, Hf, fo, kk, w, wM, wo, R⟩ := I
  have gs := R.ok.sw R.hr
  have hk : ∀ p, p < 4 → k_k S (nI p) ≤ 28 := fun p hp => R.ok.kle hp
  obtain ⟨P, hP2, hP4, hP, hmv, -⟩ := R.ok.nb.pl
  have hpl : ∀ u, m_in u 0 ((gu S 1 Hf) 5 0 - 1) = g_has S u := fun u => hasN hP hP4 u
  have hX : ∀ E, th2 (okN a 2) eIA (sl a.toNatClampNeg).isSome eIS = some E → ∀ s2, Mf G l yX6_goBack cX6_goBack 3 (some .int) 1 22 0 0 [.ref (x + 21), .int a] h s2 (some (.int 0)) (pM G h (x + 21) (gu S 1 Hf) (ac A 0 (if E = eIA then 1 else 2)) dg) s2 := by
    intro E ht s2
    rcases th2_or ht with ⟨z1, rfl⟩ | ⟨z1, z2, rfl⟩
    · rw [if_pos rfl]
      exact c_X6_goBack_f wM ((min2 _).trans z1)
    · rw [if_neg (by decide)]
      obtain ⟨j, hj, rfl⟩ := okN_nat (k := 2) (by decide) z1
      rw [nI_clamp (by omega)] at z2
      refine c_X6_goBack_n wM hj R.hkk R.k4 ((Nat.mod_two_eq_zero_or_one _).resolve_right (fun q => ?_))
      rw [(R.sl_ j hj).1.mp q] at z2
      exact absurd z2 (by decide)
  have hT := hT_M (l := l) (y := yX6_goBack) (cc := cX6_goBack) (nL := 3) (fr := 1) (lo := 22) (av := [.ref (x + 21), .int a]) (dg := dg) (n2 := n + 2) (S2 := g_bec S (kD sl D a.toNatClampNeg)) (ok := okN a 2 && (sl a.toNatClampNeg).isSome) (r0 := g_stock (g_bec S (kD sl D a.toNatClampNeg))) w R (by omega) (by
    intro ok
    rw [Bool.and_eq_true] at ok
    obtain ⟨j, hj, rfl⟩ := okN_nat (k := 2) (by decide) ok.1
    have ok2 := ok.2
    rw [nI_clamp (by omega)] at ok2 ⊢
    obtain ⟨q, hq⟩ := Option.isSome_iff_exists.mp ok2
    obtain ⟨s1_, s2_⟩ := R.sl_ j hj
    obtain ⟨g1, Hq, g2, g3⟩ := s2_ q hq
    have ek : kD sl D j = D q := by unfold kD; rw [hq]
    rw [ek]
    refine ⟨((bec_R S (D q)).ok g1).up (by omega), Hq, (bec_R S (D q)).rel g1 g2, fun h2 s1 k => ?_⟩
    exact c_X6_goBack_t (l := l) (sz := s1) (S2 := gu (g_bec S (D q)) 1 Hq) k hj R.hkk R.k4 (s1_.mpr ok2) R.hz w.z6 (fun i hi => by rw [(bec_R S (D q)).gus.ens]; exact g3 i hi))
  exact ⟨_, c_L_goBack w.ob (c_X5_goBack hst w) ⟨by decide, by decide, by decide, by decide⟩ (fun E q => by rcases th2_or q with ⟨-, q2⟩ | ⟨-, -, q2⟩; exact Or.inl q2; exact Or.inr q2) (hv_of wo (fun v h1 s1 hp => ⟨_, hp.1⟩) (fun r h1 s1 hp => (hT r h1 s1 hp).1)), stp_gen w wM wo R (by omega) hX hT⟩
