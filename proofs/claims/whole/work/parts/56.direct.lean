/-! THE LAW'S OWN CALLS -/
section LD
variable {l : Launch} {G : ga_} {h h1 h2 : HP} {sz s1 s2 x : Nat} {n n2 : Nat} {S S2 : gS} {st sl : Nat → Option Nat} {D : Nat → gS} {nx z len : Nat} {cf : Nat → Int32} {A A2 : gS} {Hf H2 : Nat → Int32} {kk : Nat} {dg : Int64} {fo : Nat → Int64}
variable {y : MethodName} {cc : ByteArray} {nL fr lo : Nat} {av : List Value}
theorem dir_gen {Post : Option Value → HP → Nat → Prop} (wM : MA G h (x + 21) (gu S 1 Hf) A dg) (wo : h (x + 28) = some (aJ_ G 1 fo)) (hi : ∀ v h1 s1, Post v h1 s1 → ∃ r, v = some (.int r))
    (hT : ∀ r h1 s1, Post (some (.int r)) h1 s1 → fr_ h h1 x (x + 29) ∧ ∃ S2 st2 sl2 D2 nx2 z2 cf2 len2 A2 dg2 H2 kk2, RA G h1 x (x + 29) s1 S2 st2 sl2 D2 nx2 z2 cf2 len2 ∧ RI n2 S2 st2 sl2 D2 nx2 z2 cf2 len2 A2 H2 kk2 ∧ A2 6 0 = 0 ∧ ∀ h2, MA G h2 (x + 21) (gu S 1 Hf) A dg → Mf G l y cc nL (some .int) fr lo 0 0 av h2 s1 (some (.int r)) (pM G h2 (x + 21) (gu S2 1 H2) A2 dg2) s1) :
    ∀ v h1 s1, Post v h1 s1 → ∃ r h3, v = some (.int r) ∧ (∃ fs, h1 (x + 21) = some (ob_ 6 fs)) ∧ Mf G l y cc nL (some .int) fr lo 0 0 av h1 s1 (some (.int r)) h3 s1 ∧ LI G h3 s1 x n2 := by
  intro v h1 s1 hp
  obtain ⟨r, rfl⟩ := hi v h1 s1 hp
  obtain ⟨q, S2, st2, sl2, D2, nx2, z2, cf2, len2, A2, dg2, H2, kk2, w2, R2, e0, hM⟩ := hT r h1 s1 hp
  exact ⟨r, _, rfl, ⟨_, MA_o (wM.frk q)⟩, hM h1 (wM.frk q), LI.mk w2 (Nat.le_refl _) ((q _ (by omega) (by omega)).trans wo) R2⟩
end LD
theorem lcmp_s (y : Int64) : lg_cmp y y = 0 := by unfold lg_cmp; rw [if_neg (Int64.lt_irrefl), if_pos rfl]
set_option maxHeartbeats 800000 in
theorem d_draw {l : Launch} {G : ga_} {h : HP} {sz x n : Nat} (I : LI G h sz x n) (hn : n < 999000) : ∃ fs Po, h x = some (ob_ 5 fs) ∧ Mg G l yX5_draw cX5_draw 1 (some .int) 5 113 11 387 [.ref x] h sz Po ∧ ∀ v h1 s1, Po v h1 s1 → ∃ r h3, v = some (.int r) ∧ (∃ fs, h1 (x + 21) = some (ob_ 6 fs)) ∧ Mf G l yX6_draw cX6_draw 1 (some .int) 4 90 0 0 [.ref (x + 21)] h1 s1 (some (.int r)) h3 s1 ∧ LI G h3 s1 x (n + 2) := by
  obtain ⟨S, st, sl, D, nx, z, cf, len, A, dg, Hf, fo, kk, w, wM, wo, R⟩ := I
  have gs := R.ok.sw R.hr
  have hk : ∀ p, p < 4 → k_k S (nI p) ≤ 28 := fun p hp => R.ok.kle hp
  have hT := hT_M (l := l) (y := yX6_draw) (cc := cX6_draw) (nL := 1) (fr := 4) (lo := 90) (av := [.ref (x + 21)]) (dg := dg) (n2 := n + 2) (S2 := g_draw S) (ok := true) (r0 := g_drawA S) w R (by omega) (by
    intro ok
    obtain ⟨H2, m1, m2, m3⟩ := sw_draw R.ok R.hr
    refine ⟨R.ok.draw.up (by omega), H2, m2, fun h2 s1 k => ?_⟩
    have q := c_X6_draw (l := l) (sz := s1) k R.hz w.z6 gs
    rw [m1, m3] at q
    exact q)
  exact ⟨_, _, w.ob, c_X5_draw w, dir_gen wM wo (fun v h1 s1 hp => ⟨_, hp.1⟩) hT⟩
set_option maxHeartbeats 800000 in
theorem d_pass {l : Launch} {G : ga_} {h : HP} {sz x n : Nat} (I : LI G h sz x n) (hn : n < 999000) : ∃ fs Po, h x = some (ob_ 5 fs) ∧ Mg G l yX5_pass cX5_pass 1 (some .int) 5 112 11 387 [.ref x] h sz Po ∧ ∀ v h1 s1, Po v h1 s1 → ∃ r h3, v = some (.int r) ∧ (∃ fs, h1 (x + 21) = some (ob_ 6 fs)) ∧ Mf G l yX6_pass cX6_pass 1 (some .int) 4 88 0 0 [.ref (x + 21)] h1 s1 (some (.int r)) h3 s1 ∧ LI G h3 s1 x (n + 2) := by
  obtain ⟨S, st, sl, D, nx, z, cf, len, A, dg, Hf, fo, kk, w, wM, wo, R⟩ := I
  have gs := R.ok.sw R.hr
  have hk : ∀ p, p < 4 → k_k S (nI p) ≤ 28 := fun p hp => R.ok.kle hp
  have hT := hT_M (l := l) (y := yX6_pass) (cc := cX6_pass) (nL := 1) (fr := 4) (lo := 88) (av := [.ref (x + 21)]) (dg := dg) (n2 := n + 2) (S2 := g_pass S) (ok := true) (r0 := g_passA S) w R (by omega) (by
    intro ok
    obtain ⟨H2, m1, m2, m3⟩ := sw_pass R.ok R.hr
    refine ⟨R.ok.pass.up (by omega), H2, m2, fun h2 s1 k => ?_⟩
    have q := c_X6_pass (l := l) (sz := s1) k R.hz w.z6 gs
    rw [m1, m3] at q
    exact q)
  exact ⟨_, _, w.ob, c_X5_pass w, dir_gen wM wo (fun v h1 s1 hp => ⟨_, hp.1⟩) hT⟩
set_option maxHeartbeats 800000 in
theorem d_setting {l : Launch} {G : ga_} {h : HP} {sz x n : Nat} (I : LI G h sz x n) (hn : n < 999000) : ∃ fs Po, h x = some (ob_ 5 fs) ∧ Mg G l yX5_setting cX5_setting 1 (some .int) 0 0 0 0 [.ref x] h sz Po ∧ ∀ v h1 s1, Po v h1 s1 → ∃ r h3, v = some (.int r) ∧ (∃ fs, h1 (x + 21) = some (ob_ 6 fs)) ∧ Mf G l yX6_setting cX6_setting 1 (some .int) 0 0 0 0 [.ref (x + 21)] h1 s1 (some (.int r)) h3 s1 ∧ LI G h3 s1 x (n + 2) := by
  obtain ⟨S, st, sl, D, nx, z, cf, len, A, dg, Hf, fo, kk, w, wM, wo, R⟩ := I
  have gs := R.ok.sw R.hr
  have hk : ∀ p, p < 4 → k_k S (nI p) ≤ 28 := fun p hp => R.ok.kle hp
  have hT := hT_L (l := l) (y := yX6_setting) (cc := cX6_setting) (nL := 1) (fr := 0) (lo := 0) (av := [.ref (x + 21)]) (dg := dg) (n2 := n + 2) (ok := true) (r0 := S 5 7) w R (by omega) (by
    intro ok
    intro h2 s1 k
    exact c_X6_setting (l := l) (sz := s1) k)
  exact ⟨_, _, w.ob, c_X5_setting w, dir_gen wM wo (fun v h1 s1 hp => ⟨_, hp.1⟩) hT⟩
set_option maxHeartbeats 800000 in
theorem d_advice {l : Launch} {G : ga_} {h : HP} {sz x n : Nat} (I : LI G h sz x n) (hn : n < 999000) : ∃ fs Po, h x = some (ob_ 5 fs) ∧ Mg G l yX5_advice cX5_advice 1 (some .int) 4 92 0 0 [.ref x] h sz Po ∧ ∀ v h1 s1, Po v h1 s1 → ∃ r h3, v = some (.int r) ∧ (∃ fs, h1 (x + 21) = some (ob_ 6 fs)) ∧ Mf G l yX6_advice cX6_advice 1 (some .int) 4 94 0 0 [.ref (x + 21)] h1 s1 (some (.int r)) h3 s1 ∧ LI G h3 s1 x (n + 2) := by
  obtain ⟨S, st, sl, D, nx, z, cf, len, A, dg, Hf, fo, kk, w, wM, wo, R⟩ := I
  have gs := R.ok.sw R.hr
  have hk : ∀ p, p < 4 → k_k S (nI p) ≤ 28 := fun p hp => R.ok.kle hp
  have hT := hT_L (l := l) (y := yX6_advice) (cc := cX6_advice) (nL := 1) (fr := 4) (lo := 94) (av := [.ref (x + 21)]) (dg := dg) (n2 := n + 2) (ok := true) (r0 := g_adv S) w R (by omega) (by
    intro ok
    intro h2 s1 k
    have q := c_X6_advice (l := l) (sz := s1) k gs.nb
    rw [adv_eq gs, sw_adv R.ok.nb R.hr hk] at q
    exact q)
  exact ⟨_, _, w.ob, c_X5_advice w, dir_gen wM wo (fun v h1 s1 hp => ⟨_, hp.1⟩) hT⟩
set_option maxHeartbeats 800000 in
theorem d_commonest {l : Launch} {G : ga_} {h : HP} {sz x n : Nat} (I : LI G h sz x n) (hn : n < 999000) : ∃ fs Po, h x = some (ob_ 5 fs) ∧ Mg G l yX5_commonest cX5_commonest 1 (some .int) 3 68 0 0 [.ref x] h sz Po ∧ ∀ v h1 s1, Po v h1 s1 → ∃ r h3, v = some (.int r) ∧ (∃ fs, h1 (x + 21) = some (ob_ 6 fs)) ∧ Mf G l yX6_commonest cX6_commonest 1 (some .int) 3 66 0 0 [.ref (x + 21)] h1 s1 (some (.int r)) h3 s1 ∧ LI G h3 s1 x (n + 2) := by
  obtain ⟨S, st, sl, D, nx, z, cf, len, A, dg, Hf, fo, kk, w, wM, wo, R⟩ := I
  have gs := R.ok.sw R.hr
  have hk : ∀ p, p < 4 → k_k S (nI p) ≤ 28 := fun p hp => R.ok.kle hp
  have hT := hT_L (l := l) (y := yX6_commonest) (cc := cX6_commonest) (nL := 1) (fr := 3) (lo := 66) (av := [.ref (x + 21)]) (dg := dg) (n2 := n + 2) (ok := true) (r0 := g_cl S 6) w R (by omega) (by
    intro ok
    intro h2 s1 k
    have q := c_X6_commonest (l := l) (sz := s1) k
    rw [sw_cl] at q
    exact q)
  exact ⟨_, _, w.ob, c_X5_commonest w, dir_gen wM wo (fun v h1 s1 hp => ⟨_, hp.1⟩) hT⟩
set_option maxHeartbeats 800000 in
theorem d_clearBuffer {l : Launch} {G : ga_} {h : HP} {sz x n : Nat} (I : LI G h sz x n) (hn : n < 999000) : ∃ fs Po, h x = some (ob_ 5 fs) ∧ Mg G l yX5_clearBuffer cX5_clearBuffer 2 (some .int) 0 0 0 0 [.ref x] h sz Po ∧ ∀ v h1 s1, Po v h1 s1 → ∃ r h3, v = some (.int r) ∧ (∃ fs, h1 (x + 21) = some (ob_ 6 fs)) ∧ Mf G l yX6_clearBuffer cX6_clearBuffer 2 (some .int) 0 0 0 0 [.ref (x + 21)] h1 s1 (some (.int r)) h3 s1 ∧ LI G h3 s1 x (n + 2) := by
  obtain ⟨S, st, sl, D, nx, z, cf, len, A, dg, Hf, fo, kk, w, wM, wo, R⟩ := I
  have gs := R.ok.sw R.hr
  have hk : ∀ p, p < 4 → k_k S (nI p) ≤ 28 := fun p hp => R.ok.kle hp
  have hT : ∀ r h1 s1, poX G h x (x + 29) sz S st sl D nx z true (nI len) cf 0 (some (.int r)) h1 s1 → fr_ h h1 x (x + 29) ∧ ∃ S2 st2 sl2 D2 nx2 z2 cf2 len2 A2 dg2 H2 kk2, RA G h1 x (x + 29) s1 S2 st2 sl2 D2 nx2 z2 cf2 len2 ∧ RI (n + 2) S2 st2 sl2 D2 nx2 z2 cf2 len2 A2 H2 kk2 ∧ A2 6 0 = 0 ∧ ∀ h2, MA G h2 (x + 21) (gu S 1 Hf) A dg → Mf G l yX6_clearBuffer cX6_clearBuffer 2 (some .int) 0 0 0 0 [.ref (x + 21)] h2 s1 (some (.int r)) (pM G h2 (x + 21) (gu S2 1 H2) A2 dg2) s1 := by
    rintro r h1 s1 ⟨hv, hok, rfl, hf, w2⟩
    have hv1 := Value.int.inj (Option.some.inj hv)
    subst hv1
    have R2 : RI (n + 2) S st sl D nx z cf 0 (ac (ac A 0 0) 3 0) Hf kk := by
      refine (R.up (by omega)).txt ?_ ?_ ac_s (fun i hi => absurd hi (Nat.not_lt_zero i)) ?_ ?_ ?_
      · rw [ac_n (by decide), ac_n (by decide)]
      · rw [ac_n (by decide), ac_n (by decide)]
      · obtain ⟨p, b, t1, t2⟩ := R.ht
        refine ⟨p, b, ?_, ?_⟩
        · rw [ac_n (by decide), ac_n (by decide)]; exact t1
        · rw [ac_n (by decide), ac_n (by decide)]; exact t2
      · rw [ac_o (by decide), ac_o (by decide)]
      · rw [ac_o (by decide), ac_o (by decide)]
    refine ⟨hf, _, _, _, _, _, _, _, _, _, dg, _, _, w2, R2, by rw [ac_n (by decide), ac_s], fun h2 k => ?_⟩
    have q := c_X6_clearBuffer (l := l) (sz := s1) k
    rw [R.hlen] at q
    exact q
  exact ⟨_, _, w.ob, c_X5_clearBuffer w, dir_gen wM wo (fun v h1 s1 hp => ⟨_, hp.1⟩) hT⟩
set_option maxHeartbeats 800000 in
theorem d_firstError {l : Launch} {G : ga_} {h : HP} {sz x n : Nat} (I : LI G h sz x n) (hn : n < 999000) : ∃ fs Po, h x = some (ob_ 5 fs) ∧ Mg G l yX5_firstError cX5_firstError 1 (some .int) 3 63 0 0 [.ref x] h sz Po ∧ ∀ v h1 s1, Po v h1 s1 → ∃ r h3, v = some (.int r) ∧ (∃ fs, h1 (x + 21) = some (ob_ 6 fs)) ∧ Mf G l yX6_firstError cX6_firstError 2 (some .int) 6 139 0 0 [.ref (x + 21)] h1 s1 (some (.int r)) h3 s1 ∧ LI G h3 s1 x (n + 2) := by
  obtain ⟨S, st, sl, D, nx, z, cf, len, A, dg, Hf, fo, kk, w, wM, wo, R⟩ := I
  have gs := R.ok.sw R.hr
  have hk : ∀ p, p < 4 → k_k S (nI p) ≤ 28 := fun p hp => R.ok.kle hp
  obtain ⟨tp, tw, t4, t5⟩ := R.ht
  obtain ⟨t, et⟩ := tA_of t4 t5
  have hc := chk (f := A 3) (n := len) (len + 1) 0 (gu S 1 Hf) (0, false, t.2.2) (Nat.zero_le _) rfl rfl (by omega)
  have xe : (if (e_go (A 3) len false (len + 1) 0 (gu S 1 Hf) (0, false, t.2.2)).2.2.2.1 = true then nI (e_go (A 3) len false (len + 1) 0 (gu S 1 Hf) (0, false, t.2.2)).2.2.1 else nI len) = nI (x_err cf len) := by
    rw [← xerr_eq (f := A 3) (g := cf) len R.hcf]
    rcases hc with ⟨c1, c2⟩ | ⟨c1, c2⟩
    · rw [if_pos c1, chk_err c2]
    · rw [if_neg (by rw [c1]; decide), ok_err c2]
  have hT : ∀ r h1 s1, poL h sz true (nI (x_err cf len)) (some (.int r)) h1 s1 → fr_ h h1 x (x + 29) ∧ ∃ S2 st2 sl2 D2 nx2 z2 cf2 len2 A2 dg2 H2 kk2, RA G h1 x (x + 29) s1 S2 st2 sl2 D2 nx2 z2 cf2 len2 ∧ RI (n + 2) S2 st2 sl2 D2 nx2 z2 cf2 len2 A2 H2 kk2 ∧ A2 6 0 = 0 ∧ ∀ h2, MA G h2 (x + 21) (gu S 1 Hf) A dg → Mf G l yX6_firstError cX6_firstError 2 (some .int) 6 139 0 0 [.ref (x + 21)] h2 s1 (some (.int r)) (pM G h2 (x + 21) (gu S2 1 H2) A2 dg2) s1 := by
    rintro r h1 s1 ⟨hv, hok, rfl, rfl⟩
    have hv1 := Value.int.inj (Option.some.inj hv)
    subst hv1
    have mv : ∀ H, MA G H (x + 21) (gu S 1 Hf) A dg → MA G H (x + 21) (gu S 1 Hf) (tA A t) dg := fun H k => by rw [← et]; exact k
    refine ⟨fun _ _ _ => rfl, _, _, _, _, _, _, _, _, _, dg, _, _, w, ((R.up (by omega)).thr 0).txA (e_go (A 3) len false (len + 1) 0 (gu S 1 Hf) (0, false, t.2.2)).2.2, (tA_n (by decide)).trans ac_s, fun h2 k => ?_⟩
    have q := c_X6_firstError (l := l) (sz := s1) (mv h2 k) R.hlen w.l60
    rw [← xe]
    exact q
  exact ⟨_, _, w.ob, c_X5_firstError w, dir_gen wM wo (fun v h1 s1 hp => ⟨_, hp.1⟩) hT⟩
set_option maxHeartbeats 800000 in
theorem d_rustShare {l : Launch} {G : ga_} {h : HP} {sz x n : Nat} (I : LI G h sz x n) (hn : n < 999000) : ∃ fs Po, h x = some (ob_ 5 fs) ∧ Mg G l yX5_rustShare cX5_rustShare 1 (some .double) 3 66 0 0 [.ref x] h sz Po ∧ ∀ v h1 s1, Po v h1 s1 → ∃ r h3, v = some (.double r) ∧ (∃ fs, h1 (x + 21) = some (ob_ 6 fs)) ∧ Mf G l yX6_rustShare cX6_rustShare 1 (some .double) 2 41 0 0 [.ref (x + 21)] h1 s1 (some (.double r)) h3 s1 ∧ LI G h3 s1 x (n + 2) := by
  obtain ⟨S, st, sl, D, nx, z, cf, len, A, dg, Hf, fo, kk, w, wM, wo, R⟩ := I
  have gs := R.ok.sw R.hr
  refine ⟨_, _, w.ob, c_X5_rustShare w R.ok.share.1, ?_⟩
  rintro v h1 s1 ⟨rfl, rfl, rfl⟩
  have q := c_X6_rustShare (l := l) (sz := s1) wM gs.nb R.ok.share.1
  rw [show g_tal (gu S 1 Hf) 1 = g_tal S 1 from rfl] at q
  exact ⟨_, _, rfl, ⟨_, MA_o wM⟩, q, LI.mk w (Nat.le_refl _) wo ((R.up (n2 := n + 2) (by omega)).thr 0)⟩
set_option maxHeartbeats 800000 in
theorem d_digest {l : Launch} {G : ga_} {h : HP} {sz x n : Nat} (I : LI G h sz x n) (hn : n < 999000) : ∃ fs Po, h x = some (ob_ 5 fs) ∧ Mg G l yX5_digest cX5_digest 4 (some .long) 6 145 0 0 [.ref x] h sz Po ∧ ∀ v h1 s1, Po v h1 s1 → ∃ r h3, v = some (.long r) ∧ (∃ fs, h1 (x + 21) = some (ob_ 6 fs)) ∧ Mf G l yX6_digest cX6_digest 2 (some .long) 7 161 0 0 [.ref (x + 21)] h1 s1 (some (.long r)) h3 s1 ∧ LI G h3 s1 x (n + 2) := by
  obtain ⟨S, st, sl, D, nx, z, cf, len, A, dg, Hf, fo, kk, w, wM, wo, R⟩ := I
  have gs := R.ok.sw R.hr
  obtain ⟨P, hP2, hP4, hP, hmv, -⟩ := R.ok.nb.pl
  obtain ⟨K, hK28, hK⟩ := R.ok.nb.gone
  have hh : ∀ i, i < (S 5 0).toNatClampNeg → ¬ g_held S (nI i) < 0 := fun i hi => by
    rw [hP, nI_clamp (by omega)] at hi
    obtain ⟨k1, k2, -⟩ := R.ok.nb.hk (show i < 4 by omega)
    rw [show g_held S (nI i) = nI (k_k S (nI i)) from k1]
    exact nI_pos (by omega)
  refine ⟨_, _, w.ob, c_X5_digest w hh R.ok.share.1 R.ok.share.2.1, ?_⟩
  rintro v h1 s1 ⟨rfl, hf, w2, hf2, of, t, rfl⟩
  have wM2 := wM.frk hf
  have q := c_X6_digest (l := l) (sz := s1) wM2 gs.nb R.hz R.hkk R.k4 R.hlen w.l60 hP hP4 hK hK28 R.ok.share.1 R.ok.share.2.2.1
  rw [dg_eq R.ok R.hr (cg := cf) (Fm := A 4) (hf := hf2) (f := of) (t := t) (sl := sl) hP hP4 hK hK28 R.hcf (fun j hj => (R.sl_ j hj).1)] at q
  exact ⟨_, _, rfl, ⟨_, MA_o wM2⟩, q, LI.mk w2 (Nat.le_refl _) ((hf _ (by omega) (by omega)).trans wo) (((R.up (by omega)).thr 0).buf (Or.inl rfl) _)⟩
