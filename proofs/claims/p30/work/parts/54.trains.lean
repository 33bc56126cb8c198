/-! TRAINS -/
section TQ
variable {n : Nat} {S : gS} {P K W Q T F : Nat} {H R L : Nat → Nat} {gr : Nat → Nat → Nat} {ag : Nat → Nat}
-- trains of a hand
theorem tk_raw (p : Int32) (hf : Nat → Int32) : ∀ N, N ≤ 10 → ∀ i, i < N → t_half (t_tk S p hf N) (nI i) 0 = 1 <<< (tAt 7 196 (S 0) (g_hand S p (nI i)) 0 &&& 31) ∧ t_half (t_tk S p hf N) (nI i) 1 = 1 <<< (tAt 7 196 (S 0) (g_hand S p (nI i)) 1 &&& 31) := by
  intro N
  induction N with
  | zero => intro _ i hi; omega
  | succ N ih =>
    intro hN i hi
    have put : ∀ (g : Nat → Int32) (w : Nat) (v : Int32), w < 2 → tPut 2 20 g (nI N) (nI w) v = upd g (N * 2 + w) v := fun g w v hw => tPut_in (C := 2) (n := 20) (by omega) (by decide)
    have at_ : ∀ (g : Nat → Int32) (w : Nat), w < 2 → tAt 2 20 g (nI i) (nI w) = g (i * 2 + w) := fun g w hw => tAt_in (C := 2) (n := 20) (by omega) (by decide)
    have e : ∀ w, w < 2 → t_half (t_tk S p hf (N + 1)) (nI i) (nI w) = upd (upd (t_tk S p hf N) (N * 2 + 0) (1 <<< (tAt 7 196 (S 0) (g_hand S p (nI N)) 0 &&& 31))) (N * 2 + 1) (1 <<< (tAt 7 196 (S 0) (g_hand S p (nI N)) 1 &&& 31)) (i * 2 + w) := by
      intro w hw
      show tAt 2 20 (tPut 2 20 (tPut 2 20 (t_tk S p hf N) (nI N) 0 _) (nI N) 1 _) (nI i) (nI w) = _
      rw [at_ _ w hw, show ∀ (g : Nat → Int32) v, tPut 2 20 g (nI N) 0 v = _ from fun g v => put g 0 v (by decide), show ∀ (g : Nat → Int32) v, tPut 2 20 g (nI N) 1 v = _ from fun g v => put g 1 v (by decide)]
    have h0 := e 0 (by decide)
    have h1 := e 1 (by decide)
    by_cases c : i = N
    · subst c
      rw [upd_n (by omega), upd_s] at h0
      rw [upd_s] at h1
      exact ⟨h0, h1⟩
    · rw [upd_n (by omega), upd_n (by omega)] at h0 h1
      obtain ⟨i1, i2⟩ := ih (by omega) i (by omega)
      have q0 : t_half (t_tk S p hf N) (nI i) 0 = t_tk S p hf N (i * 2 + 0) := at_ _ 0 (by decide)
      have q1 : t_half (t_tk S p hf N) (nI i) 1 = t_tk S p hf N (i * 2 + 1) := at_ _ 1 (by decide)
      exact ⟨h0.trans (q0.symm.trans i1), h1.trans (q1.symm.trans i2)⟩
theorem gO.halves (o : gO n S P K W Q T F H R L gr ag) {u : Nat} (hu : u < 4) : ∃ a b : Nat → Nat, (∀ i, i < H u → ∃ t, t < 28 ∧ g_hand S (nI u) (nI i) = nI t ∧ S 0 (t * 7 + 0) = nI (a i) ∧ S 0 (t * 7 + 1) = nI (b i) ∧ a i < 7 ∧ b i < 7) ∧ (H u ≤ 10 → ∀ hf, HV (k_hf S (nI u) hf) (H u) a b) := by
  have hK := o.n5.1.2.2.1
  have hh := oh_le o.hh hu
  have hall : ∀ i, i < H u → ∃ t, t < 28 ∧ g_hand S (nI u) (nI i) = nI t ∧ S 0 (t * 7 + 0) = nI (gr (g_hand S (nI u) (nI i)).toNatClampNeg 0) ∧ S 0 (t * 7 + 1) = nI (gr (g_hand S (nI u) (nI i)).toNatClampNeg 1) ∧ gr (g_hand S (nI u) (nI i)).toNatClampNeg 0 < 7 ∧ gr (g_hand S (nI u) (nI i)).toNatClampNeg 1 < 7 := by
    intro i hi
    obtain ⟨t, ht, -, e2, -⟩ := o.tileAt hu hi
    obtain ⟨g1, g2, g3, g4, -⟩ := o.t0 t ht
    refine ⟨t, ht, e2, ?_⟩
    rw [e2, nI_clamp (by omega)]
    exact ⟨g1, g2, g3, g4⟩
  refine ⟨fun i => gr (g_hand S (nI u) (nI i)).toNatClampNeg 0, fun i => gr (g_hand S (nI u) (nI i)).toNatClampNeg 1, hall, fun h10 hf i hi => ?_⟩
  obtain ⟨t, ht, e2, a0, a1, a2, a3⟩ := hall i hi
  unfold k_hf
  rw [show g_held S (nI u) = nI (H u) from o.held hu, nI_clamp (by omega), Nat.min_eq_left h10]
  obtain ⟨q0, q1⟩ := tk_raw (S := S) (nI u) hf (H u) h10 i hi
  rw [q0, q1]
  rw [show tAt 7 196 (S 0) (g_hand S (nI u) (nI i)) 0 = nI (gr (g_hand S (nI u) (nI i)).toNatClampNeg 0) by rw [← a0, e2]; exact at0 (w := 0) ht (by decide), show tAt 7 196 (S 0) (g_hand S (nI u) (nI i)) 1 = nI (gr (g_hand S (nI u) (nI i)).toNatClampNeg 1) by rw [← a1, e2]; exact at0 (w := 1) ht (by decide), sh_ok _ (by omega), sh_ok _ (by omega)]
  exact ⟨rfl, rfl, a2, a3⟩
def hasG (S : gS) (u g j : Nat) : Bool := decide (tAt 7 196 (S 0) (g_hand S (nI u) (nI j)) 0 = nI g) || decide (tAt 7 196 (S 0) (g_hand S (nI u) (nI j)) 1 = nI g)
def c_w (S : gS) (u g : Nat) : Nat → Nat
  | 0 => 0
  | j + 1 => c_w S u g j + (if hasG S u g j then 1 else 0)
theorem has_at {u g j t : Nat} (ht : t < 28) (e2 : g_hand S (nI u) (nI j) = nI t) : hasG S u g j = (decide (S 0 (t * 7 + 0) = nI g) || decide (S 0 (t * 7 + 1) = nI g)) := by
  unfold hasG
  rw [e2, show tAt 7 196 (S 0) (nI t) 0 = S 0 (t * 7 + 0) from at0 (w := 0) ht (by decide), show tAt 7 196 (S 0) (nI t) 1 = S 0 (t * 7 + 1) from at0 (w := 1) ht (by decide)]
theorem cw_1 {u g j : Nat} (h : hasG S u g j = true) : nI (c_w S u g j) + 1 = nI (c_w S u g (j + 1)) := by
  show _ = nI (c_w S u g j + (if hasG S u g j then 1 else 0))
  rw [if_pos h, nI_1]
theorem cw_0 {u g j : Nat} (h : hasG S u g j = false) : nI (c_w S u g j) + 0 = nI (c_w S u g (j + 1)) := by
  show _ = nI (c_w S u g j + (if hasG S u g j then 1 else 0))
  rw [h, if_neg (by decide), Int32.add_zero]
  rfl
theorem cw_pos (S : gS) (u g : Nat) : ∀ k, c_w S u g k ≤ k ∧ (0 < c_w S u g k ↔ ∃ j, j < k ∧ hasG S u g j = true) := by
  intro k
  induction k with
  | zero => exact ⟨Nat.le_refl 0, fun h => absurd h (Nat.lt_irrefl 0), fun ⟨j, hj, _⟩ => absurd hj (Nat.not_lt_zero j)⟩
  | succ k ih =>
    obtain ⟨h1, h2⟩ := ih
    show c_w S u g k + (if hasG S u g k then 1 else 0) ≤ k + 1 ∧ (0 < c_w S u g k + (if hasG S u g k then 1 else 0) ↔ _)
    by_cases c : hasG S u g k = true
    · rw [if_pos c]
      exact ⟨by omega, fun _ => ⟨k, by omega, c⟩, fun _ => by omega⟩
    · rw [if_neg c]
      refine ⟨by omega, fun q => ?_, fun ⟨j, hj, e⟩ => ?_⟩
      · obtain ⟨j, hj, e⟩ := h2.mp q
        exact ⟨j, by omega, e⟩
      · have : j ≠ k := fun z => by subst z; exact c e
        exact h2.mpr ⟨j, by omega, e⟩
set_option maxRecDepth 100000 in
theorem onc_pos : ∀ c, c < 1024 → (0 < onc c ↔ c ≠ 0) := by decide +kernel
theorem mx_pos {of : Nat → Int32} {k : Nat} (hk : k ≤ 10) : ∀ n, n ≤ 2 ^ k → ∃ x, x ≤ k ∧ t_mx of n = nI x ∧ (0 < x ↔ ∃ c, c < n ∧ of c ≠ 0 ∧ c ≠ 0) := by
  intro n
  induction n with
  | zero => intro _; exact ⟨0, Nat.zero_le _, rfl, fun h => absurd h (Nat.lt_irrefl 0), fun ⟨c, hc, _⟩ => absurd hc (Nat.not_lt_zero c)⟩
  | succ n ih =>
    intro hn
    obtain ⟨x, h1, h2, h3⟩ := ih (by omega)
    have hp := p2_le hk
    have hl := onc_le k (by omega) n (by omega)
    have ho := onc_pos n (by omega)
    show ∃ x, x ≤ k ∧ (if of n = 0 then t_mx of n else if t_mx of n < j_bc (nI n) then j_bc (nI n) else t_mx of n) = nI x ∧ _
    by_cases c1 : of n = 0
    · rw [if_pos c1]
      refine ⟨x, h1, h2, fun q => ?_, fun ⟨c, hc, q1, q2⟩ => h3.mpr ⟨c, ?_, q1, q2⟩⟩
      · obtain ⟨c, hc, z⟩ := h3.mp q
        exact ⟨c, by omega, z⟩
      · have : c ≠ n := fun z => by subst z; exact q1 c1
        omega
    · rw [if_neg c1, (onc_ok n (by omega)).1, h2]
      by_cases c2 : x < onc n
      · rw [if_pos (nI_lt c2 (by omega))]
        exact ⟨onc n, hl.1, rfl, fun q => ⟨n, by omega, c1, ho.mp q⟩, fun _ => by omega⟩
      · rw [if_neg (fun q => c2 ((nI_ltI (by omega) (by omega)).mp q))]
        refine ⟨x, h1, rfl, fun q => ?_, fun ⟨c, hc, q1, q2⟩ => ?_⟩
        · obtain ⟨c, hc, z⟩ := h3.mp q
          exact ⟨c, by omega, z⟩
        · by_cases c3 : c = n
          · subst c3
            have := ho.mpr q2
            omega
          · exact h3.mpr ⟨c, by omega, q1, q2⟩
theorem mx_same {f g : Nat → Int32} : ∀ n, (∀ c, c < n → (f c = 0 ↔ g c = 0)) → t_mx f n = t_mx g n := by
  intro n
  induction n with
  | zero => intro _; rfl
  | succ n ih =>
    intro h
    show (if f n = 0 then t_mx f n else if t_mx f n < j_bc (nI n) then j_bc (nI n) else t_mx f n) = (if g n = 0 then t_mx g n else if t_mx g n < j_bc (nI n) then j_bc (nI n) else t_mx g n)
    rw [ih (fun c hc => h c (by omega))]
    by_cases c : f n = 0
    · rw [if_pos c, if_pos ((h n (by omega)).mp c)]
    · rw [if_neg c, if_neg (fun q => c ((h n (by omega)).mpr q))]
theorem of_zero {hf : Nat → Int32} {a b : Nat → Nat} {k g : Nat} (h : HV hf k a b) (hk : k ≤ 10) (hg : g < 7) (f : Nat → Int32) (c : Nat) (hc : c < 2 ^ k) : t_of hf k (nI g) f c = 0 ↔ ∀ e, e < 7 → ¬ Dp a b k g (2 ^ k) c e := (of_bits h hk hg f c hc).zero
/-- a train is longer than nothing where a tile has its first grade -/
theorem mx_with {hf : Nat → Int32} {a b : Nat → Nat} {k g : Nat} (h : HV hf k a b) (hk : k ≤ 10) (hg : g < 7) (f : Nat → Int32) : ∃ x, x ≤ k ∧ t_mx (t_of hf k (nI g) f) (2 ^ k) = nI x ∧ (0 < x ↔ ∃ i, i < k ∧ (a i = g ∨ b i = g)) := by
  obtain ⟨x, h1, h2, h3⟩ := mx_pos (of := t_of hf k (nI g) f) hk (2 ^ k) (Nat.le_refl _)
  refine ⟨x, h1, h2, h3.trans ⟨fun ⟨c, hc, q1, q2⟩ => ?_, fun ⟨i, hi, q⟩ => ?_⟩⟩
  · have hne : ¬ ∀ e, e < 7 → ¬ Dp a b k g (2 ^ k) c e := fun z => q1 ((of_zero h hk hg f c hc).mpr z)
    obtain ⟨e, he⟩ := Classical.not_forall.mp hne
    obtain ⟨-, hd⟩ := Classical.not_imp.mp he
    obtain ⟨l, -, hl, hm, ht⟩ := Dp.out (Classical.not_not.mp hd)
    cases l with
    | nil => exact absurd hm.symm q2
    | cons i l =>
      refine ⟨i, hl i List.mem_cons_self, ?_⟩
      rcases ht with ⟨z, -⟩ | ⟨z, -⟩
      · exact Or.inl z
      · exact Or.inr z
  · have h2i : 2 ^ i < 2 ^ k := Nat.pow_lt_pow_right (by decide) hi
    have hi7 := h i hi
    refine ⟨2 ^ i, h2i, fun z => ?_, by have := p2_pos i; omega⟩
    have hz := (of_zero h hk hg f (2 ^ i) h2i).mp z
    have hms : msk [i] = 2 ^ i := by show 0 ||| 2 ^ i = 2 ^ i; exact Nat.zero_or _
    rcases q with q | q
    · have d := Dp.in_ (a := a) (b := b) (k := k) (g := g) 1 [i] (b i) rfl (by simp) (fun j hj => by rw [List.mem_singleton.mp hj]; exact hi) (Or.inl ⟨q, rfl⟩)
      rw [hms] at d
      exact hz (b i) hi7.2.2.2 (Dp.mono (Nat.le_of_lt h2i) d)
    · have d := Dp.in_ (a := a) (b := b) (k := k) (g := g) 1 [i] (a i) rfl (by simp) (fun j hj => by rw [List.mem_singleton.mp hj]; exact hi) (Or.inr ⟨q, rfl⟩)
      rw [hms] at d
      exact hz (a i) hi7.2.2.1 (Dp.mono (Nat.le_of_lt h2i) d)
/-- what the class tells of a hand's trains -/
theorem gO.train (o : gO n S P K W Q T F H R L gr ag) {u g : Nat} (hu : u < 4) (hg : g < 7) : (10 < H u ∧ ∀ hf of, k_long S (nI u) (nI g) hf of = -1 ∧ k_try S (nI u) (nI g) hf of = -1 ∧ k_count S (nI u) (nI g) hf = -1) ∨
    (H u ≤ 10 ∧ ∃ x, x ≤ H u ∧ (0 < x ↔ 0 < c_w S u g (H u)) ∧ ∀ hf of, k_long S (nI u) (nI g) hf of = nI x ∧ k_try S (nI u) (nI g) hf of = (if x = H u then 1 else 0) ∧ k_count S (nI u) (nI g) hf = (if x = H u then 1 else 0)) := by
  have hK := o.n5.1.2.2.1
  have hh := oh_le o.hh hu
  have hk : k_k S (nI u) = H u := by
    unfold k_k
    rw [show g_held S (nI u) = nI (H u) from o.held hu, nI_clamp (by omega)]
  by_cases c : 10 < H u
  · refine Or.inl ⟨c, fun hf of => ?_⟩
    unfold k_long k_try k_count t_most t_whole t_count
    rw [hk, if_pos c, if_pos c, if_pos c]
    exact ⟨rfl, rfl, rfl⟩
  · have h10 : H u ≤ 10 := by omega
    obtain ⟨a, b, hab, hv⟩ := o.halves hu
    have HVs := hv h10
    obtain ⟨x, h1, h2, h3⟩ := mx_with (HVs (fun _ => 0)) h10 hg (fun _ => 0)
    refine Or.inr ⟨h10, x, h1, h3.trans ?_, fun hf of => ?_⟩
    · rw [(cw_pos S u g (H u)).2]
      constructor
      · rintro ⟨i, hi, q⟩
        obtain ⟨t, ht, e2, a0, a1, a2, a3⟩ := hab i hi
        refine ⟨i, hi, ?_⟩
        rw [has_at ht e2, a0, a1, Bool.or_eq_true, decide_eq_true_eq, decide_eq_true_eq]
        exact q.imp (fun z => by rw [z]) (fun z => by rw [z])
      · rintro ⟨i, hi, q⟩
        obtain ⟨t, ht, e2, a0, a1, a2, a3⟩ := hab i hi
        rw [has_at ht e2, a0, a1, Bool.or_eq_true, decide_eq_true_eq, decide_eq_true_eq] at q
        exact ⟨i, hi, q.imp (fun z => nI_inj (by omega) (by omega) z) (fun z => nI_inj (by omega) (by omega) z)⟩
    · have hvh := HVs hf
      obtain ⟨x2, w1, w2, w3⟩ := whole_mx hvh h10 hg of
      have ex : t_mx (t_of (k_hf S (nI u) hf) (H u) (nI g) of) (2 ^ H u) = nI x := by
        rw [← h2]
        refine mx_same _ (fun c hc => ?_)
        rw [of_zero hvh h10 hg of c hc, of_zero (HVs (fun _ => 0)) h10 hg (fun _ => 0) c hc]
      have hx2 : x2 = x := nI_inj (by omega) (by omega) (w2.symm.trans ex)
      subst hx2
      have et : t_whole (t_of (k_hf S (nI u) hf) (H u) (nI g) of) (H u) = if x2 = H u then 1 else 0 := by
        unfold t_whole
        rw [if_neg c]
        by_cases d : x2 = H u
        · rw [if_pos d, if_neg (w3.mp d)]
        · rw [if_neg d, if_pos (Classical.not_not.mp (fun z => d (w3.mpr z)))]
      refine ⟨?_, ?_, ?_⟩
      · unfold k_long t_most
        rw [hk, if_neg c, ex]
      · unfold k_try
        rw [hk]
        exact et
      · unfold k_count
        rw [hk, count_eq hvh hg of]
        exact et
end TQ
theorem fr_.refl (h : HP) (x : Nat) (dy : Nat → Prop) : fr_ h h x dy := fun _ _ _ => rfl
set_option maxHeartbeats 800000 in
set_option maxRecDepth 100000 in
theorem c_L_areTrainsSo {G : ga_} {l : Launch} {h : HP} {sz x rr P0 u : Nat} {dy : Nat → Prop} {S : gS} {sv sl : Nat → Option Nat} {D : Nat → gS} {nx z len : Nat} {cf : Nat → Int32} (hst : l.stackTraces = false) (w : RA G h x dy sz S sv sl D nx z cf len) (g : gX rr S) (hP0 : S 5 0 = nI P0) (hP04 : P0 ≤ 4) (hu0 : u < P0) : Mg G l yL_areTrainsSo cL_areTrainsSo 9 (some .boolean) 8 141 1300 7800 [.ref x, .int (nI u)] h sz (fun v1 h1 s1 => v1 = some (.int 1) ∧ s1 = sz ∧ fr_ h h1 x dy ∧ RA G h1 x dy sz S sv sl D nx z cf len) := by
  refine Mg.ofV [(0, .ref x), (1, .int (nI u))] (by decide) (Nat.le_of_ble_eq_true rfl) rfl ?_
  intro p e s m args below meth c C
  obtain ⟨P, K, W, Q, T, F, H, R, L, gr, ag, o, tt, y, xx, z1, z2, z3⟩ := g
  have hP4 : P ≤ 4 := o.n5.1.2.1
  have hK : K ≤ 28 := o.n5.1.2.2.1
  have h50 : S 5 0 = nI P := o.n5.2.1
  have hPP : P = P0 := nI_inj (by omega) (by omega) (h50.symm.trans hP0)
  have hu : u < P := by omega
  have hHu : H u ≤ 28 := Nat.le_trans (oh_le o.hh (show u < 4 by omega)) hK
  have hasu := has_i h50 hP4 hu
  have hheld : g_held S (nI u) = nI (H u) := o.held (by omega)
  have hk0 : ¬ g_held S (nI u) < 0 := by rw [hheld]; exact nI_pos (by omega)
  refine r_aload_n C dL_areTrainsSo_0 rfl rfl ?_
  refine r_iload_n C dL_areTrainsSo_1 rfl rfl ?_
  refine r_iconst C (v := 0) dL_areTrainsSo_2 rfl ?_
  refine q_prop C hst w (i := 0) (r2 := nI (H u)) hasu (by decide) rfl (prop_0.trans hheld) rfl ⟨(Nat.le_of_ble_eq_true rfl), (Nat.le_of_ble_eq_true rfl), (by dsimp only; omega), (by dsimp only; omega), (Nat.le_of_ble_eq_true rfl)⟩ dL_areTrainsSo_3 ?_
  refine r_istore_n C dL_areTrainsSo_6 rfl (by decide) ?_
  refine r_iconst C (v := 1) dL_areTrainsSo_7 rfl ?_
  refine r_istore_n C dL_areTrainsSo_8 rfl (by decide) ?_
  refine r_iconst C (v := 0) dL_areTrainsSo_9 rfl ?_
  refine r_istore C dL_areTrainsSo_10 (by decide) ?_
  refine V.sub [(0, .ref x), (1, .int (nI u)), (2, .int (nI (H u))), (3, .int 1), (4, .int (nI 0))] ⟨rfl, rfl, rfl, rfl, rfl, trivial⟩ ?_
  refine downK (P := fun i k n => ∀ h1, fr_ h h1 x dy → RA G h1 x dy sz S sv sl D nx z cf len → k ≤ 2 + 180 * i → n ≤ 12 + 1080 * i → V p l e ⟨8, 1300, 7800, 141⟩ s m args below meth c G 9 (Qg G below args s 1300 7800 (fun v1 h1 s1 => v1 = some (.int 1) ∧ s1 = sz ∧ fr_ h h1 x dy ∧ RA G h1 x dy sz S sv sl D nx z cf len)) h1 sz k n 12 [(0, .ref x), (1, .int (nI u)), (2, .int (nI (H u))), (3, .int 1), (4, .int (nI i))] []) 7 ?_ ?_ _ _ h (fr_.refl h x dy) w (by omega) (by omega)
  · intro k n h1 fr1 w1 hk hn
    refine r_iload C dL_areTrainsSo_12 rfl ?_
    refine r_bipush C (v := 7) dL_areTrainsSo_14 rfl ?_
    refine r_icmp_ge C 198 dL_areTrainsSo_16 (by decide) (fun _ => ?_) (fun c => absurd (show (7 : Int32) ≤ nI 7 by decide) c)
    refine r_iload_n C dL_areTrainsSo_198 rfl rfl ?_
    exact r_zret C rfl (Or.inr rfl) (by omega) (by omega) ⟨rfl, rfl, fr1, w1⟩ dL_areTrainsSo_199
  · intro g0 h_g0 ih_g0 k n h1 fr1 w1 hk hn
    rcases o.train (show u < 4 by omega) h_g0 with ⟨h10, hall⟩ | ⟨h10, x0, hx, hpos, hall⟩
    · refine r_iload C dL_areTrainsSo_12 rfl ?_
      refine r_bipush C (v := 7) dL_areTrainsSo_14 rfl ?_
      refine r_icmp_ge C 198 dL_areTrainsSo_16 (by decide) (fun c => absurd c (nI_ge (b := 7) h_g0 (by decide))) (fun _ => ?_)
      refine r_aload_n C dL_areTrainsSo_19 rfl rfl ?_
      refine r_iload_n C dL_areTrainsSo_20 rfl rfl ?_
      refine r_iload C dL_areTrainsSo_21 rfl ?_
      refine q_long C hst w1 (i := g0) hasu hk0 h_g0 rfl rfl ⟨(Nat.le_of_ble_eq_true rfl), (Nat.le_of_ble_eq_true rfl), (by dsimp only; omega), (by dsimp only; omega), (Nat.le_of_ble_eq_true rfl)⟩ dL_areTrainsSo_23 (fun h2 hfa ofa fr2 w2 => ?_)
      rw [(hall hfa ofa).1]
      refine r_istore C dL_areTrainsSo_26 (by decide) ?_
      refine r_iconst C (v := 0) dL_areTrainsSo_28 rfl ?_
      refine r_istore C dL_areTrainsSo_29 (by decide) ?_
      refine r_iconst C (v := 0) dL_areTrainsSo_31 rfl ?_
      refine r_istore C dL_areTrainsSo_32 (by decide) ?_
      refine V.sub [(0, .ref x), (1, .int (nI u)), (2, .int (nI (H u))), (3, .int 1), (4, .int (nI g0)), (5, .int (-1)), (6, .int (nI (c_w S u g0 0))), (7, .int (nI 0))] ⟨rfl, rfl, rfl, rfl, rfl, rfl, rfl, rfl, trivial⟩ ?_
      refine downK (P := fun j k n => k ≤ 2 + 180 * g0 + 2 + 6 * j → n ≤ 12 + 1080 * g0 + 12 + 36 * j → V p l e ⟨8, 1300, 7800, 141⟩ s m args below meth c G 9 (Qg G below args s 1300 7800 (fun v1 h1 s1 => v1 = some (.int 1) ∧ s1 = sz ∧ fr_ h h1 x dy ∧ RA G h1 x dy sz S sv sl D nx z cf len)) h2 sz k n 34 [(0, .ref x), (1, .int (nI u)), (2, .int (nI (H u))), (3, .int 1), (4, .int (nI g0)), (5, .int (-1)), (6, .int (nI (c_w S u g0 j))), (7, .int (nI j))] []) (H u) ?_ ?_ _ _ (by omega) (by omega)
      · intro k n hk hn
        have hcw := (cw_pos S u g0 (H u)).1
        refine r_iload C dL_areTrainsSo_34 rfl ?_
        refine r_iload_n C dL_areTrainsSo_36 rfl rfl ?_
        refine r_icmp_ge C 89 dL_areTrainsSo_37 (by decide) (fun _ => ?_) (fun c => absurd (Int32.le_refl _) c)
        refine r_iload_n C dL_areTrainsSo_89 rfl rfl ?_
        refine r_bipush C (v := 10) dL_areTrainsSo_90 rfl ?_
        refine r_icmp_le C 99 dL_areTrainsSo_92 (by decide) (fun c => absurd c (show ¬ nI (H u) ≤ nI 10 from nI_ge h10 (by omega))) (fun _ => ?_)
        refine r_iconst C (v := -1) dL_areTrainsSo_95 rfl ?_
        refine r_goto C 110 dL_areTrainsSo_96 (by decide) ?_
        refine r_istore C dL_areTrainsSo_110 (by decide) ?_
        refine r_iload_n C dL_areTrainsSo_112 rfl rfl ?_
        refine r_if_eq C 190 dL_areTrainsSo_113 (by decide) (fun c => absurd c (by decide)) (fun _ => ?_)
        refine r_aload_n C dL_areTrainsSo_116 rfl rfl ?_
        refine r_iload_n C dL_areTrainsSo_117 rfl rfl ?_
        refine r_iload C dL_areTrainsSo_118 rfl ?_
        refine r_iconst C (v := 0) dL_areTrainsSo_120 rfl ?_
        refine q_whole C hst w2 (i := g0) hasu hk0 h_g0 rfl rfl rfl ⟨(Nat.le_of_ble_eq_true rfl), (Nat.le_of_ble_eq_true rfl), (by dsimp only; omega), (by dsimp only; omega), (Nat.le_of_ble_eq_true rfl)⟩ dL_areTrainsSo_121 (fun h3 hfb ofb fr3 w3 => ?_)
        rw [if_neg (show ¬ (0 : Int32) = 1 by decide), (hall hfb ofb).2.1]
        refine r_iload C dL_areTrainsSo_124 rfl ?_
        refine r_icmp_ne C 190 dL_areTrainsSo_126 (by decide) (fun c => absurd rfl c) (fun _ => ?_)
        refine r_aload_n C dL_areTrainsSo_129 rfl rfl ?_
        refine r_iload_n C dL_areTrainsSo_130 rfl rfl ?_
        refine r_iload C dL_areTrainsSo_131 rfl ?_
        refine r_iconst C (v := 1) dL_areTrainsSo_133 rfl ?_
        refine q_whole C hst w3 (i := g0) hasu hk0 h_g0 rfl rfl rfl ⟨(Nat.le_of_ble_eq_true rfl), (Nat.le_of_ble_eq_true rfl), (by dsimp only; omega), (by dsimp only; omega), (Nat.le_of_ble_eq_true rfl)⟩ dL_areTrainsSo_134 (fun h4 hfc ofc fr4 w4 => ?_)
        rw [if_pos (rfl : (1 : Int32) = 1), (hall hfc ofc).2.2]
        refine r_iload C dL_areTrainsSo_137 rfl ?_
        refine r_icmp_ne C 190 dL_areTrainsSo_139 (by decide) (fun c => absurd rfl c) (fun _ => ?_)
        refine r_iload_n C dL_areTrainsSo_142 rfl rfl ?_
        refine r_bipush C (v := 10) dL_areTrainsSo_143 rfl ?_
        refine r_icmp_le C 157 dL_areTrainsSo_145 (by decide) (fun c => absurd c (show ¬ nI (H u) ≤ nI 10 from nI_ge h10 (by omega))) (fun _ => ?_)
        refine r_iload C dL_areTrainsSo_148 rfl ?_
        refine r_iconst C (v := -1) dL_areTrainsSo_150 rfl ?_
        refine r_icmp_ne C 190 dL_areTrainsSo_151 (by decide) (fun c => absurd rfl c) (fun _ => ?_)
        refine r_goto C 186 dL_areTrainsSo_154 (by decide) ?_
        refine r_iconst C (v := 1) dL_areTrainsSo_186 rfl ?_
        refine r_goto C 191 dL_areTrainsSo_187 (by decide) ?_
        refine r_istore_n C dL_areTrainsSo_191 rfl (by decide) ?_
        refine r_iinc C (v := 1) dL_areTrainsSo_192 rfl rfl (by decide) ?_
        refine r_goto C 12 dL_areTrainsSo_195 (by decide) ?_
        refine V.sub [(0, .ref x), (1, .int (nI u)), (2, .int (nI (H u))), (3, .int 1), (4, .int (nI (g0 + 1)))] ⟨rfl, rfl, rfl, rfl, (by rw [← nI_1 g0]; rfl), trivial⟩ ?_
        exact ih_g0 _ _ h4 ((fr1.trans fr2).trans (fr3.trans fr4)) w4 (by omega) (by omega)
      · intro j h_j ih_j k n hk hn
        obtain ⟨t, ht, e1, e2, e3⟩ := o.tileAt (p := u) (i := j) (by omega) h_j
        refine r_iload C dL_areTrainsSo_34 rfl ?_
        refine r_iload_n C dL_areTrainsSo_36 rfl rfl ?_
        refine r_icmp_ge C 89 dL_areTrainsSo_37 (by decide) (fun c => absurd c (nI_ge h_j (by omega))) (fun _ => ?_)
        refine r_aload_n C dL_areTrainsSo_40 rfl rfl ?_
        refine r_iload_n C dL_areTrainsSo_41 rfl rfl ?_
        refine r_iload C dL_areTrainsSo_42 rfl ?_
        refine q_hand C hst w2 (i := j) (r2 := nI t) hasu (by omega) rfl e3 rfl ⟨(Nat.le_of_ble_eq_true rfl), (Nat.le_of_ble_eq_true rfl), (by dsimp only; omega), (by dsimp only; omega), (Nat.le_of_ble_eq_true rfl)⟩ dL_areTrainsSo_44 ?_
        refine r_istore C dL_areTrainsSo_47 (by decide) ?_
        refine r_iload C dL_areTrainsSo_49 rfl ?_
        refine r_aload_n C dL_areTrainsSo_51 rfl rfl ?_
        refine r_iload C dL_areTrainsSo_52 rfl ?_
        refine r_iconst C (v := 0) dL_areTrainsSo_54 rfl ?_
        refine q_tile C hst w2 (t := t) (i := 0) ht (by decide) rfl rfl rfl ⟨(Nat.le_of_ble_eq_true rfl), (Nat.le_of_ble_eq_true rfl), (by dsimp only; omega), (by dsimp only; omega), (Nat.le_of_ble_eq_true rfl)⟩ dL_areTrainsSo_55 ?_
        refine r_iload C dL_areTrainsSo_58 rfl ?_
        refine r_icmp_eq C 75 dL_areTrainsSo_60 (by decide) (fun c_60 => ?_) (fun c_60 => ?_)
        · refine r_iconst C (v := 1) dL_areTrainsSo_75 rfl ?_
          refine r_goto C 80 dL_areTrainsSo_76 (by decide) ?_
          refine r_iadd C dL_areTrainsSo_80 ?_
          refine r_istore C dL_areTrainsSo_81 (by decide) ?_
          refine r_iinc C (v := 1) dL_areTrainsSo_83 rfl rfl (by decide) ?_
          refine r_goto C 34 dL_areTrainsSo_86 (by decide) ?_
          refine V.sub [(0, .ref x), (1, .int (nI u)), (2, .int (nI (H u))), (3, .int 1), (4, .int (nI g0)), (5, .int (-1)), (6, .int (nI (c_w S u g0 (j + 1)))), (7, .int (nI (j + 1)))] ⟨rfl, rfl, rfl, rfl, rfl, rfl, (congrArg (fun q => some (Value.int q)) (cw_1 (S := S) (u := u) (g := g0) (j := j) (by rw [has_at ht e2, decide_eq_true c_60]; rfl))), (by rw [← nI_1 j]; rfl), trivial⟩ ?_
          exact ih_j _ _ (by omega) (by omega)
        · refine r_aload_n C dL_areTrainsSo_63 rfl rfl ?_
          refine r_iload C dL_areTrainsSo_64 rfl ?_
          refine r_iconst C (v := 1) dL_areTrainsSo_66 rfl ?_
          refine q_tile C hst w2 (t := t) (i := 1) ht (by decide) rfl rfl rfl ⟨(Nat.le_of_ble_eq_true rfl), (Nat.le_of_ble_eq_true rfl), (by dsimp only; omega), (by dsimp only; omega), (Nat.le_of_ble_eq_true rfl)⟩ dL_areTrainsSo_67 ?_
          refine r_iload C dL_areTrainsSo_70 rfl ?_
          refine r_icmp_ne C 79 dL_areTrainsSo_72 (by decide) (fun c_72 => ?_) (fun c_72 => ?_)
          · refine r_iconst C (v := 0) dL_areTrainsSo_79 rfl ?_
            refine r_iadd C dL_areTrainsSo_80 ?_
            refine r_istore C dL_areTrainsSo_81 (by decide) ?_
            refine r_iinc C (v := 1) dL_areTrainsSo_83 rfl rfl (by decide) ?_
            refine r_goto C 34 dL_areTrainsSo_86 (by decide) ?_
            refine V.sub [(0, .ref x), (1, .int (nI u)), (2, .int (nI (H u))), (3, .int 1), (4, .int (nI g0)), (5, .int (-1)), (6, .int (nI (c_w S u g0 (j + 1)))), (7, .int (nI (j + 1)))] ⟨rfl, rfl, rfl, rfl, rfl, rfl, (congrArg (fun q => some (Value.int q)) (cw_0 (S := S) (u := u) (g := g0) (j := j) (by rw [has_at ht e2, decide_eq_false c_60, decide_eq_false c_72]; rfl))), (by rw [← nI_1 j]; rfl), trivial⟩ ?_
            exact ih_j _ _ (by omega) (by omega)
          · refine r_iconst C (v := 1) dL_areTrainsSo_75 rfl ?_
            refine r_goto C 80 dL_areTrainsSo_76 (by decide) ?_
            refine r_iadd C dL_areTrainsSo_80 ?_
            refine r_istore C dL_areTrainsSo_81 (by decide) ?_
            refine r_iinc C (v := 1) dL_areTrainsSo_83 rfl rfl (by decide) ?_
            refine r_goto C 34 dL_areTrainsSo_86 (by decide) ?_
            refine V.sub [(0, .ref x), (1, .int (nI u)), (2, .int (nI (H u))), (3, .int 1), (4, .int (nI g0)), (5, .int (-1)), (6, .int (nI (c_w S u g0 (j + 1)))), (7, .int (nI (j + 1)))] ⟨rfl, rfl, rfl, rfl, rfl, rfl, (congrArg (fun q => some (Value.int q)) (cw_1 (S := S) (u := u) (g := g0) (j := j) (by rw [has_at ht e2, decide_eq_false c_60, decide_eq_true c_72]; rfl))), (by rw [← nI_1 j]; rfl), trivial⟩ ?_
            exact ih_j _ _ (by omega) (by omega)
    · refine r_iload C dL_areTrainsSo_12 rfl ?_
      refine r_bipush C (v := 7) dL_areTrainsSo_14 rfl ?_
      refine r_icmp_ge C 198 dL_areTrainsSo_16 (by decide) (fun c => absurd c (nI_ge (b := 7) h_g0 (by decide))) (fun _ => ?_)
      refine r_aload_n C dL_areTrainsSo_19 rfl rfl ?_
      refine r_iload_n C dL_areTrainsSo_20 rfl rfl ?_
      refine r_iload C dL_areTrainsSo_21 rfl ?_
      refine q_long C hst w1 (i := g0) hasu hk0 h_g0 rfl rfl ⟨(Nat.le_of_ble_eq_true rfl), (Nat.le_of_ble_eq_true rfl), (by dsimp only; omega), (by dsimp only; omega), (Nat.le_of_ble_eq_true rfl)⟩ dL_areTrainsSo_23 (fun h2 hfa ofa fr2 w2 => ?_)
      rw [(hall hfa ofa).1]
      refine r_istore C dL_areTrainsSo_26 (by decide) ?_
      refine r_iconst C (v := 0) dL_areTrainsSo_28 rfl ?_
      refine r_istore C dL_areTrainsSo_29 (by decide) ?_
      refine r_iconst C (v := 0) dL_areTrainsSo_31 rfl ?_
      refine r_istore C dL_areTrainsSo_32 (by decide) ?_
      refine V.sub [(0, .ref x), (1, .int (nI u)), (2, .int (nI (H u))), (3, .int 1), (4, .int (nI g0)), (5, .int (nI x0)), (6, .int (nI (c_w S u g0 0))), (7, .int (nI 0))] ⟨rfl, rfl, rfl, rfl, rfl, rfl, rfl, rfl, trivial⟩ ?_
      refine downK (P := fun j k n => k ≤ 2 + 180 * g0 + 2 + 6 * j → n ≤ 12 + 1080 * g0 + 12 + 36 * j → V p l e ⟨8, 1300, 7800, 141⟩ s m args below meth c G 9 (Qg G below args s 1300 7800 (fun v1 h1 s1 => v1 = some (.int 1) ∧ s1 = sz ∧ fr_ h h1 x dy ∧ RA G h1 x dy sz S sv sl D nx z cf len)) h2 sz k n 34 [(0, .ref x), (1, .int (nI u)), (2, .int (nI (H u))), (3, .int 1), (4, .int (nI g0)), (5, .int (nI x0)), (6, .int (nI (c_w S u g0 j))), (7, .int (nI j))] []) (H u) ?_ ?_ _ _ (by omega) (by omega)
      · intro k n hk hn
        have hcw := (cw_pos S u g0 (H u)).1
        refine r_iload C dL_areTrainsSo_34 rfl ?_
        refine r_iload_n C dL_areTrainsSo_36 rfl rfl ?_
        refine r_icmp_ge C 89 dL_areTrainsSo_37 (by decide) (fun _ => ?_) (fun c => absurd (Int32.le_refl _) c)
        refine r_iload_n C dL_areTrainsSo_89 rfl rfl ?_
        refine r_bipush C (v := 10) dL_areTrainsSo_90 rfl ?_
        refine r_icmp_le C 99 dL_areTrainsSo_92 (by decide) (fun _ => ?_) (fun c => absurd (show nI (H u) ≤ nI 10 from nI_le h10 (by omega)) c)
        refine r_iload C dL_areTrainsSo_99 rfl ?_
        refine r_iload_n C dL_areTrainsSo_101 rfl rfl ?_
        refine r_icmp_ne C 109 dL_areTrainsSo_102 (by decide) (fun c_102 => ?_) (fun c_102 => ?_)
        · refine r_iconst C (v := 0) dL_areTrainsSo_109 rfl ?_
          refine r_istore C dL_areTrainsSo_110 (by decide) ?_
          have hxk : ¬ x0 = H u := fun q => c_102 (by rw [q])
          refine r_iload_n C dL_areTrainsSo_112 rfl rfl ?_
          refine r_if_eq C 190 dL_areTrainsSo_113 (by decide) (fun c => absurd c (by decide)) (fun _ => ?_)
          refine r_aload_n C dL_areTrainsSo_116 rfl rfl ?_
          refine r_iload_n C dL_areTrainsSo_117 rfl rfl ?_
          refine r_iload C dL_areTrainsSo_118 rfl ?_
          refine r_iconst C (v := 0) dL_areTrainsSo_120 rfl ?_
          refine q_whole C hst w2 (i := g0) hasu hk0 h_g0 rfl rfl rfl ⟨(Nat.le_of_ble_eq_true rfl), (Nat.le_of_ble_eq_true rfl), (by dsimp only; omega), (by dsimp only; omega), (Nat.le_of_ble_eq_true rfl)⟩ dL_areTrainsSo_121 (fun h3 hfb ofb fr3 w3 => ?_)
          rw [if_neg (show ¬ (0 : Int32) = 1 by decide), (hall hfb ofb).2.1, if_neg hxk]
          refine r_iload C dL_areTrainsSo_124 rfl ?_
          refine r_icmp_ne C 190 dL_areTrainsSo_126 (by decide) (fun c => absurd rfl c) (fun _ => ?_)
          refine r_aload_n C dL_areTrainsSo_129 rfl rfl ?_
          refine r_iload_n C dL_areTrainsSo_130 rfl rfl ?_
          refine r_iload C dL_areTrainsSo_131 rfl ?_
          refine r_iconst C (v := 1) dL_areTrainsSo_133 rfl ?_
          refine q_whole C hst w3 (i := g0) hasu hk0 h_g0 rfl rfl rfl ⟨(Nat.le_of_ble_eq_true rfl), (Nat.le_of_ble_eq_true rfl), (by dsimp only; omega), (by dsimp only; omega), (Nat.le_of_ble_eq_true rfl)⟩ dL_areTrainsSo_134 (fun h4 hfc ofc fr4 w4 => ?_)
          rw [if_pos (rfl : (1 : Int32) = 1), (hall hfc ofc).2.2, if_neg hxk]
          refine r_iload C dL_areTrainsSo_137 rfl ?_
          refine r_icmp_ne C 190 dL_areTrainsSo_139 (by decide) (fun c => absurd rfl c) (fun _ => ?_)
          refine r_iload_n C dL_areTrainsSo_142 rfl rfl ?_
          refine r_bipush C (v := 10) dL_areTrainsSo_143 rfl ?_
          refine r_icmp_le C 157 dL_areTrainsSo_145 (by decide) (fun _ => ?_) (fun c => absurd (show nI (H u) ≤ nI 10 from nI_le h10 (by omega)) c)
          refine r_iload C dL_areTrainsSo_157 rfl ?_
          refine r_iload_n C dL_areTrainsSo_159 rfl rfl ?_
          refine r_icmp_gt C 190 dL_areTrainsSo_160 (by decide) (fun c => absurd c (nI_nlt hx (by omega))) (fun _ => ?_)
          refine r_iload C dL_areTrainsSo_163 rfl ?_
          refine r_if_le C 172 dL_areTrainsSo_165 (by decide) (fun c_165 => ?_) (fun c_165 => ?_)
          · have e_165 := i32_nlt c_165
            refine r_iconst C (v := 0) dL_areTrainsSo_172 rfl ?_
            refine r_iload C dL_areTrainsSo_173 rfl ?_
            refine r_if_le C 182 dL_areTrainsSo_175 (by decide) (fun _ => ?_) (fun c => absurd (show nI (c_w S u g0 (H u)) ≤ 0 by rw [Nat.eq_zero_of_not_pos (fun q => absurd (hpos.mpr q) (by rw [nI_le0 (by omega) c_165]; exact Nat.lt_irrefl 0))]; decide) c)
            refine r_iconst C (v := 0) dL_areTrainsSo_182 rfl ?_
            refine r_icmp_ne C 190 dL_areTrainsSo_183 (by decide) (fun c => absurd rfl c) (fun _ => ?_)
            refine r_iconst C (v := 1) dL_areTrainsSo_186 rfl ?_
            refine r_goto C 191 dL_areTrainsSo_187 (by decide) ?_
            refine r_istore_n C dL_areTrainsSo_191 rfl (by decide) ?_
            refine r_iinc C (v := 1) dL_areTrainsSo_192 rfl rfl (by decide) ?_
            refine r_goto C 12 dL_areTrainsSo_195 (by decide) ?_
            refine V.sub [(0, .ref x), (1, .int (nI u)), (2, .int (nI (H u))), (3, .int 1), (4, .int (nI (g0 + 1)))] ⟨rfl, rfl, rfl, rfl, (by rw [← nI_1 g0]; rfl), trivial⟩ ?_
            exact ih_g0 _ _ h4 ((fr1.trans fr2).trans (fr3.trans fr4)) w4 (by omega) (by omega)
          · have e_165 := i32_lt c_165
            refine r_iconst C (v := 1) dL_areTrainsSo_168 rfl ?_
            refine r_goto C 173 dL_areTrainsSo_169 (by decide) ?_
            refine r_iload C dL_areTrainsSo_173 rfl ?_
            refine r_if_le C 182 dL_areTrainsSo_175 (by decide) (fun c => absurd c (nI_nle (hpos.mp (Nat.pos_of_ne_zero (fun q => c_165 (by rw [q]; decide)))) (by omega))) (fun _ => ?_)
            refine r_iconst C (v := 1) dL_areTrainsSo_178 rfl ?_
            refine r_goto C 183 dL_areTrainsSo_179 (by decide) ?_
            refine r_icmp_ne C 190 dL_areTrainsSo_183 (by decide) (fun c => absurd rfl c) (fun _ => ?_)
            refine r_iconst C (v := 1) dL_areTrainsSo_186 rfl ?_
            refine r_goto C 191 dL_areTrainsSo_187 (by decide) ?_
            refine r_istore_n C dL_areTrainsSo_191 rfl (by decide) ?_
            refine r_iinc C (v := 1) dL_areTrainsSo_192 rfl rfl (by decide) ?_
            refine r_goto C 12 dL_areTrainsSo_195 (by decide) ?_
            refine V.sub [(0, .ref x), (1, .int (nI u)), (2, .int (nI (H u))), (3, .int 1), (4, .int (nI (g0 + 1)))] ⟨rfl, rfl, rfl, rfl, (by rw [← nI_1 g0]; rfl), trivial⟩ ?_
            exact ih_g0 _ _ h4 ((fr1.trans fr2).trans (fr3.trans fr4)) w4 (by omega) (by omega)
        · refine r_iconst C (v := 1) dL_areTrainsSo_105 rfl ?_
          refine r_goto C 110 dL_areTrainsSo_106 (by decide) ?_
          refine r_istore C dL_areTrainsSo_110 (by decide) ?_
          have hxk : x0 = H u := nI_inj (by omega) (by omega) c_102
          refine r_iload_n C dL_areTrainsSo_112 rfl rfl ?_
          refine r_if_eq C 190 dL_areTrainsSo_113 (by decide) (fun c => absurd c (by decide)) (fun _ => ?_)
          refine r_aload_n C dL_areTrainsSo_116 rfl rfl ?_
          refine r_iload_n C dL_areTrainsSo_117 rfl rfl ?_
          refine r_iload C dL_areTrainsSo_118 rfl ?_
          refine r_iconst C (v := 0) dL_areTrainsSo_120 rfl ?_
          refine q_whole C hst w2 (i := g0) hasu hk0 h_g0 rfl rfl rfl ⟨(Nat.le_of_ble_eq_true rfl), (Nat.le_of_ble_eq_true rfl), (by dsimp only; omega), (by dsimp only; omega), (Nat.le_of_ble_eq_true rfl)⟩ dL_areTrainsSo_121 (fun h3 hfb ofb fr3 w3 => ?_)
          rw [if_neg (show ¬ (0 : Int32) = 1 by decide), (hall hfb ofb).2.1, if_pos hxk]
          refine r_iload C dL_areTrainsSo_124 rfl ?_
          refine r_icmp_ne C 190 dL_areTrainsSo_126 (by decide) (fun c => absurd rfl c) (fun _ => ?_)
          refine r_aload_n C dL_areTrainsSo_129 rfl rfl ?_
          refine r_iload_n C dL_areTrainsSo_130 rfl rfl ?_
          refine r_iload C dL_areTrainsSo_131 rfl ?_
          refine r_iconst C (v := 1) dL_areTrainsSo_133 rfl ?_
          refine q_whole C hst w3 (i := g0) hasu hk0 h_g0 rfl rfl rfl ⟨(Nat.le_of_ble_eq_true rfl), (Nat.le_of_ble_eq_true rfl), (by dsimp only; omega), (by dsimp only; omega), (Nat.le_of_ble_eq_true rfl)⟩ dL_areTrainsSo_134 (fun h4 hfc ofc fr4 w4 => ?_)
          rw [if_pos (rfl : (1 : Int32) = 1), (hall hfc ofc).2.2, if_pos hxk]
          refine r_iload C dL_areTrainsSo_137 rfl ?_
          refine r_icmp_ne C 190 dL_areTrainsSo_139 (by decide) (fun c => absurd rfl c) (fun _ => ?_)
          refine r_iload_n C dL_areTrainsSo_142 rfl rfl ?_
          refine r_bipush C (v := 10) dL_areTrainsSo_143 rfl ?_
          refine r_icmp_le C 157 dL_areTrainsSo_145 (by decide) (fun _ => ?_) (fun c => absurd (show nI (H u) ≤ nI 10 from nI_le h10 (by omega)) c)
          refine r_iload C dL_areTrainsSo_157 rfl ?_
          refine r_iload_n C dL_areTrainsSo_159 rfl rfl ?_
          refine r_icmp_gt C 190 dL_areTrainsSo_160 (by decide) (fun c => absurd c (nI_nlt hx (by omega))) (fun _ => ?_)
          refine r_iload C dL_areTrainsSo_163 rfl ?_
          refine r_if_le C 172 dL_areTrainsSo_165 (by decide) (fun c_165 => ?_) (fun c_165 => ?_)
          · have e_165 := i32_nlt c_165
            refine r_iconst C (v := 0) dL_areTrainsSo_172 rfl ?_
            refine r_iload C dL_areTrainsSo_173 rfl ?_
            refine r_if_le C 182 dL_areTrainsSo_175 (by decide) (fun _ => ?_) (fun c => absurd (show nI (c_w S u g0 (H u)) ≤ 0 by rw [Nat.eq_zero_of_not_pos (fun q => absurd (hpos.mpr q) (by rw [nI_le0 (by omega) c_165]; exact Nat.lt_irrefl 0))]; decide) c)
            refine r_iconst C (v := 0) dL_areTrainsSo_182 rfl ?_
            refine r_icmp_ne C 190 dL_areTrainsSo_183 (by decide) (fun c => absurd rfl c) (fun _ => ?_)
            refine r_iconst C (v := 1) dL_areTrainsSo_186 rfl ?_
            refine r_goto C 191 dL_areTrainsSo_187 (by decide) ?_
            refine r_istore_n C dL_areTrainsSo_191 rfl (by decide) ?_
            refine r_iinc C (v := 1) dL_areTrainsSo_192 rfl rfl (by decide) ?_
            refine r_goto C 12 dL_areTrainsSo_195 (by decide) ?_
            refine V.sub [(0, .ref x), (1, .int (nI u)), (2, .int (nI (H u))), (3, .int 1), (4, .int (nI (g0 + 1)))] ⟨rfl, rfl, rfl, rfl, (by rw [← nI_1 g0]; rfl), trivial⟩ ?_
            exact ih_g0 _ _ h4 ((fr1.trans fr2).trans (fr3.trans fr4)) w4 (by omega) (by omega)
          · have e_165 := i32_lt c_165
            refine r_iconst C (v := 1) dL_areTrainsSo_168 rfl ?_
            refine r_goto C 173 dL_areTrainsSo_169 (by decide) ?_
            refine r_iload C dL_areTrainsSo_173 rfl ?_
            refine r_if_le C 182 dL_areTrainsSo_175 (by decide) (fun c => absurd c (nI_nle (hpos.mp (Nat.pos_of_ne_zero (fun q => c_165 (by rw [q]; decide)))) (by omega))) (fun _ => ?_)
            refine r_iconst C (v := 1) dL_areTrainsSo_178 rfl ?_
            refine r_goto C 183 dL_areTrainsSo_179 (by decide) ?_
            refine r_icmp_ne C 190 dL_areTrainsSo_183 (by decide) (fun c => absurd rfl c) (fun _ => ?_)
            refine r_iconst C (v := 1) dL_areTrainsSo_186 rfl ?_
            refine r_goto C 191 dL_areTrainsSo_187 (by decide) ?_
            refine r_istore_n C dL_areTrainsSo_191 rfl (by decide) ?_
            refine r_iinc C (v := 1) dL_areTrainsSo_192 rfl rfl (by decide) ?_
            refine r_goto C 12 dL_areTrainsSo_195 (by decide) ?_
            refine V.sub [(0, .ref x), (1, .int (nI u)), (2, .int (nI (H u))), (3, .int 1), (4, .int (nI (g0 + 1)))] ⟨rfl, rfl, rfl, rfl, (by rw [← nI_1 g0]; rfl), trivial⟩ ?_
            exact ih_g0 _ _ h4 ((fr1.trans fr2).trans (fr3.trans fr4)) w4 (by omega) (by omega)
      · intro j h_j ih_j k n hk hn
        obtain ⟨t, ht, e1, e2, e3⟩ := o.tileAt (p := u) (i := j) (by omega) h_j
        refine r_iload C dL_areTrainsSo_34 rfl ?_
        refine r_iload_n C dL_areTrainsSo_36 rfl rfl ?_
        refine r_icmp_ge C 89 dL_areTrainsSo_37 (by decide) (fun c => absurd c (nI_ge h_j (by omega))) (fun _ => ?_)
        refine r_aload_n C dL_areTrainsSo_40 rfl rfl ?_
        refine r_iload_n C dL_areTrainsSo_41 rfl rfl ?_
        refine r_iload C dL_areTrainsSo_42 rfl ?_
        refine q_hand C hst w2 (i := j) (r2 := nI t) hasu (by omega) rfl e3 rfl ⟨(Nat.le_of_ble_eq_true rfl), (Nat.le_of_ble_eq_true rfl), (by dsimp only; omega), (by dsimp only; omega), (Nat.le_of_ble_eq_true rfl)⟩ dL_areTrainsSo_44 ?_
        refine r_istore C dL_areTrainsSo_47 (by decide) ?_
        refine r_iload C dL_areTrainsSo_49 rfl ?_
        refine r_aload_n C dL_areTrainsSo_51 rfl rfl ?_
        refine r_iload C dL_areTrainsSo_52 rfl ?_
        refine r_iconst C (v := 0) dL_areTrainsSo_54 rfl ?_
        refine q_tile C hst w2 (t := t) (i := 0) ht (by decide) rfl rfl rfl ⟨(Nat.le_of_ble_eq_true rfl), (Nat.le_of_ble_eq_true rfl), (by dsimp only; omega), (by dsimp only; omega), (Nat.le_of_ble_eq_true rfl)⟩ dL_areTrainsSo_55 ?_
        refine r_iload C dL_areTrainsSo_58 rfl ?_
        refine r_icmp_eq C 75 dL_areTrainsSo_60 (by decide) (fun c_60 => ?_) (fun c_60 => ?_)
        · refine r_iconst C (v := 1) dL_areTrainsSo_75 rfl ?_
          refine r_goto C 80 dL_areTrainsSo_76 (by decide) ?_
          refine r_iadd C dL_areTrainsSo_80 ?_
          refine r_istore C dL_areTrainsSo_81 (by decide) ?_
          refine r_iinc C (v := 1) dL_areTrainsSo_83 rfl rfl (by decide) ?_
          refine r_goto C 34 dL_areTrainsSo_86 (by decide) ?_
          refine V.sub [(0, .ref x), (1, .int (nI u)), (2, .int (nI (H u))), (3, .int 1), (4, .int (nI g0)), (5, .int (nI x0)), (6, .int (nI (c_w S u g0 (j + 1)))), (7, .int (nI (j + 1)))] ⟨rfl, rfl, rfl, rfl, rfl, rfl, (congrArg (fun q => some (Value.int q)) (cw_1 (S := S) (u := u) (g := g0) (j := j) (by rw [has_at ht e2, decide_eq_true c_60]; rfl))), (by rw [← nI_1 j]; rfl), trivial⟩ ?_
          exact ih_j _ _ (by omega) (by omega)
        · refine r_aload_n C dL_areTrainsSo_63 rfl rfl ?_
          refine r_iload C dL_areTrainsSo_64 rfl ?_
          refine r_iconst C (v := 1) dL_areTrainsSo_66 rfl ?_
          refine q_tile C hst w2 (t := t) (i := 1) ht (by decide) rfl rfl rfl ⟨(Nat.le_of_ble_eq_true rfl), (Nat.le_of_ble_eq_true rfl), (by dsimp only; omega), (by dsimp only; omega), (Nat.le_of_ble_eq_true rfl)⟩ dL_areTrainsSo_67 ?_
          refine r_iload C dL_areTrainsSo_70 rfl ?_
          refine r_icmp_ne C 79 dL_areTrainsSo_72 (by decide) (fun c_72 => ?_) (fun c_72 => ?_)
          · refine r_iconst C (v := 0) dL_areTrainsSo_79 rfl ?_
            refine r_iadd C dL_areTrainsSo_80 ?_
            refine r_istore C dL_areTrainsSo_81 (by decide) ?_
            refine r_iinc C (v := 1) dL_areTrainsSo_83 rfl rfl (by decide) ?_
            refine r_goto C 34 dL_areTrainsSo_86 (by decide) ?_
            refine V.sub [(0, .ref x), (1, .int (nI u)), (2, .int (nI (H u))), (3, .int 1), (4, .int (nI g0)), (5, .int (nI x0)), (6, .int (nI (c_w S u g0 (j + 1)))), (7, .int (nI (j + 1)))] ⟨rfl, rfl, rfl, rfl, rfl, rfl, (congrArg (fun q => some (Value.int q)) (cw_0 (S := S) (u := u) (g := g0) (j := j) (by rw [has_at ht e2, decide_eq_false c_60, decide_eq_false c_72]; rfl))), (by rw [← nI_1 j]; rfl), trivial⟩ ?_
            exact ih_j _ _ (by omega) (by omega)
          · refine r_iconst C (v := 1) dL_areTrainsSo_75 rfl ?_
            refine r_goto C 80 dL_areTrainsSo_76 (by decide) ?_
            refine r_iadd C dL_areTrainsSo_80 ?_
            refine r_istore C dL_areTrainsSo_81 (by decide) ?_
            refine r_iinc C (v := 1) dL_areTrainsSo_83 rfl rfl (by decide) ?_
            refine r_goto C 34 dL_areTrainsSo_86 (by decide) ?_
            refine V.sub [(0, .ref x), (1, .int (nI u)), (2, .int (nI (H u))), (3, .int 1), (4, .int (nI g0)), (5, .int (nI x0)), (6, .int (nI (c_w S u g0 (j + 1)))), (7, .int (nI (j + 1)))] ⟨rfl, rfl, rfl, rfl, rfl, rfl, (congrArg (fun q => some (Value.int q)) (cw_1 (S := S) (u := u) (g := g0) (j := j) (by rw [has_at ht e2, decide_eq_false c_60, decide_eq_true c_72]; rfl))), (by rw [← nI_1 j]; rfl), trivial⟩ ?_
            exact ih_j _ _ (by omega) (by omega)
