/-! ADVICE, SHARES, THE DIGEST: the same -/
def sh_ (L : Nat) : UInt64 := FP.ddiv (FP.i2d (nI L)) 4640114991075164160
set_option maxRecDepth 100000 in
theorem sh_all : ∀ L, L < 169 → (b_n (sh_ L) && (b_ok 1022 (sh_ L) && (mb_k (sh_ L) && decide (b_of (sh_ L) = mb_of (sh_ L))))) = true := by decide +kernel
section SM
variable {n : Nat} {S : gS} {P K W Q T F : Nat} {H R L : Nat → Nat} {gr : Nat → Nat → Nat} {ag : Nat → Nat} {Hf : Nat → Int32}
theorem gO.lost (o : gO n S P K W Q T F H R L gr ag) : ∃ l, l < 169 ∧ g_tal S 1 = nI l := by
  refine ⟨L 0 + L 1 + L 2 + L 3, ?_, ?_⟩
  · have := o.sm
    unfold os at this
    omega
  · have e := tal_m o.nb (q := 1) (by decide)
    have h : ∀ p, p < 4 → tAt 4 16 (S 2) (nI p) (nI 1) = nI (L p) := fun p hp => by rw [at2 hp (by decide)]; exact (o.t2.1 p hp).2
    rw [h 0 (by decide), h 1 (by decide), h 2 (by decide), h 3 (by decide), nI_add, nI_add, nI_add] at e
    exact e.symm
theorem gOk.share (h : gOk n S) : vf_n64 (FP.ddiv (FP.i2d (g_tal S 1)) 4640114991075164160) ∧ b_ok 1022 (k_sh S) = true ∧ mb_k (k_sh S) = true ∧ b_of (k_sh S) = mb_of (k_sh S) := by
  obtain ⟨P, K, W, Q, T, F, H, R, L, gr, ag, o, -⟩ := h
  obtain ⟨l, hl, e⟩ := o.lost
  have h := sh_all l hl
  rw [Bool.and_eq_true, Bool.and_eq_true, Bool.and_eq_true, decide_eq_true_eq] at h
  have es : k_sh S = sh_ l := by unfold k_sh sh_; rw [e]
  rw [es]
  refine ⟨?_, h.2.1, h.2.2.1, h.2.2.2⟩
  rw [e]
  exact b_nV h.1
-- advice
theorem gO.its (o : gO n S P K W Q T F H R L gr ag) {t : Nat} (ht : t < 28) : g_grades S (nI t) = nI (gr t 0 + gr t 1) ∧ tAt 7 196 (S 0) (nI t) 4 = nI (ag t) ∧ m_its S (nI t) = nI (1000 * (gr t 0 + gr t 1) + ag t) := by
  obtain ⟨h1, h2, h3, h4, h5⟩ := o.t0 t ht
  have e0 : tAt 7 196 (S 0) (nI t) 0 = nI (gr t 0) := (at0 (w := 0) ht (by decide)).trans h1
  have e1 : tAt 7 196 (S 0) (nI t) 1 = nI (gr t 1) := (at0 (w := 1) ht (by decide)).trans h2
  have e4 : tAt 7 196 (S 0) (nI t) 4 = nI (ag t) := (at0 (w := 4) ht (by decide)).trans h5
  have eg : g_grades S (nI t) = nI (gr t 0 + gr t 1) := by unfold g_grades; rw [e0, e1, nI_add]
  refine ⟨eg, e4, ?_⟩
  unfold m_its
  rw [eg, e4, show (1000 : Int32) * nI (gr t 0 + gr t 1) = nI (1000 * (gr t 0 + gr t 1)) from nI_mul 1000 _, nI_add]
theorem adv_eq (h : gOk n S) : m_adv S = g_adv S := by
  obtain ⟨P, K, W, Q, T, F, H, R, L, gr, ag, o, t⟩ := h
  have hP : P ≤ 4 := o.n5.1.2.1
  have hK : K ≤ 28 := o.n5.1.2.2.1
  unfold m_adv g_adv
  by_cases c : g_over S = true
  · rw [if_pos c, if_pos c]
  · rw [if_neg c, if_neg c]
    obtain ⟨q, hq, hm⟩ := o.over (by simpa using c)
    have hh := oh_le o.hh (show q < 4 by omega)
    have hT : T < 1000 := by
      have h1 := t.1
      have h2 := o.hh
      unfold oh at h2
      have h3 : Q ≤ P := o.n5.1.2.2.2.2.2.1
      omega
    have hhd : ∀ i, i < H q → ∃ u, u < 28 ∧ g_hand S (S 5 1) (nI i) = nI u := fun i hi => by rw [hm]; exact o.hand (by omega) hi
    have key : ∀ i, i ≤ H q → (m_fb S i).1 = g_bl S i ∧ (g_bl S i = -1 ∨ ∃ j, j < i ∧ g_bl S i = nI j ∧ (m_fb S i).2 = m_its S (g_hand S (S 5 1) (nI j))) := by
      intro i
      induction i with
      | zero => intro _; exact ⟨rfl, Or.inl rfl⟩
      | succ i ih =>
        intro hi
        obtain ⟨i1, i2⟩ := ih (by omega)
        have hc : m_as S (m_fb S i) i = (g_some S (g_hand S (S 5 1) (nI i)) && (decide (g_bl S i = -1) || g_better S (nI i) (g_bl S i))) := by
          unfold m_as
          rw [i1]
          refine congrArg (fun X => g_some S (g_hand S (S 5 1) (nI i)) && X) ?_
          rcases i2 with z | ⟨j, j1, j2, j3⟩
          · rw [decide_eq_true z, Bool.true_or, Bool.true_or]
          · rw [j3, j2, decide_eq_false (nI_ne1 (by omega)), Bool.false_or, Bool.false_or]
            obtain ⟨u, hu, eu⟩ := hhd i (by omega)
            obtain ⟨v, hv, ev⟩ := hhd j (by omega)
            unfold g_better
            rw [eu, ev]
            obtain ⟨u1, u2, u3⟩ := o.its hu
            obtain ⟨v1, v2, v3⟩ := o.its hv
            obtain ⟨-, -, a1, a2, -⟩ := o.t0 u hu
            obtain ⟨-, -, b1, b2, -⟩ := o.t0 v hv
            have au := t.2.1 u hu
            have av := t.2.1 v hv
            rw [u1, u2, u3, v1, v2, v3]
            by_cases c1 : gr u 0 + gr u 1 = gr v 0 + gr v 1
            · rw [if_pos (by rw [c1])]
              apply decide_eq_decide.mpr
              rw [nI_ltI (by omega) (by omega), nI_ltI (by omega) (by omega)]
              omega
            · rw [if_neg (fun z => c1 (nI_inj (by omega) (by omega) z))]
              apply decide_eq_decide.mpr
              rw [nI_ltI (by omega) (by omega), nI_ltI (by omega) (by omega)]
              omega
        show (if m_as S (m_fb S i) i = true then (nI i, m_its S (g_hand S (S 5 1) (nI i))) else m_fb S i).1 = (if (g_some S (g_hand S (S 5 1) (nI i)) && (decide (g_bl S i = -1) || g_better S (nI i) (g_bl S i))) = true then nI i else g_bl S i) ∧ ((if (g_some S (g_hand S (S 5 1) (nI i)) && (decide (g_bl S i = -1) || g_better S (nI i) (g_bl S i))) = true then nI i else g_bl S i) = -1 ∨ ∃ j, j < i + 1 ∧ (if (g_some S (g_hand S (S 5 1) (nI i)) && (decide (g_bl S i = -1) || g_better S (nI i) (g_bl S i))) = true then nI i else g_bl S i) = nI j ∧ (if m_as S (m_fb S i) i = true then (nI i, m_its S (g_hand S (S 5 1) (nI i))) else m_fb S i).2 = m_its S (g_hand S (S 5 1) (nI j)))
        rw [← hc]
        by_cases d : m_as S (m_fb S i) i = true
        · rw [if_pos d, if_pos d]
          exact ⟨rfl, Or.inr ⟨i, by omega, rfl, rfl⟩⟩
        · rw [if_neg d, if_neg d]
          exact ⟨i1, i2.imp id (fun ⟨j, j1, j2⟩ => ⟨j, by omega, j2⟩)⟩
    have e : (g_held S (S 5 1)).toNatClampNeg = H q := by rw [hm]; exact o.kk (by omega)
    rw [e]
    exact (key (H q) (Nat.le_refl _)).1
theorem sw_adv (h : nB S) (r : hR S Hf) (hk : ∀ p, p < 4 → k_k S (nI p) ≤ 28) : g_adv (gu S 1 Hf) = g_adv S := by
  unfold g_adv
  rw [show g_over (gu S 1 Hf) = g_over S from rfl, show (gu S 1 Hf) 5 1 = S 5 1 from rfl, show ∀ p, g_held (gu S 1 Hf) p = g_held S p from fun _ => rfl]
  rcases h.mv with hm | ⟨q, hq, hm⟩
  · rw [show g_over S = true from decide_eq_true hm, if_pos rfl, if_pos rfl]
  · by_cases c : g_over S = true
    · rw [if_pos c, if_pos c]
    · rw [if_neg c, if_neg c]
      have hh : ∀ i, i < k_k S (nI q) → g_hand (gu S 1 Hf) (S 5 1) (nI i) = g_hand S (S 5 1) (nI i) := fun i hi => by rw [hm]; exact r.hand hk hq hi
      have key : ∀ i, i ≤ k_k S (nI q) → g_bl (gu S 1 Hf) i = g_bl S i ∧ (g_bl S i = -1 ∨ ∃ j, j < i ∧ g_bl S i = nI j) := by
        intro i
        induction i with
        | zero => intro _; exact ⟨rfl, Or.inl rfl⟩
        | succ i ih =>
          intro hi
          obtain ⟨i1, i2⟩ := ih (by omega)
          have hb : (decide (g_bl S i = -1) || g_better (gu S 1 Hf) (nI i) (g_bl S i)) = (decide (g_bl S i = -1) || g_better S (nI i) (g_bl S i)) := by
            rcases i2 with z | ⟨j, j1, j2⟩
            · rw [decide_eq_true z, Bool.true_or, Bool.true_or]
            · refine congrArg (fun X => decide (g_bl S i = -1) || X) ?_
              unfold g_better
              rw [show (gu S 1 Hf) 5 1 = S 5 1 from rfl, j2, hh i (by omega), hh j (by omega)]
              rfl
          have hc : (g_some (gu S 1 Hf) (g_hand (gu S 1 Hf) ((gu S 1 Hf) 5 1) (nI i)) && (decide (g_bl (gu S 1 Hf) i = -1) || g_better (gu S 1 Hf) (nI i) (g_bl (gu S 1 Hf) i))) = (g_some S (g_hand S (S 5 1) (nI i)) && (decide (g_bl S i = -1) || g_better S (nI i) (g_bl S i))) := by
            rw [i1, hb, show (gu S 1 Hf) 5 1 = S 5 1 from rfl, hh i (by omega)]
            rfl
          show (if (g_some (gu S 1 Hf) (g_hand (gu S 1 Hf) ((gu S 1 Hf) 5 1) (nI i)) && (decide (g_bl (gu S 1 Hf) i = -1) || g_better (gu S 1 Hf) (nI i) (g_bl (gu S 1 Hf) i))) = true then nI i else g_bl (gu S 1 Hf) i) = (if (g_some S (g_hand S (S 5 1) (nI i)) && (decide (g_bl S i = -1) || g_better S (nI i) (g_bl S i))) = true then nI i else g_bl S i) ∧ ((if (g_some S (g_hand S (S 5 1) (nI i)) && (decide (g_bl S i = -1) || g_better S (nI i) (g_bl S i))) = true then nI i else g_bl S i) = -1 ∨ ∃ j, j < i + 1 ∧ (if (g_some S (g_hand S (S 5 1) (nI i)) && (decide (g_bl S i = -1) || g_better S (nI i) (g_bl S i))) = true then nI i else g_bl S i) = nI j)
          rw [hc, i1]
          refine ⟨rfl, ?_⟩
          split
          · exact Or.inr ⟨i, by omega, rfl⟩
          · exact i2.imp id (fun ⟨j, j1, j2⟩ => ⟨j, by omega, j2⟩)
      rw [hm]
      exact (key _ (Nat.le_refl _)).1
-- trains of a hand
theorem tk_raw (p : Int32) (hf : Nat → Int32) : ∀ N, N ≤ 10 → ∀ i, i < N → t_half (t_tk S p hf N) (nI i) 0 = 1 <<< (tAt 7 196 (S 0) (g_hand S p (nI i)) 0 &&& 31) ∧ t_half (t_tk S p hf N) (nI i) 1 = 1 <<< (tAt 7 196 (S 0) (g_hand S p (nI i)) 1 &&& 31) := by
  intro N
  induction N with
  | zero => intro _ i hi; omega
  | succ N ih =>
    intro hN i hi
    have put : ∀ (g : Nat → Int32) (w : Nat) (v : Int32), w < 2 → tPut 2 20 g (nI N) (nI w) v = upd g (N * 2 + w) v := fun g w v hw => tPut_in (C := 2) (n := 20) (by omega) (by decide)
    have at_ : ∀ (g : Nat → Int32) (w : Nat), w < 2 → tAt 2 20 g (nI i) (nI w) = g (i * 2 + w) := fun g w hw => tAt_in (C := 2) (n := 20) (by omega) (by decide)
    have e : ∀ w, w < 2 → t_half (t_tk S p hf (N + 1)) (nI i) (nI w) = upd (upd (t_tk S p hf N) (N * 2 + 0) (1 <<< (tAt 7 196 (S 0) (g_hand S p (nI N)) 0 &&& 31))) (N * 2 + 1) (1 <<< (tAt 7 196 (S 0) (g_hand S p (nI N)) 1 &&& 31)) (i * 2 + w) := by
      intro w hw
      show tAt 2 20 (tPut 2 20 (tPut 2 20 (t_tk S p hf N) (nI N) 0 _) (nI N) 1 _) (nI i) (nI w) = _
      rw [at_ _ w hw, show ∀ (g : Nat → Int32) v, tPut 2 20 g (nI N) 0 v = _ from fun g v => put g 0 v (by decide), show ∀ (g : Nat → Int32) v, tPut 2 20 g (nI N) 1 v = _ from fun g v => put g 1 v (by decide)]
    have h0 := e 0 (by decide)
    have h1 := e 1 (by decide)
    by_cases c : i = N
    · subst c
      rw [upd_n (by omega), upd_s] at h0
      rw [upd_s] at h1
      exact ⟨h0, h1⟩
    · rw [upd_n (by omega), upd_n (by omega)] at h0 h1
      obtain ⟨i1, i2⟩ := ih (by omega) i (by omega)
      have q0 : t_half (t_tk S p hf N) (nI i) 0 = t_tk S p hf N (i * 2 + 0) := at_ _ 0 (by decide)
      have q1 : t_half (t_tk S p hf N) (nI i) 1 = t_tk S p hf N (i * 2 + 1) := at_ _ 1 (by decide)
      exact ⟨h0.trans (q0.symm.trans i1), h1.trans (q1.symm.trans i2)⟩
def ha_ (S : gS) (p w : Nat) (i : Nat) : Nat := (tAt 7 196 (S 0) (g_hand S (nI p) (nI i)) (nI w)).toNatClampNeg
theorem ha_eq {S : gS} {p w i t g : Nat} (et : g_hand S (nI p) (nI i) = nI t) (e : tAt 7 196 (S 0) (nI t) (nI w) = nI g) (hg : g < 7) : ha_ S p w i = g := by
  unfold ha_
  rw [et, e, nI_clamp (by omega)]
/-- the halves of a hand, for both -/
theorem halves (h : nB S) (r : hR S Hf) (hk : ∀ p, p < 4 → k_k S (nI p) ≤ 28) {p : Nat} (hp : p < 4) (hf : Nat → Int32) : ∃ a b : Nat → Nat, HG (gu S 1 Hf) (nI p) (k_k S (nI p)) a b ∧ (k_k S (nI p) ≤ 10 → HV (k_hf S (nI p) hf) (k_k S (nI p)) a b) := by
  refine ⟨ha_ S p 0, ha_ S p 1, ?_, ?_⟩
  · intro i hi
    rw [r.hand hk hp hi]
    obtain ⟨t, ht, et⟩ := (h.hk hp).2.2 i hi
    rw [show g_hand S (nI p) (nI i) = nI t from et]
    obtain ⟨g0, a0, e0⟩ := h.gr ht (w := 0) (by decide)
    obtain ⟨g1, a1, e1⟩ := h.gr ht (w := 1) (by decide)
    rw [ha_eq et e0 a0, ha_eq et e1 a1]
    exact ⟨e0, e1, a0, a1⟩
  · intro h10 i hi
    obtain ⟨t, ht, et⟩ := (h.hk hp).2.2 i hi
    obtain ⟨g0, a0, e0⟩ := h.gr ht (w := 0) (by decide)
    obtain ⟨g1, a1, e1⟩ := h.gr ht (w := 1) (by decide)
    unfold k_hf
    rw [show min (g_held S (nI p)).toNatClampNeg 10 = k_k S (nI p) from Nat.min_eq_left h10]
    obtain ⟨q0, q1⟩ := tk_raw (S := S) (nI p) hf (k_k S (nI p)) h10 i hi
    rw [q0, q1, show g_hand S (nI p) (nI i) = nI t from et, show tAt 7 196 (S 0) (nI t) 0 = nI g0 from e0, show tAt 7 196 (S 0) (nI t) 1 = nI g1 from e1, sh_ok g0 (by omega), sh_ok g1 (by omega)]
    rw [ha_eq et e0 a0, ha_eq et e1 a1]
    exact ⟨rfl, rfl, a0, a1⟩
/-- longest and whole, of the class and of the model -/
theorem trains_eq (h : nB S) (r : hR S Hf) (hk : ∀ p, p < 4 → k_k S (nI p) ≤ 28) {p g : Nat} (hp : p < 4) (hg : g < 7) (hf f Fm : Nat → Int32) : (m_lo (gu S 1 Hf) (nI p) (nI g) (k_k S (nI p)) Fm).1 = t_most (t_of (k_hf S (nI p) hf) (k_k S (nI p)) (nI g) f) (k_k S (nI p)) ∧ m_wh (gu S 1 Hf) (nI p) (nI g) (k_k S (nI p)) Fm = t_whole (t_of (k_hf S (nI p) hf) (k_k S (nI p)) (nI g) f) (k_k S (nI p)) ∧ t_count (k_hf S (nI p) hf) (k_k S (nI p)) (nI g) = t_whole (t_of (k_hf S (nI p) hf) (k_k S (nI p)) (nI g) f) (k_k S (nI p)) := by
  by_cases c : 10 < k_k S (nI p)
  · unfold m_wh m_lo t_most t_whole t_count
    rw [if_pos c, if_pos c, if_pos c, if_pos c]
    exact ⟨rfl, rfl, rfl⟩
  · obtain ⟨a, b, h1, h2⟩ := halves h r hk hp hf
    have hv := h2 (by omega)
    exact ⟨lo_eq hv h1 hg Fm f, wh_eq hv h1 hg Fm f, count_eq hv hg f⟩
theorem m3_eq (h : nB S) (r : hR S Hf) (hk : ∀ p, p < 4 → k_k S (nI p) ≤ 28) {p : Nat} (hp : p < 4) (hf f Fm : Nat → Int32) (X : Int64) : ∀ i, i ≤ 7 → d_3 (gu S 1 Hf) (nI p) (k_k S (nI p)) Fm X i = k_m3 (k_hf S (nI p) hf) (k_k S (nI p)) f X i := by
  intro i
  induction i with
  | zero => intro _; rfl
  | succ i ih =>
    intro hi
    show 31 * (31 * (31 * d_3 (gu S 1 Hf) (nI p) (k_k S (nI p)) Fm X i + (m_lo (gu S 1 Hf) (nI p) (nI i) (k_k S (nI p)) (d_F (gu S 1 Hf) (nI p) (k_k S (nI p)) Fm i)).1.toInt64) + (m_wh (gu S 1 Hf) (nI p) (nI i) (k_k S (nI p)) (m_lo (gu S 1 Hf) (nI p) (nI i) (k_k S (nI p)) (d_F (gu S 1 Hf) (nI p) (k_k S (nI p)) Fm i)).2).toInt64) + (m_wh (gu S 1 Hf) (nI p) (nI i) (k_k S (nI p)) (m_lo (gu S 1 Hf) (nI p) (nI i) (k_k S (nI p)) (m_lo (gu S 1 Hf) (nI p) (nI i) (k_k S (nI p)) (d_F (gu S 1 Hf) (nI p) (k_k S (nI p)) Fm i)).2).2).toInt64 = 31 * (31 * (31 * k_m3 (k_hf S (nI p) hf) (k_k S (nI p)) f X i + (t_most (t_of (k_hf S (nI p) hf) (k_k S (nI p)) (nI i) (k_of (k_hf S (nI p) hf) (k_k S (nI p)) f i)) (k_k S (nI p))).toInt64) + (t_whole (t_of (k_hf S (nI p) hf) (k_k S (nI p)) (nI i) (k_of (k_hf S (nI p) hf) (k_k S (nI p)) f i)) (k_k S (nI p))).toInt64) + (t_count (k_hf S (nI p) hf) (k_k S (nI p)) (nI i)).toInt64
    have t := fun Fm => trains_eq h r hk hp (show i < 7 by omega) hf (k_of (k_hf S (nI p) hf) (k_k S (nI p)) f i) Fm
    rw [ih (by omega), (t _).1, (t _).2.1, (t _).2.1, (t Fm).2.2]
theorem pX_eq_ (h : nB S) (r : hR S Hf) (hk : ∀ p, p < 4 → k_k S (nI p) ≤ 28) (hf f Fm : Nat → Int32) (t : Int32) (X : Int64) : ∀ i, i ≤ 4 → d_PX (gu S 1 Hf) Fm X i = (k_pX S X hf f t i).1 := by
  intro i
  induction i with
  | zero => intro _; rfl
  | succ i ih =>
    intro hi
    show d_3 (gu S 1 Hf) (nI i) (k_k S (nI i)) (d_PF (gu S 1 Hf) Fm i) (k_m2 (gu S 1 Hf) (nI i) (k_m1 (gu S 1 Hf) (nI i) (d_PX (gu S 1 Hf) Fm X i) 7) (k_k S (nI i))) 7 = k_m3 (k_hf S (nI i) (k_pX S X hf f t i).2.1) (k_k S (nI i)) (k_pX S X hf f t i).2.2.1 (k_m2 S (nI i) (k_m1 S (nI i) (k_pX S X hf f t i).1 7) (k_k S (nI i))) 7
    rw [ih (by omega), sw_m1 r hk (show i < 4 by omega), sw_m2 r hk (show i < 4 by omega) _ _ (Nat.le_refl _)]
    exact m3_eq h r hk (show i < 4 by omega) _ _ _ _ 7 (Nat.le_refl _)
theorem xmix_eq {cf cg : Nat → Int32} {m : Nat} (X : Int64) : ∀ j, (∀ i, i < j → cf i = cg i) → x_mix cf m X j = x_mix cg m X j := by
  intro j
  induction j with
  | zero => intro _; rfl
  | succ j ih =>
    intro h
    show 31 * x_mix cf m X j + (cf j).toInt64 = 31 * x_mix cg m X j + (cg j).toInt64
    rw [ih (fun i hi => h i (by omega)), h j (by omega)]
theorem d6_eq {kk : Nat} {sl : Nat → Option Nat} (hsl : ∀ j, j < 2 → (kk / 2 ^ j % 2 = 1 ↔ (sl j).isSome = true)) (X : Int64) : d_6 kk X = k_d6 sl X 2 := by
  have b : ∀ j, j < 2 → nI (kk / 2 ^ j % 2) = if (sl j).isSome then (1 : Int32) else 0 := by
    intro j hj
    have := hsl j hj
    by_cases c : (sl j).isSome = true
    · rw [if_pos c, this.mpr c]; rfl
    · rw [if_neg c, show kk / 2 ^ j % 2 = 0 from (Nat.mod_two_eq_zero_or_one _).resolve_right (fun q => c (this.mp q))]; rfl
  have b0 := b 0 (by decide)
  have b1 := b 1 (by decide)
  rw [Nat.pow_zero, Nat.div_one] at b0
  rw [Nat.pow_one] at b1
  unfold d_6 k_d6 k_d6 k_d6
  rw [b0, b1]
theorem d5_eq (hg : gOk n S) (r : hR S Hf) (X : Int64) : d_5 (gu S 1 Hf) X = k_d5 S X := by
  have h := hg.nb
  have hk : ∀ p, p < 4 → k_k S (nI p) ≤ 28 := fun p hp => hg.kle hp
  have a : m_adv (gu S 1 Hf) = g_adv S := (adv_eq (hg.sw r)).trans (sw_adv h r hk)
  have b : mb_of (k_sh (gu S 1 Hf)) = b_of (k_sh S) := hg.share.2.2.2.symm
  unfold d_5 k_d5
  rw [a, b, sw_cl]
theorem d2_eq (hg : gOk n S) (r : hR S Hf) (z : Nat) : k_d2 (gu S 1 Hf) z = k_d2 S z := by
  unfold k_d2
  rw [sw_d1 hg.nb r (fun p hp => hg.kle hp)]
  rfl
/-- the digest -/
theorem dg_eq (hg : gOk n S) (r : hR S Hf) {cf cg Fm hf f : Nat → Int32} {t : Int32} {z kk len P K : Nat} {sl : Nat → Option Nat} (hP : S 5 0 = nI P) (hP4 : P ≤ 4) (hK : S 5 2 = nI K) (hK28 : K ≤ 28) (hcf : ∀ i, i < len → cf i = cg i) (hsl : ∀ j, j < 2 → (kk / 2 ^ j % 2 = 1 ↔ (sl j).isSome = true)) :
    d_dg (gu S 1 Hf) Fm cf z kk len P K = k_dg S sl z cg len hf f t := by
  have es : (g_stock S).toNatClampNeg = 28 - K := by
    unfold g_stock
    rw [hK, show (28 : Int32) - nI K = nI (28 - K) from pk_sub (a := 28) hK28, nI_clamp (by omega)]
  have e0 : (S 5 0).toNatClampNeg = P := by rw [hP, nI_clamp (by omega)]
  unfold d_dg k_dg
  rw [xmix_eq _ len hcf, d6_eq hsl, d5_eq hg r, sw_d4, es, e0, d2_eq hg r, pX_eq_ hg.nb r (fun p hp => hg.kle hp) hf f Fm t _ P hP4, show (gu S 1 Hf) 3 = S 3 from gu_n (by decide)]
  unfold k_d3 k_p2
  rfl
end SM
