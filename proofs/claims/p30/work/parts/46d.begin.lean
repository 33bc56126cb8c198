/-! A GAME THAT IS BEGUN -/
section BH
variable {n : Nat} {S : gS} {u : Nat} {x : Int32}
theorem s2_o4 (hx : ∃ k, k < 10000 ∧ x = nI k) : o4 ((s_2 S (nI u) x) 4) := by
  obtain ⟨pi, h1, h2, -, -⟩ := ord2 (s_1 S (nI u)) hx
  show o4 ((i_mod (i_ord (s_1 S (nI u)) x 28) 28) 4)
  refine ⟨fun i hi => ?_, fun i j hij hj => ?_⟩
  · obtain ⟨a1, a2, a3⟩ := h1 i hi
    exact ⟨pi i, a1, a3⟩
  · obtain ⟨a1, a2, a3⟩ := h1 i (by omega)
    obtain ⟨b1, b2, b3⟩ := h1 j hj
    rw [a3, b3]
    intro e
    have := nI_inj (by omega) (by omega) e
    rw [this, b2] at a2
    omega
theorem s2_gO (hx : ∃ k, k < 10000 ∧ x = nI k) (h : wf_ n S) (hu2 : 2 ≤ u) (hu : u ≤ 4) : ∃ W F, gO n (s_2 S (nI u) x) u 0 W 0 0 F (fun _ => 0) (fun _ => 0) (fun _ => 0) (fun t w => if w = 0 then pa_ t else pb_ t) (fun _ => 0) := by
  obtain ⟨W, F, w1, w2, w3, k5, k6⟩ := h
  refine ⟨W, F, ⟨⟨hu2, hu, by omega, w1, w2, by omega, w3⟩, by rw [s2_5 hx]; rfl, by rw [s2_5 hx]; rfl, by rw [s2_5 hx]; rfl, by rw [s2_5 hx]; rfl, by rw [s2_5 hx]; exact k5, by rw [s2_5 hx]; exact k6⟩, Or.inr ⟨0, by omega, by rw [s2_5 hx]; rfl⟩, ⟨fun p hp => ?_, fun p hp hp4 => ?_⟩, fun r hr => ?_, s2_o4 hx, ⟨fun p hp i hi => absurd hi (Nat.not_lt_zero i), fun p hp i j hij hj => absurd hj (Nat.not_lt_zero j)⟩, fun t ht => ?_, ?_, rfl⟩
  · rw [s2_2 hx, s2_2 hx, if_pos (by omega), if_pos (by omega)]
    exact ⟨rfl, rfl⟩
  · rw [s2_2 hx, s2_2 hx, if_pos (by omega), if_pos (by omega)]
    exact ⟨rfl, rfl, rfl, rfl⟩
  · rw [s2_3 hx, mr_0 S 3 (Nat.le_refl _) r hr]
    rfl
  · obtain ⟨p1, p2⟩ := pa_7 t ht
    have e0 := tv_at (t := t) (w := 0) (by decide)
    have e1 := tv_at (t := t) (w := 1) (by decide)
    have e4 := tv_at (t := t) (w := 4) (by decide)
    rw [s2_0 hx, s2_0 hx, s2_0 hx, if_pos (by omega), if_pos (by omega), if_pos (by omega)]
    exact ⟨e0, e1, p1, p2, e4⟩
  · show nsum (fun t => (if 0 = 0 then pa_ t else pb_ t) + (if 1 = 0 then pa_ t else pb_ t)) 28 + (0 + 0 + 0 + 0) = 168
    exact pa_s
theorem lsum_0 {f : Nat → Int32} : ∀ {n : Nat}, (∀ t, t < n → f t = 0) → l_sum f n = 0 := by
  intro n
  induction n with
  | zero => intro _; rfl
  | succ n ih => intro h; show l_sum f n + f n = 0; rw [ih (fun t ht => h t (by omega)), h n (by omega)]; rfl
theorem s2_gY (hx : ∃ k, k < 10000 ∧ x = nI k) : gY (s_2 S (nI u) x) u 0 (fun _ => 0) := by
  have e : ∀ t, t < 28 → ∀ w, w < 7 → w ≠ 0 → w ≠ 1 → (s_2 S (nI u) x) 0 (t * 7 + w) = if w = 3 then -1 else if w = 5 then -1 else 0 := by
    intro t ht w hw h0 h1
    have q := tv_at (t := t) hw
    rw [if_neg h0, if_neg h1] at q
    rw [s2_0 hx, if_pos (by omega), q]
  refine ⟨fun t ht => ?_, fun p hp i hi => absurd hi (Nat.not_lt_zero i), fun j hj t ht _ => ?_, ?_, ?_⟩
  · unfold xt
    rw [e t ht 2 (by decide) (by decide) (by decide), e t ht 3 (by decide) (by decide) (by decide), e t ht 4 (by decide) (by decide) (by decide), e t ht 5 (by decide) (by decide) (by decide), e t ht 6 (by decide) (by decide) (by decide)]
    exact Or.inl ⟨rfl, rfl, rfl, rfl, rfl⟩
  · rw [e t ht 2 (by decide) (by decide) (by decide)]
    exact ⟨fun _ => rfl, fun _ => Nat.zero_le _⟩
  · unfold xr
    rw [s2_2 hx, s2_2 hx, s2_2 hx, s2_2 hx, if_pos (by decide), if_pos (by decide), if_pos (by decide), if_pos (by decide)]
    exact lsum_0 (fun t ht => e t ht 6 (by decide) (by decide) (by decide))
  · unfold xl
    rw [s2_2 hx, s2_2 hx, s2_2 hx, s2_2 hx, if_pos (by decide), if_pos (by decide), if_pos (by decide), if_pos (by decide), s2_3 hx, show (g_mr S 3) 3 0 = 0 from mr_0 S 3 (Nat.le_refl _) 0 (by decide), show (g_mr S 3) 3 4 = 0 from mr_0 S 3 (Nat.le_refl _) 1 (by decide), show (g_mr S 3) 3 8 = 0 from mr_0 S 3 (Nat.le_refl _) 2 (by decide)]
    rfl
theorem deal_gX {X : gS} {W F : Nat} {gr : Nat → Nat → Nat} (o : gO n X u 0 W 0 0 F (fun _ => 0) (fun _ => 0) (fun _ => 0) gr (fun _ => 0)) (y : gY X u 0 (fun _ => 0)) (hu : u ≤ 4) (h23 : ∀ p, p < 4 → X 2 (p * 4 + 2) = 0 ∧ X 2 (p * 4 + 3) = 0) : ∀ k, k ≤ 5 * u → ∃ H : Nat → Nat, (∀ p, H p = if p < k / 5 then 5 else if p = k / 5 then k % 5 else 0) ∧ gO n (m_dl X k) u k W 0 0 F H (fun _ => 0) (fun _ => 0) gr (fun _ => 0) ∧ gY (m_dl X k) u k H ∧ ∀ p, p < 4 → (m_dl X k) 2 (p * 4 + 2) = 0 ∧ (m_dl X k) 2 (p * 4 + 3) = 0 := by
  intro k
  induction k with
  | zero =>
    intro _
    refine ⟨fun _ => 0, fun p => ?_, o, y, h23⟩
    split
    · omega
    · split <;> rfl
  | succ k ih =>
    intro hk
    obtain ⟨H, hH, ok, yk, zk⟩ := ih (by omega)
    have hp : k / 5 < u := by omega
    obtain ⟨y2, y3⟩ := yk.take ok (by omega) hp
    refine ⟨fu H (k / 5) (H (k / 5) + 1), fun p => ?_, ok.take (by omega) hp, y2, fun p hp4 => ?_⟩
    · by_cases c : p = k / 5
      · subst c
        rw [fu_s, hH, if_neg (by omega), if_pos rfl]
        by_cases d : k % 5 = 4
        · rw [if_pos (by omega)]; omega
        · rw [if_neg (by omega), if_pos (by omega)]; omega
      · rw [fu_n c, hH]
        by_cases d : p < k / 5
        · rw [if_pos d, if_pos (by omega)]
        · rw [if_neg d, if_neg c]
          by_cases d2 : p = (k + 1) / 5
          · rw [if_neg (by omega), if_pos d2]; omega
          · rw [if_neg (by omega), if_neg d2]
    · show (g_take (m_dl X k) (nI (k / 5))) 2 (p * 4 + 2) = 0 ∧ (g_take (m_dl X k) (nI (k / 5))) 2 (p * 4 + 3) = 0
      rw [y3 (p * 4 + 2) (by omega) (by omega), y3 (p * 4 + 3) (by omega) (by omega)]
      exact zk p hp4
theorem gX.begin (hx : ∃ k, k < 10000 ∧ x = nI k) (h : wf_ n S) (hu2 : 2 ≤ u) (hu : u ≤ 4) : gX n (s_3 S (nI u) x) := by
  obtain ⟨W, F, o⟩ := s2_gO hx h hu2 hu
  obtain ⟨H, hH, ok, yk, zk⟩ := deal_gX o (s2_gY hx) hu (fun p hp => by
    rw [s2_2 hx, s2_2 hx, if_pos (by omega), if_pos (by omega)]
    exact ⟨rfl, rfl⟩) (5 * u) (Nat.le_refl _)
  have e3 : (s_3 S (nI u) x) = m_dl (s_2 S (nI u) x) (5 * u) := by
    have e50 : (s_2 S (nI u) x) 5 0 = nI u := by
      rw [s2_5 hx, if_neg (by decide), if_neg (by decide), if_neg (by decide), if_neg (by decide), if_neg (by decide), if_pos rfl]
    unfold s_3
    rw [e50, nI_clamp (by omega)]
    exact dO_dl _ u
  have hH5 : ∀ p, p < u → H p = 5 := fun p hp => by rw [hH, if_pos (by omega)]
  rw [e3]
  refine ⟨u, 5 * u, W, 0, 0, F, H, _, _, _, _, ok, ⟨Nat.zero_le _, fun _ _ => Nat.le_refl 0, Or.inr (by omega)⟩, yk, fun p hp => ?_, Nat.le_refl _, Or.inl rfl, Or.inr (fun p hp => by rw [hH5 p hp]; decide)⟩
  rw [(ok.t2.1 p (by omega)).1, (zk p (by omega)).1, (zk p (by omega)).2, hH5 p hp]
  rfl
theorem gX.beginB (h : gX n S) {a b : Int32} (hb : tBegin a b = true) : gX n (s_3 S a b) := by
  unfold tBegin at hb
  rw [Bool.and_eq_true, Bool.and_eq_true, Bool.and_eq_true, Bool.not_eq_true', Bool.not_eq_true', Bool.not_eq_true'] at hb
  obtain ⟨h1, h2, h3, h4⟩ := hb
  have e1 := of_decide_eq_false h1
  have e2 := of_decide_eq_false h2
  have e3 := of_decide_eq_false h3
  have e4 := of_decide_eq_true h4
  rw [clI e3] at e4 ⊢
  have k4 : b.toNatClampNeg < 10000 := (nI_ltI (tn_lt b) (by decide)).mp (show nI _ < nI 10000 from e4)
  have ea : ¬ a < 0 := fun q => e1 (by rw [Int32.lt_iff_toInt_lt] at q ⊢; have z0 : (0 : Int32).toInt = 0 := rfl; have z2 : (2 : Int32).toInt = 2 := rfl; omega)
  rw [clI ea] at e1 e2 ⊢
  have k1 : ¬ a.toNatClampNeg < 2 := fun q => e1 ((nI_ltI (tn_lt a) (by decide)).mpr q)
  have k2 : ¬ 4 < a.toNatClampNeg := fun q => e2 ((nI_ltI (a := 4) (by decide) (tn_lt a)).mpr q)
  exact gX.begin ⟨_, k4, rfl⟩ h.ok.wf (by omega) (by omega)
theorem wf_0 : wf_ 2 gS0 := ⟨3, 0, by decide, by decide, by decide, by decide, by decide⟩
theorem gX.first : gX 2 (s_3 gS0 2 1) := gX.begin (u := 2) ⟨1, by decide, rfl⟩ wf_0 (by decide) (by decide)
end BH
