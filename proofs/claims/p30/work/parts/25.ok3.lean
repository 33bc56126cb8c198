/-! LAY, DRAW, PASS, OIL, SET KEEP A GAME IN ORDER -/
section OK3
variable {n : Nat} {S : gS} {P K W Q T F : Nat} {H R L : Nat → Nat} {gr : Nat → Nat → Nat} {ag : Nat → Nat}
theorem gO.ref (o : gO n S P K W Q T F H R L gr ag) : gO (n + 1) (g_ref S) P K W Q T (F + 1) H R L gr ag := by
  obtain ⟨k0, k1, k2, k3, k4, k5, k6⟩ := o.n5
  refine ⟨⟨⟨k0.1, k0.2.1, k0.2.2.1, k0.2.2.2.1, k0.2.2.2.2.1, k0.2.2.2.2.2.1, by have := k0.2.2.2.2.2.2; omega⟩, k1, k2, k3, k4, ?_, k6⟩, o.2⟩
  show S 5 5 + 1 = nI (F + 1)
  rw [k5, nI_1]
theorem gOk.ref (h : gOk n S) : gOk (n + 1) (g_ref S) := by
  obtain ⟨P, K, W, Q, T, F, H, R, L, gr, ag, o, t⟩ := h
  exact ⟨P, K, W, Q, T, F + 1, H, R, L, gr, ag, o.ref, t⟩
theorem gO.over (o : gO n S P K W Q T F H R L gr ag) (h : g_over S = false) : ∃ q, q < P ∧ S 5 1 = nI q := by
  rcases o.mv with c | c
  · unfold g_over at h; rw [decide_eq_true c] at h; cases h
  · exact c
theorem gO.overN (_o : gO n S P K W Q T F H R L gr ag) {q : Nat} (hq : q < 4) (h : S 5 1 = nI q) : g_over S = false := by
  unfold g_over
  rw [h]
  exact decide_eq_false (nI_ne1 (by omega))
theorem gO.holds (o : gO n S P K W Q T F H R L gr ag) {q : Nat} (hq : q < 4) {a : Int32} : g_holds S (nI q) a = true ↔ ∃ i, i < H q ∧ a = nI i := by
  have hh := oh_le o.hh hq
  have hK : K ≤ 28 := o.n5.1.2.2.1
  unfold g_holds
  rw [show g_held S (nI q) = nI (H q) from o.held hq]
  constructor
  · intro h; exact m_nat (by omega) h
  · rintro ⟨i, hi, rfl⟩
    rw [decide_eq_false (nI_pos (by omega)), decide_eq_true (nI_lt hi (by omega))]
    rfl
theorem gO.reason0 (o : gO n S P K W Q T F H R L gr ag) {a r e : Int32} (h : g_reason S a r e = 0) : ∃ q i, q < P ∧ S 5 1 = nI q ∧ i < H q ∧ a = nI i := by
  have hP : P ≤ 4 := o.n5.1.2.1
  unfold g_reason at h
  by_cases c : g_over S = true
  · rw [if_pos c] at h; exact absurd h (by decide)
  · rw [if_neg c] at h
    obtain ⟨q, hq, hm⟩ := o.over (by simpa using c)
    rw [hm] at h
    by_cases d : g_holds S (nI q) a = true
    · obtain ⟨i, hi, ei⟩ := (o.holds (by omega)).mp d
      exact ⟨q, i, hq, hm, hi, ei⟩
    · rw [if_neg d] at h; exact absurd h (by decide)
theorem gOk.lay0 (h : gOk n S) {a : Int32} {r e : Nat} (hr : r < 3) (he : e < 2) (h0 : g_reason S a (nI r) (nI e) = 0) : gOk n (g_lay S a (nI r) (nI e)) := by
  obtain ⟨P, K, W, Q, T, F, H, R, L, gr, ag, o, t⟩ := h
  obtain ⟨q, i, hq, hm, hi, rfl⟩ := o.reason0 h0
  have hQ : Q < P := t.2.2.resolve_left (by rw [hm]; exact nI_ne1 (by have := o.n5.1.2.1; omega))
  have hP : P ≤ 4 := o.n5.1.2.1
  obtain ⟨o3, m3⟩ := o.lay3 hq hm hi hr he
  unfold g_lay
  rw [if_pos h0]
  refine o3.ended hq m3 ?_ t.2.1
  have h1 := t.1
  have h3 := fu_sum3 (f := R) (k := r) (v := R r + 1) hr
  omega
theorem gOk.lay1 (h : gOk n S) {a r e : Int32} (h0 : ¬ g_reason S a r e = 0) : gOk (n + 1) (g_lay S a r e) := by
  unfold g_lay
  rw [if_neg h0]
  exact h.ref
theorem gOk.lay (h : gOk n S) {a : Int32} {r e : Nat} (hr : r < 3) (he : e < 2) : gOk (n + 1) (g_lay S a (nI r) (nI e)) := by
  by_cases h0 : g_reason S a (nI r) (nI e) = 0
  · exact (h.lay0 hr he h0).up (Nat.le_succ _)
  · exact h.lay1 h0
theorem gO.tal3 (o : gO n S P K W Q T F H R L gr ag) {q : Nat} (hq : q < P) : gO n (gI S 2 (nI q) 3 1) P K W Q T F H R L gr ag := by
  have hP : P ≤ 4 := o.n5.1.2.1
  rw [show gI S 2 (nI q) 3 1 = _ from inc2 (w := 3) (by omega) (by decide)]
  refine ⟨o.1, o.2.1, ?_, o.2.2.2⟩
  show o2 (upd (S 2) (q * 4 + 3) (S 2 (q * 4 + 3) + 1)) P H L
  refine ⟨fun s hs => ?_, fun s hs hs4 => ?_⟩
  · rw [upd_n (by omega), upd_n (by omega)]
    exact o.t2.1 s hs
  · rw [upd_n (by omega), upd_n (by omega)]
    exact o.t2.2 s hs hs4
theorem stock_0 (o : gO n S P K W Q T F H R L gr ag) : g_stock S = 0 ↔ K = 28 := by
  have hK : K ≤ 28 := o.n5.1.2.2.1
  rw [o.stock]
  constructor
  · intro h
    have := nI_inj (a := 28 - K) (b := 0) (by omega) (by decide) h
    omega
  · intro h; subst h; rfl
theorem stock_p (o : gO n S P K W Q T F H R L gr ag) : 0 < g_stock S ↔ K < 28 := by
  have hK : K ≤ 28 := o.n5.1.2.2.1
  rw [o.stock]
  constructor
  · intro h
    have := (nI_ltI (a := 0) (b := 28 - K) (by decide) (by omega)).mp h
    omega
  · intro h
    exact (nI_ltI (a := 0) (b := 28 - K) (by decide) (by omega)).mpr (by omega)
theorem gO.draw2 (o : gO n S P K W Q T F H R L gr ag) {q : Nat} (hq : q < P) (hm : S 5 1 = nI q) (hK : K < 28) : gO n (g_draw2 S) P (K + 1) W 0 T F (fu H q (H q + 1)) R L gr ag ∧ (g_draw2 S) 5 1 = nI q := by
  have hP2 : 2 ≤ P := o.n5.1.1
  have oz : gO n (gc S 4 0) P K W 0 T F H R L gr ag := o.pz (Q2 := 0) (Nat.zero_le _)
  have e1 : g_draw1 S = g_take (gc S 4 0) (nI q) := by
    unfold g_draw1 g_draw0
    rw [show (gc S 4 0) 5 1 = nI q from hm]
  have e2 : g_draw2 S = gI (g_take (gc S 4 0) (nI q)) 2 (nI q) 3 1 := by
    unfold g_draw2
    rw [e1, show (g_take (gc S 4 0) (nI q)) 5 1 = nI q from hm]
  rw [e2]
  exact ⟨(oz.take hK hq).tal3 hq, hm⟩
theorem gOk.draw0 (h : gOk n S) (h0 : (g_over S || decide (g_stock S = 0)) = false) : gOk n (g_draw S) := by
  obtain ⟨P, K, W, Q, T, F, H, R, L, gr, ag, o, t⟩ := h
  rw [Bool.or_eq_false_iff] at h0
  obtain ⟨q, hq, hm⟩ := o.over h0.1
  have hP : P ≤ 4 := o.n5.1.2.1
  have hK : K ≤ 28 := o.n5.1.2.2.1
  have hK2 : K < 28 := by
    have := (not_congr (stock_0 o)).mp (of_decide_eq_false h0.2)
    omega
  obtain ⟨o2, m2⟩ := o.draw2 hq hm hK2
  unfold g_draw
  rw [h0.1, h0.2, if_neg (by decide)]
  have hQ : Q < P := t.2.2.resolve_left (by rw [hm]; exact nI_ne1 (by omega))
  refine o2.ended hq m2 ?_ t.2.1
  have h1 := t.1
  omega
theorem gOk.draw (h : gOk n S) : gOk (n + 1) (g_draw S) := by
  by_cases h0 : (g_over S || decide (g_stock S = 0)) = true
  · unfold g_draw
    rw [if_pos h0]
    exact h.ref
  · exact (h.draw0 (by simpa using h0)).up (Nat.le_succ _)
theorem gOk.pass0 (h : gOk n S) (h0 : (g_over S || decide (0 < g_stock S)) = false) : gOk n (g_pass S) := by
  obtain ⟨P, K, W, Q, T, F, H, R, L, gr, ag, o, t⟩ := h
  rw [Bool.or_eq_false_iff] at h0
  obtain ⟨q, hq, hm⟩ := o.over h0.1
  have hP : P ≤ 4 := o.n5.1.2.1
  unfold g_pass
  rw [h0.1, h0.2, if_neg (by decide), show S 5 4 + 1 = nI (Q + 1) by rw [o.n5.2.2.2.2.1, nI_1]]
  have hQ : Q < P := t.2.2.resolve_left (by rw [hm]; exact nI_ne1 (by omega))
  have h1 := t.1
  exact (o.pz (Q2 := Q + 1) hQ).ended hq hm (by omega) t.2.1
theorem gOk.pass (h : gOk n S) : gOk (n + 1) (g_pass S) := by
  by_cases h0 : (g_over S || decide (0 < g_stock S)) = true
  · unfold g_pass
    rw [if_pos h0]
    exact h.ref
  · exact (h.pass0 (by simpa using h0)).up (Nat.le_succ _)
theorem gOk.oil (h : gOk n S) {a : Int32} (ha : (g_over S || g_holds S (S 5 1) a) = true) : gOk n (g_oil S a) := by
  obtain ⟨P, K, W, Q, T, F, H, R, L, gr, ag, o, t⟩ := h
  have hP : P ≤ 4 := o.n5.1.2.1
  unfold g_oil
  by_cases c : g_over S = true
  · rw [if_pos c]; exact ⟨P, K, W, Q, T, F, H, R, L, gr, ag, o, t⟩
  · rw [if_neg c]
    have c' : g_over S = false := by simpa using c
    obtain ⟨q, hq, hm⟩ := o.over c'
    rw [c', Bool.false_or, hm] at ha
    obtain ⟨i, hi, rfl⟩ := (o.holds (by omega)).mp ha
    obtain ⟨u, hu, eu⟩ := o.hand (p := q) (i := i) (by omega) hi
    rw [hm, show g_hand S (nI q) (nI i) = nI u from eu, show gP S 0 (nI u) 4 0 = _ from put0 (w := 4) hu (by decide)]
    refine ⟨P, K, W, Q, T, F, H, R, L, gr, fu ag u 0, ⟨o.1, o.2.1, o.2.2.1, o.2.2.2.1, o.2.2.2.2.1, o.2.2.2.2.2.1, ?_, o.2.2.2.2.2.2.2⟩, t.1, fun v hv => ?_, t.2.2⟩
    · show o0 (upd (S 0) (u * 7 + 4) 0) gr _
      intro v hv
      obtain ⟨h1, h2, h3, h4, h5⟩ := o.t0 v hv
      rw [upd_n (by omega), upd_n (by omega)]
      refine ⟨h1, h2, h3, h4, ?_⟩
      by_cases d : v = u
      · subst d; rw [upd_s, fu_s]; rfl
      · rw [upd_n (by omega), fu_n d, h5]
    · by_cases d : v = u
      · subst d; rw [fu_s]; omega
      · rw [fu_n d]; exact t.2.1 v hv
theorem gOk.set (h : gOk n S) {a : Int32} (ha : (!decide (a < 1) && !decide (9 < a)) = true) : gOk n (gc S 7 a) := by
  obtain ⟨P, K, W, Q, T, F, H, R, L, gr, ag, o, t⟩ := h
  rw [Bool.and_eq_true, Bool.not_eq_true', Bool.not_eq_true'] at ha
  have h1 : (1 : Int32) ≤ a := Int32.not_lt.mp (of_decide_eq_false ha.1)
  have h2 : a ≤ 9 := Int32.not_lt.mp (of_decide_eq_false ha.2)
  obtain ⟨i, hi, rfl⟩ : ∃ i, i < 10 ∧ a = nI i := by
    rcases pk_ix a (n := 10) (by decide) with c | c | c
    · exact absurd (Int32.le_iff_toInt_le.mp h1) (by have := Int32.lt_iff_toInt_lt.mp c; have e0 : (0 : Int32).toInt = 0 := rfl; have e1 : (1 : Int32).toInt = 1 := rfl; omega)
    · exact absurd (Int32.le_iff_toInt_le.mp c) (by have := Int32.le_iff_toInt_le.mp h2; have e0 : (nI 10).toInt = 10 := rfl; have e1 : (9 : Int32).toInt = 9 := rfl; omega)
    · exact c
  have hi1 : 1 ≤ i := by
    rcases Nat.eq_zero_or_pos i with z | z
    · subst z; exact absurd h1 (by decide)
    · exact z
  obtain ⟨k0, k1, k2, k3, k4, k5, k6⟩ := o.n5
  exact ⟨P, K, i, Q, T, F, H, R, L, gr, ag, ⟨⟨⟨k0.1, k0.2.1, k0.2.2.1, hi1, by omega, k0.2.2.2.2.2⟩, k1, k2, k3, k4, k5, rfl⟩, o.2⟩, t⟩
end OK3
