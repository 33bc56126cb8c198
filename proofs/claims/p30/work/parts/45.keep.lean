/-! THE TURNS KEEP WHAT HOLDS -/
def xq (S : gS) (P K Q T : Nat) (H : Nat → Nat) : Prop := Q ≤ T ∧ (Q = 0 ∨ K = 28) ∧ (S 5 1 = -1 ∨ ∀ p, p < P → 0 < H p)
def gX (n : Nat) (S : gS) : Prop := ∃ P K W Q T F H R L gr ag, gO n S P K W Q T F H R L gr ag ∧ oT S P K Q T R ag ∧ gY S P K H ∧ xe P (S 2) ∧ xq S P K Q T H
section KP
variable {n : Nat} {S : gS} {P K W Q T F : Nat} {H R L : Nat → Nat} {gr : Nat → Nat → Nat} {ag : Nat → Nat}
theorem gX.ok (h : gX n S) : gOk n S := by
  obtain ⟨P, K, W, Q, T, F, H, R, L, gr, ag, o, t, -⟩ := h
  exact ⟨P, K, W, Q, T, F, H, R, L, gr, ag, o, t⟩
theorem gX.up {n2 : Nat} (h : gX n S) (hn : n ≤ n2) : gX n2 S := by
  obtain ⟨P, K, W, Q, T, F, H, R, L, gr, ag, o, t⟩ := h
  exact ⟨P, K, W, Q, T, F, H, R, L, gr, ag, o.up hn, t⟩
theorem gX.ref (h : gX n S) : gX (n + 1) (g_ref S) := by
  obtain ⟨P, K, W, Q, T, F, H, R, L, gr, ag, o, t, y, e, x⟩ := h
  exact ⟨P, K, W, Q, T, F + 1, H, R, L, gr, ag, o.ref, t, y, e, x⟩
/-- a turn ends -/
theorem gX.ended (o : gO n S P K W Q T F H R L gr ag) (y : gY S P K H) (e : xe P (S 2)) {q : Nat} (hq : q < P) (hm : S 5 1 = nI q) (h1 : T + 1 ≤ 5 * (K + (R 0 + R 1 + R 2)) + Q) (h2 : ∀ t, t < 28 → ag t ≤ T) (hQT : Q ≤ T + 1) (hQK : Q = 0 ∨ K = 28) (hpos : ∀ p, p < P → p ≠ q → 0 < H p) : gX n (g_end S) := by
  have hP : P ≤ 4 := o.n5.1.2.1
  have hK : K ≤ 28 := o.n5.1.2.2.1
  have hhq := oh_le o.hh (show q < 4 by omega)
  have o' : gO n (gc S 3 (S 5 3 + 1)) P K W Q (T + 1) F H R L gr ag := by
    obtain ⟨k0, k1, k2, k3, k4, k5, k6⟩ := o.n5
    exact ⟨⟨k0, k1, k2, by show S 5 3 + 1 = nI (T + 1); rw [k3, nI_1], k4, k5, k6⟩, o.2⟩
  have y' : gY (gc S 3 (S 5 3 + 1)) P K H := y
  have e' : xe P ((gc S 3 (S 5 3 + 1)) 2) := e
  have hheld : g_held (g_end0 S) ((g_end0 S) 5 1) = nI (H q) := by
    rw [show (g_end0 S) 5 1 = nI q from hm]
    exact o.held (by omega)
  have hH : (g_held (g_end0 S) ((g_end0 S) 5 1)).toNatClampNeg = H q := by
    rw [hheld, nI_clamp (by omega)]
  obtain ⟨L2, gr2, ag2, o2, ha⟩ := o'.age (p := q) hq (H q) (Nat.le_refl _)
  have sA := soft.age o' y' hq (H q) (Nat.le_refl _)
  have yA := y'.soft sA
  have eB := xe.soft hP e' sA
  have eA : g_ages (g_end0 S) ((g_end0 S) 5 1) = g_age (gc S 3 (S 5 3 + 1)) (nI q) (H q) := by
    unfold g_ages
    rw [hH, show (g_end0 S) 5 1 = nI q from hm]
    rfl
  have e5 : ∀ k, (g_age (gc S 3 (S 5 3 + 1)) (nI q) (H q)) 5 k = (gc S 3 (S 5 3 + 1)) 5 k := fun k => congrFun (age_1 (S := gc S 3 (S 5 3 + 1)) (nI q) (H q)).2.1 k
  have ht2 : ∀ t, t < 28 → ag2 t ≤ T + 1 := fun t ht => Nat.le_trans (ha t ht).1 (by have := h2 t ht; omega)
  obtain ⟨k0, k1, k2, k3, k4, k5, k6⟩ := o2.n5
  unfold g_end
  rw [eA]
  split
  · exact ⟨P, K, W, Q, T + 1, F, H, R, L2, gr2, ag2, ⟨⟨k0, k1, k2, k3, k4, k5, k6⟩, Or.inl rfl, o2.2.2⟩, ⟨h1, ht2, Or.inl rfl⟩, yA, eB, hQT, hQK, Or.inl rfl⟩
  · rename_i hE
    have hQ : Q < P := by
      have h4 : ¬ (!decide ((g_end0 S) 5 4 < (g_end0 S) 5 0)) = true := fun e => hE (by unfold g_ended; rw [e, Bool.or_true])
      have h5 : (g_end0 S) 5 4 < (g_end0 S) 5 0 := by simpa using h4
      rw [show (g_end0 S) 5 4 = nI Q from o.n5.2.2.2.2.1, show (g_end0 S) 5 0 = nI P from o.n5.2.1] at h5
      have := o.n5.1.2.2.2.2.2.1
      exact (nI_ltI (by omega) (by omega)).mp h5
    have hHq : 0 < H q := by
      rcases Nat.eq_zero_or_pos (H q) with z | z
      · exfalso
        apply hE
        unfold g_ended
        rw [hheld, z, decide_eq_true (show nI 0 = 0 from rfl), Bool.true_or]
      · exact z
    refine ⟨P, K, W, Q, T + 1, F, H, R, L2, gr2, ag2, ⟨⟨k0, k1, k2, k3, k4, k5, k6⟩, Or.inr ?_, o2.2.2⟩, ⟨h1, ht2, Or.inr hQ⟩, yA, eB, hQT, hQK, Or.inr (fun p hp => ?_)⟩
    · unfold g_next
      rw [e5 1, e5 0, show (gc S 3 (S 5 3 + 1)) 5 1 = nI q from hm, show (gc S 3 (S 5 3 + 1)) 5 0 = nI P from o.n5.2.1, nI_1]
      by_cases c : q + 1 < P
      · rw [if_pos (nI_lt c (by omega))]
        exact ⟨q + 1, c, rfl⟩
      · rw [if_neg (fun e => c ((nI_ltI (by omega) (by omega)).mp e))]
        exact ⟨0, by omega, rfl⟩
    · by_cases c : p = q
      · subst c; exact hHq
      · exact hpos p hp c
theorem gX.lay (h : gX n S) {a : Int32} {r e : Nat} (hr : r < 3) (he : e < 2) : gX (n + 1) (g_lay S a (nI r) (nI e)) := by
  by_cases h0 : g_reason S a (nI r) (nI e) = 0
  · obtain ⟨P, K, W, Q, T, F, H, R, L, gr, ag, o, t, y, x, z1, z2, z3⟩ := h
    refine gX.up ?_ (Nat.le_succ n)
    obtain ⟨q, i, hq, hm, hi, rfl⟩ := o.reason0 h0
    have hP : P ≤ 4 := o.n5.1.2.1
    have hn : ¬ S 5 1 = -1 := by rw [hm]; exact nI_ne1 (by omega)
    have hQ : Q < P := t.2.2.resolve_left hn
    have hpos := z3.resolve_left hn
    obtain ⟨o3, m3⟩ := o.lay3 hq hm hi hr he
    obtain ⟨y3, x3⟩ := y.lay3 o hq hm hi hr he
    unfold g_lay
    rw [if_pos h0]
    refine gX.ended o3 y3 (x3 x) hq m3 ?_ t.2.1 (Nat.zero_le _) (Or.inl rfl) (fun p hp hpq => by rw [fu_n hpq]; exact hpos p hp)
    have h1 := t.1
    have h3 := fu_sum3 (f := R) (k := r) (v := R r + 1) hr
    omega
  · unfold g_lay
    rw [if_neg h0]
    exact h.ref
theorem gY.tal3 (y : gY S P K H) {q : Nat} (v : Int32) : gY (gu S 2 (upd (S 2) (q * 4 + 3) v)) P K H := by
  obtain ⟨y1, y2, y3, y4, y5⟩ := y
  refine ⟨y1, y2, y3, ?_, ?_⟩
  · show l_sum (fun u => S 0 (u * 7 + 6)) 28 = upd (S 2) (q * 4 + 3) v 1 + upd (S 2) (q * 4 + 3) v 5 + upd (S 2) (q * 4 + 3) v 9 + upd (S 2) (q * 4 + 3) v 13
    rw [upd_n (by omega), upd_n (by omega), upd_n (by omega), upd_n (by omega)]
    exact y4
  · show upd (S 2) (q * 4 + 3) v 2 + upd (S 2) (q * 4 + 3) v 6 + upd (S 2) (q * 4 + 3) v 10 + upd (S 2) (q * 4 + 3) v 14 = _
    rw [upd_n (by omega), upd_n (by omega), upd_n (by omega), upd_n (by omega)]
    exact y5
theorem gX.draw0 (h : gX n S) (h0 : (g_over S || decide (g_stock S = 0)) = false) : gX n (g_draw S) := by
  obtain ⟨P, K, W, Q, T, F, H, R, L, gr, ag, o, t, y, x, z1, z2, z3⟩ := h
  rw [Bool.or_eq_false_iff] at h0
  obtain ⟨q, hq, hm⟩ := o.over h0.1
  have hP : P ≤ 4 := o.n5.1.2.1
  have hK : K ≤ 28 := o.n5.1.2.2.1
  have hK2 : K < 28 := by
    have := (not_congr (stock_0 o)).mp (of_decide_eq_false h0.2)
    omega
  obtain ⟨o2, m2⟩ := o.draw2 hq hm hK2
  have hn : ¬ S 5 1 = -1 := by rw [hm]; exact nI_ne1 (by omega)
  have hpos := z3.resolve_left hn
  have oz : gO n (gc S 4 0) P K W 0 T F H R L gr ag := o.pz (Q2 := 0) (Nat.zero_le _)
  have yz : gY (gc S 4 0) P K H := y
  obtain ⟨yt, yn⟩ := yz.take oz hK2 hq
  have ot := oz.take hK2 hq
  have e2 : g_draw2 S = gI (g_take (gc S 4 0) (nI q)) 2 (nI q) 3 1 := by
    unfold g_draw2
    rw [show g_draw1 S = g_take (gc S 4 0) (nI q) by unfold g_draw1 g_draw0; rw [show (gc S 4 0) 5 1 = nI q from hm], show (g_take (gc S 4 0) (nI q)) 5 1 = nI q from hm]
  have e3 : g_draw2 S = gu (g_take (gc S 4 0) (nI q)) 2 (upd ((g_take (gc S 4 0) (nI q)) 2) (q * 4 + 3) ((g_take (gc S 4 0) (nI q)) 2 (q * 4 + 3) + 1)) := by
    rw [e2]
    exact inc2 (w := 3) (by omega) (by decide)
  have y2 : gY (g_draw2 S) P (K + 1) (fu H q (H q + 1)) := by rw [e3]; exact yt.tal3 _
  have x2 : xe P ((g_draw2 S) 2) := by
    intro p hp
    have hx := x p hp
    have hh := (ot.t2.1 p (by omega)).1
    have ho := (o.t2.1 p (by omega)).1
    rw [e3, gu_s, upd_n (show p * 4 ≠ q * 4 + 3 by omega), upd_n (show p * 4 + 2 ≠ q * 4 + 3 by omega), yn (p * 4 + 2) (by omega) (by omega)]
    by_cases d : p = q
    · subst d
      rw [fu_s] at hh
      rw [upd_s, hh, yn (p * 4 + 3) (by omega) (by omega), ← nI_1, ← ho]
      show S 2 (p * 4) + 1 + S 2 (p * 4 + 2) = 5 + (S 2 (p * 4 + 3) + 1)
      rw [← Int32.add_assoc, ← hx]
      simp only [Int32.add_assoc, Int32.add_comm, i_alc]
    · rw [fu_n d] at hh
      rw [hh, upd_n (by omega), yn (p * 4 + 3) (by omega) (by omega), ← ho]
      exact hx
  unfold g_draw
  rw [h0.1, h0.2, if_neg (by decide)]
  have hQ : Q < P := t.2.2.resolve_left hn
  refine gX.ended o2 y2 x2 hq m2 ?_ t.2.1 (Nat.zero_le _) (Or.inl rfl) (fun p hp hpq => by rw [fu_n hpq]; exact hpos p hp)
  have h1 := t.1
  omega
theorem gX.draw (h : gX n S) : gX (n + 1) (g_draw S) := by
  by_cases h0 : (g_over S || decide (g_stock S = 0)) = true
  · unfold g_draw
    rw [if_pos h0]
    exact h.ref
  · exact (h.draw0 (by simpa using h0)).up (Nat.le_succ _)
theorem gX.pass0 (h : gX n S) (h0 : (g_over S || decide (0 < g_stock S)) = false) : gX n (g_pass S) := by
  obtain ⟨P, K, W, Q, T, F, H, R, L, gr, ag, o, t, y, x, z1, z2, z3⟩ := h
  rw [Bool.or_eq_false_iff] at h0
  obtain ⟨q, hq, hm⟩ := o.over h0.1
  have hP : P ≤ 4 := o.n5.1.2.1
  have hK : K ≤ 28 := o.n5.1.2.2.1
  have hK2 : K = 28 := by
    have := (not_congr (stock_p o)).mp (of_decide_eq_false h0.2)
    omega
  have hn : ¬ S 5 1 = -1 := by rw [hm]; exact nI_ne1 (by omega)
  have hpos := z3.resolve_left hn
  unfold g_pass
  rw [h0.1, h0.2, if_neg (by decide), show S 5 4 + 1 = nI (Q + 1) by rw [o.n5.2.2.2.2.1, nI_1]]
  have hQ : Q < P := t.2.2.resolve_left hn
  have h1 := t.1
  have y' : gY (gc S 4 (nI (Q + 1))) P K H := y
  have x' : xe P ((gc S 4 (nI (Q + 1))) 2) := x
  exact gX.ended (o.pz (Q2 := Q + 1) hQ) y' x' hq hm (by omega) t.2.1 (by omega) (Or.inr hK2) (fun p hp _ => hpos p hp)
theorem gX.pass (h : gX n S) : gX (n + 1) (g_pass S) := by
  by_cases h0 : (g_over S || decide (0 < g_stock S)) = true
  · unfold g_pass
    rw [if_pos h0]
    exact h.ref
  · exact (h.pass0 (by simpa using h0)).up (Nat.le_succ _)
theorem gX.oil (h : gX n S) {a : Int32} (ha : (g_over S || g_holds S (S 5 1) a) = true) : gX n (g_oil S a) := by
  obtain ⟨P, K, W, Q, T, F, H, R, L, gr, ag, o, t, y, x, z⟩ := h
  have hP : P ≤ 4 := o.n5.1.2.1
  unfold g_oil
  by_cases c : g_over S = true
  · rw [if_pos c]; exact ⟨P, K, W, Q, T, F, H, R, L, gr, ag, o, t, y, x, z⟩
  · rw [if_neg c]
    have c' : g_over S = false := by simpa using c
    obtain ⟨q, hq, hm⟩ := o.over c'
    rw [c', Bool.false_or, hm] at ha
    obtain ⟨i, hi, rfl⟩ := (o.holds (by omega)).mp ha
    obtain ⟨u, hu, eu⟩ := o.hand (p := q) (i := i) (by omega) hi
    obtain ⟨u2, hu2, eu2⟩ := o.hand1 (p := q) (i := i) (by omega) hi
    have hhq := oh_le o.hh (show q < 4 by omega)
    have hK : K ≤ 28 := o.n5.1.2.2.1
    rw [at1 (by omega) (by omega), eu2] at eu
    have huu : u2 = u := nI_inj (by omega) (by omega) eu
    subst huu
    have eh : g_hand S (nI q) (nI i) = nI u2 := by unfold g_hand; rw [at1 (by omega) (by omega), eu2]
    rw [hm, eh, show gP S 0 (nI u2) 4 0 = _ from put0 (w := 4) hu (by decide)]
    have sA := soft.older (S := S) hu (by rw [(y.2.1 q hq i hi u2 hu eu2).1]; decide) 0
    refine ⟨P, K, W, Q, T, F, H, R, L, gr, fu ag u2 0, ⟨o.1, o.2.1, o.2.2.1, o.2.2.2.1, o.2.2.2.2.1, o.2.2.2.2.2.1, ?_, o.2.2.2.2.2.2.2⟩, ⟨t.1, fun v hv => ?_, t.2.2⟩, y.soft sA, x, z⟩
    · show o0 (upd (S 0) (u2 * 7 + 4) 0) gr _
      intro v hv
      obtain ⟨h1, h2, h3, h4, h5⟩ := o.t0 v hv
      rw [upd_n (by omega), upd_n (by omega)]
      refine ⟨h1, h2, h3, h4, ?_⟩
      by_cases d : v = u2
      · subst d; rw [upd_s, fu_s]; rfl
      · rw [upd_n (by omega), fu_n d, h5]
    · by_cases d : v = u2
      · subst d; rw [fu_s]; omega
      · rw [fu_n d]; exact t.2.1 v hv
theorem gX.set (h : gX n S) {a : Int32} (ha : (!decide (a < 1) && !decide (9 < a)) = true) : gX n (gc S 7 a) := by
  obtain ⟨P, K, W, Q, T, F, H, R, L, gr, ag, o, t, y, x, z⟩ := h
  rw [Bool.and_eq_true, Bool.not_eq_true', Bool.not_eq_true'] at ha
  have h1 : (1 : Int32) ≤ a := Int32.not_lt.mp (of_decide_eq_false ha.1)
  have h2 : a ≤ 9 := Int32.not_lt.mp (of_decide_eq_false ha.2)
  obtain ⟨i, hi, rfl⟩ : ∃ i, i < 10 ∧ a = nI i := by
    rcases pk_ix a (n := 10) (by decide) with c | c | c
    · exact absurd (Int32.le_iff_toInt_le.mp h1) (by have := Int32.lt_iff_toInt_lt.mp c; have e0 : (0 : Int32).toInt = 0 := rfl; have e1 : (1 : Int32).toInt = 1 := rfl; omega)
    · exact absurd (Int32.le_iff_toInt_le.mp c) (by have := Int32.le_iff_toInt_le.mp h2; have e0 : (nI 10).toInt = 10 := rfl; have e1 : (9 : Int32).toInt = 9 := rfl; omega)
    · exact c
  have hi1 : 1 ≤ i := by
    rcases Nat.eq_zero_or_pos i with z | z
    · subst z; exact absurd h1 (by decide)
    · exact z
  obtain ⟨k0, k1, k2, k3, k4, k5, k6⟩ := o.n5
  exact ⟨P, K, i, Q, T, F, H, R, L, gr, ag, ⟨⟨⟨k0.1, k0.2.1, k0.2.2.1, hi1, by omega, k0.2.2.2.2.2⟩, k1, k2, k3, k4, k5, rfl⟩, o.2⟩, t, y, x, z⟩
end KP
