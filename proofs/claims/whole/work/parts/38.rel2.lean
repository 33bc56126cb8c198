/-! THE TURNS OVER THE MODEL'S GAME -/
section RM
variable {n : Nat} {S : gS} {P K W Q T F : Nat} {H R L : Nat → Nat} {gr : Nat → Nat → Nat} {ag : Nat → Nat} {Hf : Nat → Int32}
theorem gO.kle (o : gO n S P K W Q T F H R L gr ag) : ∀ p, p < 4 → k_k S (nI p) ≤ 28 := by
  intro p hp
  rw [o.kk hp]
  have := oh_le o.hh hp
  have hK : K ≤ 28 := o.n5.1.2.2.1
  omega
theorem sw_take (o : gO n S P K W Q T F H R L gr ag) (r : hR S Hf) (hK : K < 28) {p : Nat} (hp : p < P) : ∃ H2, g_take (gu S 1 Hf) (nI p) = gu (g_take S (nI p)) 1 H2 ∧ hR (g_take S (nI p)) H2 := by
  have hP : P ≤ 4 := o.n5.1.2.1
  have hh := oh_le o.hh (show p < 4 by omega)
  obtain ⟨t, ht, e, eT⟩ := o.takeT hK (nI p)
  have o2 := o.take hK hp
  have e1 := take_raw (k := H p) (by omega) (by omega) ht (o.t2.1 p (by omega)).1 eT
  have e2 := take_raw (S := gu S 1 Hf) (k := H p) (by omega) (by omega) ht (o.t2.1 p (by omega)).1 (show g_takeT (gu S 1 Hf) (nI p) = nI t from eT)
  refine ⟨upd Hf (p * 28 + H p) (nI t), ?_, fun q hq i hi => ?_⟩
  · rw [e1, e2]
    funext j
    match j with
    | 0 => rfl | 1 => rfl | 2 => rfl | 3 => rfl | 4 => rfl | 5 => rfl | j + 6 => rfl
  · rw [o2.kk hq] at hi
    rw [e1]
    show upd Hf (p * 28 + H p) (nI t) (q * 28 + i) = upd (S 1) (p * 28 + H p) (nI t) (q * 28 + i)
    have hq2 := oh_le o.hh hq
    by_cases d : q = p
    · subst d
      rw [fu_s] at hi
      by_cases c : i = H q
      · subst c; rw [upd_s, upd_s]
      · rw [upd_n (by omega), upd_n (by omega), r q hq i (by rw [o.kk hq]; omega)]
    · rw [fu_n d] at hi
      rw [upd_n (by omega), upd_n (by omega), r q hq i (by rw [o.kk hq]; exact hi)]
theorem sw_putE (u a e : Int32) : g_putE (gu S 1 Hf) u a e = gu (g_putE S u a e) 1 Hf := by
  unfold g_putE
  rw [show (gu S 1 Hf) 3 = S 3 from rfl, show (gu S 1 Hf) 0 = S 0 from rfl]
  split
  · rw [gP_1 (by decide), gP_1 (by decide), gI_1 (by decide), gP_1 (by decide)]
  · rw [gP_1 (by decide), gI_1 (by decide), gP_1 (by decide)]
theorem sw_th (X : gS) (p : Int32) (a c : Nat) : g_th (gu X 1 Hf) p a c = gu (g_th X p a c) 1 ((g_th (gu X 1 Hf) p a c) 1) := by
  funext j
  by_cases d : j = 1
  · subst d; rw [gu_s]
  · rw [gu_n d, th_n _ _ _ d, th_n _ _ _ d, gu_n d]
theorem sw_lay3 (o : gO n S P K W Q T F H R L gr ag) (r : hR S Hf) {q i a e : Nat} (hq : q < P) (hm : S 5 1 = nI q) (hi : i < H q) (ha : a < 3) (he : e < 2) : ∃ H2, g_lay3 (gu S 1 Hf) (nI i) (nI a) (nI e) = gu (g_lay3 S (nI i) (nI a) (nI e)) 1 H2 ∧ hR (g_lay3 S (nI i) (nI a) (nI e)) H2 := by
  have hP : P ≤ 4 := o.n5.1.2.1
  have hK : K ≤ 28 := o.n5.1.2.2.1
  have hh := oh_le o.hh (show q < 4 by omega)
  obtain ⟨t, ht, et⟩ := o.hand (p := q) (i := i) (by omega) hi
  have os := o.sw r
  have et2 : tAt 28 112 ((gu S 1 Hf) 1) (nI q) (nI i) = nI t := (r.hand o.kle (show q < 4 by omega) (show i < k_k S (nI q) by rw [o.kk (by omega)]; exact hi)).trans et
  have e1 := lay_eq o (r := a) (e := e) (show q < 4 by omega) hm hi ht et
  have e2 := lay_eq os (r := a) (e := e) (show q < 4 by omega) hm hi ht et2
  obtain ⟨o3, -⟩ := o.lay3 hq hm hi ha he
  generalize hX : gP (gP (g_putE S (nI t) (nI a) (nI e)) 0 (nI t) 2 2) 0 (nI t) 5 (nI a) = X at e1
  have hX1 : gP (gP (g_putE (gu S 1 Hf) (nI t) (nI a) (nI e)) 0 (nI t) 2 2) 0 (nI t) 5 (nI a) = gu X 1 Hf := by rw [sw_putE, gP_1 (by decide), gP_1 (by decide), hX]
  have hS1 : X 1 = S 1 := by rw [← hX, gP_n (by decide), gP_n (by decide), putE_n _ _ _ _ (by decide)]
  have e1' : lay_m S q i (H q - 1 - i) t a e = gc (gI (gI (g_th X (nI q) i (H q - 1 - i)) 2 (nI q) 0 (-1)) 2 (nI q) 2 1) 4 0 := by unfold lay_m; rw [hX]
  have e2' : lay_m (gu S 1 Hf) q i (H q - 1 - i) t a e = gu (gc (gI (gI (g_th X (nI q) i (H q - 1 - i)) 2 (nI q) 0 (-1)) 2 (nI q) 2 1) 4 0) 1 ((g_th (gu X 1 Hf) (nI q) i (H q - 1 - i)) 1) := by
    unfold lay_m
    rw [hX1, sw_th, gI_1 (by decide), gI_1 (by decide), gc_1, gu_s]
  refine ⟨(g_th (gu X 1 Hf) (nI q) i (H q - 1 - i)) 1, ?_, fun p hp j hj => ?_⟩
  · rw [← e2, ← e1, e1', e2']
  · rw [o3.kk hp] at hj
    have e3 : (g_lay3 S (nI i) (nI a) (nI e)) 1 = (g_th X (nI q) i (H q - 1 - i)) 1 := by
      rw [← e1, e1', gc_n (by decide), gI_n (by decide), gI_n (by decide)]
    rw [e3, (th_raw (S := gu X 1 Hf) (p := q) (a := i) (by omega) (H q - 1 - i) (by omega)).2, (th_raw (S := X) (p := q) (a := i) (by omega) (H q - 1 - i) (by omega)).2, gu_s, hS1]
    have hp2 := oh_le o.hh hp
    by_cases d : p = q
    · subst d
      rw [fu_s] at hj
      by_cases c : i ≤ j
      · rw [if_pos (by omega), if_pos (by omega)]
        exact r p hp (j + 1) (by rw [o.kk hp]; omega)
      · rw [if_neg (by omega), if_neg (by omega)]
        exact r p hp j (by rw [o.kk hp]; omega)
    · rw [fu_n d] at hj
      rw [if_neg (by omega), if_neg (by omega)]
      exact r p hp j (by rw [o.kk hp]; exact hj)
theorem sw_ref : g_ref (gu S 1 Hf) = gu (g_ref S) 1 Hf := gc_1
theorem sw_endA : g_endA (gu S 1 Hf) = g_endA S := by
  unfold g_endA
  rw [show g_end0 (gu S 1 Hf) = gu (g_end0 S) 1 Hf from gc_1, show g_ended (gu (g_end0 S) 1 Hf) = g_ended (g_end0 S) from rfl]
theorem sw_lay (h : gOk n S) (r : hR S Hf) {a : Int32} {b e : Nat} (hb : b < 3) (he : e < 2) : ∃ H2, g_lay (gu S 1 Hf) a (nI b) (nI e) = gu (g_lay S a (nI b) (nI e)) 1 H2 ∧ hR (g_lay S a (nI b) (nI e)) H2 ∧ g_layA (gu S 1 Hf) a (nI b) (nI e) = g_layA S a (nI b) (nI e) := by
  obtain ⟨P, K, W, Q, T, F, H, R, L, gr, ag, o, t⟩ := h
  have hr := sw_reason o.nb r o.kle a (nI b) (nI e)
  unfold g_lay g_layA
  rw [hr]
  by_cases h0 : g_reason S a (nI b) (nI e) = 0
  · rw [if_pos h0, if_pos h0, if_pos h0, if_pos h0]
    obtain ⟨q, i, hq, hm, hi, rfl⟩ := o.reason0 h0
    obtain ⟨H2, e1, r1⟩ := sw_lay3 o r hq hm hi hb he
    obtain ⟨o3, m3⟩ := o.lay3 hq hm hi hb he
    rw [e1]
    exact ⟨H2, sw_end o3.nb r1 o3.kle, r1.end_ o3.nb, sw_endA⟩
  · rw [if_neg h0, if_neg h0, if_neg h0, if_neg h0]
    exact ⟨Hf, sw_ref, r, rfl⟩
theorem sw_draw (h : gOk n S) (r : hR S Hf) : ∃ H2, g_draw (gu S 1 Hf) = gu (g_draw S) 1 H2 ∧ hR (g_draw S) H2 ∧ g_drawA (gu S 1 Hf) = g_drawA S := by
  obtain ⟨P, K, W, Q, T, F, H, R, L, gr, ag, o, t⟩ := h
  have hP : P ≤ 4 := o.n5.1.2.1
  have hK : K ≤ 28 := o.n5.1.2.2.1
  have hA : g_drawA (gu S 1 Hf) = g_drawA S := rfl
  unfold g_draw
  rw [show g_over (gu S 1 Hf) = g_over S from rfl, show g_stock (gu S 1 Hf) = g_stock S from rfl]
  by_cases h0 : (g_over S || decide (g_stock S = 0)) = true
  · rw [if_pos h0, if_pos h0]
    exact ⟨Hf, sw_ref, r, hA⟩
  · rw [if_neg h0, if_neg h0]
    have h0' : (g_over S || decide (g_stock S = 0)) = false := by simpa using h0
    rw [Bool.or_eq_false_iff] at h0'
    obtain ⟨q, hq, hm⟩ := o.over h0'.1
    have hK2 : K < 28 := by
      have := (not_congr (stock_0 o)).mp (of_decide_eq_false h0'.2)
      omega
    have oz : gO n (gc S 4 0) P K W 0 T F H R L gr ag := o.pz (Q2 := 0) (Nat.zero_le _)
    have e1 : ∀ X : gS, X 5 1 = nI q → g_draw2 X = gI (g_take (gc X 4 0) (nI q)) 2 (nI q) 3 1 := by
      intro X hX
      unfold g_draw2 g_draw1 g_draw0
      rw [show (gc X 4 0) 5 1 = nI q from hX, show (g_take (gc X 4 0) (nI q)) 5 1 = nI q from hX]
    obtain ⟨H2, et, rt⟩ := sw_take (S := gc S 4 0) oz r hK2 hq
    obtain ⟨o2, m2⟩ := o.draw2 hq hm hK2
    have e3 : g_draw2 (gu S 1 Hf) = gu (g_draw2 S) 1 H2 := by
      rw [e1 S hm, e1 (gu S 1 Hf) hm, gc_1, et, gI_1 (by decide)]
    have r2 : hR (g_draw2 S) H2 := by
      rw [e1 S hm]
      intro p hp i hi
      rw [gI_n (by decide)]
      refine rt p hp i ?_
      have ot := oz.take hK2 hq
      rw [(ot.tal3 hq).kk hp] at hi
      rw [ot.kk hp]
      exact hi
    rw [e3]
    exact ⟨H2, sw_end o2.nb r2 o2.kle, r2.end_ o2.nb, hA⟩
theorem sw_pass (h : gOk n S) (r : hR S Hf) : ∃ H2, g_pass (gu S 1 Hf) = gu (g_pass S) 1 H2 ∧ hR (g_pass S) H2 ∧ g_passA (gu S 1 Hf) = g_passA S := by
  have hk : ∀ p, p < 4 → k_k S (nI p) ≤ 28 := fun p hp => h.kle hp
  have hn : nB (gc S 4 (S 5 4 + 1)) := h.nb
  have hA : g_passA (gu S 1 Hf) = g_passA S := by
    unfold g_passA
    rw [show g_over (gu S 1 Hf) = g_over S from rfl, show g_stock (gu S 1 Hf) = g_stock S from rfl, show (gu S 1 Hf) 5 4 = S 5 4 from rfl, gc_1, sw_endA]
    rfl
  unfold g_pass
  rw [show g_over (gu S 1 Hf) = g_over S from rfl, show g_stock (gu S 1 Hf) = g_stock S from rfl, show (gu S 1 Hf) 5 4 = S 5 4 from rfl]
  split
  · exact ⟨Hf, sw_ref, r, hA⟩
  · rw [gc_1]
    exact ⟨Hf, sw_end hn r hk, hR.end_ (S := gc S 4 (S 5 4 + 1)) r hn, hA⟩
theorem sw_oil (h : gOk n S) (r : hR S Hf) {a : Int32} (ha : (g_over S || g_holds S (S 5 1) a) = true) : g_oil (gu S 1 Hf) a = gu (g_oil S a) 1 Hf ∧ hR (g_oil S a) Hf ∧ g_oilA (gu S 1 Hf) a = g_oilA S a := by
  obtain ⟨P, K, W, Q, T, F, H, R, L, gr, ag, o, t⟩ := h
  have hP : P ≤ 4 := o.n5.1.2.1
  unfold g_oil g_oilA
  rw [show g_over (gu S 1 Hf) = g_over S from rfl, show (gu S 1 Hf) 5 1 = S 5 1 from rfl]
  by_cases c : g_over S = true
  · rw [if_pos c, if_pos c, if_pos c, if_pos c]
    exact ⟨rfl, r, rfl⟩
  · rw [if_neg c, if_neg c, if_neg c, if_neg c]
    have c' : g_over S = false := by simpa using c
    obtain ⟨q, hq, hm⟩ := o.over c'
    rw [c', Bool.false_or, hm] at ha
    obtain ⟨i, hi, rfl⟩ := (o.holds (by omega)).mp ha
    rw [hm, r.hand o.kle (show q < 4 by omega) (show i < k_k S (nI q) by rw [o.kk (by omega)]; exact hi)]
    exact ⟨gP_1 (by decide), r, rfl⟩
end RM
