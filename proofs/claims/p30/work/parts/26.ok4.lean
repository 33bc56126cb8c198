/-! WHAT THE WALK OF THE MODEL'S TURNS WANTS -/
theorem nI_nz {W : Nat} (h1 : 1 ≤ W) (h2 : W < 2147483648) : ¬ nI W = 0 := fun e => by
  have := nI_inj (a := W) (b := 0) h2 (by decide) e
  omega
theorem rem_next : ∀ P, P < 5 → ∀ q, q < P → nI (q + 1) - nI (q + 1) / nI P * nI P = if q + 1 < P then nI (q + 1) else 0 := by decide +kernel
theorem gc_43 (S : gS) (a b : Int32) : gc (gc S 3 a) 4 b = gc (gc S 4 b) 3 a := by
  funext j
  by_cases c : j = 5
  · subst c
    funext k
    show (if k = 4 then b else if k = 3 then a else S 5 k) = (if k = 3 then a else if k = 4 then b else S 5 k)
    by_cases d : k = 4
    · subst d; rfl
    · rw [if_neg d, if_neg d]
  · show gu _ 5 _ j = gu _ 5 _ j
    rw [gu_n c, gu_n c]
    show gu _ 5 _ j = gu _ 5 _ j
    rw [gu_n c, gu_n c]
theorem upd_comm {f : Nat → Int32} {a b : Nat} {u v : Int32} (h : a ≠ b) : upd (upd f a u) b v = upd (upd f b v) a u := by
  funext x
  unfold upd
  by_cases c : x = b
  · rw [if_pos c, if_neg (by omega), if_pos c]
  · rw [if_neg c, if_neg c]
section OK4
variable {n : Nat} {S : gS} {P K W Q T F : Nat} {H R L : Nat → Nat} {gr : Nat → Nat → Nat} {ag : Nat → Nat}
theorem gO.end0 (o : gO n S P K W Q T F H R L gr ag) {x : Int32} {Q2 : Nat} (hx : x = nI Q2) (hQ : Q2 ≤ P) : gO n (g_end0 (gc S 4 x)) P K W Q2 (T + 1) F H R L gr ag := by
  subst hx
  have o2 := o.pz hQ
  obtain ⟨k0, k1, k2, k3, k4, k5, k6⟩ := o2.n5
  exact ⟨⟨k0, k1, k2, by show S 5 3 + 1 = nI (T + 1); rw [o.n5.2.2.2.1, nI_1], k4, k5, k6⟩, o2.2⟩
theorem isov_0 {S2 : gS} (o2 : gO n S2 P K W Q T F H R L gr ag) {q : Nat} (hq : q < 4) (hm : S2 5 1 = nI q) (h0 : nI (H q) = 0) : g_ended S2 = true ∧ g_ages S2 (S2 5 1) = S2 := by
  have e : g_held S2 (S2 5 1) = 0 := by rw [hm]; exact (o2.held hq).trans h0
  refine ⟨by unfold g_ended; rw [decide_eq_true e]; rfl, ?_⟩
  unfold g_ages
  rw [e]
  rfl
theorem isov_1 {S2 : gS} (o2 : gO n S2 P K W Q T F H R L gr ag) {q : Nat} (hq : q < 4) (hm : S2 5 1 = nI q) (h0 : ¬ nI (H q) = 0) : g_ended S2 = decide (Q = P) ∧ g_ages S2 (S2 5 1) = g_age S2 (nI q) (H q) := by
  have e : g_held S2 (S2 5 1) = nI (H q) := by rw [hm]; exact o2.held hq
  have hK : K ≤ 28 := o2.n5.1.2.2.1
  have hP : P ≤ 4 := o2.n5.1.2.1
  have hQ : Q ≤ P := o2.n5.1.2.2.2.2.2.1
  have hh := oh_le o2.hh hq
  constructor
  · unfold g_ended
    rw [e, decide_eq_false h0, Bool.false_or, o2.n5.2.2.2.2.1, o2.n5.2.1]
    by_cases c : Q = P
    · rw [decide_eq_true c, decide_eq_false (by rw [nI_ltI (by omega) (by omega)]; omega)]; rfl
    · rw [decide_eq_false c, decide_eq_true (by rw [nI_ltI (by omega) (by omega)]; omega)]; rfl
  · unfold g_ages
    rw [e, nI_clamp (by omega), hm]
theorem age1_t {X : gS} {t : Nat} {p : Int32} (hW : X 5 7 = nI W) (h1 : 1 ≤ W) (h9 : W ≤ 9) (hc : tAt 7 196 ((gI X 0 (nI t) 4 1) 0) (nI t) 4 - tAt 7 196 ((gI X 0 (nI t) 4 1) 0) (nI t) 4 / nI W * nI W = 0) : g_age1 X (nI t) p = g_rust (gI X 0 (nI t) 4 1) (nI t) p := by
  unfold g_age1
  rw [show (gI X 0 (nI t) 4 1) 5 7 = nI W from hW]
  exact if_pos ⟨nI_lt (a := 0) (by omega) (by omega), hc⟩
theorem age1_f {X : gS} {t : Nat} {p : Int32} (hW : X 5 7 = nI W) (hc : ¬ tAt 7 196 ((gI X 0 (nI t) 4 1) 0) (nI t) 4 - tAt 7 196 ((gI X 0 (nI t) 4 1) 0) (nI t) 4 / nI W * nI W = 0) : g_age1 X (nI t) p = gI X 0 (nI t) 4 1 := by
  unfold g_age1
  rw [show (gI X 0 (nI t) 4 1) 5 7 = nI W from hW]
  exact if_neg (fun q => hc q.2)
theorem g_next_is (o2 : gO n S P K W Q T F H R L gr ag) {q : Nat} (hq : q < P) (hm : S 5 1 = nI q) (hP : P ≤ 4) : g_next S = if q + 1 < P then nI (q + 1) else 0 := by
  unfold g_next
  rw [hm, o2.n5.2.1, nI_1]
  by_cases c : q + 1 < P
  · rw [if_pos c, if_pos (nI_lt c (by omega))]
  · rw [if_neg c, if_neg (fun e => c ((nI_ltI (by omega) (by omega)).mp e))]
theorem reason_le {a r e : Int32} (h : g_reason S a r e ≤ 0) : g_reason S a r e = 0 := by
  unfold g_reason at h ⊢
  split
  · rename_i c; rw [if_pos c] at h; exact absurd h (by decide)
  · rename_i c; rw [if_neg c] at h
    split
    · rename_i d; rw [if_pos d] at h
      split
      · rfl
      · rename_i f; rw [if_neg f] at h; exact absurd h (by decide)
    · rename_i d; rw [if_neg d] at h; exact absurd h (by decide)
theorem reason_nle {a r e : Int32} (h : ¬ g_reason S a r e ≤ 0) : ¬ g_reason S a r e = 0 := fun q => h (by rw [q]; decide)
theorem putE_3 (X : gS) (u r e : Int32) : (g_putE X u r e) 3 = tPut 4 12 (tInc 4 12 (if tAt 4 12 (X 3) r 0 = 0 then tPut 4 12 (tPut 4 12 (X 3) r 1 (tAt 7 196 (X 0) u 0)) r 2 (tAt 7 196 (X 0) u 1) else tPut 4 12 (X 3) r (1 + e) (if tAt 7 196 (X 0) u 0 = tAt 4 12 (X 3) r (1 + e) then tAt 7 196 (X 0) u 1 else tAt 7 196 (X 0) u 0)) r 0 1) r 3 u := by
  unfold g_putE
  split
  · rfl
  · rfl
theorem putE_n (X : gS) (u r e : Int32) {j : Nat} (hj : j ≠ 3) : (g_putE X u r e) j = X j := by
  unfold g_putE
  show gu _ 3 _ j = _
  rw [gu_n hj]
  show gu _ 3 _ j = _
  rw [gu_n hj]
  split
  · show gu _ 3 _ j = _
    rw [gu_n hj]
    show gu _ 3 _ j = _
    rw [gu_n hj]
  · show gu _ 3 _ j = _
    rw [gu_n hj]
theorem th_1 {X Y : gS} (p : Int32) (a : Nat) (h : X 1 = Y 1) : ∀ c, (g_th X p a c) 1 = (g_th Y p a c) 1 := by
  intro c
  induction c with
  | zero => exact h
  | succ c ih =>
    show tPut 28 112 ((g_th X p a c) 1) p (nI (a + c)) (tAt 28 112 ((g_th X p a c) 1) p (nI (a + c) + 1)) = tPut 28 112 ((g_th Y p a c) 1) p (nI (a + c)) (tAt 28 112 ((g_th Y p a c) 1) p (nI (a + c) + 1))
    rw [ih]
theorem th_n (X : gS) (p : Int32) (a : Nat) {j : Nat} (hj : j ≠ 1) : ∀ c, (g_th X p a c) j = X j := by
  intro c
  induction c with
  | zero => rfl
  | succ c ih =>
    show gu _ 1 _ j = _
    rw [gu_n hj, ih]
theorem gP_n {X : gS} {j k : Nat} {r q v : Int32} (h : k ≠ j) : (gP X j r q v) k = X k := gu_n h
theorem gI_n {X : gS} {j k : Nat} {r q v : Int32} (h : k ≠ j) : (gI X j r q v) k = X k := gu_n h
theorem gc_n {X : gS} {j k : Nat} {v : Int32} (h : k ≠ 5) : (gc X j v) k = X k := gu_n h
theorem gP_s {X : gS} {j : Nat} {r q v : Int32} : (gP X j r q v) j = tPut (tco j) (tn j) (X j) r q v := gu_s
theorem gI_s {X : gS} {j : Nat} {r q v : Int32} : (gI X j r q v) j = tInc (tco j) (tn j) (X j) r q v := gu_s
section LQ
variable {q i c t r e : Nat}
def lay_m (S : gS) (q i c t r e : Nat) : gS := gc (gI (gI (g_th (gP (gP (g_putE S (nI t) (nI r) (nI e)) 0 (nI t) 2 2) 0 (nI t) 5 (nI r)) (nI q) i c) 2 (nI q) 0 (-1)) 2 (nI q) 2 1) 4 0
def lay_c (S : gS) (q i c t r : Nat) : gS := gI (gP (gP (gI (g_th (gc S 4 0) (nI q) i c) 2 (nI q) 0 (-1)) 0 (nI t) 2 2) 0 (nI t) 5 (nI r)) 2 (nI q) 2 1
theorem lay_q5 : (lay_m S q i c t r e) 5 = (g_putE (lay_c S q i c t r) (nI t) (nI r) (nI e)) 5 := by
  unfold lay_m lay_c
  rw [putE_n _ _ _ _ (by decide), gI_n (by decide), gP_n (by decide), gP_n (by decide), gI_n (by decide), th_n _ _ _ (by decide)]
  unfold gc
  rw [gu_s, gu_s]
  funext k
  rw [gI_n (by decide), gI_n (by decide), th_n _ _ _ (by decide), gP_n (by decide), gP_n (by decide), putE_n _ _ _ _ (by decide)]
theorem lay_q2 : (lay_m S q i c t r e) 2 = (g_putE (lay_c S q i c t r) (nI t) (nI r) (nI e)) 2 := by
  unfold lay_m lay_c
  rw [putE_n _ _ _ _ (by decide), gc_n (by decide), gI_s, gI_s, gI_s, gP_n (by decide), gP_n (by decide), gI_s, th_n _ _ _ (by decide), th_n _ _ _ (by decide), gP_n (by decide), gP_n (by decide), putE_n _ _ _ _ (by decide), gc_n (by decide)]
theorem lay_q1 : (lay_m S q i c t r e) 1 = (g_putE (lay_c S q i c t r) (nI t) (nI r) (nI e)) 1 := by
  unfold lay_m lay_c
  rw [putE_n _ _ _ _ (by decide), gc_n (by decide), gI_n (by decide), gI_n (by decide), gI_n (by decide), gP_n (by decide), gP_n (by decide), gI_n (by decide)]
  refine th_1 _ _ ?_ _
  rw [gP_n (by decide), gP_n (by decide), putE_n _ _ _ _ (by decide), gc_n (by decide)]
theorem lay_q0 : (lay_m S q i c t r e) 0 = (g_putE (lay_c S q i c t r) (nI t) (nI r) (nI e)) 0 := by
  unfold lay_m lay_c
  rw [putE_n _ _ _ _ (by decide), gc_n (by decide), gI_n (by decide), gI_n (by decide), gI_n (by decide), gP_s, gP_s, gI_n (by decide), th_n _ _ _ (by decide), th_n _ _ _ (by decide), gP_s, gP_s, putE_n _ _ _ _ (by decide), gc_n (by decide)]
theorem lay_q3 (ht : t < 28) : (lay_m S q i c t r e) 3 = (g_putE (lay_c S q i c t r) (nI t) (nI r) (nI e)) 3 := by
  have h3 : (lay_c S q i c t r) 3 = S 3 := by
    unfold lay_c
    rw [gI_n (by decide), gP_n (by decide), gP_n (by decide), gI_n (by decide), th_n _ _ _ (by decide), gc_n (by decide)]
  have h0 : ∀ w, w < 2 → tAt 7 196 ((lay_c S q i c t r) 0) (nI t) (nI w) = tAt 7 196 (S 0) (nI t) (nI w) := by
    intro w hw
    unfold lay_c
    rw [gI_n (by decide), show ∀ X : gS, gP X 0 (nI t) 2 2 = _ from fun X => put0 (S := X) (w := 2) ht (by decide), show ∀ X : gS, gP X 0 (nI t) 5 (nI r) = _ from fun X => put0 (S := X) (w := 5) ht (by decide), gu_s, gu_s, gI_n (by decide), th_n _ _ _ (by decide), gc_n (by decide), at0 ht (by omega), at0 ht (by omega), upd_n (by omega), upd_n (by omega)]
  rw [putE_3, h3, show tAt 7 196 ((lay_c S q i c t r) 0) (nI t) 0 = tAt 7 196 (S 0) (nI t) 0 from h0 0 (by decide), show tAt 7 196 ((lay_c S q i c t r) 0) (nI t) 1 = tAt 7 196 (S 0) (nI t) 1 from h0 1 (by decide)]
  unfold lay_m
  rw [gc_n (by decide), gI_n (by decide), gI_n (by decide), th_n _ _ _ (by decide), gP_n (by decide), gP_n (by decide), putE_3]
theorem lay_qn {j : Nat} (c0 : j ≠ 0) (c1 : j ≠ 1) (c2 : j ≠ 2) (c3 : j ≠ 3) (c5 : j ≠ 5) : (lay_m S q i c t r e) j = (g_putE (lay_c S q i c t r) (nI t) (nI r) (nI e)) j := by
  unfold lay_m lay_c
  rw [putE_n _ _ _ _ c3, gc_n c5, gI_n c2, gI_n c2, gI_n c2, gP_n c0, gP_n c0, gI_n c2, th_n _ _ _ c1, th_n _ _ _ c1, gP_n c0, gP_n c0, putE_n _ _ _ _ c3, gc_n c5]
theorem lay_mc (ht : t < 28) : lay_m S q i c t r e = g_putE (lay_c S q i c t r) (nI t) (nI r) (nI e) := by
  funext j
  by_cases c0 : j = 0
  · subst c0; exact lay_q0
  · by_cases c1 : j = 1
    · subst c1; exact lay_q1
    · by_cases c2 : j = 2
      · subst c2; exact lay_q2
      · by_cases c3 : j = 3
        · subst c3; exact lay_q3 ht
        · by_cases c5 : j = 5
          · subst c5; exact lay_q5
          · exact lay_qn c0 c1 c2 c3 c5
end LQ
/-- the model laying, in its own order -/
theorem lay_eq (o : gO n S P K W Q T F H R L gr ag) {q i r e t : Nat} (hq : q < 4) (hm : S 5 1 = nI q) (hi : i < H q) (ht : t < 28) (et : tAt 28 112 (S 1) (nI q) (nI i) = nI t) : lay_m S q i (H q - 1 - i) t r e = g_lay3 S (nI i) (nI r) (nI e) := by
  have hK : K ≤ 28 := o.n5.1.2.2.1
  have hh := oh_le o.hh hq
  have eT : g_layT S (nI i) = nI t := by
    show tAt 28 112 (S 1) (S 5 1) (nI i) = nI t
    rw [hm, et]
  have e1 : g_lay1 S (nI i) = gI (g_th (gc S 4 0) (nI q) i (H q - 1 - i)) 2 (nI q) 0 (-1) := by
    unfold g_lay1 g_from
    rw [show (gc S 4 0) 5 1 = nI q from hm, nI_clamp (by omega), show g_held (gc S 4 0) (nI q) = nI (H q) from o.held hq, show nI (H q) - 1 = nI (H q - 1) from pk_sub (b := 1) (by omega), nI_clamp (by omega)]
  have e2 : g_lay2 S (nI i) (nI r) = gP (gP (gI (g_th (gc S 4 0) (nI q) i (H q - 1 - i)) 2 (nI q) 0 (-1)) 0 (nI t) 2 2) 0 (nI t) 5 (nI r) := by
    unfold g_lay2
    rw [eT, e1]
  have e5 : (g_lay2 S (nI i) (nI r)) 5 1 = nI q := by
    rw [e2, gP_n (by decide), gP_n (by decide), gI_n (by decide), th_n _ _ _ (by decide)]
    exact hm
  rw [lay_mc ht]
  unfold g_lay3
  rw [e5, eT, e2]
  rfl
/-- the model's drawing, in its own order -/
theorem draw_eq (o : gO n S P K W Q T F H R L gr ag) {q : Nat} (hq : q < P) (hm : S 5 1 = nI q) (hK : K < 28) : gc (g_take (gI S 2 (nI q) 3 1) (nI q)) 4 0 = g_draw2 S ∧ g_takeT (gI S 2 (nI q) 3 1) (nI q) = g_takeT (g_draw0 S) ((g_draw0 S) 5 1) := by
  have hP : P ≤ 4 := o.n5.1.2.1
  have hh := oh_le o.hh (show q < 4 by omega)
  obtain ⟨t, ht, e, eT⟩ := o.takeT hK (nI q)
  refine ⟨?_, rfl⟩
  have e2 : g_draw2 S = gI (g_take (gc S 4 0) (nI q)) 2 (nI q) 3 1 := by
    unfold g_draw2 g_draw1 g_draw0
    rw [show (gc S 4 0) 5 1 = nI q from hm, show (g_take (gc S 4 0) (nI q)) 5 1 = nI q from hm]
  have i3 : ∀ X : gS, gI X 2 (nI q) 3 1 = gu X 2 (upd (X 2) (q * 4 + 3) (X 2 (q * 4 + 3) + 1)) := fun X => inc2 (S := X) (w := 3) (by omega) (by decide)
  rw [e2, take_raw (S := gc S 4 0) (k := H q) (t := t) (by omega) (by omega) ht (o.t2.1 q (by omega)).1 eT]
  rw [take_raw (S := gI S 2 (nI q) 3 1) (k := H q) (t := t) (by omega) (by omega) ht (by rw [i3, gu_s, upd_n (by omega)]; exact (o.t2.1 q (by omega)).1) eT, i3, i3]
  funext j
  match j with
  | 0 => rfl
  | 1 => rfl
  | 2 =>
    show upd (upd (S 2) (q * 4 + 3) (S 2 (q * 4 + 3) + 1)) (q * 4) (nI (H q + 1)) = upd (upd (S 2) (q * 4) (nI (H q + 1))) (q * 4 + 3) (upd (S 2) (q * 4) (nI (H q + 1)) (q * 4 + 3) + 1)
    rw [upd_n (show q * 4 + 3 ≠ q * 4 by omega), upd_comm (by omega)]
  | 3 => rfl
  | 4 => rfl
  | 5 =>
    funext k
    show (if k = 4 then (0 : Int32) else if k = 2 then S 5 2 + 1 else S 5 k) = (if k = 2 then S 5 2 + 1 else if k = 4 then (0 : Int32) else S 5 k)
    by_cases d : k = 4
    · subst d; rfl
    · rw [if_neg d, if_neg d]
  | j + 6 => rfl
end OK4
