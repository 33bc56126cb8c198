/-! THE TURNS KEEP A GAME IN ORDER -/
section OK2
variable {n : Nat} {S : gS} {P K W Q T F : Nat} {H R L : Nat → Nat} {gr : Nat → Nat → Nat} {ag : Nat → Nat}
theorem gO.stock (o : gO n S P K W Q T F H R L gr ag) : g_stock S = nI (28 - K) := by
  unfold g_stock
  rw [o.n5.2.2.1]
  exact pk_sub (a := 28) o.n5.1.2.2.1
theorem fu_sum {f : Nat → Nat} {k v : Nat} (hk : k < 4) : fu f k v 0 + fu f k v 1 + fu f k v 2 + fu f k v 3 + f k = f 0 + f 1 + f 2 + f 3 + v := by
  rcases (show k = 0 ∨ k = 1 ∨ k = 2 ∨ k = 3 by omega) with rfl | rfl | rfl | rfl
  · rw [fu_s, fu_n (by decide), fu_n (by decide), fu_n (by decide)]; omega
  · rw [fu_s, fu_n (by decide), fu_n (by decide), fu_n (by decide)]; omega
  · rw [fu_s, fu_n (by decide), fu_n (by decide), fu_n (by decide)]; omega
  · rw [fu_s, fu_n (by decide), fu_n (by decide), fu_n (by decide)]; omega
theorem fu_sum3 {f : Nat → Nat} {k v : Nat} (hk : k < 3) : fu f k v 0 + fu f k v 1 + fu f k v 2 + f k = f 0 + f 1 + f 2 + v := by
  rcases (show k = 0 ∨ k = 1 ∨ k = 2 by omega) with rfl | rfl | rfl
  · rw [fu_s, fu_n (by decide), fu_n (by decide)]; omega
  · rw [fu_s, fu_n (by decide), fu_n (by decide)]; omega
  · rw [fu_s, fu_n (by decide), fu_n (by decide)]; omega
/-- the stock's first tile -/
theorem gO.takeT (o : gO n S P K W Q T F H R L gr ag) (hK : K < 28) (p : Int32) : ∃ t, t < 28 ∧ S 4 K = nI t ∧ g_takeT S p = nI t := by
  obtain ⟨t, ht, e⟩ := o.t4.1 K hK
  exact ⟨t, ht, e, by unfold g_takeT; rw [o.n5.2.2.1, at4 hK, e]⟩
/-- a tile is taken, raw -/
theorem take_raw {p k t : Nat} (hp : p < 4) (hk : k < 28) (ht : t < 28) (h1 : S 2 (p * 4) = nI k) (h2 : g_takeT S (nI p) = nI t) : g_take S (nI p) = gu (gu (gu (gc S 2 (S 5 2 + 1)) 0 (upd (upd (S 0) (t * 7 + 2) 1) (t * 7 + 3) (nI p))) 1 (upd (S 1) (p * 28 + k) (nI t))) 2 (upd (S 2) (p * 4) (nI (k + 1))) := by
  have e3 : g_take3 S (nI p) = gu (gc S 2 (S 5 2 + 1)) 0 (upd (upd (S 0) (t * 7 + 2) 1) (t * 7 + 3) (nI p)) := by
    unfold g_take3
    rw [h2, show ∀ X : gS, gP X 0 (nI t) 2 1 = _ from fun X => put0 (S := X) (w := 2) ht (by decide), show ∀ X : gS, gP X 0 (nI t) 3 (nI p) = _ from fun X => put0 (S := X) (w := 3) ht (by decide)]
    funext j
    by_cases c : j = 0
    · subst c; rw [gu_s, gu_s, gu_s]; rfl
    · rw [gu_n c, gu_n c, gu_n c]
  have eh : g_held (g_take3 S (nI p)) (nI p) = nI k := by
    rw [e3]
    show tAt 4 16 (S 2) (nI p) 0 = nI k
    rw [show tAt 4 16 (S 2) (nI p) 0 = _ from at2 (w := 0) hp (by decide)]
    exact h1
  unfold g_take
  rw [eh, h2, put1 hp hk, show ∀ X : gS, gI X 2 (nI p) 0 1 = _ from fun X => inc2 (S := X) (w := 0) hp (by decide), e3]
  show gu _ 2 (upd (S 2) (p * 4) (S 2 (p * 4) + 1)) = _
  rw [h1, nI_1]
  rfl
theorem gO.take (o : gO n S P K W Q T F H R L gr ag) (hK : K < 28) {p : Nat} (hp : p < P) : gO n (g_take S (nI p)) P (K + 1) W Q T F (fu H p (H p + 1)) R L gr ag := by
  have hP : P ≤ 4 := o.n5.1.2.1
  have hh := oh_le o.hh (show p < 4 by omega)
  obtain ⟨t, ht, e, eT⟩ := o.takeT hK (nI p)
  rw [take_raw (k := H p) (by omega) (by omega) ht (o.t2.1 p (by omega)).1 eT]
  obtain ⟨k0, k1, k2, k3, k4, k5, k6⟩ := o.n5
  refine ⟨⟨⟨k0.1, k0.2.1, hK, k0.2.2.2⟩, k1, ?_, k3, k4, k5, k6⟩, o.2.1, ?_, o.t3, o.t4, ?_, ?_, o.sm, ?_⟩
  · show S 5 2 + 1 = nI (K + 1)
    rw [k2, nI_1]
  · show o2 (upd (S 2) (p * 4) (nI (H p + 1))) P _ L
    refine ⟨fun q hq => ?_, fun q hq hq4 => ?_⟩
    · obtain ⟨m1, m2⟩ := o.t2.1 q hq
      rw [upd_n (show q * 4 + 1 ≠ p * 4 by omega)]
      refine ⟨?_, m2⟩
      by_cases d : q = p
      · subst d; rw [upd_s, fu_s]
      · rw [upd_n (by omega), fu_n d, m1]
    · obtain ⟨m1, m2, m3, m4⟩ := o.t2.2 q hq hq4
      rw [fu_n (by omega), upd_n (by omega), upd_n (by omega)]
      exact ⟨m1, m2, m3, m4⟩
  · show o1 (upd (S 1) (p * 28 + H p) (nI t)) (S 4) (K + 1) _
    have hold : ∀ q, q < 4 → ∀ i, i < H q → upd (S 1) (p * 28 + H p) (nI t) (q * 28 + i) = S 1 (q * 28 + i) := by
      intro q hq i hi
      have hq2 := oh_le o.hh hq
      refine upd_n ?_
      by_cases d : q = p
      · subst d; omega
      · omega
    refine ⟨fun q hq i hi => ?_, fun q hq i j hij hj => ?_⟩
    · by_cases d : q = p
      · subst d
        rw [fu_s] at hi
        by_cases c : i = H q
        · subst c
          exact ⟨K, by omega, by rw [upd_s, e]⟩
        · obtain ⟨j, hj, ej⟩ := o.t1.1 q hq i (by omega)
          exact ⟨j, by omega, by rw [hold q hq i (by omega), ej]⟩
      · rw [fu_n d] at hi
        obtain ⟨j, hj, ej⟩ := o.t1.1 q hq i hi
        exact ⟨j, by omega, by rw [hold q hq i hi, ej]⟩
    · by_cases d : q = p
      · subst d
        rw [fu_s] at hj
        rw [hold q hq i (by omega)]
        by_cases c : j = H q
        · subst c
          obtain ⟨j2, hj2, ej⟩ := o.t1.1 q hq i (by omega)
          rw [upd_s, ej, ← e]
          exact o.t4.2 j2 K hj2 (by omega)
        · rw [hold q hq j (by omega)]
          exact o.t1.2 q hq i j hij (by omega)
      · rw [fu_n d] at hj
        rw [hold q hq i (by omega), hold q hq j hj]
        exact o.t1.2 q hq i j hij hj
  · show o0 (upd (upd (S 0) (t * 7 + 2) 1) (t * 7 + 3) (nI p)) gr ag
    intro u hu
    rw [upd_n (show u * 7 ≠ t * 7 + 3 by omega), upd_n (show u * 7 ≠ t * 7 + 2 by omega), upd_n (show u * 7 + 1 ≠ t * 7 + 3 by omega), upd_n (show u * 7 + 1 ≠ t * 7 + 2 by omega), upd_n (show u * 7 + 4 ≠ t * 7 + 3 by omega), upd_n (show u * 7 + 4 ≠ t * 7 + 2 by omega)]
    exact o.t0 u hu
  · have h1 := o.hh
    unfold oh at h1 ⊢
    have h2 := fu_sum (f := H) (k := p) (v := H p + 1) (by omega)
    omega
/-- the hand's tail moves up -/
theorem th_raw {p a : Nat} (hp : p < 4) : ∀ c, a + c < 28 → (∀ j, j ≠ 1 → (g_th S (nI p) a c) j = S j) ∧ ∀ x, (g_th S (nI p) a c) 1 x = if p * 28 + a ≤ x ∧ x < p * 28 + a + c then S 1 (x + 1) else S 1 x := by
  intro c
  induction c with
  | zero => intro _; exact ⟨fun _ _ => rfl, fun x => by rw [if_neg (by omega)]; rfl⟩
  | succ c ih =>
    intro hc
    obtain ⟨h1, h2⟩ := ih (by omega)
    have e : g_th S (nI p) a (c + 1) = gu (g_th S (nI p) a c) 1 (upd ((g_th S (nI p) a c) 1) (p * 28 + (a + c)) (S 1 (p * 28 + (a + c) + 1))) := by
      show gP (g_th S (nI p) a c) 1 (nI p) (nI (a + c)) (tAt 28 112 ((g_th S (nI p) a c) 1) (nI p) (nI (a + c) + 1)) = _
      rw [nI_1, at1 hp (by omega), put1 hp (by omega), h2, if_neg (by omega)]
      rfl
    rw [e]
    refine ⟨fun j hj => by rw [gu_n hj]; exact h1 j hj, fun x => ?_⟩
    rw [gu_s]
    by_cases d : x = p * 28 + (a + c)
    · subst d
      rw [upd_s, if_pos (by omega)]
    · rw [upd_n d, h2]
      by_cases d2 : p * 28 + a ≤ x ∧ x < p * 28 + a + c
      · rw [if_pos d2, if_pos (by omega)]
      · rw [if_neg d2, if_neg (by omega)]
/-- what lies at an end of a row changes nothing that is told of the lengths -/
theorem putE_raw {t r e : Nat} (hr : r < 3) (he : e < 2) (X : gS) (u : Int32) : (∀ j, j ≠ 3 → (g_putE X u (nI r) (nI e)) j = X j) ∧ ∀ q, q < 3 → (g_putE X u (nI r) (nI e)) 3 (q * 4) = if q = r then X 3 (q * 4) + 1 else X 3 (q * 4) := by
  have key : ∀ Y : gS, (∀ j, j ≠ 3 → Y j = X j) → (∀ q, q < 3 → Y 3 (q * 4) = X 3 (q * 4)) → (∀ j, j ≠ 3 → (gP (gI Y 3 (nI r) 0 1) 3 (nI r) 3 u) j = X j) ∧ ∀ q, q < 3 → (gP (gI Y 3 (nI r) 0 1) 3 (nI r) 3 u) 3 (q * 4) = if q = r then X 3 (q * 4) + 1 else X 3 (q * 4) := by
    intro Y h1 h2
    rw [show gI Y 3 (nI r) 0 1 = _ from inc3 (w := 0) hr (by decide), show ∀ Z : gS, gP Z 3 (nI r) 3 u = _ from fun Z => put3 (S := Z) (w := 3) hr (by decide)]
    refine ⟨fun j hj => by rw [gu_n hj, gu_n hj, h1 j hj], fun q hq => ?_⟩
    rw [gu_s, upd_n (by omega), gu_s]
    show upd (Y 3) (r * 4) (Y 3 (r * 4) + 1) (q * 4) = _
    by_cases c : q = r
    · subst c; rw [upd_s, if_pos rfl, h2 q hq]
    · rw [upd_n (by omega), if_neg c, h2 q hq]
  have put : ∀ (Y : gS) (w : Nat) (v : Int32), w < 4 → w ≠ 0 → (∀ j, j ≠ 3 → Y j = X j) → (∀ q, q < 3 → Y 3 (q * 4) = X 3 (q * 4)) → (∀ j, j ≠ 3 → (gP Y 3 (nI r) (nI w) v) j = X j) ∧ ∀ q, q < 3 → (gP Y 3 (nI r) (nI w) v) 3 (q * 4) = X 3 (q * 4) := by
    intro Y w v hw hw0 h1 h2
    rw [put3 hr hw]
    refine ⟨fun j hj => by rw [gu_n hj, h1 j hj], fun q hq => ?_⟩
    rw [gu_s, upd_n (by omega), h2 q hq]
  unfold g_putE
  split
  · obtain ⟨a1, a2⟩ := put X 1 (tAt 7 196 (X 0) u 0) (by decide) (by decide) (fun _ _ => rfl) (fun _ _ => rfl)
    obtain ⟨b1, b2⟩ := put _ 2 (tAt 7 196 (X 0) u 1) (by decide) (by decide) a1 a2
    exact key _ b1 b2
  · have e1 : (1 : Int32) + nI e = nI (1 + e) := nI_add 1 e
    rw [e1]
    obtain ⟨a1, a2⟩ := put X (1 + e) (if tAt 7 196 (X 0) u 0 = tAt 4 12 (X 3) (nI r) (nI (1 + e)) then tAt 7 196 (X 0) u 1 else tAt 7 196 (X 0) u 0) (by omega) (by omega) (fun _ _ => rfl) (fun _ _ => rfl)
    exact key _ a1 a2
/-- a tile leaves a hand and lies at a row -/
theorem gO.lay3 (o : gO n S P K W Q T F H R L gr ag) {q i r e : Nat} (hq : q < P) (hm : S 5 1 = nI q) (hi : i < H q) (hr : r < 3) (he : e < 2) : gO n (g_lay3 S (nI i) (nI r) (nI e)) P K W 0 T F (fu H q (H q - 1)) (fu R r (R r + 1)) L gr ag ∧ (g_lay3 S (nI i) (nI r) (nI e)) 5 1 = nI q := by
  have hP : P ≤ 4 := o.n5.1.2.1
  have hP2 : 2 ≤ P := o.n5.1.1
  have hK : K ≤ 28 := o.n5.1.2.2.1
  have hh := oh_le o.hh (show q < 4 by omega)
  obtain ⟨t, ht, et⟩ := o.hand (p := q) (i := i) (by omega) hi
  have eT : g_layT S (nI i) = nI t := by
    show tAt 28 112 (S 1) (S 5 1) (nI i) = nI t
    rw [hm, et]
  have eHn : (g_held (gc S 4 0) (nI q) - 1).toNatClampNeg - i = H q - 1 - i := by
    rw [show g_held (gc S 4 0) (nI q) = nI (H q) from o.held (by omega), show nI (H q) - 1 = nI (H q - 1) from pk_sub (b := 1) (by omega), nI_clamp (by omega)]
  obtain ⟨c1, c2⟩ := th_raw (S := gc S 4 0) (p := q) (a := i) (by omega) (H q - 1 - i) (by omega)
  have e1 : g_lay1 S (nI i) = gI (g_th (gc S 4 0) (nI q) i (H q - 1 - i)) 2 (nI q) 0 (-1) := by
    unfold g_lay1 g_from
    rw [show (gc S 4 0) 5 1 = nI q from hm, nI_clamp (by omega), eHn]
  have e1' : g_lay1 S (nI i) = gu (g_th (gc S 4 0) (nI q) i (H q - 1 - i)) 2 (upd (S 2) (q * 4) (nI (H q - 1))) := by
    rw [e1, show ∀ X : gS, gI X 2 (nI q) 0 (-1) = _ from fun X => inc2 (S := X) (w := 0) (by omega) (by decide), c1 2 (by decide)]
    show gu _ 2 (upd (S 2) (q * 4) (S 2 (q * 4) + -1)) = _
    rw [(o.t2.1 q (by omega)).1, nI_dec (by omega)]
  have e2 : g_lay2 S (nI i) (nI r) = gu (g_lay1 S (nI i)) 0 (upd (upd (S 0) (t * 7 + 2) 2) (t * 7 + 5) (nI r)) := by
    unfold g_lay2
    rw [eT, show ∀ X : gS, gP X 0 (nI t) 2 2 = _ from fun X => put0 (S := X) (w := 2) ht (by decide), show ∀ X : gS, gP X 0 (nI t) 5 (nI r) = _ from fun X => put0 (S := X) (w := 5) ht (by decide)]
    have e0 : (g_lay1 S (nI i)) 0 = S 0 := by rw [e1', gu_n (by decide), c1 0 (by decide)]; rfl
    rw [e0]
    funext j
    by_cases c : j = 0
    · subst c; rw [gu_s, gu_s, gu_s]
    · rw [gu_n c, gu_n c, gu_n c]
  have e5 : (g_lay2 S (nI i) (nI r)) 5 1 = nI q := by
    rw [e2, gu_n (by decide), e1', gu_n (by decide), c1 5 (by decide)]
    exact hm
  have e3 : gI (g_lay2 S (nI i) (nI r)) 2 ((g_lay2 S (nI i) (nI r)) 5 1) 2 1 = gu (g_lay2 S (nI i) (nI r)) 2 (upd (upd (S 2) (q * 4) (nI (H q - 1))) (q * 4 + 2) (upd (S 2) (q * 4) (nI (H q - 1)) (q * 4 + 2) + 1)) := by
    rw [e5, show ∀ X : gS, gI X 2 (nI q) 2 1 = _ from fun X => inc2 (S := X) (w := 2) (by omega) (by decide), e2, gu_n (by decide), e1', gu_s]
  obtain ⟨p1, p2⟩ := putE_raw (t := t) hr he (gI (g_lay2 S (nI i) (nI r)) 2 ((g_lay2 S (nI i) (nI r)) 5 1) 2 1) (g_layT S (nI i))
  have f5 : (g_lay3 S (nI i) (nI r) (nI e)) 5 = (gc S 4 0) 5 := by
    show (g_putE _ _ _ _) 5 = _
    rw [p1 5 (by decide), e3, gu_n (by decide), e2, gu_n (by decide), e1', gu_n (by decide), c1 5 (by decide)]
  have f4 : (g_lay3 S (nI i) (nI r) (nI e)) 4 = S 4 := by
    show (g_putE _ _ _ _) 4 = _
    rw [p1 4 (by decide), e3, gu_n (by decide), e2, gu_n (by decide), e1', gu_n (by decide), c1 4 (by decide)]
    rfl
  have f2 : (g_lay3 S (nI i) (nI r) (nI e)) 2 = upd (upd (S 2) (q * 4) (nI (H q - 1))) (q * 4 + 2) (upd (S 2) (q * 4) (nI (H q - 1)) (q * 4 + 2) + 1) := by
    show (g_putE _ _ _ _) 2 = _
    rw [p1 2 (by decide), e3, gu_s]
  have f0 : (g_lay3 S (nI i) (nI r) (nI e)) 0 = upd (upd (S 0) (t * 7 + 2) 2) (t * 7 + 5) (nI r) := by
    show (g_putE _ _ _ _) 0 = _
    rw [p1 0 (by decide), e3, gu_n (by decide), e2, gu_s]
  have f1 : (g_lay3 S (nI i) (nI r) (nI e)) 1 = (g_th (gc S 4 0) (nI q) i (H q - 1 - i)) 1 := by
    show (g_putE _ _ _ _) 1 = _
    rw [p1 1 (by decide), e3, gu_n (by decide), e2, gu_n (by decide), e1', gu_n (by decide)]
  have f3 : ∀ s, s < 3 → (g_lay3 S (nI i) (nI r) (nI e)) 3 (s * 4) = if s = r then S 3 (s * 4) + 1 else S 3 (s * 4) := by
    intro s hs
    have h := p2 s hs
    have e33 : (gI (g_lay2 S (nI i) (nI r)) 2 ((g_lay2 S (nI i) (nI r)) 5 1) 2 1) 3 = S 3 := by
      rw [e3, gu_n (by decide), e2, gu_n (by decide), e1', gu_n (by decide), c1 3 (by decide)]
      rfl
    rw [e33] at h
    show (g_putE _ _ _ _) 3 (s * 4) = _
    exact h
  obtain ⟨k0, k1, k2, k3, k4, k5, k6⟩ := o.n5
  have hH : ∀ s, s < 4 → ∀ x, x < fu H q (H q - 1) s → ∃ y, y < H s ∧ (y = x ∨ s = q ∧ y = x + 1 ∧ i ≤ x) ∧ (s = q → x < i → y = x) ∧ (s = q → i ≤ x → y = x + 1) ∧ (s ≠ q → y = x) ∧ (g_lay3 S (nI i) (nI r) (nI e)) 1 (s * 28 + x) = S 1 (s * 28 + y) := by
    intro s hs x hx
    have hs2 := oh_le o.hh hs
    rw [f1, c2]
    by_cases d : s = q
    · subst d
      rw [fu_s] at hx
      by_cases c : i ≤ x
      · exact ⟨x + 1, by omega, Or.inr ⟨rfl, rfl, c⟩, fun _ z => by omega, fun _ _ => rfl, fun z => absurd rfl z, by rw [if_pos (by omega)]; rfl⟩
      · exact ⟨x, by omega, Or.inl rfl, fun _ _ => rfl, fun _ z => by omega, fun _ => rfl, by rw [if_neg (by omega)]; rfl⟩
    · rw [fu_n d] at hx
      exact ⟨x, hx, Or.inl rfl, fun z => absurd z d, fun z => absurd z d, fun _ => rfl, by rw [if_neg (by omega)]; rfl⟩
  refine ⟨⟨?_, ?_, ?_, ?_, ?_, ?_, ?_, o.sm, ?_⟩, by rw [f5]; exact hm⟩
  · rw [f5]
    exact ⟨⟨k0.1, k0.2.1, k0.2.2.1, k0.2.2.2.1, k0.2.2.2.2.1, Nat.zero_le _, k0.2.2.2.2.2.2⟩, k1, k2, k3, rfl, k5, k6⟩
  · rw [f5]
    exact Or.inr ⟨q, hq, hm⟩
  · rw [f2]
    refine ⟨fun s hs => ?_, fun s hs hs4 => ?_⟩
    · obtain ⟨m1, m2⟩ := o.t2.1 s hs
      rw [upd_n (show s * 4 ≠ q * 4 + 2 by omega), upd_n (show s * 4 + 1 ≠ q * 4 + 2 by omega), upd_n (show s * 4 + 1 ≠ q * 4 by omega)]
      refine ⟨?_, m2⟩
      by_cases d : s = q
      · subst d; rw [upd_s, fu_s]
      · rw [upd_n (by omega), fu_n d, m1]
    · obtain ⟨m1, m2, m3, m4⟩ := o.t2.2 s hs hs4
      rw [fu_n (by omega), upd_n (show s * 4 + 2 ≠ q * 4 + 2 by omega), upd_n (show s * 4 + 2 ≠ q * 4 by omega), upd_n (show s * 4 + 3 ≠ q * 4 + 2 by omega), upd_n (show s * 4 + 3 ≠ q * 4 by omega)]
      exact ⟨m1, m2, m3, m4⟩
  · intro s hs
    rw [f3 s hs, o.t3 s hs]
    by_cases d : s = r
    · subst d; rw [if_pos rfl, fu_s, nI_1]
    · rw [if_neg d, fu_n d]
  · rw [f4]; exact o.t4
  · rw [f4]
    refine ⟨fun s hs x hx => ?_, fun s hs x z hxz hz => ?_⟩
    · obtain ⟨y, hy, -, -, -, -, ey⟩ := hH s hs x hx
      rw [ey]
      exact o.t1.1 s hs y hy
    · obtain ⟨y, hy, -, a1, a2, a3, ey⟩ := hH s hs x (by omega)
      obtain ⟨y2, hy2, -, b1, b2, b3, ey2⟩ := hH s hs z hz
      rw [ey, ey2]
      refine o.t1.2 s hs y y2 ?_ hy2
      by_cases d : s = q
      · have a1' := a1 d; have a2' := a2 d; have b1' := b1 d; have b2' := b2 d
        by_cases g1 : i ≤ x
        · have := a2' g1; have := b2' (by omega); omega
        · have := a1' (by omega)
          by_cases g2 : i ≤ z
          · have := b2' g2; omega
          · have := b1' (by omega); omega
      · have := a3 d; have := b3 d; omega
  · rw [f0]
    intro u hu
    rw [upd_n (show u * 7 ≠ t * 7 + 5 by omega), upd_n (show u * 7 ≠ t * 7 + 2 by omega), upd_n (show u * 7 + 1 ≠ t * 7 + 5 by omega), upd_n (show u * 7 + 1 ≠ t * 7 + 2 by omega), upd_n (show u * 7 + 4 ≠ t * 7 + 5 by omega), upd_n (show u * 7 + 4 ≠ t * 7 + 2 by omega)]
    exact o.t0 u hu
  · have h1 := o.hh
    unfold oh at h1 ⊢
    have h2 := fu_sum (f := H) (k := q) (v := H q - 1) (by omega)
    have h3 := fu_sum3 (f := R) (k := r) (v := R r + 1) hr
    omega
theorem gO.pz (o : gO n S P K W Q T F H R L gr ag) {Q2 : Nat} (hQ : Q2 ≤ P) : gO n (gc S 4 (nI Q2)) P K W Q2 T F H R L gr ag := by
  obtain ⟨k0, k1, k2, k3, k4, k5, k6⟩ := o.n5
  exact ⟨⟨⟨k0.1, k0.2.1, k0.2.2.1, k0.2.2.2.1, k0.2.2.2.2.1, hQ, k0.2.2.2.2.2.2⟩, k1, k2, k3, rfl, k5, k6⟩, o.2⟩
end OK2
