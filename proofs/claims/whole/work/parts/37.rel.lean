/-! THE MODEL'S GAME IS THE CLASS'S, BUT FOR HANDS BEYOND WHAT IS HELD -/
def hR (S : gS) (Hf : Nat → Int32) : Prop := ∀ p, p < 4 → ∀ i, i < k_k S (nI p) → Hf (p * 28 + i) = S 1 (p * 28 + i)
section RL
variable {n : Nat} {S : gS} {P K W Q T F : Nat} {H R L : Nat → Nat} {gr : Nat → Nat → Nat} {ag : Nat → Nat} {Hf : Nat → Int32}
theorem gO.kk (o : gO n S P K W Q T F H R L gr ag) {p : Nat} (hp : p < 4) : k_k S (nI p) = H p := by
  have hK : K ≤ 28 := o.n5.1.2.2.1
  have hh := oh_le o.hh hp
  unfold k_k
  rw [show g_held S (nI p) = nI (H p) from o.held hp, nI_clamp (by omega)]
theorem gO.sw (o : gO n S P K W Q T F H R L gr ag) (r : hR S Hf) : gO n (gu S 1 Hf) P K W Q T F H R L gr ag := by
  refine ⟨o.1, o.2.1, o.2.2.1, o.2.2.2.1, o.2.2.2.2.1, ?_, o.2.2.2.2.2.2⟩
  show o1 Hf (S 4) K H
  refine ⟨fun p hp i hi => ?_, fun p hp i j hij hj => ?_⟩
  · rw [r p hp i (by rw [o.kk hp]; exact hi)]
    exact o.t1.1 p hp i hi
  · rw [r p hp i (by rw [o.kk hp]; omega), r p hp j (by rw [o.kk hp]; exact hj)]
    exact o.t1.2 p hp i j hij hj
theorem gOk.sw (h : gOk n S) (r : hR S Hf) : gOk n (gu S 1 Hf) := by
  obtain ⟨P, K, W, Q, T, F, H, R, L, gr, ag, o, t⟩ := h
  exact ⟨P, K, W, Q, T, F, H, R, L, gr, ag, o.sw r, t⟩
theorem gOk.kle (h : gOk n S) {p : Nat} (hp : p < 4) : k_k S (nI p) ≤ 28 := by
  obtain ⟨P, K, W, Q, T, F, H, R, L, gr, ag, o, t⟩ := h
  rw [o.kk hp]
  have := oh_le o.hh hp
  have hK : K ≤ 28 := o.n5.1.2.2.1
  omega
theorem hR.hand (r : hR S Hf) (hk : ∀ p, p < 4 → k_k S (nI p) ≤ 28) {p i : Nat} (hp : p < 4) (hi : i < k_k S (nI p)) : g_hand (gu S 1 Hf) (nI p) (nI i) = g_hand S (nI p) (nI i) := by
  have := hk p hp
  show tAt 28 112 Hf (nI p) (nI i) = tAt 28 112 (S 1) (nI p) (nI i)
  rw [at1 hp (by omega), at1 hp (by omega), r p hp i hi]
theorem lsum_eq {f g : Nat → Int32} : ∀ {k : Nat}, (∀ i, i < k → f i = g i) → l_sum f k = l_sum g k := by
  intro k
  induction k with
  | zero => intro _; rfl
  | succ k ih => intro h; show l_sum f k + f k = l_sum g k + g k; rw [ih (fun i hi => h i (by omega)), h k (by omega)]
theorem any_eq {f g : Nat → Bool} : ∀ {k : Nat}, (∀ i, i < k → f i = g i) → anyB f k = anyB g k := by
  intro k
  induction k with
  | zero => intro _; rfl
  | succ k ih => intro h; show (anyB f k || f k) = (anyB g k || g k); rw [ih (fun i hi => h i (by omega)), h k (by omega)]
theorem sw_gh (r : hR S Hf) (hk : ∀ p, p < 4 → k_k S (nI p) ≤ 28) {p : Nat} (hp : p < 4) : g_gh (gu S 1 Hf) (nI p) = g_gh S (nI p) :=
  lsum_eq (fun i hi => congrArg (g_grades S) (r.hand hk hp hi))
theorem sw_sum (r : hR S Hf) (hk : ∀ p, p < 4 → k_k S (nI p) ≤ 28) {p : Nat} (hp : p < 4) : g_sum (gu S 1 Hf) (nI p) = g_sum S (nI p) := by
  unfold g_sum
  rw [sw_gh r hk hp]
  rfl
theorem sw_can (r : hR S Hf) (hk : ∀ p, p < 4 → k_k S (nI p) ≤ 28) {p : Nat} (hp : p < 4) (a b : Int32) : g_can (gu S 1 Hf) (nI p) a b = g_can S (nI p) a b :=
  any_eq (fun i hi => congrArg (fun t => g_fits S t a b) (r.hand hk hp hi))
theorem sw_ends (r : hR S Hf) (hk : ∀ p, p < 4 → k_k S (nI p) ≤ 28) {p : Nat} (hp : p < 4) : g_ends (gu S 1 Hf) (nI p) = g_ends S (nI p) :=
  lsum_eq (fun i _ => lsum_eq (fun j _ => congrArg bI (sw_can r hk hp _ _)))
theorem sw_prop (r : hR S Hf) (hk : ∀ p, p < 4 → k_k S (nI p) ≤ 28) {p : Nat} (hp : p < 4) (b : Int32) : g_prop (gu S 1 Hf) (nI p) b = g_prop S (nI p) b := by
  unfold g_prop
  rw [sw_gh r hk hp, sw_sum r hk hp, sw_ends r hk hp]
  rfl
theorem sw_wl (r : hR S Hf) (hk : ∀ p, p < 4 → k_k S (nI p) ≤ 28) : ∀ i, i < 4 → g_wl (gu S 1 Hf) i = g_wl S i := by
  intro i
  induction i with
  | zero => intro _; rfl
  | succ i ih =>
    intro hi
    obtain ⟨q, hq, e⟩ := wl_nat S i
    show (if g_sum (gu S 1 Hf) (nI (i + 1)) < g_sum (gu S 1 Hf) (g_wl (gu S 1 Hf) i) then nI (i + 1) else g_wl (gu S 1 Hf) i) = (if g_sum S (nI (i + 1)) < g_sum S (g_wl S i) then nI (i + 1) else g_wl S i)
    rw [ih (by omega), e, sw_sum r hk hi, sw_sum r hk (show q < 4 by omega)]
theorem sw_win (h : nB S) (r : hR S Hf) (hk : ∀ p, p < 4 → k_k S (nI p) ≤ 28) : g_win (gu S 1 Hf) = g_win S := by
  obtain ⟨P, h1, h2, h3, -⟩ := h.pl
  unfold g_win
  rw [show (gu S 1 Hf) 5 0 = S 5 0 from rfl, h3, nI_clamp (by omega), sw_wl r hk (P - 1) (by omega)]
  rfl
theorem sw_num (h : nB S) (r : hR S Hf) (hk : ∀ p, p < 4 → k_k S (nI p) ≤ 28) (a b : Int32) : g_num (gu S 1 Hf) a b = g_num S a b := by
  unfold g_num
  rw [sw_win h r hk]
  rfl
theorem sw_cl : ∀ i, g_cl (gu S 1 Hf) i = g_cl S i := by
  intro i
  induction i with
  | zero => rfl
  | succ i ih =>
    show (if g_half S (nI (i + 1)) < g_half S (g_cl (gu S 1 Hf) i) then g_cl (gu S 1 Hf) i else nI (i + 1)) = _
    rw [ih]
    rfl
theorem sw_reason (h : nB S) (r : hR S Hf) (hk : ∀ p, p < 4 → k_k S (nI p) ≤ 28) (a b e : Int32) : g_reason (gu S 1 Hf) a b e = g_reason S a b e := by
  unfold g_reason
  rw [show g_over (gu S 1 Hf) = g_over S from rfl, show (gu S 1 Hf) 5 1 = S 5 1 from rfl, show ∀ p, g_holds (gu S 1 Hf) p a = g_holds S p a from fun _ => rfl, show ∀ t, g_fits (gu S 1 Hf) t b e = g_fits S t b e from fun _ => rfl]
  rcases h.mv with hm | ⟨q, hq, hm⟩
  · rw [show g_over S = true from decide_eq_true hm, if_pos rfl, if_pos rfl]
  · rw [hm]
    by_cases c : g_holds S (nI q) a = true
    · have hkq := (h.hk hq).1
      have hc := c
      unfold g_holds at hc
      rw [show g_held S (nI q) = nI (k_k S (nI q)) from hkq] at hc
      obtain ⟨i, hi, ei⟩ := m_nat (by have := hk q hq; omega) hc
      rw [ei, r.hand hk hq hi]
    · rw [if_neg c, if_neg c]
theorem sw_m1 (r : hR S Hf) (hk : ∀ p, p < 4 → k_k S (nI p) ≤ 28) {p : Nat} (hp : p < 4) (X : Int64) : ∀ i, k_m1 (gu S 1 Hf) (nI p) X i = k_m1 S (nI p) X i := by
  intro i
  induction i with
  | zero => rfl
  | succ i ih => show 31 * k_m1 (gu S 1 Hf) (nI p) X i + (g_prop (gu S 1 Hf) (nI p) (nI i)).toInt64 = _; rw [ih, sw_prop r hk hp]; rfl
theorem sw_m2 (r : hR S Hf) (hk : ∀ p, p < 4 → k_k S (nI p) ≤ 28) {p : Nat} (hp : p < 4) (X : Int64) : ∀ i, i ≤ k_k S (nI p) → k_m2 (gu S 1 Hf) (nI p) X i = k_m2 S (nI p) X i := by
  intro i
  induction i with
  | zero => intro _; rfl
  | succ i ih =>
    intro hi
    show 31 * k_m2 (gu S 1 Hf) (nI p) X i + (g_hand (gu S 1 Hf) (nI p) (nI i)).toInt64 = _
    rw [ih (by omega), r.hand hk hp (by omega)]
    rfl
theorem sw_d1 (h : nB S) (r : hR S Hf) (hk : ∀ p, p < 4 → k_k S (nI p) ≤ 28) (z : Nat) : ∀ i, k_d1 (gu S 1 Hf) z i = k_d1 S z i := by
  intro i
  induction i with
  | zero => rfl
  | succ i ih => show 31 * k_d1 (gu S 1 Hf) z i + (g_num (gu S 1 Hf) (nI i) (nI z)).toInt64 = _; rw [ih, sw_num h r hk]; rfl
theorem sw_d4 (X : Int64) : ∀ i, k_d4 (gu S 1 Hf) X i = k_d4 S X i := by
  intro i
  induction i with
  | zero => rfl
  | succ i ih => show 31 * k_d4 (gu S 1 Hf) X i + (g_stile S (nI i)).toInt64 = _; rw [ih]; rfl
-- the turns
theorem gu_1 {j : Nat} {f : Nat → Int32} (h : j ≠ 1) : gu (gu S 1 Hf) j f = gu (gu S j f) 1 Hf := gu_cm (fun e => h e.symm)
theorem gc_1 {k : Nat} {v : Int32} : gc (gu S 1 Hf) k v = gu (gc S k v) 1 Hf := gu_1 (by decide)
theorem gP_1 {j : Nat} {a b v : Int32} (h : j ≠ 1) : gP (gu S 1 Hf) j a b v = gu (gP S j a b v) 1 Hf := by
  unfold gP
  rw [gu_n h, gu_1 h]
theorem gI_1 {j : Nat} {a b v : Int32} (h : j ≠ 1) : gI (gu S 1 Hf) j a b v = gu (gI S j a b v) 1 Hf := by
  unfold gI
  rw [gu_n h, gu_1 h]
theorem sw_rust (t p : Int32) : g_rust (gu S 1 Hf) t p = gu (g_rust S t p) 1 Hf := by
  unfold g_rust
  rw [show g_rustH (gu S 1 Hf) t = g_rustH S t from rfl, show (gu S 1 Hf) 0 = S 0 from rfl]
  split
  · rfl
  · rw [gI_1 (by decide), gI_1 (by decide), gI_1 (by decide)]
theorem sw_age1 (t p : Int32) : g_age1 (gu S 1 Hf) t p = gu (g_age1 S t p) 1 Hf := by
  unfold g_age1
  rw [gI_1 (by decide), show (gu (gI S 0 t 4 1) 1 Hf) 5 = (gI S 0 t 4 1) 5 from rfl, show (gu (gI S 0 t 4 1) 1 Hf) 0 = (gI S 0 t 4 1) 0 from rfl]
  split
  · exact sw_rust t p
  · rfl
theorem sw_age (r : hR S Hf) (hk : ∀ p, p < 4 → k_k S (nI p) ≤ 28) {p : Nat} (hp : p < 4) : ∀ i, i ≤ k_k S (nI p) → g_age (gu S 1 Hf) (nI p) i = gu (g_age S (nI p) i) 1 Hf := by
  intro i
  induction i with
  | zero => intro _; rfl
  | succ i ih =>
    intro hi
    have := hk p hp
    show g_age1 (g_age (gu S 1 Hf) (nI p) i) (g_hand (g_age (gu S 1 Hf) (nI p) i) (nI p) (nI i)) (nI p) = gu (g_age1 (g_age S (nI p) i) (g_hand (g_age S (nI p) i) (nI p) (nI i)) (nI p)) 1 Hf
    have e : g_hand (gu (g_age S (nI p) i) 1 Hf) (nI p) (nI i) = g_hand (g_age S (nI p) i) (nI p) (nI i) := by
      show tAt 28 112 Hf (nI p) (nI i) = tAt 28 112 ((g_age S (nI p) i) 1) (nI p) (nI i)
      rw [(age_1 (nI p) i).1, at1 hp (by omega), at1 hp (by omega), r p hp i (by omega)]
    rw [ih (by omega), e, sw_age1]
theorem sw_end (h : nB S) (r : hR S Hf) (hk : ∀ p, p < 4 → k_k S (nI p) ≤ 28) : g_end (gu S 1 Hf) = gu (g_end S) 1 Hf := by
  have e0 : g_end0 (gu S 1 Hf) = gu (g_end0 S) 1 Hf := gc_1
  have r0 : hR (g_end0 S) Hf := r
  have hA : g_ages (gu (g_end0 S) 1 Hf) ((gu (g_end0 S) 1 Hf) 5 1) = gu (g_ages (g_end0 S) ((g_end0 S) 5 1)) 1 Hf := by
    rcases h.mv with hm | ⟨q, hq, hm⟩
    · rw [show (gu (g_end0 S) 1 Hf) 5 1 = -1 from hm, show (g_end0 S) 5 1 = -1 from hm]
      have e : ∀ X : gS, (g_held X (-1)).toNatClampNeg = 0 := by
        intro X
        unfold g_held tAt
        rw [if_pos (by decide)]
        rfl
      unfold g_ages
      rw [e, e]
      rfl
    · rw [show (gu (g_end0 S) 1 Hf) 5 1 = nI q from hm, show (g_end0 S) 5 1 = nI q from hm]
      exact sw_age (S := g_end0 S) r0 hk hq _ (Nat.le_refl _)
  unfold g_end
  rw [e0, hA, show g_ended (gu (g_end0 S) 1 Hf) = g_ended (g_end0 S) from rfl]
  split
  · exact gc_1
  · rw [show g_next (gu (g_ages (g_end0 S) ((g_end0 S) 5 1)) 1 Hf) = g_next (g_ages (g_end0 S) ((g_end0 S) 5 1)) from rfl]
    exact gc_1
theorem held_rust (t : Int32) {p q : Nat} (hp : p < 4) (hq : q < 4) : k_k (g_rust S t (nI p)) (nI q) = k_k S (nI q) := by
  unfold g_rust
  split
  · rfl
  · unfold k_k g_held
    rw [show ∀ X : gS, gI X 2 (nI p) 1 1 = _ from fun X => inc2 (S := X) (w := 1) hp (by decide), gu_s, show ∀ f : Nat → Int32, tAt 4 16 f (nI q) 0 = f (q * 4) from fun f => at2 (w := 0) hq (by decide), upd_n (by omega), show ∀ f : Nat → Int32, tAt 4 16 f (nI q) 0 = f (q * 4) from fun f => at2 (w := 0) hq (by decide)]
    rfl
theorem held_age1 (t : Int32) {p q : Nat} (hp : p < 4) (hq : q < 4) : k_k (g_age1 S t (nI p)) (nI q) = k_k S (nI q) := by
  unfold g_age1
  split
  · rw [held_rust t hp hq]; rfl
  · rfl
theorem held_age {p q : Nat} (hp : p < 4) (hq : q < 4) : ∀ i, k_k (g_age S (nI p) i) (nI q) = k_k S (nI q) := by
  intro i
  induction i with
  | zero => rfl
  | succ i ih => exact (held_age1 _ hp hq).trans ih
theorem end_1 (h : nB S) : (g_end S) 1 = S 1 ∧ ∀ q, q < 4 → k_k (g_end S) (nI q) = k_k S (nI q) := by
  have key : (g_ages (g_end0 S) ((g_end0 S) 5 1)) 1 = S 1 ∧ ∀ q, q < 4 → k_k (g_ages (g_end0 S) ((g_end0 S) 5 1)) (nI q) = k_k S (nI q) := by
    rcases h.mv with hm | ⟨q, hq, hm⟩
    · rw [show (g_end0 S) 5 1 = -1 from hm]
      have e : (g_held (g_end0 S) (-1)).toNatClampNeg = 0 := by
        unfold g_held tAt
        rw [if_pos (by decide)]
        rfl
      unfold g_ages
      rw [e]
      exact ⟨rfl, fun _ _ => rfl⟩
    · rw [show (g_end0 S) 5 1 = nI q from hm]
      unfold g_ages
      exact ⟨(age_1 (S := g_end0 S) (nI q) _).1, fun p hp => held_age (S := g_end0 S) hq hp _⟩
  unfold g_end
  split
  · exact ⟨(gc_n (by decide)).trans key.1, fun q hq => (show k_k (gc _ 1 _) (nI q) = _ from rfl).trans (key.2 q hq)⟩
  · exact ⟨(gc_n (by decide)).trans key.1, fun q hq => (show k_k (gc _ 1 _) (nI q) = _ from rfl).trans (key.2 q hq)⟩
theorem hR.end_ (r : hR S Hf) (h : nB S) : hR (g_end S) Hf := by
  intro p hp i hi
  rw [(end_1 h).1]
  exact r p hp i (by rw [← (end_1 h).2 p hp]; exact hi)
end RL
