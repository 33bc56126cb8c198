/-! WHAT ELSE HOLDS OF A GAME IN ORDER: each tile is somewhere once; what rusted away, what was laid -/
def xt (P : Nat) (f0 f1 : Nat → Int32) (H : Nat → Nat) (t : Nat) : Prop :=
  (f0 (t * 7 + 2) = 0 ∧ f0 (t * 7 + 3) = -1 ∧ f0 (t * 7 + 4) = 0 ∧ f0 (t * 7 + 5) = -1 ∧ f0 (t * 7 + 6) = 0) ∨
  (f0 (t * 7 + 2) = 1 ∧ f0 (t * 7 + 5) = -1 ∧ ∃ p, p < P ∧ f0 (t * 7 + 3) = nI p ∧ ∃ i, i < H p ∧ f1 (p * 28 + i) = nI t) ∨
  (f0 (t * 7 + 2) = 2 ∧ (∃ r, r < 3 ∧ f0 (t * 7 + 5) = nI r) ∧ ∃ p, p < P ∧ f0 (t * 7 + 3) = nI p)
def xh (P : Nat) (f0 f1 : Nat → Int32) (H : Nat → Nat) : Prop := ∀ p, p < P → ∀ i, i < H p → ∀ t, t < 28 → f1 (p * 28 + i) = nI t → f0 (t * 7 + 2) = 1 ∧ f0 (t * 7 + 3) = nI p
def xk (K : Nat) (f0 f4 : Nat → Int32) : Prop := ∀ j, j < 28 → ∀ t, t < 28 → f4 j = nI t → (K ≤ j ↔ f0 (t * 7 + 2) = 0)
def xr (f0 f2 : Nat → Int32) : Prop := l_sum (fun t => f0 (t * 7 + 6)) 28 = f2 1 + f2 5 + f2 9 + f2 13
def xl (f2 f3 : Nat → Int32) : Prop := f2 2 + f2 6 + f2 10 + f2 14 = f3 0 + f3 4 + f3 8
def xe (P : Nat) (f2 : Nat → Int32) : Prop := ∀ p, p < P → f2 (p * 4) + f2 (p * 4 + 2) = 5 + f2 (p * 4 + 3)
def gY (S : gS) (P K : Nat) (H : Nat → Nat) : Prop := (∀ t, t < 28 → xt P (S 0) (S 1) H t) ∧ xh P (S 0) (S 1) H ∧ xk K (S 0) (S 4) ∧ xr (S 0) (S 2) ∧ xl (S 2) (S 3)
theorem i_alc (a b c : Int32) : a + (b + c) = b + (a + c) := by rw [← Int32.add_assoc, Int32.add_comm a b, Int32.add_assoc]
theorem lsum_eq {f g : Nat → Int32} : ∀ {n : Nat}, (∀ t, t < n → f t = g t) → l_sum f n = l_sum g n := by
  intro n
  induction n with
  | zero => intro _; rfl
  | succ n ih => intro h; show l_sum f n + f n = l_sum g n + g n; rw [ih (fun t ht => h t (by omega)), h n (by omega)]
theorem lsum_1 {f g : Nat → Int32} {k : Nat} {v : Int32} (h : ∀ t, t ≠ k → f t = g t) (hk : f k = g k + v) : ∀ {n : Nat}, k < n → l_sum f n = l_sum g n + v := by
  intro n
  induction n with
  | zero => intro h; omega
  | succ n ih =>
    intro hkn
    show l_sum f n + f n = l_sum g n + g n + v
    by_cases c : k = n
    · subst c
      rw [lsum_eq (f := f) (g := g) (fun t ht => h t (by omega)), hk, Int32.add_assoc]
    · rw [ih (by omega), h n (fun e => c e.symm)]
      simp only [Int32.add_assoc, Int32.add_comm, i_alc]
/-- four cells, one of them changed by v -/
theorem four_1 {f g : Nat → Int32} {p w : Nat} {v : Int32} (hp : p < 4) (h : ∀ q, q < 4 → q ≠ p → f (q * 4 + w) = g (q * 4 + w)) (hk : f (p * 4 + w) = g (p * 4 + w) + v) : f (0 * 4 + w) + f (1 * 4 + w) + f (2 * 4 + w) + f (3 * 4 + w) = g (0 * 4 + w) + g (1 * 4 + w) + g (2 * 4 + w) + g (3 * 4 + w) + v := by
  rcases (show p = 0 ∨ p = 1 ∨ p = 2 ∨ p = 3 by omega) with rfl | rfl | rfl | rfl
  · rw [hk, h 1 (by decide) (by decide), h 2 (by decide) (by decide), h 3 (by decide) (by decide)]
    simp only [Int32.add_assoc, Int32.add_comm, i_alc]
  · rw [hk, h 0 (by decide) (by decide), h 2 (by decide) (by decide), h 3 (by decide) (by decide)]
    simp only [Int32.add_assoc, Int32.add_comm, i_alc]
  · rw [hk, h 0 (by decide) (by decide), h 1 (by decide) (by decide), h 3 (by decide) (by decide)]
    simp only [Int32.add_assoc, Int32.add_comm, i_alc]
  · rw [hk, h 0 (by decide) (by decide), h 1 (by decide) (by decide), h 2 (by decide) (by decide)]
    simp only [Int32.add_assoc]
theorem three_1 {f g : Nat → Int32} {p : Nat} {v : Int32} (hp : p < 3) (h : ∀ q, q < 3 → q ≠ p → f (q * 4) = g (q * 4)) (hk : f (p * 4) = g (p * 4) + v) : f (0 * 4) + f (1 * 4) + f (2 * 4) = g (0 * 4) + g (1 * 4) + g (2 * 4) + v := by
  rcases (show p = 0 ∨ p = 1 ∨ p = 2 by omega) with rfl | rfl | rfl
  · rw [hk, h 1 (by decide) (by decide), h 2 (by decide) (by decide)]
    simp only [Int32.add_assoc, Int32.add_comm, i_alc]
  · rw [hk, h 0 (by decide) (by decide), h 2 (by decide) (by decide)]
    simp only [Int32.add_assoc, Int32.add_comm, i_alc]
  · rw [hk, h 0 (by decide) (by decide), h 1 (by decide) (by decide)]
    simp only [Int32.add_assoc]
/-- a change that leaves every tile where it is -/
def soft (S X : gS) : Prop := X 1 = S 1 ∧ X 3 = S 3 ∧ X 4 = S 4 ∧ (∀ u, u < 28 → X 0 (u * 7 + 2) = S 0 (u * 7 + 2) ∧ X 0 (u * 7 + 3) = S 0 (u * 7 + 3) ∧ X 0 (u * 7 + 5) = S 0 (u * 7 + 5) ∧ (S 0 (u * 7 + 2) = 0 → X 0 (u * 7 + 4) = S 0 (u * 7 + 4) ∧ X 0 (u * 7 + 6) = S 0 (u * 7 + 6))) ∧ (xr (S 0) (S 2) → xr (X 0) (X 2)) ∧ ∀ p, p < 4 → X 2 (p * 4) = S 2 (p * 4) ∧ X 2 (p * 4 + 2) = S 2 (p * 4 + 2) ∧ X 2 (p * 4 + 3) = S 2 (p * 4 + 3)
theorem soft.refl (S : gS) : soft S S := ⟨rfl, rfl, rfl, fun u _ => ⟨rfl, rfl, rfl, fun _ => ⟨rfl, rfl⟩⟩, id, fun p _ => ⟨rfl, rfl, rfl⟩⟩
theorem soft.trans {S X Y : gS} (a : soft S X) (b : soft X Y) : soft S Y := by
  obtain ⟨a1, a3, a4, a0, ar, a2⟩ := a
  obtain ⟨b1, b3, b4, b0, br, b2⟩ := b
  refine ⟨b1.trans a1, b3.trans a3, b4.trans a4, fun u hu => ?_, fun q => br (ar q), fun p hp => ?_⟩
  · obtain ⟨m1, m2, m3, m4⟩ := a0 u hu
    obtain ⟨n1, n2, n3, n4⟩ := b0 u hu
    exact ⟨n1.trans m1, n2.trans m2, n3.trans m3, fun q => ⟨(n4 (m1.trans q)).1.trans (m4 q).1, (n4 (m1.trans q)).2.trans (m4 q).2⟩⟩
  · obtain ⟨m1, m2, m3⟩ := a2 p hp
    obtain ⟨n1, n2, n3⟩ := b2 p hp
    exact ⟨n1.trans m1, n2.trans m2, n3.trans m3⟩
theorem xt.same {P : Nat} {f0 f1 g0 : Nat → Int32} {H : Nat → Nat} {u : Nat} (h : xt P f0 f1 H u) (h2 : g0 (u * 7 + 2) = f0 (u * 7 + 2)) (h3 : g0 (u * 7 + 3) = f0 (u * 7 + 3)) (h5 : g0 (u * 7 + 5) = f0 (u * 7 + 5)) (h4 : f0 (u * 7 + 2) = 0 → g0 (u * 7 + 4) = f0 (u * 7 + 4) ∧ g0 (u * 7 + 6) = f0 (u * 7 + 6)) : xt P g0 f1 H u := by
  unfold xt at h ⊢
  rw [h2, h3, h5]
  rcases h with h | h | h
  · rw [(h4 h.1).1, (h4 h.1).2]
    exact Or.inl h
  · exact Or.inr (Or.inl h)
  · exact Or.inr (Or.inr h)
theorem gY.soft {S X : gS} {P K : Nat} {H : Nat → Nat} (y : gY S P K H) (s : soft S X) : gY X P K H := by
  obtain ⟨a1, a3, a4, a0, ar, a2⟩ := s
  obtain ⟨y1, y2, y3, y4, y5⟩ := y
  refine ⟨fun t ht => ?_, fun p hp i hi t ht e => ?_, fun j hj t ht e => ?_, ar y4, ?_⟩
  · obtain ⟨m1, m2, m3, m4⟩ := a0 t ht
    rw [a1]
    exact (y1 t ht).same m1 m2 m3 m4
  · rw [a1] at e
    obtain ⟨m1, m2, -, -⟩ := a0 t ht
    rw [m1, m2]
    exact y2 p hp i hi t ht e
  · rw [a4] at e
    rw [(a0 t ht).1]
    exact y3 j hj t ht e
  · unfold xl at y5 ⊢
    rw [a3, show X 2 2 = S 2 2 from (a2 0 (by decide)).2.1, show X 2 6 = S 2 6 from (a2 1 (by decide)).2.1, show X 2 10 = S 2 10 from (a2 2 (by decide)).2.1, show X 2 14 = S 2 14 from (a2 3 (by decide)).2.1]
    exact y5
theorem xe.soft {S X : gS} {P : Nat} (hP : P ≤ 4) (e : xe P (S 2)) (s : soft S X) : xe P (X 2) := fun p hp => by
  obtain ⟨m1, m2, m3⟩ := s.2.2.2.2.2 p (by omega)
  rw [m1, m2, m3]
  exact e p hp
theorem soft.older {S : gS} {t : Nat} (ht : t < 28) (hw : S 0 (t * 7 + 2) ≠ 0) (v : Int32) : soft S (gu S 0 (upd (S 0) (t * 7 + 4) v)) := by
  refine ⟨rfl, rfl, rfl, fun u hu => ?_, fun q => ?_, fun p _ => ⟨rfl, rfl, rfl⟩⟩
  · rw [gu_s, upd_n (by omega), upd_n (by omega), upd_n (by omega)]
    refine ⟨rfl, rfl, rfl, fun q => ?_⟩
    have hne : u ≠ t := fun e => hw (by rw [← e]; exact q)
    rw [upd_n (by omega), upd_n (by omega)]
    exact ⟨rfl, rfl⟩
  · unfold xr at q ⊢
    rw [gu_s, show (gu S 0 (upd (S 0) (t * 7 + 4) v)) 2 = S 2 from rfl, ← q]
    exact lsum_eq (fun u _ => upd_n (by omega))
theorem soft.rust {S : gS} {t p : Nat} (ht : t < 28) (hp : p < 4) (hw : S 0 (t * 7 + 2) ≠ 0) : soft S (g_rust S (nI t) (nI p)) := by
  have key : ∀ w, w < 2 → soft S (gI (gI (gI S 0 (nI t) (nI w) (-1)) 0 (nI t) 6 1) 2 (nI p) 1 1) := by
    intro w hw2
    rw [inc0 ht (by omega), show gI (gu S 0 (upd (S 0) (t * 7 + w) (S 0 (t * 7 + w) + -1))) 0 (nI t) 6 1 = _ from inc0 (w := 6) ht (by decide), show ∀ X : gS, gI X 2 (nI p) 1 1 = _ from fun X => inc2 (S := X) (w := 1) (by omega) (by decide)]
    rw [gu_s]
    refine ⟨rfl, rfl, rfl, fun u hu => ?_, fun q => ?_, fun r _ => ?_⟩
    · rw [gu_n (show (0 : Nat) ≠ 2 by decide), gu_s]
      rw [upd_n (show u * 7 + 2 ≠ t * 7 + 6 by omega), upd_n (show u * 7 + 2 ≠ t * 7 + w by omega), upd_n (show u * 7 + 3 ≠ t * 7 + 6 by omega), upd_n (show u * 7 + 3 ≠ t * 7 + w by omega), upd_n (show u * 7 + 5 ≠ t * 7 + 6 by omega), upd_n (show u * 7 + 5 ≠ t * 7 + w by omega)]
      refine ⟨rfl, rfl, rfl, fun q => ?_⟩
      have hne : u ≠ t := fun e => hw (by rw [← e]; exact q)
      rw [upd_n (show u * 7 + 4 ≠ t * 7 + 6 by omega), upd_n (show u * 7 + 4 ≠ t * 7 + w by omega), upd_n (show u * 7 + 6 ≠ t * 7 + 6 by omega), upd_n (show u * 7 + 6 ≠ t * 7 + w by omega)]
      exact ⟨rfl, rfl⟩
    · unfold xr at q ⊢
      rw [gu_n (show (0 : Nat) ≠ 2 by decide), gu_s, gu_s]
      rw [gu_n (show (2 : Nat) ≠ 0 by decide), gu_n (show (2 : Nat) ≠ 0 by decide)]
      rw [upd_n (show t * 7 + 6 ≠ t * 7 + w by omega)]
      have e1 := lsum_1 (f := fun u => upd (upd (S 0) (t * 7 + w) (S 0 (t * 7 + w) + -1)) (t * 7 + 6) (S 0 (t * 7 + 6) + 1) (u * 7 + 6)) (g := fun u => S 0 (u * 7 + 6)) (k := t) (v := 1) (fun u hu => by
        show upd _ _ _ _ = _
        rw [upd_n (by omega), upd_n (by omega)]) (by show upd _ _ _ _ = _; rw [upd_s]) (n := 28) ht
      rw [e1, q]
      exact (four_1 (f := upd (S 2) (p * 4 + 1) (S 2 (p * 4 + 1) + 1)) (g := S 2) (w := 1) (v := 1) hp (fun r _ hr => upd_n (by omega)) upd_s).symm
    · rw [gu_s, gu_n (show (2 : Nat) ≠ 0 by decide), gu_n (show (2 : Nat) ≠ 0 by decide), upd_n (by omega), upd_n (by omega), upd_n (by omega)]
      exact ⟨rfl, rfl, rfl⟩
  unfold g_rust
  split
  · exact soft.refl S
  · by_cases c : tAt 7 196 (S 0) (nI t) 0 < tAt 7 196 (S 0) (nI t) 1
    · rw [show g_rustH S (nI t) = nI 1 by unfold g_rustH; rw [if_pos c]; rfl]
      exact key 1 (by decide)
    · rw [show g_rustH S (nI t) = nI 0 by unfold g_rustH; rw [if_neg c]; rfl]
      exact key 0 (by decide)
theorem soft.age1 {S : gS} {t p : Nat} (ht : t < 28) (hp : p < 4) (hw : S 0 (t * 7 + 2) ≠ 0) : soft S (g_age1 S (nI t) (nI p)) := by
  have e : gI S 0 (nI t) 4 1 = gu S 0 (upd (S 0) (t * 7 + 4) (S 0 (t * 7 + 4) + 1)) := inc0 (w := 4) ht (by decide)
  have s1 := soft.older ht hw (S 0 (t * 7 + 4) + 1)
  unfold g_age1
  rw [e]
  split
  · refine s1.trans (soft.rust ht hp ?_)
    rw [(s1.2.2.2.1 t ht).1]
    exact hw
  · exact s1
section IV
variable {n : Nat} {S : gS} {P K W Q T F : Nat} {H R L : Nat → Nat} {gr : Nat → Nat → Nat} {ag : Nat → Nat}
theorem gO.hand1 (o : gO n S P K W Q T F H R L gr ag) {p i : Nat} (hp : p < 4) (hi : i < H p) : ∃ t, t < 28 ∧ S 1 (p * 28 + i) = nI t := by
  have hK : K ≤ 28 := o.n5.1.2.2.1
  have hh := oh_le o.hh hp
  obtain ⟨t, ht, e⟩ := o.hand hp hi
  exact ⟨t, ht, by rw [at1 hp (by omega)] at e; exact e⟩
theorem soft.age (o : gO n S P K W Q T F H R L gr ag) (y : gY S P K H) {p : Nat} (hp : p < P) : ∀ i, i ≤ H p → soft S (g_age S (nI p) i) := by
  have hP : P ≤ 4 := o.n5.1.2.1
  have hK : K ≤ 28 := o.n5.1.2.2.1
  have hh := oh_le o.hh (show p < 4 by omega)
  intro i
  induction i with
  | zero => intro _; exact soft.refl S
  | succ i ih =>
    intro hi
    have s1 := ih (by omega)
    obtain ⟨t, ht, et⟩ := o.hand1 (p := p) (i := i) (by omega) (by omega)
    have eh : g_hand (g_age S (nI p) i) (nI p) (nI i) = nI t := by
      unfold g_hand
      rw [(age_1 (nI p) i).1, at1 (by omega) (by omega), et]
    show soft S (g_age1 (g_age S (nI p) i) (g_hand (g_age S (nI p) i) (nI p) (nI i)) (nI p))
    rw [eh]
    refine s1.trans (soft.age1 ht (by omega) ?_)
    rw [(s1.2.2.2.1 t ht).1, (y.2.1 p hp i (by omega) t ht et).1]
    decide
/-- a tile is taken from the stock -/
theorem gY.take (o : gO n S P K W Q T F H R L gr ag) (y : gY S P K H) (hK : K < 28) {p : Nat} (hp : p < P) : gY (g_take S (nI p)) P (K + 1) (fu H p (H p + 1)) ∧ ∀ q, q < 16 → q ≠ p * 4 → (g_take S (nI p)) 2 q = S 2 q := by
  have hP : P ≤ 4 := o.n5.1.2.1
  have hh := oh_le o.hh (show p < 4 by omega)
  obtain ⟨t, ht, e, eT⟩ := o.takeT hK (nI p)
  rw [take_raw (k := H p) (by omega) (by omega) ht (o.t2.1 p (by omega)).1 eT]
  obtain ⟨y1, y2, y3, y4, y5⟩ := y
  have hw0 : S 0 (t * 7 + 2) = 0 := (y3 K hK t ht e).mp (Nat.le_refl _)
  have hd : ∀ u, u ≠ t → ∀ w, w < 7 → upd (upd (S 0) (t * 7 + 2) 1) (t * 7 + 3) (nI p) (u * 7 + w) = S 0 (u * 7 + w) := fun u hu w hw => by rw [upd_n (by omega), upd_n (by omega)]
  have hold : ∀ q, q < 4 → ∀ i, i < H q → upd (S 1) (p * 28 + H p) (nI t) (q * 28 + i) = S 1 (q * 28 + i) := by
    intro q hq i hi
    have hq2 := oh_le o.hh hq
    refine upd_n ?_
    by_cases d : q = p
    · subst d; omega
    · omega
  refine ⟨⟨fun u hu => ?_, fun q hq i hi u hu eu => ?_, fun j hj u hu eu => ?_, ?_, ?_⟩, fun q hq hqp => upd_n hqp⟩
  · show xt P (upd (upd (S 0) (t * 7 + 2) 1) (t * 7 + 3) (nI p)) (upd (S 1) (p * 28 + H p) (nI t)) _ u
    by_cases c : u = t
    · subst c
      refine Or.inr (Or.inl ⟨by rw [upd_n (by omega), upd_s], ?_, p, hp, upd_s, H p, by rw [fu_s]; omega, upd_s⟩)
      rw [upd_n (by omega), upd_n (by omega)]
      rcases y1 u hu with q | q | q
      · exact q.2.2.2.1
      · exact q.2.1
      · exact absurd (hw0.symm.trans q.1) (by decide)
    · unfold xt
      rw [hd u c 2 (by decide), hd u c 3 (by decide), hd u c 4 (by decide), hd u c 5 (by decide), hd u c 6 (by decide)]
      rcases y1 u hu with q | ⟨q1, q2, r, hr, q3, i, hi, q4⟩ | q
      · exact Or.inl q
      · refine Or.inr (Or.inl ⟨q1, q2, r, hr, q3, i, ?_, ?_⟩)
        · by_cases d : r = p
          · subst d; rw [fu_s]; omega
          · rw [fu_n d]; exact hi
        · rw [hold r (by omega) i hi, q4]
      · exact Or.inr (Or.inr q)
  · have eu : upd (S 1) (p * 28 + H p) (nI t) (q * 28 + i) = nI u := eu
    show upd (upd (S 0) (t * 7 + 2) 1) (t * 7 + 3) (nI p) (u * 7 + 2) = 1 ∧ upd (upd (S 0) (t * 7 + 2) 1) (t * 7 + 3) (nI p) (u * 7 + 3) = nI q
    by_cases d : q = p ∧ i = H p
    · obtain ⟨rfl, rfl⟩ := d
      rw [upd_s] at eu
      have := nI_inj (by omega) (by omega) eu
      subst this
      exact ⟨by rw [upd_n (by omega), upd_s], upd_s⟩
    · have hi2 : i < H q := by
        by_cases d2 : q = p
        · subst d2; rw [fu_s] at hi; have : i ≠ H q := fun z => d ⟨rfl, z⟩; omega
        · rw [fu_n d2] at hi; exact hi
      rw [hold q (by omega) i hi2] at eu
      have h1 := y2 q hq i hi2 u hu eu
      have hne : u ≠ t := fun z => by subst z; rw [hw0] at h1; exact absurd h1.1 (by decide)
      rw [hd u hne 2 (by decide), hd u hne 3 (by decide)]
      exact h1
  · have eu : S 4 j = nI u := eu
    show K + 1 ≤ j ↔ upd (upd (S 0) (t * 7 + 2) 1) (t * 7 + 3) (nI p) (u * 7 + 2) = 0
    by_cases c : u = t
    · subst c
      have hj2 : j = K := by
        apply Classical.byContradiction
        intro z
        rcases Nat.lt_or_gt_of_ne z with z | z
        · exact o.t4.2 j K z hK (eu.trans e.symm)
        · exact o.t4.2 K j z hj (e.trans eu.symm)
      rw [upd_n (by omega), upd_s]
      constructor
      · intro z; omega
      · intro z; exact absurd z (by decide)
    · rw [hd u c 2 (by decide), ← y3 j hj u hu eu]
      have : j ≠ K := fun z => by subst z; exact c (nI_inj (by omega) (by omega) (eu.symm.trans e))
      omega
  · show l_sum (fun u => upd (upd (S 0) (t * 7 + 2) 1) (t * 7 + 3) (nI p) (u * 7 + 6)) 28 = upd (S 2) (p * 4) (nI (H p + 1)) 1 + upd (S 2) (p * 4) (nI (H p + 1)) 5 + upd (S 2) (p * 4) (nI (H p + 1)) 9 + upd (S 2) (p * 4) (nI (H p + 1)) 13
    rw [upd_n (by omega), upd_n (by omega), upd_n (by omega), upd_n (by omega)]
    refine Eq.trans (lsum_eq (fun u _ => ?_)) y4
    show upd _ _ _ _ = _
    rw [upd_n (by omega), upd_n (by omega)]
  · show upd (S 2) (p * 4) (nI (H p + 1)) 2 + upd (S 2) (p * 4) (nI (H p + 1)) 6 + upd (S 2) (p * 4) (nI (H p + 1)) 10 + upd (S 2) (p * 4) (nI (H p + 1)) 14 = _
    rw [upd_n (by omega), upd_n (by omega), upd_n (by omega), upd_n (by omega)]
    exact y5
/-- a tile leaves a hand and lies at a row, raw -/
theorem lay3_raw (o : gO n S P K W Q T F H R L gr ag) {q i r e : Nat} (hq : q < P) (hm : S 5 1 = nI q) (hi : i < H q) (hr : r < 3) (he : e < 2) : ∃ t, t < 28 ∧ S 1 (q * 28 + i) = nI t ∧ (g_lay3 S (nI i) (nI r) (nI e)) 5 = (gc S 4 0) 5 ∧ (g_lay3 S (nI i) (nI r) (nI e)) 4 = S 4 ∧ (g_lay3 S (nI i) (nI r) (nI e)) 2 = upd (upd (S 2) (q * 4) (nI (H q - 1))) (q * 4 + 2) (S 2 (q * 4 + 2) + 1) ∧ (g_lay3 S (nI i) (nI r) (nI e)) 0 = upd (upd (S 0) (t * 7 + 2) 2) (t * 7 + 5) (nI r) ∧ (∀ x, (g_lay3 S (nI i) (nI r) (nI e)) 1 x = if q * 28 + i ≤ x ∧ x < q * 28 + i + (H q - 1 - i) then S 1 (x + 1) else S 1 x) ∧ ∀ s, s < 3 → (g_lay3 S (nI i) (nI r) (nI e)) 3 (s * 4) = if s = r then S 3 (s * 4) + 1 else S 3 (s * 4) := by
  have hP : P ≤ 4 := o.n5.1.2.1
  have hP2 : 2 ≤ P := o.n5.1.1
  have hK : K ≤ 28 := o.n5.1.2.2.1
  have hh := oh_le o.hh (show q < 4 by omega)
  obtain ⟨t, ht, et⟩ := o.hand (p := q) (i := i) (by omega) hi
  have eT : g_layT S (nI i) = nI t := by
    show tAt 28 112 (S 1) (S 5 1) (nI i) = nI t
    rw [hm, et]
  have eHn : (g_held (gc S 4 0) (nI q) - 1).toNatClampNeg - i = H q - 1 - i := by
    rw [show g_held (gc S 4 0) (nI q) = nI (H q) from o.held (by omega), show nI (H q) - 1 = nI (H q - 1) from pk_sub (b := 1) (by omega), nI_clamp (by omega)]
  obtain ⟨c1, c2⟩ := th_raw (S := gc S 4 0) (p := q) (a := i) (by omega) (H q - 1 - i) (by omega)
  have e1 : g_lay1 S (nI i) = gI (g_th (gc S 4 0) (nI q) i (H q - 1 - i)) 2 (nI q) 0 (-1) := by
    unfold g_lay1 g_from
    rw [show (gc S 4 0) 5 1 = nI q from hm, nI_clamp (by omega), eHn]
  have e1' : g_lay1 S (nI i) = gu (g_th (gc S 4 0) (nI q) i (H q - 1 - i)) 2 (upd (S 2) (q * 4) (nI (H q - 1))) := by
    rw [e1, show ∀ X : gS, gI X 2 (nI q) 0 (-1) = _ from fun X => inc2 (S := X) (w := 0) (by omega) (by decide), c1 2 (by decide)]
    show gu _ 2 (upd (S 2) (q * 4) (S 2 (q * 4) + -1)) = _
    rw [(o.t2.1 q (by omega)).1, nI_dec (by omega)]
  have e2 : g_lay2 S (nI i) (nI r) = gu (g_lay1 S (nI i)) 0 (upd (upd (S 0) (t * 7 + 2) 2) (t * 7 + 5) (nI r)) := by
    unfold g_lay2
    rw [eT, show ∀ X : gS, gP X 0 (nI t) 2 2 = _ from fun X => put0 (S := X) (w := 2) ht (by decide), show ∀ X : gS, gP X 0 (nI t) 5 (nI r) = _ from fun X => put0 (S := X) (w := 5) ht (by decide)]
    have e0 : (g_lay1 S (nI i)) 0 = S 0 := by rw [e1', gu_n (by decide), c1 0 (by decide)]; rfl
    rw [e0]
    funext j
    by_cases c : j = 0
    · subst c; rw [gu_s, gu_s, gu_s]
    · rw [gu_n c, gu_n c, gu_n c]
  have e5 : (g_lay2 S (nI i) (nI r)) 5 1 = nI q := by
    rw [e2, gu_n (by decide), e1', gu_n (by decide), c1 5 (by decide)]
    exact hm
  have e3 : gI (g_lay2 S (nI i) (nI r)) 2 ((g_lay2 S (nI i) (nI r)) 5 1) 2 1 = gu (g_lay2 S (nI i) (nI r)) 2 (upd (upd (S 2) (q * 4) (nI (H q - 1))) (q * 4 + 2) (upd (S 2) (q * 4) (nI (H q - 1)) (q * 4 + 2) + 1)) := by
    rw [e5, show ∀ X : gS, gI X 2 (nI q) 2 1 = _ from fun X => inc2 (S := X) (w := 2) (by omega) (by decide), e2, gu_n (by decide), e1', gu_s]
  obtain ⟨p1, p2⟩ := putE_raw (t := t) hr he (gI (g_lay2 S (nI i) (nI r)) 2 ((g_lay2 S (nI i) (nI r)) 5 1) 2 1) (g_layT S (nI i))
  have f5 : (g_lay3 S (nI i) (nI r) (nI e)) 5 = (gc S 4 0) 5 := by
    show (g_putE _ _ _ _) 5 = _
    rw [p1 5 (by decide), e3, gu_n (by decide), e2, gu_n (by decide), e1', gu_n (by decide), c1 5 (by decide)]
  have f4 : (g_lay3 S (nI i) (nI r) (nI e)) 4 = S 4 := by
    show (g_putE _ _ _ _) 4 = _
    rw [p1 4 (by decide), e3, gu_n (by decide), e2, gu_n (by decide), e1', gu_n (by decide), c1 4 (by decide)]
    rfl
  have f2 : (g_lay3 S (nI i) (nI r) (nI e)) 2 = upd (upd (S 2) (q * 4) (nI (H q - 1))) (q * 4 + 2) (upd (S 2) (q * 4) (nI (H q - 1)) (q * 4 + 2) + 1) := by
    show (g_putE _ _ _ _) 2 = _
    rw [p1 2 (by decide), e3, gu_s]
  have f0 : (g_lay3 S (nI i) (nI r) (nI e)) 0 = upd (upd (S 0) (t * 7 + 2) 2) (t * 7 + 5) (nI r) := by
    show (g_putE _ _ _ _) 0 = _
    rw [p1 0 (by decide), e3, gu_n (by decide), e2, gu_s]
  have f1 : (g_lay3 S (nI i) (nI r) (nI e)) 1 = (g_th (gc S 4 0) (nI q) i (H q - 1 - i)) 1 := by
    show (g_putE _ _ _ _) 1 = _
    rw [p1 1 (by decide), e3, gu_n (by decide), e2, gu_n (by decide), e1', gu_n (by decide)]
  have f3 : ∀ s, s < 3 → (g_lay3 S (nI i) (nI r) (nI e)) 3 (s * 4) = if s = r then S 3 (s * 4) + 1 else S 3 (s * 4) := by
    intro s hs
    have h := p2 s hs
    have e33 : (gI (g_lay2 S (nI i) (nI r)) 2 ((g_lay2 S (nI i) (nI r)) 5 1) 2 1) 3 = S 3 := by
      rw [e3, gu_n (by decide), e2, gu_n (by decide), e1', gu_n (by decide), c1 3 (by decide)]
      rfl
    rw [e33] at h
    show (g_putE _ _ _ _) 3 (s * 4) = _
    exact h
  refine ⟨t, ht, by rw [at1 (by omega) (by omega)] at et; exact et, f5, f4, ?_, f0, fun x => by rw [f1]; exact c2 x, f3⟩
  rw [f2, upd_n (show q * 4 + 2 ≠ q * 4 by omega)]
/-- what lies where behind it -/
theorem gY.lay3 (o : gO n S P K W Q T F H R L gr ag) (y : gY S P K H) {q i r e : Nat} (hq : q < P) (hm : S 5 1 = nI q) (hi : i < H q) (hr : r < 3) (he : e < 2) : gY (g_lay3 S (nI i) (nI r) (nI e)) P K (fu H q (H q - 1)) ∧ (xe P (S 2) → xe P ((g_lay3 S (nI i) (nI r) (nI e)) 2)) := by
  have hP : P ≤ 4 := o.n5.1.2.1
  have hK : K ≤ 28 := o.n5.1.2.2.1
  have hh := oh_le o.hh (show q < 4 by omega)
  obtain ⟨t, ht, et, f5, f4, f2, f0, f1, f3⟩ := lay3_raw o hq hm hi hr he
  obtain ⟨y1, y2, y3, y4, y5⟩ := y
  have hw := y2 q hq i hi t ht et
  have hd : ∀ u, u ≠ t → ∀ w, w < 7 → upd (upd (S 0) (t * 7 + 2) 2) (t * 7 + 5) (nI r) (u * 7 + w) = S 0 (u * 7 + w) := fun u hu w hw => by rw [upd_n (by omega), upd_n (by omega)]
  refine ⟨⟨fun u hu => ?_, fun p hp x hx u hu eu => ?_, fun j hj u hu eu => ?_, ?_, ?_⟩, fun z p hp => ?_⟩
  · rw [f0]
    by_cases c : u = t
    · subst c
      exact Or.inr (Or.inr ⟨by rw [upd_n (by omega), upd_s], ⟨r, hr, upd_s⟩, q, hq, by rw [upd_n (by omega), upd_n (by omega)]; exact hw.2⟩)
    · unfold xt
      rw [hd u c 2 (by decide), hd u c 3 (by decide), hd u c 4 (by decide), hd u c 5 (by decide), hd u c 6 (by decide)]
      rcases y1 u hu with z | ⟨q1, q2, p, hp, q3, x, hx, q4⟩ | z
      · exact Or.inl z
      · have hp2 := oh_le o.hh (show p < 4 by omega)
        refine Or.inr (Or.inl ⟨q1, q2, p, hp, q3, ?_⟩)
        by_cases d : p = q
        · subst d
          have hxi : x ≠ i := fun z => by subst z; exact c (nI_inj (by omega) (by omega) (q4.symm.trans et))
          by_cases g : x < i
          · exact ⟨x, by rw [fu_s]; omega, by rw [f1, if_neg (by omega), q4]⟩
          · exact ⟨x - 1, by rw [fu_s]; omega, by rw [f1, if_pos (by omega), show p * 28 + (x - 1) + 1 = p * 28 + x by omega, q4]⟩
        · exact ⟨x, by rw [fu_n d]; exact hx, by rw [f1, if_neg (by omega), q4]⟩
      · exact Or.inr (Or.inr z)
  · rw [f0]
    rw [f1] at eu
    have hp2 := oh_le o.hh (show p < 4 by omega)
    have key : ∃ x2, x2 < H p ∧ (p = q → x2 ≠ i) ∧ S 1 (p * 28 + x2) = nI u := by
      by_cases d : p = q
      · subst d
        rw [fu_s] at hx
        by_cases g : i ≤ x
        · rw [if_pos (by omega)] at eu
          exact ⟨x + 1, by omega, fun _ => by omega, eu⟩
        · rw [if_neg (by omega)] at eu
          exact ⟨x, by omega, fun _ => by omega, eu⟩
      · rw [fu_n d] at hx
        rw [if_neg (by omega)] at eu
        exact ⟨x, hx, fun z => absurd z d, eu⟩
    obtain ⟨x2, hx2, hne, e2⟩ := key
    have h1 := y2 p hp x2 hx2 u hu e2
    have hut : u ≠ t := fun z => by
      subst z
      have hpq : p = q := nI_inj (by omega) (by omega) (h1.2.symm.trans hw.2)
      subst hpq
      have hn := hne rfl
      rcases Nat.lt_or_gt_of_ne hn with g | g
      · exact o.t1.2 p (by omega) x2 i g hi (e2.trans et.symm)
      · exact o.t1.2 p (by omega) i x2 g hx2 (et.trans e2.symm)
    rw [hd u hut 2 (by decide), hd u hut 3 (by decide)]
    exact h1
  · rw [f4] at eu
    rw [f0, y3 j hj u hu eu]
    by_cases c : u = t
    · subst c
      rw [upd_n (by omega), upd_s, hw.1]
      exact ⟨fun z => absurd z (by decide), fun z => absurd z (by decide)⟩
    · rw [hd u c 2 (by decide)]
  · rw [f0, f2]
    unfold xr at y4 ⊢
    rw [upd_n (by omega), upd_n (by omega), upd_n (by omega), upd_n (by omega), upd_n (by omega), upd_n (by omega), upd_n (by omega), upd_n (by omega)]
    refine Eq.trans (lsum_eq (fun u _ => ?_)) y4
    show upd _ _ _ _ = _
    rw [upd_n (by omega), upd_n (by omega)]
  · unfold xl at y5 ⊢
    have e2 := four_1 (f := (g_lay3 S (nI i) (nI r) (nI e)) 2) (g := S 2) (p := q) (w := 2) (v := 1) (by omega) (fun p hp hpq => by rw [f2, upd_n (by omega), upd_n (by omega)]) (by rw [f2, upd_s])
    have e3 := three_1 (f := (g_lay3 S (nI i) (nI r) (nI e)) 3) (g := S 3) (p := r) (v := 1) hr (fun s hs hsr => by rw [f3 s hs, if_neg hsr]) (by rw [f3 r hr, if_pos rfl])
    refine e2.trans (Eq.trans ?_ e3.symm)
    show S 2 2 + S 2 6 + S 2 10 + S 2 14 + 1 = S 3 0 + S 3 4 + S 3 8 + 1
    rw [y5]
  · have z1 := z p hp
    rw [f2, upd_n (show p * 4 ≠ q * 4 + 2 by omega), upd_n (show p * 4 + 3 ≠ q * 4 + 2 by omega), upd_n (show p * 4 + 3 ≠ q * 4 by omega)]
    by_cases d : p = q
    · subst d
      rw [upd_s, upd_s, ← z1, (o.t2.1 p (by omega)).1, ← nI_dec (show 1 ≤ H p by omega), Int32.add_comm (S 2 (p * 4 + 2)) 1, ← Int32.add_assoc, Int32.add_assoc (nI (H p)) (-1) 1, show (-1 : Int32) + 1 = 0 from rfl, Int32.add_zero]
    · rw [upd_n (show p * 4 ≠ q * 4 by omega), upd_n (show p * 4 + 2 ≠ q * 4 + 2 by omega), upd_n (show p * 4 + 2 ≠ q * 4 by omega)]
      exact z1
end IV
