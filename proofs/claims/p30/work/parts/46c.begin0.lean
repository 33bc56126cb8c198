/-! THE MODEL BEGINS AS THE CLASS DOES -/
def pa_ (t : Nat) : Nat := [0, 0, 0, 0, 0, 0, 0, 1, 1, 1, 1, 1, 1, 2, 2, 2, 2, 2, 3, 3, 3, 3, 4, 4, 4, 5, 5, 6].getD t 0
def pb_ (t : Nat) : Nat := [0, 1, 2, 3, 4, 5, 6, 1, 2, 3, 4, 5, 6, 2, 3, 4, 5, 6, 3, 4, 5, 6, 4, 5, 6, 5, 6, 6].getD t 0
theorem pa_c : ∀ a, a < 7 → ∀ k, k < 7 - a → pa_ (tT a + k) = a ∧ pb_ (tT a + k) = a + k ∧ tT a + k < 28 := by decide +kernel
theorem pa_7 : ∀ t, t < 28 → pa_ t < 7 ∧ pb_ t < 7 := by decide +kernel
theorem pa_s : nsum (fun t => pa_ t + pb_ t) 28 = 168 := by decide +kernel
/-- a tile's seven properties at the beginning -/
def tv (x : Nat) : Int32 := if x % 7 = 0 then nI (pa_ (x / 7)) else if x % 7 = 1 then nI (pb_ (x / 7)) else if x % 7 = 3 then -1 else if x % 7 = 5 then -1 else 0
theorem g1_raw (X : gS) {t : Nat} (ht : t < 28) (A B : Int32) (x : Nat) : (g_mt1 X (nI t) A B) 0 x = if x = t * 7 then A else if x = t * 7 + 1 then B else if x = t * 7 + 2 then 0 else if x = t * 7 + 3 then -1 else if x = t * 7 + 5 then -1 else X 0 x := by
  unfold g_mt1
  rw [show ∀ Y : gS, gP Y 0 (nI t) 0 A = _ from fun Y => put0 (S := Y) (w := 0) ht (by decide), show ∀ Y : gS, gP Y 0 (nI t) 1 B = _ from fun Y => put0 (S := Y) (w := 1) ht (by decide), show ∀ Y : gS, gP Y 0 (nI t) 2 0 = _ from fun Y => put0 (S := Y) (w := 2) ht (by decide), show ∀ Y : gS, gP Y 0 (nI t) 3 (-1) = _ from fun Y => put0 (S := Y) (w := 3) ht (by decide), show ∀ Y : gS, gP Y 0 (nI t) 5 (-1) = _ from fun Y => put0 (S := Y) (w := 5) ht (by decide)]
  rw [gu_s, gu_s, gu_s, gu_s, gu_s]
  unfold upd
  by_cases c5 : x = t * 7 + 5
  · rw [if_pos c5, if_neg (by omega), if_neg (by omega), if_neg (by omega), if_neg (by omega), if_pos c5]
  · rw [if_neg c5]
    by_cases c3 : x = t * 7 + 3
    · rw [if_pos c3, if_neg (by omega), if_neg (by omega), if_neg (by omega), if_pos c3]
    · rw [if_neg c3]
      by_cases c2 : x = t * 7 + 2
      · rw [if_pos c2, if_neg (by omega), if_neg (by omega), if_pos c2]
      · rw [if_neg c2]
        by_cases c1 : x = t * 7 + 1
        · rw [if_pos c1, if_neg (by omega), if_pos c1]
        · rw [if_neg c1, if_neg c1, if_neg c2, if_neg c3, if_neg c5]
          rfl
theorem tv_at {t w : Nat} (hw : w < 7) : tv (t * 7 + w) = if w = 0 then nI (pa_ t) else if w = 1 then nI (pb_ t) else if w = 3 then -1 else if w = 5 then -1 else 0 := by
  unfold tv
  rw [show (t * 7 + w) % 7 = w by omega, show (t * 7 + w) / 7 = t by omega]
theorem mtI_tab (S X : gS) {a : Nat} (ha : a < 7) (hX : ∀ x, X 0 x = if x < 7 * tT a then tv x else if x < 196 then 0 else S 0 x) : ∀ k, k ≤ 7 - a → ∀ x, (g_mtI X a k) 0 x = if x < 7 * (tT a + k) then tv x else if x < 196 then 0 else S 0 x := by
  intro k
  induction k with
  | zero => intro _ x; exact hX x
  | succ k ih =>
    intro hk x
    have ihx := ih (by omega)
    obtain ⟨p1, p2, ht⟩ := pa_c a ha k (by omega)
    show (g_mt1 (g_mtI X a k) (nI (tT a + k)) (nI a) (nI (a + k))) 0 x = _
    rw [g1_raw _ ht, ihx]
    by_cases q : (tT a + k) * 7 ≤ x ∧ x < (tT a + k) * 7 + 7
    · obtain ⟨w, hw, rfl⟩ : ∃ w, w < 7 ∧ x = (tT a + k) * 7 + w := ⟨x - (tT a + k) * 7, by omega, by omega⟩
      rw [if_pos (show (tT a + k) * 7 + w < 7 * (tT a + (k + 1)) by omega), tv_at hw, p1, p2]
      rcases (show w = 0 ∨ w = 1 ∨ w = 2 ∨ w = 3 ∨ w = 4 ∨ w = 5 ∨ w = 6 by omega) with rfl | rfl | rfl | rfl | rfl | rfl | rfl
      · rw [if_pos (by omega), if_pos rfl]
      · rw [if_neg (by omega), if_pos rfl, if_neg (by decide), if_pos rfl]
      · rw [if_neg (by omega), if_neg (by omega), if_pos rfl]; rfl
      · rw [if_neg (by omega), if_neg (by omega), if_neg (by omega), if_pos rfl]; rfl
      · rw [if_neg (by omega), if_neg (by omega), if_neg (by omega), if_neg (by omega), if_neg (by omega), if_neg (by omega), if_pos (by omega)]; rfl
      · rw [if_neg (by omega), if_neg (by omega), if_neg (by omega), if_neg (by omega), if_pos rfl]; rfl
      · rw [if_neg (by omega), if_neg (by omega), if_neg (by omega), if_neg (by omega), if_neg (by omega), if_neg (by omega), if_pos (by omega)]; rfl
    · rw [if_neg (by omega), if_neg (by omega), if_neg (by omega), if_neg (by omega), if_neg (by omega)]
      by_cases c2 : x < 7 * (tT a + k)
      · rw [if_pos c2, if_pos (by omega)]
      · rw [if_neg c2, if_neg (show ¬ x < 7 * (tT a + (k + 1)) by omega)]
theorem mtO_tab (S : gS) : ∀ a, a ≤ 7 → ∀ x, (g_mtO S a) 0 x = if x < 7 * tT a then tv x else if x < 196 then 0 else S 0 x := by
  intro a
  induction a with
  | zero =>
    intro _ x
    show (gZ S 0) 0 x = _
    rw [if_neg (by show ¬ x < 7 * 0; omega)]
    rfl
  | succ a ih =>
    intro ha x
    exact mtI_tab S _ (by omega) (ih (by omega)) (7 - a) (Nat.le_refl _) x
theorem mtI_n (X : gS) (a : Nat) {j : Nat} (hj : j ≠ 0) : ∀ k, (g_mtI X a k) j = X j := by
  intro k
  induction k with
  | zero => rfl
  | succ k ih =>
    show (g_mt1 (g_mtI X a k) _ _ _) j = _
    unfold g_mt1
    rw [gP_n hj, gP_n hj, gP_n hj, gP_n hj, gP_n hj, ih]
theorem mtO_n (X : gS) {j : Nat} (hj : j ≠ 0) : ∀ a, (g_mtO X a) j = X j := by
  intro a
  induction a with
  | zero => exact gu_n hj
  | succ a ih => exact (mtI_n _ a hj _).trans ih
theorem mr_n (X : gS) {j : Nat} (hj : j ≠ 3) : ∀ i, (g_mr X i) j = X j := by
  intro i
  induction i with
  | zero => rfl
  | succ i ih =>
    show (g_mr1 (g_mr X i) _) j = _
    unfold g_mr1
    rw [gP_n hj, gP_n hj, gP_n hj, gP_n hj, ih]
theorem mr_3 {X Y : gS} (h : X 3 = Y 3) : ∀ i, (g_mr X i) 3 = (g_mr Y i) 3 := by
  intro i
  induction i with
  | zero => exact h
  | succ i ih =>
    show (g_mr1 (g_mr X i) _) 3 = (g_mr1 (g_mr Y i) _) 3
    unfold g_mr1
    rw [gP_s, gP_s, gP_s, gP_s, gP_s, gP_s, gP_s, gP_s, ih]
theorem mr_0 (X : gS) : ∀ i, i ≤ 3 → ∀ r, r < i → (g_mr X i) 3 (r * 4) = 0 := by
  intro i
  induction i with
  | zero => intro _ r hr; omega
  | succ i ih =>
    intro hi r hr
    show (g_mr1 (g_mr X i) (nI i)) 3 (r * 4) = 0
    unfold g_mr1
    rw [show ∀ Y : gS, gP Y 3 (nI i) 0 0 = _ from fun Y => put3 (S := Y) (w := 0) (by omega) (by decide), show ∀ Y : gS, gP Y 3 (nI i) 1 (-1) = _ from fun Y => put3 (S := Y) (w := 1) (by omega) (by decide), show ∀ Y : gS, gP Y 3 (nI i) 2 (-1) = _ from fun Y => put3 (S := Y) (w := 2) (by omega) (by decide), show ∀ Y : gS, gP Y 3 (nI i) 3 (-1) = _ from fun Y => put3 (S := Y) (w := 3) (by omega) (by decide)]
    rw [gu_s, gu_s, gu_s, gu_s, upd_n (by omega), upd_n (by omega), upd_n (by omega)]
    by_cases c : r = i
    · subst c; exact upd_s
    · rw [upd_n (by omega)]
      exact ih (by omega) r (by omega)
-- the class's game ahead of dealing
section BG
variable {n : Nat} {S : gS} {f5 Hf : Nat → Int32} {u : Nat} {x : Int32}
theorem s2_n (hx : ∃ k, k < 10000 ∧ x = nI k) (j : Nat) (h0 : j ≠ 0) (h1 : j ≠ 1) (h2 : j ≠ 2) (h3 : j ≠ 3) (h4 : j ≠ 4) (h5 : j ≠ 5) : (s_2 S (nI u) x) j = S j := by
  obtain ⟨-, -, -, q, -⟩ := ord2 (s_1 S (nI u)) hx
  unfold s_2
  rw [q j h4 h5]
  unfold s_1 s_0
  rw [mr_n _ h3, mtO_n _ h0, show ∀ X : gS, (gZ X 2) j = X j from fun X => gu_n h2, show ∀ X : gS, (gZ X 1) j = X j from fun X => gu_n h1, gc_n h5, gc_n h5, gc_n h5, gc_n h5, gc_n h5]
theorem s2_5 (hx : ∃ k, k < 10000 ∧ x = nI k) (k : Nat) : (s_2 S (nI u) x) 5 k = if k = 6 then m_lt x 28 else if k = 4 then 0 else if k = 3 then 0 else if k = 2 then 0 else if k = 1 then 0 else if k = 0 then nI u else S 5 k := by
  obtain ⟨-, -, -, -, q⟩ := ord2 (s_1 S (nI u)) hx
  unfold s_2
  rw [q k]
  unfold s_1 s_0
  rw [mr_n _ (by decide), mtO_n _ (by decide), show ∀ X : gS, (gZ X 2) 5 = X 5 from fun X => gu_n (by decide), show ∀ X : gS, (gZ X 1) 5 = X 5 from fun X => gu_n (by decide)]
  rfl
theorem s2_0 (hx : ∃ k, k < 10000 ∧ x = nI k) (y : Nat) : (s_2 S (nI u) x) 0 y = if y < 196 then tv y else S 0 y := by
  obtain ⟨-, -, -, q, -⟩ := ord2 (s_1 S (nI u)) hx
  unfold s_2
  rw [q 0 (by decide) (by decide)]
  unfold s_1 s_0
  rw [mr_n _ (by decide), mtO_tab _ 7 (Nat.le_refl _)]
  show (if y < 196 then tv y else if y < 196 then 0 else S 0 y) = _
  by_cases c : y < 196
  · rw [if_pos c, if_pos c]
  · rw [if_neg c, if_neg c, if_neg c]
theorem s2_2 (hx : ∃ k, k < 10000 ∧ x = nI k) (y : Nat) : (s_2 S (nI u) x) 2 y = if y < 16 then 0 else S 2 y := by
  obtain ⟨-, -, -, q, -⟩ := ord2 (s_1 S (nI u)) hx
  unfold s_2
  rw [q 2 (by decide) (by decide)]
  unfold s_1 s_0
  rw [mr_n _ (by decide), mtO_n _ (by decide)]
  rfl
theorem s2_3 (hx : ∃ k, k < 10000 ∧ x = nI k) : (s_2 S (nI u) x) 3 = (g_mr S 3) 3 := by
  obtain ⟨-, -, -, q, -⟩ := ord2 (s_1 S (nI u)) hx
  unfold s_2
  rw [q 3 (by decide) (by decide)]
  unfold s_1 s_0
  refine mr_3 ?_ 3
  rw [mtO_n _ (by decide)]
  rfl
/-- dealing, the class's two loops as one -/
theorem dO_dl (X : gS) : ∀ p, g_dO X p = m_dl X (5 * p) := by
  intro p
  induction p with
  | zero => rfl
  | succ p ih =>
    have key : ∀ i, i ≤ 5 → g_dI (g_dO X p) (nI p) i = m_dl X (5 * p + i) := by
      intro i
      induction i with
      | zero => intro _; exact ih
      | succ i ihi =>
        intro hi
        show g_take (g_dI (g_dO X p) (nI p) i) (nI p) = g_take (m_dl X (5 * p + i)) (nI ((5 * p + i) / 5))
        rw [ihi (by omega), show (5 * p + i) / 5 = p by omega]
    exact key 5 (Nat.le_refl _)
theorem gP_k {X : gS} {j k : Nat} {f : Nat → Int32} {a b v : Int32} (h : j ≠ k) : gP (gu X k f) j a b v = gu (gP X j a b v) k f := by
  unfold gP
  rw [gu_n h, gu_cm (fun e => h e.symm)]
theorem gI_k {X : gS} {j k : Nat} {f : Nat → Int32} {a b v : Int32} (h : j ≠ k) : gI (gu X k f) j a b v = gu (gI X j a b v) k f := by
  unfold gI
  rw [gu_n h, gu_cm (fun e => h e.symm)]
theorem gc_k {X : gS} {j k : Nat} {f : Nat → Int32} {v : Int32} (h : k ≠ 5) : gc (gu X k f) j v = gu (gc X j v) k f := by
  unfold gc
  rw [gu_n (fun e => h e.symm), gu_cm h]
theorem take_3 (X : gS) (R : Nat → Int32) (p : Int32) : g_take (gu X 3 R) p = gu (g_take X p) 3 R := by
  have eT : g_takeT (gu X 3 R) p = g_takeT X p := by
    unfold g_takeT
    rw [gu_n (by decide), gu_n (by decide)]
  have e3 : g_take3 (gu X 3 R) p = gu (g_take3 X p) 3 R := by
    unfold g_take3
    rw [eT, gu_n (show (5 : Nat) ≠ 3 by decide), gc_k (by decide), gP_k (by decide), gP_k (by decide)]
  have eh : g_held (gu (g_take3 X p) 3 R) p = g_held (g_take3 X p) p := by
    unfold g_held
    rw [gu_n (by decide)]
  unfold g_take
  rw [eT, e3, eh, gP_k (by decide), gI_k (by decide)]
theorem take_n3 (X : gS) (p : Int32) : (g_take X p) 3 = X 3 := by
  unfold g_take g_take3
  rw [gI_n (by decide), gP_n (by decide), gP_n (by decide), gP_n (by decide), gc_n (by decide)]
theorem dl_3 (X : gS) (R : Nat → Int32) : ∀ k, m_dl (gu X 3 R) k = gu (m_dl X k) 3 R ∧ (m_dl X k) 3 = X 3 := by
  intro k
  induction k with
  | zero => exact ⟨rfl, rfl⟩
  | succ k ih =>
    refine ⟨?_, ?_⟩
    · show g_take (m_dl (gu X 3 R) k) (nI (k / 5)) = _
      rw [ih.1, take_3]
      rfl
    · show (g_take (m_dl X k) (nI (k / 5))) 3 = _
      exact ((take_n3 _ _)).trans ih.2
def wf_ (n : Nat) (S : gS) : Prop := ∃ W F, 1 ≤ W ∧ W ≤ 9 ∧ F ≤ n ∧ S 5 5 = nI F ∧ S 5 7 = nI W
theorem gOk.wf (h : gOk n S) : wf_ n S := by
  obtain ⟨P, K, W, Q, T, F, H, R, L, gr, ag, o, t⟩ := h
  obtain ⟨k0, k1, k2, k3, k4, k5, k6⟩ := o.n5
  exact ⟨W, F, k0.2.2.2.1, k0.2.2.2.2.1, k0.2.2.2.2.2.2, k5, k6⟩
end BG
