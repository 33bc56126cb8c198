/-! THE MODEL BEGINS AS THE CLASS DOES -/
def pa_ (t : Nat) : Nat := [0, 0, 0, 0, 0, 0, 0, 1, 1, 1, 1, 1, 1, 2, 2, 2, 2, 2, 3, 3, 3, 3, 4, 4, 4, 5, 5, 6].getD t 0
def pb_ (t : Nat) : Nat := [0, 1, 2, 3, 4, 5, 6, 1, 2, 3, 4, 5, 6, 2, 3, 4, 5, 6, 3, 4, 5, 6, 4, 5, 6, 5, 6, 6].getD t 0
theorem pa_m : ∀ k, k < 49 → k / 7 ≤ k % 7 → pa_ (m_tc k) = k / 7 ∧ pb_ (m_tc k) = k % 7 := by decide +kernel
theorem pa_c : ∀ a, a < 7 → ∀ k, k < 7 - a → pa_ (tT a + k) = a ∧ pb_ (tT a + k) = a + k ∧ tT a + k < 28 := by decide +kernel
theorem pa_7 : ∀ t, t < 28 → pa_ t < 7 ∧ pb_ t < 7 := by decide +kernel
theorem pa_s : nsum (fun t => pa_ t + pb_ t) 28 = 168 := by decide +kernel
/-- a tile's seven properties at the beginning -/
def tv (x : Nat) : Int32 := if x % 7 = 0 then nI (pa_ (x / 7)) else if x % 7 = 1 then nI (pb_ (x / 7)) else if x % 7 = 3 then -1 else if x % 7 = 5 then -1 else 0
theorem t1_raw (X : gS) {t : Nat} (ht : t < 28) (A B : Int32) (x : Nat) : (m_t1 X (nI t) A B) 0 x = if x = t * 7 then A else if x = t * 7 + 1 then B else if x = t * 7 + 2 then 0 else if x = t * 7 + 3 then -1 else if x = t * 7 + 4 then 0 else if x = t * 7 + 5 then -1 else if x = t * 7 + 6 then 0 else X 0 x := by
  unfold m_t1
  rw [show ∀ Y : gS, gP Y 0 (nI t) 0 A = _ from fun Y => put0 (S := Y) (w := 0) ht (by decide), show ∀ Y : gS, gP Y 0 (nI t) 1 B = _ from fun Y => put0 (S := Y) (w := 1) ht (by decide), show ∀ Y : gS, gP Y 0 (nI t) 2 0 = _ from fun Y => put0 (S := Y) (w := 2) ht (by decide), show ∀ Y : gS, gP Y 0 (nI t) 3 (-1) = _ from fun Y => put0 (S := Y) (w := 3) ht (by decide), show ∀ Y : gS, gP Y 0 (nI t) 4 0 = _ from fun Y => put0 (S := Y) (w := 4) ht (by decide), show ∀ Y : gS, gP Y 0 (nI t) 5 (-1) = _ from fun Y => put0 (S := Y) (w := 5) ht (by decide), show ∀ Y : gS, gP Y 0 (nI t) 6 0 = _ from fun Y => put0 (S := Y) (w := 6) ht (by decide)]
  rw [gu_s, gu_s, gu_s, gu_s, gu_s, gu_s, gu_s]
  unfold upd
  by_cases c6 : x = t * 7 + 6
  · rw [if_pos c6, if_neg (by omega), if_neg (by omega), if_neg (by omega), if_neg (by omega), if_neg (by omega), if_neg (by omega), if_pos c6]
  · rw [if_neg c6]
    by_cases c5 : x = t * 7 + 5
    · rw [if_pos c5, if_neg (by omega), if_neg (by omega), if_neg (by omega), if_neg (by omega), if_neg (by omega), if_pos c5]
    · rw [if_neg c5]
      by_cases c4 : x = t * 7 + 4
      · rw [if_pos c4, if_neg (by omega), if_neg (by omega), if_neg (by omega), if_neg (by omega), if_pos c4]
      · rw [if_neg c4]
        by_cases c3 : x = t * 7 + 3
        · rw [if_pos c3, if_neg (by omega), if_neg (by omega), if_neg (by omega), if_pos c3]
        · rw [if_neg c3]
          by_cases c2 : x = t * 7 + 2
          · rw [if_pos c2, if_neg (by omega), if_neg (by omega), if_pos c2]
          · rw [if_neg c2]
            by_cases c1 : x = t * 7 + 1
            · rw [if_pos c1, if_neg (by omega), if_pos c1]
            · rw [if_neg c1, if_neg c1, if_neg c2, if_neg c3, if_neg c4, if_neg c5, if_neg c6]
              rfl
theorem g1_raw (X : gS) {t : Nat} (ht : t < 28) (A B : Int32) (x : Nat) : (g_mt1 X (nI t) A B) 0 x = if x = t * 7 then A else if x = t * 7 + 1 then B else if x = t * 7 + 2 then 0 else if x = t * 7 + 3 then -1 else if x = t * 7 + 5 then -1 else X 0 x := by
  unfold g_mt1
  rw [show ∀ Y : gS, gP Y 0 (nI t) 0 A = _ from fun Y => put0 (S := Y) (w := 0) ht (by decide), show ∀ Y : gS, gP Y 0 (nI t) 1 B = _ from fun Y => put0 (S := Y) (w := 1) ht (by decide), show ∀ Y : gS, gP Y 0 (nI t) 2 0 = _ from fun Y => put0 (S := Y) (w := 2) ht (by decide), show ∀ Y : gS, gP Y 0 (nI t) 3 (-1) = _ from fun Y => put0 (S := Y) (w := 3) ht (by decide), show ∀ Y : gS, gP Y 0 (nI t) 5 (-1) = _ from fun Y => put0 (S := Y) (w := 5) ht (by decide)]
  rw [gu_s, gu_s, gu_s, gu_s, gu_s]
  unfold upd
  by_cases c5 : x = t * 7 + 5
  · rw [if_pos c5, if_neg (by omega), if_neg (by omega), if_neg (by omega), if_neg (by omega), if_pos c5]
  · rw [if_neg c5]
    by_cases c3 : x = t * 7 + 3
    · rw [if_pos c3, if_neg (by omega), if_neg (by omega), if_neg (by omega), if_pos c3]
    · rw [if_neg c3]
      by_cases c2 : x = t * 7 + 2
      · rw [if_pos c2, if_neg (by omega), if_neg (by omega), if_pos c2]
      · rw [if_neg c2]
        by_cases c1 : x = t * 7 + 1
        · rw [if_pos c1, if_neg (by omega), if_pos c1]
        · rw [if_neg c1, if_neg c1, if_neg c2, if_neg c3, if_neg c5]
          rfl
theorem tv_at {t w : Nat} (hw : w < 7) : tv (t * 7 + w) = if w = 0 then nI (pa_ t) else if w = 1 then nI (pb_ t) else if w = 3 then -1 else if w = 5 then -1 else 0 := by
  unfold tv
  rw [show (t * 7 + w) % 7 = w by omega, show (t * 7 + w) / 7 = t by omega]
theorem tl_tab (S : gS) : ∀ k, k ≤ 49 → ∀ x, (m_tl S k) 0 x = if x < 7 * m_tc k then tv x else S 0 x := by
  intro k
  induction k with
  | zero => intro _ x; rw [if_neg (by show ¬ x < 7 * 0; omega)]; rfl
  | succ k ih =>
    intro hk x
    have ihx := ih (by omega) x
    by_cases c : k / 7 ≤ k % 7
    · have ht := tc_lt k (by omega) c
      obtain ⟨p1, p2⟩ := pa_m k (by omega) c
      have e1 : m_tl S (k + 1) = m_t1 (m_tl S k) (nI (m_tc k)) (nI (k / 7)) (nI (k % 7)) := if_pos c
      have e2 : m_tc (k + 1) = m_tc k + 1 := if_pos c
      rw [e1, e2, t1_raw _ ht, ihx]
      by_cases q : m_tc k * 7 ≤ x ∧ x < m_tc k * 7 + 7
      · obtain ⟨w, hw, rfl⟩ : ∃ w, w < 7 ∧ x = m_tc k * 7 + w := ⟨x - m_tc k * 7, by omega, by omega⟩
        rw [if_pos (show m_tc k * 7 + w < 7 * (m_tc k + 1) by omega), tv_at hw, p1, p2]
        rcases (show w = 0 ∨ w = 1 ∨ w = 2 ∨ w = 3 ∨ w = 4 ∨ w = 5 ∨ w = 6 by omega) with rfl | rfl | rfl | rfl | rfl | rfl | rfl
        · rw [if_pos (by omega), if_pos rfl]
        · rw [if_neg (by omega), if_pos rfl, if_neg (by decide), if_pos rfl]
        · rw [if_neg (by omega), if_neg (by omega), if_pos rfl]; rfl
        · rw [if_neg (by omega), if_neg (by omega), if_neg (by omega), if_pos rfl]; rfl
        · rw [if_neg (by omega), if_neg (by omega), if_neg (by omega), if_neg (by omega), if_pos rfl]; rfl
        · rw [if_neg (by omega), if_neg (by omega), if_neg (by omega), if_neg (by omega), if_neg (by omega), if_pos rfl]; rfl
        · rw [if_neg (by omega), if_neg (by omega), if_neg (by omega), if_neg (by omega), if_neg (by omega), if_neg (by omega), if_pos rfl]; rfl
      · rw [if_neg (by omega), if_neg (by omega), if_neg (by omega), if_neg (by omega), if_neg (by omega), if_neg (by omega), if_neg (by omega)]
        by_cases c2 : x < 7 * m_tc k
        · rw [if_pos c2, if_pos (by omega)]
        · rw [if_neg c2, if_neg (by omega)]
    · have e1 : m_tl S (k + 1) = m_tl S k := if_neg c
      have e2 : m_tc (k + 1) = m_tc k := if_neg c
      rw [e1, e2, ihx]
theorem mtI_tab (S X : gS) {a : Nat} (ha : a < 7) (hX : ∀ x, X 0 x = if x < 7 * tT a then tv x else if x < 196 then 0 else S 0 x) : ∀ k, k ≤ 7 - a → ∀ x, (g_mtI X a k) 0 x = if x < 7 * (tT a + k) then tv x else if x < 196 then 0 else S 0 x := by
  intro k
  induction k with
  | zero => intro _ x; exact hX x
  | succ k ih =>
    intro hk x
    have ihx := ih (by omega)
    obtain ⟨p1, p2, ht⟩ := pa_c a ha k (by omega)
    show (g_mt1 (g_mtI X a k) (nI (tT a + k)) (nI a) (nI (a + k))) 0 x = _
    rw [g1_raw _ ht, ihx]
    by_cases q : (tT a + k) * 7 ≤ x ∧ x < (tT a + k) * 7 + 7
    · obtain ⟨w, hw, rfl⟩ : ∃ w, w < 7 ∧ x = (tT a + k) * 7 + w := ⟨x - (tT a + k) * 7, by omega, by omega⟩
      rw [if_pos (show (tT a + k) * 7 + w < 7 * (tT a + (k + 1)) by omega), tv_at hw, p1, p2]
      rcases (show w = 0 ∨ w = 1 ∨ w = 2 ∨ w = 3 ∨ w = 4 ∨ w = 5 ∨ w = 6 by omega) with rfl | rfl | rfl | rfl | rfl | rfl | rfl
      · rw [if_pos (by omega), if_pos rfl]
      · rw [if_neg (by omega), if_pos rfl, if_neg (by decide), if_pos rfl]
      · rw [if_neg (by omega), if_neg (by omega), if_pos rfl]; rfl
      · rw [if_neg (by omega), if_neg (by omega), if_neg (by omega), if_pos rfl]; rfl
      · rw [if_neg (by omega), if_neg (by omega), if_neg (by omega), if_neg (by omega), if_neg (by omega), if_neg (by omega), if_pos (by omega)]; rfl
      · rw [if_neg (by omega), if_neg (by omega), if_neg (by omega), if_neg (by omega), if_pos rfl]; rfl
      · rw [if_neg (by omega), if_neg (by omega), if_neg (by omega), if_neg (by omega), if_neg (by omega), if_neg (by omega), if_pos (by omega)]; rfl
    · rw [if_neg (by omega), if_neg (by omega), if_neg (by omega), if_neg (by omega), if_neg (by omega)]
      by_cases c2 : x < 7 * (tT a + k)
      · rw [if_pos c2, if_pos (by omega)]
      · rw [if_neg c2, if_neg (show ¬ x < 7 * (tT a + (k + 1)) by omega)]
theorem mtO_tab (S : gS) : ∀ a, a ≤ 7 → ∀ x, (g_mtO S a) 0 x = if x < 7 * tT a then tv x else if x < 196 then 0 else S 0 x := by
  intro a
  induction a with
  | zero =>
    intro _ x
    show (gZ S 0) 0 x = _
    rw [if_neg (by show ¬ x < 7 * 0; omega)]
    rfl
  | succ a ih =>
    intro ha x
    exact mtI_tab S _ (by omega) (ih (by omega)) (7 - a) (Nat.le_refl _) x
theorem mtI_n (X : gS) (a : Nat) {j : Nat} (hj : j ≠ 0) : ∀ k, (g_mtI X a k) j = X j := by
  intro k
  induction k with
  | zero => rfl
  | succ k ih =>
    show (g_mt1 (g_mtI X a k) _ _ _) j = _
    unfold g_mt1
    rw [gP_n hj, gP_n hj, gP_n hj, gP_n hj, gP_n hj, ih]
theorem mtO_n (X : gS) {j : Nat} (hj : j ≠ 0) : ∀ a, (g_mtO X a) j = X j := by
  intro a
  induction a with
  | zero => exact gu_n hj
  | succ a ih => exact (mtI_n _ a hj _).trans ih
theorem mr_n (X : gS) {j : Nat} (hj : j ≠ 3) : ∀ i, (g_mr X i) j = X j := by
  intro i
  induction i with
  | zero => rfl
  | succ i ih =>
    show (g_mr1 (g_mr X i) _) j = _
    unfold g_mr1
    rw [gP_n hj, gP_n hj, gP_n hj, gP_n hj, ih]
theorem mr_3 {X Y : gS} (h : X 3 = Y 3) : ∀ i, (g_mr X i) 3 = (g_mr Y i) 3 := by
  intro i
  induction i with
  | zero => exact h
  | succ i ih =>
    show (g_mr1 (g_mr X i) _) 3 = (g_mr1 (g_mr Y i) _) 3
    unfold g_mr1
    rw [gP_s, gP_s, gP_s, gP_s, gP_s, gP_s, gP_s, gP_s, ih]
theorem mr_0 (X : gS) : ∀ i, i ≤ 3 → ∀ r, r < i → (g_mr X i) 3 (r * 4) = 0 := by
  intro i
  induction i with
  | zero => intro _ r hr; omega
  | succ i ih =>
    intro hi r hr
    show (g_mr1 (g_mr X i) (nI i)) 3 (r * 4) = 0
    unfold g_mr1
    rw [show ∀ Y : gS, gP Y 3 (nI i) 0 0 = _ from fun Y => put3 (S := Y) (w := 0) (by omega) (by decide), show ∀ Y : gS, gP Y 3 (nI i) 1 (-1) = _ from fun Y => put3 (S := Y) (w := 1) (by omega) (by decide), show ∀ Y : gS, gP Y 3 (nI i) 2 (-1) = _ from fun Y => put3 (S := Y) (w := 2) (by omega) (by decide), show ∀ Y : gS, gP Y 3 (nI i) 3 (-1) = _ from fun Y => put3 (S := Y) (w := 3) (by omega) (by decide)]
    rw [gu_s, gu_s, gu_s, gu_s, upd_n (by omega), upd_n (by omega), upd_n (by omega)]
    by_cases c : r = i
    · subst c; exact upd_s
    · rw [upd_n (by omega)]
      exact ih (by omega) r (by omega)
-- the class's game ahead of dealing
section BG
variable {n : Nat} {S : gS} {f5 Hf : Nat → Int32} {u : Nat} {x : Int32}
theorem s2_n (hx : ∃ k, k < 10000 ∧ x = nI k) (j : Nat) (h0 : j ≠ 0) (h1 : j ≠ 1) (h2 : j ≠ 2) (h3 : j ≠ 3) (h4 : j ≠ 4) (h5 : j ≠ 5) : (s_2 S (nI u) x) j = S j := by
  obtain ⟨-, -, -, q, -⟩ := ord2 (s_1 S (nI u)) hx
  unfold s_2
  rw [q j h4 h5]
  unfold s_1 s_0
  rw [mr_n _ h3, mtO_n _ h0, show ∀ X : gS, (gZ X 2) j = X j from fun X => gu_n h2, show ∀ X : gS, (gZ X 1) j = X j from fun X => gu_n h1, gc_n h5, gc_n h5, gc_n h5, gc_n h5, gc_n h5]
theorem s2_5 (hx : ∃ k, k < 10000 ∧ x = nI k) (k : Nat) : (s_2 S (nI u) x) 5 k = if k = 6 then m_lt x 28 else if k = 4 then 0 else if k = 3 then 0 else if k = 2 then 0 else if k = 1 then 0 else if k = 0 then nI u else S 5 k := by
  obtain ⟨-, -, -, -, q⟩ := ord2 (s_1 S (nI u)) hx
  unfold s_2
  rw [q k]
  unfold s_1 s_0
  rw [mr_n _ (by decide), mtO_n _ (by decide), show ∀ X : gS, (gZ X 2) 5 = X 5 from fun X => gu_n (by decide), show ∀ X : gS, (gZ X 1) 5 = X 5 from fun X => gu_n (by decide)]
  rfl
theorem s2_0 (hx : ∃ k, k < 10000 ∧ x = nI k) (y : Nat) : (s_2 S (nI u) x) 0 y = if y < 196 then tv y else S 0 y := by
  obtain ⟨-, -, -, q, -⟩ := ord2 (s_1 S (nI u)) hx
  unfold s_2
  rw [q 0 (by decide) (by decide)]
  unfold s_1 s_0
  rw [mr_n _ (by decide), mtO_tab _ 7 (Nat.le_refl _)]
  show (if y < 196 then tv y else if y < 196 then 0 else S 0 y) = _
  by_cases c : y < 196
  · rw [if_pos c, if_pos c]
  · rw [if_neg c, if_neg c, if_neg c]
theorem s2_2 (hx : ∃ k, k < 10000 ∧ x = nI k) (y : Nat) : (s_2 S (nI u) x) 2 y = if y < 16 then 0 else S 2 y := by
  obtain ⟨-, -, -, q, -⟩ := ord2 (s_1 S (nI u)) hx
  unfold s_2
  rw [q 2 (by decide) (by decide)]
  unfold s_1 s_0
  rw [mr_n _ (by decide), mtO_n _ (by decide)]
  rfl
theorem s2_3 (hx : ∃ k, k < 10000 ∧ x = nI k) : (s_2 S (nI u) x) 3 = (g_mr S 3) 3 := by
  obtain ⟨-, -, -, q, -⟩ := ord2 (s_1 S (nI u)) hx
  unfold s_2
  rw [q 3 (by decide) (by decide)]
  unfold s_1 s_0
  refine mr_3 ?_ 3
  rw [mtO_n _ (by decide)]
  rfl
theorem s2_4 (hx : ∃ k, k < 10000 ∧ x = nI k) : (s_2 S (nI u) x) 4 = (m_b1 f5 (gu S 1 Hf) u x) 4 ∧ o4 ((s_2 S (nI u) x) 4) := by
  rw [b1_4]
  unfold s_2
  refine order_eq f5 (s_1 S (nI u)) (gc (m_tl (gu S 1 Hf) 49) 6 (m_lt x 28)) hx ?_
  unfold s_1 s_0
  rw [mr_n _ (by decide), mtO_n _ (by decide), gc_n (by decide), tl_raw _ 49 4 (by decide)]
  rfl
/-- ahead of dealing: the model's game is the class's, but for rows and hands -/
theorem b1_eq (hx : ∃ k, k < 10000 ∧ x = nI k) : m_b1 f5 (gu S 1 Hf) u x = gu (gu (s_2 S (nI u) x) 3 (S 3)) 1 Hf := by
  have hb : ∀ j, j ≠ 2 → (m_b1 f5 (gu S 1 Hf) u x) j = (gc (gc (gc (gc (m_sh f5 (m_tl (gu S 1 Hf) 49) x) 0 (nI u)) 1 0) 4 0) 3 0) j := fun j hj => (zz_raw _ 4 (by decide)).1 j hj
  have hor : ∀ j, j ≠ 4 → (m_or (m_la x f5 28) (gc (m_tl (gu S 1 Hf) 49) 6 (m_lt x 28)) 28) j = (gc (m_tl (gu S 1 Hf) 49) 6 (m_lt x 28)) j := (or_raw _ _ 28 (Nat.le_refl _)).1
  have hb2 : ∀ j, j ≠ 2 → j ≠ 4 → j ≠ 5 → (m_b1 f5 (gu S 1 Hf) u x) j = (m_tl (gu S 1 Hf) 49) j := by
    intro j h2 h4 h5
    rw [hb j h2, gc_n h5, gc_n h5, gc_n h5, gc_n h5]
    unfold m_sh
    rw [gc_n h5, hor j h4, gc_n h5]
  funext j
  by_cases c1 : j = 1
  · subst c1
    rw [gu_s, hb2 1 (by decide) (by decide) (by decide), tl_raw _ 49 1 (by decide), gu_s]
  · rw [gu_n c1]
    by_cases c3 : j = 3
    · subst c3
      rw [gu_s, hb2 3 (by decide) (by decide) (by decide), tl_raw _ 49 3 (by decide), gu_n c1]
    · rw [gu_n c3]
      by_cases c4 : j = 4
      · subst c4; exact (s2_4 hx).1.symm
      · by_cases c2 : j = 2
        · subst c2
          funext y
          rw [s2_2 hx]
          have hz := (zz_raw (gc (gc (gc (gc (m_sh f5 (m_tl (gu S 1 Hf) 49) x) 0 (nI u)) 1 0) 4 0) 3 0) 4 (by decide)).2 y
          rw [show (m_b1 f5 (gu S 1 Hf) u x) 2 y = _ from hz, gc_n (by decide), gc_n (by decide), gc_n (by decide), gc_n (by decide)]
          unfold m_sh
          rw [gc_n (by decide), hor 2 (by decide), gc_n (by decide), tl_raw _ 49 2 (by decide)]
          rfl
        · by_cases c5 : j = 5
          · subst c5
            funext k
            rw [s2_5 hx, hb 5 (by decide)]
            show (if k = 3 then (0 : Int32) else if k = 4 then 0 else if k = 1 then 0 else if k = 0 then nI u else (m_sh f5 (m_tl (gu S 1 Hf) 49) x) 5 k) = _
            have e : (m_sh f5 (m_tl (gu S 1 Hf) 49) x) 5 k = if k = 2 then 0 else if k = 6 then m_lt x 28 else S 5 k := by
              unfold m_sh
              show (if k = 2 then (0 : Int32) else (m_or (m_la x f5 28) (gc (m_tl (gu S 1 Hf) 49) 6 (m_lt x 28)) 28) 5 k) = _
              rw [hor 5 (by decide)]
              show (if k = 2 then (0 : Int32) else if k = 6 then m_lt x 28 else (m_tl (gu S 1 Hf) 49) 5 k) = _
              rw [tl_raw _ 49 5 (by decide)]
              rfl
            rw [e]
            by_cases d0 : k = 0
            · subst d0; rfl
            · by_cases d1 : k = 1
              · subst d1; rfl
              · by_cases d2 : k = 2
                · subst d2; rfl
                · by_cases d3 : k = 3
                  · subst d3; rfl
                  · by_cases d4 : k = 4
                    · subst d4; rfl
                    · rw [if_neg d3, if_neg d4, if_neg d1, if_neg d0, if_neg d2]
                      by_cases d6 : k = 6
                      · rw [if_pos d6, if_pos d6]
                      · rw [if_neg d6, if_neg d6, if_neg d4, if_neg d3, if_neg d2, if_neg d1, if_neg d0]
          · by_cases c0 : j = 0
            · subst c0
              funext y
              rw [s2_0 hx, hb2 0 (by decide) (by decide) (by decide), tl_tab _ 49 (Nat.le_refl _)]
              rfl
            · rw [s2_n hx j c0 c1 c2 c3 c4 c5, hb2 j c2 c4 c5, tl_raw _ 49 j c0, gu_n c1]
/-- dealing, the class's two loops as one -/
theorem dO_dl (X : gS) : ∀ p, g_dO X p = m_dl X (5 * p) := by
  intro p
  induction p with
  | zero => rfl
  | succ p ih =>
    have key : ∀ i, i ≤ 5 → g_dI (g_dO X p) (nI p) i = m_dl X (5 * p + i) := by
      intro i
      induction i with
      | zero => intro _; exact ih
      | succ i ihi =>
        intro hi
        show g_take (g_dI (g_dO X p) (nI p) i) (nI p) = g_take (m_dl X (5 * p + i)) (nI ((5 * p + i) / 5))
        rw [ihi (by omega), show (5 * p + i) / 5 = p by omega]
    exact key 5 (Nat.le_refl _)
theorem gP_k {X : gS} {j k : Nat} {f : Nat → Int32} {a b v : Int32} (h : j ≠ k) : gP (gu X k f) j a b v = gu (gP X j a b v) k f := by
  unfold gP
  rw [gu_n h, gu_cm (fun e => h e.symm)]
theorem gI_k {X : gS} {j k : Nat} {f : Nat → Int32} {a b v : Int32} (h : j ≠ k) : gI (gu X k f) j a b v = gu (gI X j a b v) k f := by
  unfold gI
  rw [gu_n h, gu_cm (fun e => h e.symm)]
theorem gc_k {X : gS} {j k : Nat} {f : Nat → Int32} {v : Int32} (h : k ≠ 5) : gc (gu X k f) j v = gu (gc X j v) k f := by
  unfold gc
  rw [gu_n (fun e => h e.symm), gu_cm h]
theorem take_3 (X : gS) (R : Nat → Int32) (p : Int32) : g_take (gu X 3 R) p = gu (g_take X p) 3 R := by
  have eT : g_takeT (gu X 3 R) p = g_takeT X p := by
    unfold g_takeT
    rw [gu_n (by decide), gu_n (by decide)]
  have e3 : g_take3 (gu X 3 R) p = gu (g_take3 X p) 3 R := by
    unfold g_take3
    rw [eT, gu_n (show (5 : Nat) ≠ 3 by decide), gc_k (by decide), gP_k (by decide), gP_k (by decide)]
  have eh : g_held (gu (g_take3 X p) 3 R) p = g_held (g_take3 X p) p := by
    unfold g_held
    rw [gu_n (by decide)]
  unfold g_take
  rw [eT, e3, eh, gP_k (by decide), gI_k (by decide)]
theorem take_n3 (X : gS) (p : Int32) : (g_take X p) 3 = X 3 := by
  unfold g_take g_take3
  rw [gI_n (by decide), gP_n (by decide), gP_n (by decide), gP_n (by decide), gc_n (by decide)]
theorem dl_3 (X : gS) (R : Nat → Int32) : ∀ k, m_dl (gu X 3 R) k = gu (m_dl X k) 3 R ∧ (m_dl X k) 3 = X 3 := by
  intro k
  induction k with
  | zero => exact ⟨rfl, rfl⟩
  | succ k ih =>
    refine ⟨?_, ?_⟩
    · show g_take (m_dl (gu X 3 R) k) (nI (k / 5)) = _
      rw [ih.1, take_3]
      rfl
    · show (g_take (m_dl X k) (nI (k / 5))) 3 = _
      exact ((take_n3 _ _)).trans ih.2
def wf_ (n : Nat) (S : gS) : Prop := ∃ W F, 1 ≤ W ∧ W ≤ 9 ∧ F ≤ n ∧ S 5 5 = nI F ∧ S 5 7 = nI W
theorem gOk.wf (h : gOk n S) : wf_ n S := by
  obtain ⟨P, K, W, Q, T, F, H, R, L, gr, ag, o, t⟩ := h
  obtain ⟨k0, k1, k2, k3, k4, k5, k6⟩ := o.n5
  exact ⟨W, F, k0.2.2.2.1, k0.2.2.2.2.1, k0.2.2.2.2.2.2, k5, k6⟩
theorem s2_ok (hx : ∃ k, k < 10000 ∧ x = nI k) (h : wf_ n S) (hu2 : 2 ≤ u) (hu : u ≤ 4) : ∃ W F, gO n (s_2 S (nI u) x) u 0 W 0 0 F (fun _ => 0) (fun _ => 0) (fun _ => 0) (fun t w => if w = 0 then pa_ t else pb_ t) (fun _ => 0) := by
  obtain ⟨W, F, w1, w2, w3, k5, k6⟩ := h
  refine ⟨W, F, ⟨⟨hu2, hu, by omega, w1, w2, by omega, w3⟩, by rw [s2_5 hx]; rfl, by rw [s2_5 hx]; rfl, by rw [s2_5 hx]; rfl, by rw [s2_5 hx]; rfl, by rw [s2_5 hx]; exact k5, by rw [s2_5 hx]; exact k6⟩, Or.inr ⟨0, by omega, by rw [s2_5 hx]; rfl⟩, ⟨fun p hp => ?_, fun p hp hp4 => ?_⟩, fun r hr => ?_, (s2_4 hx (f5 := fun _ => 0) (Hf := fun _ => 0)).2, ⟨fun p hp i hi => absurd hi (Nat.not_lt_zero i), fun p hp i j hij hj => absurd hj (Nat.not_lt_zero j)⟩, fun t ht => ?_, ?_, rfl⟩
  · rw [s2_2 hx, s2_2 hx, if_pos (by omega), if_pos (by omega)]
    exact ⟨rfl, rfl⟩
  · rw [s2_2 hx, s2_2 hx, if_pos (by omega), if_pos (by omega)]
    exact ⟨rfl, rfl, rfl, rfl⟩
  · rw [s2_3 hx, mr_0 S 3 (Nat.le_refl _) r hr]
    rfl
  · obtain ⟨p1, p2⟩ := pa_7 t ht
    have e0 := tv_at (t := t) (w := 0) (by decide)
    have e1 := tv_at (t := t) (w := 1) (by decide)
    have e4 := tv_at (t := t) (w := 4) (by decide)
    rw [s2_0 hx, s2_0 hx, s2_0 hx, if_pos (by omega), if_pos (by omega), if_pos (by omega)]
    exact ⟨e0, e1, p1, p2, e4⟩
  · show nsum (fun t => (if 0 = 0 then pa_ t else pb_ t) + (if 1 = 0 then pa_ t else pb_ t)) 28 + (0 + 0 + 0 + 0) = 168
    exact pa_s
theorem deal_ok {X : gS} {W F : Nat} {gr : Nat → Nat → Nat} (o : gO n X u 0 W 0 0 F (fun _ => 0) (fun _ => 0) (fun _ => 0) gr (fun _ => 0)) (hu : u ≤ 4) (r : hR X Hf) : ∀ k, k ≤ 5 * u → (∃ H, gO n (m_dl X k) u k W 0 0 F H (fun _ => 0) (fun _ => 0) gr (fun _ => 0)) ∧ ∃ H2, m_dl (gu X 1 Hf) k = gu (m_dl X k) 1 H2 ∧ hR (m_dl X k) H2 := by
  intro k
  induction k with
  | zero => intro _; exact ⟨⟨_, o⟩, Hf, rfl, r⟩
  | succ k ih =>
    intro hk
    obtain ⟨⟨H, ok⟩, H2, e2, r2⟩ := ih (by omega)
    obtain ⟨H3, e3, r3⟩ := sw_take ok r2 (by omega) (p := k / 5) (by omega)
    refine ⟨⟨_, ok.take (by omega) (p := k / 5) (by omega)⟩, H3, ?_, r3⟩
    show g_take (m_dl (gu X 1 Hf) k) (nI (k / 5)) = gu (g_take (m_dl X k) (nI (k / 5))) 1 H3
    rw [e2, e3]
/-- the model begins as the class does -/
theorem begin_eq0 (hx : ∃ k, k < 10000 ∧ x = nI k) (h : wf_ n S) (hu2 : 2 ≤ u) (hu : u ≤ 4) : gOk n (s_3 S (nI u) x) ∧ ∃ H2, m_bg f5 (gu S 1 Hf) u x = gu (s_3 S (nI u) x) 1 H2 ∧ hR (s_3 S (nI u) x) H2 := by
  obtain ⟨W, F, o⟩ := s2_ok hx h hu2 hu
  have r0 : hR (s_2 S (nI u) x) Hf := fun p hp i hi => by rw [o.kk hp] at hi; exact absurd hi (Nat.not_lt_zero i)
  obtain ⟨⟨H, ok⟩, H2, e2, r2⟩ := deal_ok o hu r0 (5 * u) (Nat.le_refl _)
  have e3 : (s_3 S (nI u) x) = m_dl (s_2 S (nI u) x) (5 * u) := by
    have e50 : (s_2 S (nI u) x) 5 0 = nI u := by
      rw [s2_5 hx, if_neg (by decide), if_neg (by decide), if_neg (by decide), if_neg (by decide), if_neg (by decide), if_pos rfl]
    unfold s_3
    rw [e50, nI_clamp (by omega)]
    exact dO_dl _ u
  rw [e3]
  refine ⟨⟨u, 5 * u, W, 0, 0, F, H, _, _, _, _, ok, Nat.zero_le _, fun _ _ => Nat.le_refl 0, Or.inr (by omega)⟩, H2, ?_, r2⟩
  unfold m_bg
  rw [b1_eq hx, gu_cm (by decide), (dl_3 _ _ _).1, e2]
  have e3r : (m_dl (s_2 S (nI u) x) (5 * u)) 3 = (g_mr S 3) 3 := ((dl_3 (s_2 S (nI u) x) (fun _ => 0) (5 * u)).2).trans (s2_3 hx)
  funext j
  by_cases c : j = 3
  · subst c
    rw [gu_n (by decide), e3r]
    exact mr_3 gu_s 3
  · rw [mr_n _ c, gu_n c]
theorem begin_eq (hx : ∃ k, k < 10000 ∧ x = nI k) (h : gOk n S) (hu2 : 2 ≤ u) (hu : u ≤ 4) : gOk n (s_3 S (nI u) x) ∧ ∃ H2, m_bg f5 (gu S 1 Hf) u x = gu (s_3 S (nI u) x) 1 H2 ∧ hR (s_3 S (nI u) x) H2 := begin_eq0 hx h.wf hu2 hu
end BG
