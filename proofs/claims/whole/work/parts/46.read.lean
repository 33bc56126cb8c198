/-! READING BY TURNS IS THE CLASS'S AUTOMATON -/
section RD
variable {f : Nat → Int32} {n : Nat}
theorem min_1 {c : Int32} {k : Nat} (hk : k < 2147483647) : m_in c (nI k) (nI k) = true ↔ c = nI k := by
  constructor
  · intro h
    obtain ⟨j, h1, h2, e⟩ := m_in_nat hk h (Nat.le_refl _)
    rw [e, show j = k by omega]
  · intro h
    subst h
    unfold m_in
    rw [decide_eq_true (Int32.le_refl _)]
    rfl
theorem min_f {c a b : Int32} (h : m_in c a b = false) : c < a ∨ b < c := by
  unfold m_in at h
  by_cases q : a ≤ c
  · rw [decide_eq_true q, Bool.true_and] at h
    exact Or.inr (Int32.not_le.mp (of_decide_eq_false h))
  · exact Or.inl (Int32.not_le.mp q)
theorem lt_nlt {a b c : Int32} (h : a < b) (h2 : b ≤ c) : ¬ c < a := by
  rw [Int32.lt_iff_toInt_lt] at h ⊢
  rw [Int32.le_iff_toInt_le] at h2
  omega
theorem row_f {c : Int32} (h : m_in c 97 99 = false) : x_row c = -1 := by
  unfold x_row
  rcases min_f h with q | q
  · rw [if_pos q]
  · by_cases z : c < 97
    · rw [if_pos z]
    · rw [if_neg z, if_pos q]
theorem row_t {c : Int32} (h : m_in c 97 99 = true) : x_row c = 5 := by
  obtain ⟨j, h1, h2, e⟩ := m_in_nat (a := 97) (b := 99) (by decide) h (by decide)
  subst e
  rcases (show j = 97 ∨ j = 98 ∨ j = 99 by omega) with rfl | rfl | rfl <;> decide
theorem dig_f {c : Int32} (h : m_in c 48 57 = false) : x_dig c = -1 := by
  unfold x_dig
  rcases min_f h with q | q
  · have n1 : c ≠ 49 := fun z => by subst z; exact absurd q (by decide)
    have n2 : c ≠ 50 := fun z => by subst z; exact absurd q (by decide)
    rw [if_neg n1, if_neg n2, if_pos q]
  · have n1 : c ≠ 49 := fun z => by subst z; exact absurd q (by decide)
    have n2 : c ≠ 50 := fun z => by subst z; exact absurd q (by decide)
    rw [if_neg n1, if_neg n2]
    by_cases z : c < 48
    · rw [if_pos z]
    · rw [if_neg z, if_pos q]
theorem dig_t : ∀ k, k < 58 → 48 ≤ k → x_dig (nI k) = 2 ∨ x_dig (nI k) = 3 ∨ x_dig (nI k) = 4 := by decide +kernel
theorem dig_2 : ∀ k, k < 58 → 48 ≤ k → ∀ j, j < 58 → 48 ≤ j → if (decide (0 < nI k - 48) && decide (10 * (nI k - 48) + nI j - 48 < 28)) = true then x_exp (x_dig (nI k)) (nI j) = 4 else x_exp (x_dig (nI k)) (nI j) = x_row (nI j) := by decide +kernel
theorem dig_x {e c : Int32} (he : e = 2 ∨ e = 3 ∨ e = 4) (h : m_in c 48 57 = false) : x_exp e c = x_row c := by
  rcases he with rfl | rfl | rfl
  · show (if c < 48 then x_row c else if 57 < c then x_row c else 4) = _
    rcases min_f h with q | q
    · rw [if_pos q]
    · by_cases z : c < 48
      · rw [if_pos z]
      · rw [if_neg z, if_pos q]
  · show (if c < 48 then x_row c else if 55 < c then x_row c else 4) = _
    rcases min_f h with q | q
    · rw [if_pos q]
    · by_cases z : c < 48
      · rw [if_pos z]
      · rw [if_neg z, if_pos (by rw [Int32.lt_iff_toInt_lt] at q ⊢; have e1 : (57 : Int32).toInt = 57 := rfl; have e2 : (55 : Int32).toInt = 55 := rfl; omega)]
  · rfl
def rdA (f : Nat → Int32) (n : Nat) (r : tT_) : Prop := r.1 ≤ n ∧ x_st f r.1 ≠ -1 ∧ (r.1 < n → x_st f (r.1 + 1) = -1) ∧ (r.1 = n → x_st f n ≠ 6)
def rdB (f : Nat → Int32) (n p : Nat) (r : tT_) : Prop := p < r.1 ∧ r.1 ≤ n ∧ x_st f r.1 = 6 ∧ ∀ b q ro S, ∃ q2 r2, y_run f (n - p) p b q ro S = if S 5 5 < (m_mS S r) 5 5 then (b, m_mS S r) else y_run f (n - r.1) r.1 (b + 1) q2 r2 (m_mS S r)
theorem sw_t {p : Nat} {lo hi : Int32} : s_w f n p true lo hi = true ∧ s_p f n p true lo hi = p := ⟨rfl, rfl⟩
theorem nx_t {p : Nat} {lo hi : Int32} : nx_ f n p true lo hi = false := rfl
/-- what is wrong stays wrong, where it stands -/
theorem wrong_stays {t : tT_} (hw : t.2.1 = true) : (r_5 f n (r_4 f n t)).2.1 = true ∧ (r_5 f n (r_4 f n t)).1 = t.1 := by
  have h4 : (r_4 f n t).2.1 = true ∧ (r_4 f n t).1 = t.1 := by
    constructor
    · show s_w f n t.1 t.2.1 97 99 = true
      rw [hw]; exact sw_t.1
    · show s_p f n t.1 t.2.1 97 99 = t.1
      rw [hw]; exact sw_t.2
  generalize r_4 f n t = u at h4 ⊢
  have hy : r_y f n u = false := by unfold r_y; rw [h4.1]; exact nx_t
  constructor
  · show (if r_y f n u = true then s_T f n u 60 60 else s_T f n u 62 62).2.1 = true
    rw [hy, if_neg (by decide)]
    show s_w f n u.1 u.2.1 62 62 = true
    rw [h4.1]; exact sw_t.1
  · show (if r_y f n u = true then s_T f n u 60 60 else s_T f n u 62 62).1 = t.1
    rw [hy, if_neg (by decide)]
    show s_p f n u.1 u.2.1 62 62 = t.1
    rw [h4.1]
    exact sw_t.2.trans h4.2
theorem sgn_t {p : Nat} {lo hi : Int32} (hp : p < n) (h : m_in (f p) lo hi = true) : s_w f n p false lo hi = false ∧ s_p f n p false lo hi = p + 1 ∧ s_c f n p = f p := by
  have hc : s_c f n p = f p := by unfold s_c; rw [if_pos hp]
  have hw : s_w f n p false lo hi = false := by unfold s_w; rw [hc, h]; rfl
  refine ⟨hw, ?_, hc⟩
  unfold s_p
  rw [hw]
  rfl
theorem sgn_f {p : Nat} {lo hi : Int32} (h0 : m_in 0 lo hi = false) (h : ¬ (p < n ∧ m_in (f p) lo hi = true)) : s_w f n p false lo hi = true ∧ s_p f n p false lo hi = p := by
  have hw : s_w f n p false lo hi = true := by
    unfold s_w s_c
    by_cases c : p < n
    · rw [if_pos c, Bool.eq_false_iff.mpr (fun q => h ⟨c, q⟩)]; rfl
    · rw [if_neg c, h0]; rfl
  refine ⟨hw, ?_⟩
  unfold s_p
  rw [hw]
  rfl
theorem nx_iff {p : Nat} {lo hi : Int32} : nx_ f n p false lo hi = true ↔ p < n ∧ m_in (f p) lo hi = true := by
  unfold nx_
  rw [Bool.not_false, Bool.true_and, Bool.and_eq_true, decide_eq_true_eq]
theorem yr_step {k i : Nat} {b p r : Int32} {S : gS} (h : y_S (f i) (y_p0 (f i) p) r S = S) : y_run f (k + 1) i b p r S = y_run f k (i + 1) (y_b (f i) b) (y_p (f i) (y_p0 (f i) p)) (y_r (f i) r) S := by
  show (if S 5 5 < (y_S (f i) (y_p0 (f i) p) r S) 5 5 then _ else _) = _
  rw [h, if_neg (fun q => Int32.lt_irrefl q)]
theorem dig_c : ∀ k, k < 58 → 48 ≤ k → y_l (nI k) = false ∧ y_d (nI k) = true := by decide +kernel
theorem row_c : ∀ k, k < 100 → 97 ≤ k → y_l (nI k) = false ∧ y_d (nI k) = false ∧ y_a (nI k) = true := by decide +kernel
theorem add_sub1 (b : Int32) : b + 1 - 1 = b := by rw [Int32.sub_eq_add_neg, Int32.add_assoc]; exact Int32.add_zero b
/-- behind the place: the row's letter and the end's sign -/
theorem tail_ {t : tT_} (hw : t.2.1 = false) (hl : t.2.2.1 = 108) (hp : t.1 ≤ n) (h1 : x_st f t.1 ≠ -1) (h6 : x_st f t.1 ≠ 6) (hrow : t.1 < n → x_st f (t.1 + 1) = x_row (f t.1)) :
    ((r_5 f n (r_4 f n t)).2.1 = true ∧ rdA f n (r_5 f n (r_4 f n t))) ∨ ((r_5 f n (r_4 f n t)).2.1 = false ∧ t.1 < (r_5 f n (r_4 f n t)).1 ∧ (r_5 f n (r_4 f n t)).1 ≤ n ∧ x_st f (r_5 f n (r_4 f n t)).1 = 6 ∧ ∀ b ro S, ∃ r2, y_run f (n - t.1) t.1 b t.2.2.2.1 ro S = if S 5 5 < (m_mS S (r_5 f n (r_4 f n t))) 5 5 then (b - 1, m_mS S (r_5 f n (r_4 f n t))) else y_run f (n - (r_5 f n (r_4 f n t)).1) (r_5 f n (r_4 f n t)).1 b t.2.2.2.1 r2 (m_mS S (r_5 f n (r_4 f n t)))) := by
  by_cases c1 : t.1 < n ∧ m_in (f t.1) 97 99 = true
  · obtain ⟨a1, a2, a3⟩ := sgn_t c1.1 c1.2
    have x1 : x_st f (t.1 + 1) = 5 := by rw [hrow c1.1, row_t c1.2]
    have hr1 : (r_4 f n t).1 = t.1 + 1 := by show s_p f n t.1 t.2.1 97 99 = _; rw [hw]; exact a2
    have hr2 : (r_4 f n t).2.1 = false := by show s_w f n t.1 t.2.1 97 99 = _; rw [hw]; exact a1
    have hr3 : (r_4 f n t).2.2 = (108, t.2.2.2.1, f t.1 - 97, t.2.2.2.2.2) := by show (t.2.2.1, t.2.2.2.1, s_c f n t.1 - 97, t.2.2.2.2.2) = _; rw [a3, hl]
    generalize r_4 f n t = u at hr1 hr2 hr3 ⊢
    have fin : ∀ (lo : Nat) (en : Int32), (lo = 60 ∧ en = 0 ∨ lo = 62 ∧ en = 1) → u.1 < n → f u.1 = nI lo → r_5 f n u = w_en (s_T f n u (nI lo) (nI lo)) en → ((r_5 f n u).2.1 = false ∧ t.1 < (r_5 f n u).1 ∧ (r_5 f n u).1 ≤ n ∧ x_st f (r_5 f n u).1 = 6 ∧ ∀ b ro S, ∃ r2, y_run f (n - t.1) t.1 b t.2.2.2.1 ro S = if S 5 5 < (m_mS S (r_5 f n u)) 5 5 then (b - 1, m_mS S (r_5 f n u)) else y_run f (n - (r_5 f n u).1) (r_5 f n u).1 b t.2.2.2.1 r2 (m_mS S (r_5 f n u))) := by
      intro lo en hlo hlt hf he
      have hlo2 : lo < 2147483647 := by omega
      obtain ⟨b1, b2, b3⟩ := sgn_t (f := f) (n := n) (lo := nI lo) (hi := nI lo) hlt ((min_1 hlo2).mpr hf)
      have e1 : (r_5 f n u).1 = t.1 + 1 + 1 := by rw [he]; show s_p f n u.1 u.2.1 (nI lo) (nI lo) = _; rw [hr2, b2, hr1]
      have e2 : (r_5 f n u).2.1 = false := by rw [he]; show s_w f n u.1 u.2.1 (nI lo) (nI lo) = _; rw [hr2, b1]
      have e3 : (r_5 f n u).2.2 = (108, t.2.2.2.1, f t.1 - 97, en) := by rw [he]; show (u.2.2.1, u.2.2.2.1, u.2.2.2.2.1, en) = _; rw [hr3]
      have hS : ∀ S, m_mS S (r_5 f n u) = g_lay S t.2.2.2.1 (f t.1 - 97) en := by
        intro S
        unfold m_mS
        rw [e3]
        exact if_pos rfl
      rw [hr1] at hlt hf
      refine ⟨e2, by omega, by omega, ?_, fun b ro S => ?_⟩
      · rw [e1]
        show x_exp (x_st f (t.1 + 1)) (f (t.1 + 1)) = 6
        rw [x1, hf]
        rcases hlo with ⟨rfl, -⟩ | ⟨rfl, -⟩ <;> decide
      · obtain ⟨j, j1, j2, ej⟩ := m_in_nat (a := 97) (b := 99) (by decide) c1.2 (by decide)
        obtain ⟨q1, q2, q3⟩ := row_c j (by omega) j1
        rw [← ej] at q1 q2 q3
        refine ⟨y_r (f (t.1 + 1)) (f t.1 - 97), ?_⟩
        rw [hS, e1, show n - t.1 = (n - (t.1 + 1)) + 1 by omega]
        have y0 : y_S (f t.1) (y_p0 (f t.1) t.2.2.2.1) ro S = S := by unfold y_S; rw [q2, q3]; rfl
        rw [yr_step y0]
        have p0 : y_p (f t.1) (y_p0 (f t.1) t.2.2.2.1) = t.2.2.2.1 := by unfold y_p y_p0; rw [q1, q2]; rfl
        have r0 : y_r (f t.1) ro = f t.1 - 97 := by unfold y_r; rw [q2, q3]; rfl
        have b0 : y_b (f t.1) b = b := by unfold y_b; rw [q1]; rfl
        rw [p0, r0, b0, show n - (t.1 + 1) = (n - (t.1 + 1 + 1)) + 1 by omega]
        show (if S 5 5 < (y_S (f (t.1 + 1)) (y_p0 (f (t.1 + 1)) t.2.2.2.1) (f t.1 - 97) S) 5 5 then (y_b (f (t.1 + 1)) b - 1, y_S (f (t.1 + 1)) (y_p0 (f (t.1 + 1)) t.2.2.2.1) (f t.1 - 97) S) else y_run f (n - (t.1 + 1 + 1)) (t.1 + 1 + 1) (y_b (f (t.1 + 1)) b) (y_p (f (t.1 + 1)) (y_p0 (f (t.1 + 1)) t.2.2.2.1)) (y_r (f (t.1 + 1)) (f t.1 - 97)) (y_S (f (t.1 + 1)) (y_p0 (f (t.1 + 1)) t.2.2.2.1) (f t.1 - 97) S)) = _
        have z1 : y_l (nI lo) = false := by rcases hlo with ⟨rfl, -⟩ | ⟨rfl, -⟩ <;> decide
        have z2 : y_d (nI lo) = false := by rcases hlo with ⟨rfl, -⟩ | ⟨rfl, -⟩ <;> decide
        have z3 : y_a (nI lo) = false := by rcases hlo with ⟨rfl, -⟩ | ⟨rfl, -⟩ <;> decide
        have zb : y_b (f (t.1 + 1)) b = b := by rw [hf]; unfold y_b; rw [z1]; rfl
        have zp : y_p (f (t.1 + 1)) (y_p0 (f (t.1 + 1)) t.2.2.2.1) = t.2.2.2.1 := by rw [hf]; unfold y_p y_p0; rw [z1, z2]; rfl
        have zs : y_S (f (t.1 + 1)) (y_p0 (f (t.1 + 1)) t.2.2.2.1) (f t.1 - 97) S = g_lay S t.2.2.2.1 (f t.1 - 97) en := by
          rw [hf]
          unfold y_S y_p0
          rw [z1, z2, z3]
          rcases hlo with ⟨rfl, rfl⟩ | ⟨rfl, rfl⟩ <;> rfl
        rw [zb, zp, zs]
    by_cases c2 : u.1 < n ∧ f u.1 = nI 60
    · right
      have hy : r_y f n u = true := by unfold r_y; rw [hr2]; exact nx_iff.mpr ⟨c2.1, (min_1 (k := 60) (by decide)).mpr c2.2⟩
      exact fin 60 0 (Or.inl ⟨rfl, rfl⟩) c2.1 c2.2 (by unfold r_5; rw [hy, if_pos rfl]; rfl)
    · have hy : r_y f n u = false := by
        rw [Bool.eq_false_iff]
        intro q
        unfold r_y at q
        rw [hr2] at q
        have := nx_iff.mp q
        exact c2 ⟨this.1, (min_1 (k := 60) (by decide)).mp this.2⟩
      have he : r_5 f n u = w_en (s_T f n u 62 62) 1 := by unfold r_5; rw [hy, if_neg (by decide)]; rfl
      by_cases c3 : u.1 < n ∧ f u.1 = nI 62
      · right
        exact fin 62 1 (Or.inr ⟨rfl, rfl⟩) c3.1 c3.2 he
      · left
        obtain ⟨b1, b2⟩ := sgn_f (f := f) (n := n) (p := u.1) (lo := 62) (hi := 62) (by decide) (fun q => c3 ⟨q.1, (min_1 (k := 62) (by decide)).mp q.2⟩)
        have e1 : (r_5 f n u).1 = t.1 + 1 := by rw [he]; show s_p f n u.1 u.2.1 62 62 = _; rw [hr2, b2, hr1]
        have e2 : (r_5 f n u).2.1 = true := by rw [he]; show s_w f n u.1 u.2.1 62 62 = _; rw [hr2, b1]
        refine ⟨e2, by rw [e1]; omega, by rw [e1, x1]; decide, fun q => ?_, fun q => ?_⟩
        · rw [e1] at q ⊢
          show x_exp (x_st f (t.1 + 1)) (f (t.1 + 1)) = -1
          rw [x1]
          rw [hr1] at c2 c3
          show (if f (t.1 + 1) = nI 60 then 6 else if f (t.1 + 1) = nI 62 then 6 else -1) = (-1 : Int32)
          rw [if_neg (fun z => c2 ⟨q, z⟩), if_neg (fun z => c3 ⟨q, z⟩)]
        · rw [e1] at q
          rw [← q, x1]
          decide
  · left
    obtain ⟨b1, b2⟩ := sgn_f (f := f) (n := n) (p := t.1) (lo := 97) (hi := 99) (by decide) c1
    have q1 : (r_4 f n t).1 = t.1 := by show s_p f n t.1 t.2.1 97 99 = _; rw [hw]; exact b2
    have q2 : (r_4 f n t).2.1 = true := by show s_w f n t.1 t.2.1 97 99 = _; rw [hw]; exact b1
    have q3 : (r_5 f n (r_4 f n t)).2.1 = true ∧ (r_5 f n (r_4 f n t)).1 = t.1 := by
      generalize r_4 f n t = u at q1 q2 ⊢
      have hy : r_y f n u = false := by unfold r_y; rw [q2]; exact nx_t
      constructor
      · show (if r_y f n u = true then s_T f n u 60 60 else s_T f n u 62 62).2.1 = true
        rw [hy, if_neg (by decide)]
        show s_w f n u.1 u.2.1 62 62 = true
        rw [q2]; exact sw_t.1
      · show (if r_y f n u = true then s_T f n u 60 60 else s_T f n u 62 62).1 = t.1
        rw [hy, if_neg (by decide)]
        show s_p f n u.1 u.2.1 62 62 = t.1
        rw [q2]
        exact sw_t.2.trans q1
    refine ⟨q3.1, by rw [q3.2]; exact hp, by rw [q3.2]; exact h1, fun q => ?_, fun q => ?_⟩
    · rw [q3.2] at q ⊢
      rw [hrow q]
      exact row_f (Bool.eq_false_iff.mpr (fun z => c1 ⟨q, z⟩))
    · rw [q3.2] at q
      rw [← q]
      exact h6
end RD
