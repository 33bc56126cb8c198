/-! THE WHOLE TEXT: first error, run -/
section RE
variable {f : Nat → Int32} {n : Nat}
theorem turn_f {c : Int32} (h1 : c ≠ 108) (h2 : c ≠ 100) (h3 : c ≠ 112) : x_turn c = -1 := by
  unfold x_turn
  rw [if_neg h1, if_neg h2, if_neg h3]
theorem le_val {t : tT_} (hw : t.2.1 = false) : (t.1 < n ∧ (f t.1 = nI 108 ∨ f t.1 = nI 100 ∨ f t.1 = nI 112) ∧ r_le f n t = f t.1) ∨ (¬ (t.1 < n ∧ (f t.1 = nI 108 ∨ f t.1 = nI 100 ∨ f t.1 = nI 112)) ∧ r_le f n t = 0) := by
  have key : (nx_ f n t.1 t.2.1 108 108 || (nx_ f n t.1 t.2.1 100 100 || nx_ f n t.1 t.2.1 112 112)) = true ↔ t.1 < n ∧ (f t.1 = nI 108 ∨ f t.1 = nI 100 ∨ f t.1 = nI 112) := by
    rw [hw, Bool.or_eq_true, Bool.or_eq_true, nx_iff, nx_iff, nx_iff, show m_in (f t.1) 108 108 = true ↔ f t.1 = nI 108 from min_1 (k := 108) (by decide), show m_in (f t.1) 100 100 = true ↔ f t.1 = nI 100 from min_1 (k := 100) (by decide), show m_in (f t.1) 112 112 = true ↔ f t.1 = nI 112 from min_1 (k := 112) (by decide)]
    constructor
    · rintro (⟨q1, q2⟩ | ⟨q1, q2⟩ | ⟨q1, q2⟩)
      · exact ⟨q1, Or.inl q2⟩
      · exact ⟨q1, Or.inr (Or.inl q2)⟩
      · exact ⟨q1, Or.inr (Or.inr q2)⟩
    · rintro ⟨q1, q2 | q2 | q2⟩
      · exact Or.inl ⟨q1, q2⟩
      · exact Or.inr (Or.inl ⟨q1, q2⟩)
      · exact Or.inr (Or.inr ⟨q1, q2⟩)
  unfold r_le
  by_cases c : t.1 < n ∧ (f t.1 = nI 108 ∨ f t.1 = nI 100 ∨ f t.1 = nI 112)
  · left
    rw [if_pos (key.mpr c)]
    exact ⟨c.1, c.2, rfl⟩
  · right
    rw [if_neg (fun q => c (key.mp q))]
    exact ⟨c, rfl⟩
theorem let_c : y_l (nI 108) = true ∧ y_l (nI 100) = true ∧ y_l (nI 112) = true ∧ y_d (nI 108) = false ∧ y_d (nI 100) = false ∧ y_d (nI 112) = false ∧ y_a (nI 108) = false ∧ y_a (nI 100) = false ∧ y_a (nI 112) = false := by decide +kernel
theorem d_mul (a c : Int32) : (a * 10 + c) - 48 = 10 * a + c - 48 := by rw [Int32.mul_comm]
/-- a turn is read -/
theorem rd {t : tT_} (hp : t.1 ≤ n) (hw : t.2.1 = false) (h0 : x_st f t.1 = 0) : ((r_T f n t).2.1 = true ∧ rdA f n (r_T f n t)) ∨ ((r_T f n t).2.1 = false ∧ rdB f n t.1 (r_T f n t)) := by
  rcases le_val (f := f) (n := n) hw with ⟨c1, c2, el⟩ | ⟨c1, el⟩
  · have hx : x_st f (t.1 + 1) = x_turn (f t.1) := by
      show x_exp (x_st f t.1) (f t.1) = _
      rw [h0]; rfl
    have hne : ¬ r_le f n t = 0 := by
      rw [el]
      rcases c2 with c2 | c2 | c2 <;> rw [c2] <;> decide
    have d1 : decide (r_le f n t = 0) = false := decide_eq_false hne
    have e1 : r_1 f n t = (t.1 + 1, false, f t.1, t.2.2.2.1, t.2.2.2.2.1, t.2.2.2.2.2) := by
      unfold r_1
      rw [d1, el]
      rfl
    by_cases cl : f t.1 = nI 108
    · -- a tile is laid
      have e2 : r_T f n t = r_5 f n (r_4 f n (r_3 f n (r_2 f n (r_1 f n t)))) := by unfold r_T; exact if_pos (by rw [e1]; exact cl)
      rw [e2, e1, cl]
      rw [cl] at hx
      have x1 : x_st f (t.1 + 1) = 1 := hx.trans (by decide)
      have hst : ∀ c, x_exp 1 c = x_dig c := fun _ => rfl
      by_cases cd : t.1 + 1 < n ∧ m_in (f (t.1 + 1)) 48 57 = true
      · obtain ⟨a1, a2, a3⟩ := sgn_t cd.1 cd.2
        obtain ⟨k, k1, k2, ek⟩ := m_in_nat (a := 48) (b := 57) (by decide) cd.2 (by decide)
        have x2 : x_st f (t.1 + 1 + 1) = x_dig (f (t.1 + 1)) := by
          show x_exp (x_st f (t.1 + 1)) (f (t.1 + 1)) = _
          rw [x1]; rfl
        have e3 : r_2 f n (t.1 + 1, false, nI 108, t.2.2.2.1, t.2.2.2.2.1, t.2.2.2.2.2) = (t.1 + 1 + 1, false, nI 108, f (t.1 + 1) - 48, t.2.2.2.2.1, t.2.2.2.2.2) := by
          show (s_p f n (t.1 + 1) false 48 57, s_w f n (t.1 + 1) false 48 57, nI 108, s_c f n (t.1 + 1) - 48, t.2.2.2.2.1, t.2.2.2.2.2) = _
          rw [a1, a2, a3]
        rw [e3]
        -- the automaton's digit
        have hd := dig_t k (by omega) k1
        rw [← ek] at hd
        obtain ⟨l1, l2, l3, l4, l5, l6, l7, l8, l9⟩ := let_c
        have yl : ∀ b q ro S, y_run f (n - t.1) t.1 b q ro S = y_run f (n - (t.1 + 1 + 1)) (t.1 + 1 + 1) (b + 1) (f (t.1 + 1) - 48) ro S := by
          intro b q ro S
          obtain ⟨q1, q2⟩ := dig_c k (by omega) k1
          rw [← ek] at q1 q2
          rw [show n - t.1 = (n - (t.1 + 1)) + 1 by omega, yr_step (by unfold y_S; rw [cl, l4, l7]; rfl), show n - (t.1 + 1) = (n - (t.1 + 1 + 1)) + 1 by omega, yr_step (by unfold y_S; rw [q2]; rfl)]
          have b0 : y_b (f (t.1 + 1)) (y_b (f t.1) b) = b + 1 := by unfold y_b; rw [q1, cl, l1]; rfl
          have r0 : y_r (f (t.1 + 1)) (y_r (f t.1) ro) = ro := by unfold y_r; rw [q2, cl, l4, l7]; rfl
          have p0 : y_p (f (t.1 + 1)) (y_p0 (f (t.1 + 1)) (y_p (f t.1) (y_p0 (f t.1) q))) = f (t.1 + 1) - 48 := by
            unfold y_p y_p0
            rw [q1, q2, cl, l1, l4]
            show 0 * 10 + f (t.1 + 1) - 48 = f (t.1 + 1) - 48
            rw [Int32.zero_mul, Int32.zero_add]
          rw [b0, r0, p0]
        -- what stands behind the place
        have main : ∀ u : tT_, u.2.1 = false → u.2.2.1 = 108 → u.1 ≤ n → t.1 < u.1 → x_st f u.1 ≠ -1 → x_st f u.1 ≠ 6 → (u.1 < n → x_st f (u.1 + 1) = x_row (f u.1)) → (∀ b q ro S, ∃ ro2, y_run f (n - t.1) t.1 b q ro S = y_run f (n - u.1) u.1 (b + 1) u.2.2.2.1 ro2 S) →
            ((r_5 f n (r_4 f n u)).2.1 = true ∧ rdA f n (r_5 f n (r_4 f n u))) ∨ ((r_5 f n (r_4 f n u)).2.1 = false ∧ rdB f n t.1 (r_5 f n (r_4 f n u))) := by
          intro u u1 u2 u3 u4 u5 u6 u7 u8
          rcases tail_ u1 u2 u3 u5 u6 u7 with z | ⟨z1, z2, z3, z4, z5⟩
          · exact Or.inl z
          · refine Or.inr ⟨z1, by omega, z3, z4, fun b q ro S => ?_⟩
            obtain ⟨ro2, e4⟩ := u8 b q ro S
            obtain ⟨r2, e5⟩ := z5 (b + 1) ro2 S
            exact ⟨_, r2, by rw [e4, e5, add_sub1]⟩
        by_cases cm : r_mo f n (t.1 + 1 + 1, false, nI 108, f (t.1 + 1) - 48, t.2.2.2.2.1, t.2.2.2.2.2) = true
        · have e4 : r_3 f n (t.1 + 1 + 1, false, nI 108, f (t.1 + 1) - 48, t.2.2.2.2.1, t.2.2.2.2.2) = (t.1 + 1 + 1 + 1, false, nI 108, 10 * (f (t.1 + 1) - 48) + f (t.1 + 1 + 1) - 48, t.2.2.2.2.1, t.2.2.2.2.2) := by
            unfold r_3
            rw [if_pos cm]
            rfl
          rw [e4]
          unfold r_mo at cm
          rw [Bool.and_eq_true] at cm
          obtain ⟨cm1, cm2⟩ := cm
          obtain ⟨m1, m2⟩ := nx_iff.mp (show nx_ f n (t.1 + 1 + 1) false 48 57 = true from cm1)
          obtain ⟨j, j1, j2, ej⟩ := m_in_nat (a := 48) (b := 57) (by decide) m2 (by decide)
          have x3 : x_st f (t.1 + 1 + 1 + 1) = 4 := by
            show x_exp (x_st f (t.1 + 1 + 1)) (f (t.1 + 1 + 1)) = 4
            have := dig_2 k (by omega) k1 j (by omega) j1
            rw [← ek, ← ej, if_pos (show (decide (0 < f (t.1 + 1) - 48) && decide (10 * (f (t.1 + 1) - 48) + f (t.1 + 1 + 1) - 48 < 28)) = true from cm2)] at this
            rw [x2]
            exact this
          refine main _ rfl rfl m1 (by show t.1 < t.1 + 1 + 1 + 1; omega) (by show x_st f (t.1 + 1 + 1 + 1) ≠ -1; rw [x3]; decide) (by show x_st f (t.1 + 1 + 1 + 1) ≠ 6; rw [x3]; decide) (fun _ => by show x_exp (x_st f (t.1 + 1 + 1 + 1)) (f (t.1 + 1 + 1 + 1)) = _; rw [x3]; rfl) (fun b q ro S => ?_)
          obtain ⟨q1, q2⟩ := dig_c j (by omega) j1
          rw [← ej] at q1 q2
          refine ⟨ro, ?_⟩
          rw [yl, show n - (t.1 + 1 + 1) = (n - (t.1 + 1 + 1 + 1)) + 1 by omega, yr_step (by unfold y_S; rw [q2]; rfl)]
          have b0 : y_b (f (t.1 + 1 + 1)) (b + 1) = b + 1 := by unfold y_b; rw [q1]; rfl
          have r0 : y_r (f (t.1 + 1 + 1)) ro = ro := by unfold y_r; rw [q2]; rfl
          have p0 : y_p (f (t.1 + 1 + 1)) (y_p0 (f (t.1 + 1 + 1)) (f (t.1 + 1) - 48)) = 10 * (f (t.1 + 1) - 48) + f (t.1 + 1 + 1) - 48 := by
            unfold y_p y_p0
            rw [q1, q2]
            exact d_mul _ _
          rw [b0, r0, p0]
        · have e4 : r_3 f n (t.1 + 1 + 1, false, nI 108, f (t.1 + 1) - 48, t.2.2.2.2.1, t.2.2.2.2.2) = (t.1 + 1 + 1, false, nI 108, f (t.1 + 1) - 48, t.2.2.2.2.1, t.2.2.2.2.2) := by
            unfold r_3
            rw [if_neg cm]
          rw [e4]
          have hcd := cd.1
          refine main _ rfl rfl (show t.1 + 1 + 1 ≤ n from cd.1) (by show t.1 < t.1 + 1 + 1; omega) ?_ ?_ (fun hlt => ?_) (fun b q ro S => ⟨ro, yl b q ro S⟩)
          · show x_st f (t.1 + 1 + 1) ≠ -1
            rw [x2]
            rcases hd with z | z | z <;> rw [z] <;> decide
          · show x_st f (t.1 + 1 + 1) ≠ 6
            rw [x2]
            rcases hd with z | z | z <;> rw [z] <;> decide
          · have hlt' : t.1 + 1 + 1 < n := hlt
            show x_exp (x_st f (t.1 + 1 + 1)) (f (t.1 + 1 + 1)) = x_row (f (t.1 + 1 + 1))
            rw [x2]
            by_cases cq : m_in (f (t.1 + 1 + 1)) 48 57 = true
            · obtain ⟨j, j1, j2, ej⟩ := m_in_nat (a := 48) (b := 57) (by decide) cq (by decide)
              have := dig_2 k (by omega) k1 j (by omega) j1
              rw [← ek, ← ej, if_neg (fun z => cm (by unfold r_mo; rw [Bool.and_eq_true]; exact ⟨nx_iff.mpr ⟨hlt', cq⟩, z⟩))] at this
              exact this
            · exact dig_x hd (Bool.eq_false_iff.mpr cq)
      · -- no digit behind the letter
        obtain ⟨b1, b2⟩ := sgn_f (f := f) (n := n) (p := t.1 + 1) (lo := 48) (hi := 57) (by decide) cd
        have e3 : (r_2 f n (t.1 + 1, false, nI 108, t.2.2.2.1, t.2.2.2.2.1, t.2.2.2.2.2)).1 = t.1 + 1 ∧ (r_2 f n (t.1 + 1, false, nI 108, t.2.2.2.1, t.2.2.2.2.1, t.2.2.2.2.2)).2.1 = true := ⟨b2, b1⟩
        generalize r_2 f n (t.1 + 1, false, nI 108, t.2.2.2.1, t.2.2.2.2.1, t.2.2.2.2.2) = u at e3
        have e4 : r_3 f n u = u := by
          unfold r_3
          rw [if_neg]
          unfold r_mo
          rw [e3.2, nx_t, Bool.false_and]
          decide
        rw [e4]
        obtain ⟨w1, w2⟩ := wrong_stays (f := f) (n := n) e3.2
        left
        refine ⟨w1, by rw [w2, e3.1]; omega, by rw [w2, e3.1, x1]; decide, fun q => ?_, fun q => ?_⟩
        · rw [w2, e3.1] at q ⊢
          show x_exp (x_st f (t.1 + 1)) (f (t.1 + 1)) = -1
          rw [x1]
          exact dig_f (Bool.eq_false_iff.mpr (fun z => cd ⟨q, z⟩))
        · rw [w2, e3.1] at q
          rw [← q, x1]
          decide
    · -- drawn or passed
      have e2 : r_T f n t = (t.1 + 1, false, f t.1, t.2.2.2.1, t.2.2.2.2.1, t.2.2.2.2.2) := by unfold r_T; rw [e1]; exact if_neg (fun q => cl q)
      rw [e2]
      right
      have c3 : f t.1 = nI 100 ∨ f t.1 = nI 112 := c2.resolve_left cl
      obtain ⟨l1, l2, l3, l4, l5, l6, l7, l8, l9⟩ := let_c
      refine ⟨rfl, Nat.lt_succ_self _, c1, ?_, fun b q ro S => ?_⟩
      · show x_st f (t.1 + 1) = 6
        rw [hx]
        rcases c3 with z | z <;> rw [z] <;> decide
      · refine ⟨y_p (f t.1) (y_p0 (f t.1) q), y_r (f t.1) ro, ?_⟩
        rw [show n - t.1 = (n - (t.1 + 1)) + 1 by omega]
        have hS : y_S (f t.1) (y_p0 (f t.1) q) ro S = m_mS S (t.1 + 1, false, f t.1, t.2.2.2.1, t.2.2.2.2.1, t.2.2.2.2.2) := by
          unfold y_S m_mS
          rcases c3 with z | z
          · rw [z, l5, l8]; rfl
          · rw [z, l6, l9]; rfl
        have hb : y_b (f t.1) b = b + 1 := by
          unfold y_b
          rcases c3 with z | z
          · rw [z, l2]; rfl
          · rw [z, l3]; rfl
        show (if S 5 5 < (y_S (f t.1) (y_p0 (f t.1) q) ro S) 5 5 then (y_b (f t.1) b - 1, y_S (f t.1) (y_p0 (f t.1) q) ro S) else y_run f (n - (t.1 + 1)) (t.1 + 1) (y_b (f t.1) b) (y_p (f t.1) (y_p0 (f t.1) q)) (y_r (f t.1) ro) (y_S (f t.1) (y_p0 (f t.1) q) ro S)) = _
        rw [hS, hb, add_sub1]
  · -- no turn's letter
    have e1 : r_1 f n t = (t.1, true, 0, t.2.2.2.1, t.2.2.2.2.1, t.2.2.2.2.2) := by
      unfold r_1
      rw [el]
      rfl
    have e2 : r_T f n t = (t.1, true, 0, t.2.2.2.1, t.2.2.2.2.1, t.2.2.2.2.2) := by unfold r_T; rw [e1]; exact if_neg (by show ¬ (0 : Int32) = 108; decide)
    rw [e2]
    left
    refine ⟨rfl, hp, by show x_st f t.1 ≠ -1; rw [h0]; decide, fun q => ?_, fun q => ?_⟩
    · have q' : t.1 < n := q
      show x_exp (x_st f t.1) (f t.1) = -1
      rw [h0]
      exact turn_f (fun z => c1 ⟨q', Or.inl z⟩) (fun z => c1 ⟨q', Or.inr (Or.inl z)⟩) (fun z => c1 ⟨q', Or.inr (Or.inr z)⟩)
    · have q' : t.1 = n := q
      rw [← q', h0]
      decide
theorem st_dead {i : Nat} (h : x_st f i = -1) : ∀ j, i ≤ j → x_st f j = -1 := by
  intro j
  induction j with
  | zero => intro hj; rw [show (0 : Nat) = i by omega]; exact h
  | succ j ih =>
    intro hj
    by_cases c : i = j + 1
    · rw [← c]; exact h
    · show x_exp (x_st f j) (f j) = -1
      rw [ih (by omega)]
      rfl
/-- the sign between turns -/
theorem semi {t : tT_} (hw : t.2.1 = false) (hp : t.1 < n) (h6 : x_st f t.1 = 6) : ((s_T f n t 59 59).2.1 = true ∧ rdA f n (s_T f n t 59 59)) ∨ ((s_T f n t 59 59).2.1 = false ∧ f t.1 = nI 59 ∧ (s_T f n t 59 59).1 = t.1 + 1 ∧ x_st f (t.1 + 1) = 0) := by
  have hx : x_st f (t.1 + 1) = if f t.1 = nI 59 then 0 else -1 := by
    show x_exp (x_st f t.1) (f t.1) = _
    rw [h6]
    rfl
  by_cases c : f t.1 = nI 59
  · right
    obtain ⟨b1, b2, -⟩ := sgn_t (f := f) (n := n) (lo := 59) (hi := 59) hp ((min_1 (k := 59) (by decide)).mpr c)
    refine ⟨?_, c, ?_, by rw [hx, if_pos c]⟩
    · show s_w f n t.1 t.2.1 59 59 = false
      rw [hw]; exact b1
    · show s_p f n t.1 t.2.1 59 59 = t.1 + 1
      rw [hw]; exact b2
  · left
    obtain ⟨b1, b2⟩ := sgn_f (f := f) (n := n) (p := t.1) (lo := 59) (hi := 59) (by decide) (fun q => c ((min_1 (k := 59) (by decide)).mp q.2))
    have e1 : (s_T f n t 59 59).1 = t.1 := by show s_p f n t.1 t.2.1 59 59 = t.1; rw [hw]; exact b2
    refine ⟨by show s_w f n t.1 t.2.1 59 59 = true; rw [hw]; exact b1, by rw [e1]; omega, by rw [e1, h6]; decide, fun _ => by rw [e1, hx, if_neg c], fun q => ?_⟩
    rw [e1] at q
    omega
/-- the check of the text -/
theorem chk : ∀ (k : Nat) (c : Int32) (S : gS) (t : tT_), t.1 ≤ n → t.2.1 = false → x_st f t.1 = 0 → n - t.1 < k → ((e_go f n false k c S t).2.2.2.1 = true ∧ rdA f n (e_go f n false k c S t).2.2) ∨ ((e_go f n false k c S t).2.2.2.1 = false ∧ x_st f n = 6) := by
  intro k
  induction k with
  | zero => intro c S t _ _ _ h; omega
  | succ k ih =>
    intro c S t hp hw h0 hk
    rw [e_go]
    have hle := rT_le (f := f) (n := n) hp
    rcases rd hp hw h0 with ⟨z1, z2⟩ | ⟨z1, z2⟩
    · have hok : e_ok S (r_T f n t) false = false := by unfold e_ok; rw [z1]; rfl
      rw [hok, Bool.false_and, if_neg (by decide)]
      exact Or.inl ⟨z1, z2⟩
    · have hok : e_ok S (r_T f n t) false = true := by unfold e_ok; rw [z1]; rfl
      rw [hok, Bool.true_and]
      by_cases c1 : (r_T f n t).1 < n
      · rw [if_pos (decide_eq_true c1)]
        rcases semi z1 c1 z2.2.2.1 with ⟨y1, y2⟩ | ⟨y1, y2, y3, y4⟩
        · rw [if_pos y1]
          exact Or.inl ⟨y1, y2⟩
        · rw [if_neg (by rw [y1]; decide)]
          exact ih _ _ _ (by rw [y3]; omega) y1 (by rw [y3]; exact y4) (by rw [y3]; have := z2.1; omega)
      · rw [if_neg (by rw [decide_eq_false c1]; decide)]
        exact Or.inr ⟨z1, by rw [← show (r_T f n t).1 = n by omega]; exact z2.2.2.1⟩
theorem chk_err {r : tT_} (h : rdA f n r) : x_err f n = r.1 := by
  obtain ⟨h1, h2, h3, h4⟩ := h
  have hno : ∀ j, j ≤ r.1 → anyB (fun i => decide (x_st f (i + 1) = -1)) j = false := by
    intro j
    induction j with
    | zero => intro _; rfl
    | succ j ih =>
      intro hj
      show (anyB _ j || decide (x_st f (j + 1) = -1)) = false
      rw [ih (by omega), Bool.false_or]
      exact decide_eq_false (fun q => h2 (st_dead q r.1 hj))
  unfold x_err
  by_cases c : r.1 < n
  · exact x_fst_at (hno r.1 (Nat.le_refl _)) (decide_eq_true (h3 c)) c
  · rw [show r.1 = n by omega]
    exact x_fst_no (by rw [← show r.1 = n by omega]; exact hno r.1 (Nat.le_refl _))
theorem ok_err (h : x_st f n = 6) : x_err f n = n := by
  refine x_fst_no ?_
  have hno : ∀ j, j ≤ n → anyB (fun i => decide (x_st f (i + 1) = -1)) j = false := by
    intro j
    induction j with
    | zero => intro _; rfl
    | succ j ih =>
      intro hj
      show (anyB _ j || decide (x_st f (j + 1) = -1)) = false
      rw [ih (by omega), Bool.false_or]
      refine decide_eq_false (fun q => ?_)
      have := st_dead q n hj
      rw [h] at this
      exact absurd this (by decide)
  exact hno n (Nat.le_refl _)
theorem rdA_n6 {r : tT_} (h : rdA f n r) : x_st f n ≠ 6 := by
  obtain ⟨h1, h2, h3, h4⟩ := h
  by_cases c : r.1 < n
  · rw [st_dead (h3 c) n c]; decide
  · exact h4 (by omega)
/-- what is refused is counted, and nothing else -/
theorem ref_5 (X : gS) : (g_ref X) 5 5 = X 5 5 + 1 := rfl
theorem ages_5 (X : gS) (p : Int32) : (g_ages X p) 5 = X 5 := (age_1 p _).2.1
theorem gc_155 (X : gS) (v : Int32) : (gc X 1 v) 5 5 = X 5 5 := rfl
theorem end_5 (X : gS) : (g_end X) 5 5 = X 5 5 := by
  unfold g_end
  split
  · rw [gc_155, ages_5]; rfl
  · rw [gc_155, ages_5]; rfl
theorem endA_9 (X : gS) : (9 : Int32) < g_endA X := by
  unfold g_endA
  split <;> decide
theorem made_iff {nn : Nat} {S : gS} {t : tT_} (hg : gOk nn S) (hnn : nn < 1000000) (hro : t.2.2.1 = 108 → ∃ r d, r < 3 ∧ d < 2 ∧ t.2.2.2.2.1 = nI r ∧ t.2.2.2.2.2 = nI d) : (m_mB S t = true ↔ ¬ S 5 5 < (m_mS S t) 5 5) := by
  have hF : ∃ F, F ≤ nn ∧ S 5 5 = nI F := by
    obtain ⟨P, K, W, Q, T, F, H, R, L, gr, ag, o, -⟩ := hg
    exact ⟨F, o.n5.1.2.2.2.2.2.2, o.n5.2.2.2.2.2.1⟩
  have hlt : S 5 5 < S 5 5 + 1 := by
    obtain ⟨F, h1, h2⟩ := hF
    rw [h2, nI_1]
    exact nI_lt (by omega) (by omega)
  unfold m_mB m_mS
  by_cases c : t.2.2.1 = 108
  · rw [if_pos c, if_pos c]
    obtain ⟨r, d, hr, hd, er, ed⟩ := hro c
    rw [er, ed]
    unfold g_layA g_lay
    by_cases h0 : g_reason S t.2.2.2.1 (nI r) (nI d) = 0
    · rw [if_pos h0, if_pos h0, end_5, decide_eq_true (endA_9 _)]
      obtain ⟨P, K, W, Q, T, F, H, R, L, gr, ag, o, -⟩ := hg
      obtain ⟨q, i, hq, hm, hi, ea⟩ := o.reason0 h0
      obtain ⟨o3, -⟩ := o.lay3 hq hm hi hr hd
      rw [ea, o3.n5.2.2.2.2.2.1, o.n5.2.2.2.2.2.1]
      exact ⟨fun _ z => Int32.lt_irrefl z, fun _ => rfl⟩
    · rw [if_neg h0, if_neg h0, ref_5]
      refine ⟨fun z => ?_, fun z => absurd hlt z⟩
      have z2 := of_decide_eq_true z
      rcases reason_lt S t.2.2.2.1 (nI r) (nI d) with e | e | e | e
      · exact absurd e h0
      · rw [e] at z2; exact absurd z2 (by decide)
      · rw [e] at z2; exact absurd z2 (by decide)
      · rw [e] at z2; exact absurd z2 (by decide)
  · rw [if_neg c, if_neg c]
    by_cases d : t.2.2.1 = 100
    · rw [if_pos d, if_pos d]
      unfold g_drawA g_draw
      by_cases h0 : (g_over S || decide (g_stock S = 0)) = true
      · rw [if_pos h0, if_pos h0, ref_5]
        refine ⟨fun z => ?_, fun z => absurd hlt z⟩
        have z2 := of_decide_eq_true z
        by_cases q : g_over (g_ref S) = true
        · rw [if_pos q] at z2; exact absurd z2 (by decide)
        · rw [if_neg q] at z2; exact absurd z2 (by decide)
      · rw [if_neg h0, if_neg h0, end_5]
        obtain ⟨P, K, W, Q, T, F, H, R, L, gr, ag, o, -⟩ := hg
        have h0' : (g_over S || decide (g_stock S = 0)) = false := by simpa using h0
        rw [Bool.or_eq_false_iff] at h0'
        have hK : K ≤ 28 := o.n5.1.2.2.1
        have hK2 : K < 28 := by
          have := (not_congr (stock_0 o)).mp (of_decide_eq_false h0'.2)
          omega
        obtain ⟨q, hq, hm⟩ := o.over h0'.1
        obtain ⟨u, hu, -, eu⟩ := o.takeT hK2 (nI q)
        obtain ⟨o2, -⟩ := o.draw2 hq hm hK2
        rw [o2.n5.2.2.2.2.2.1, o.n5.2.2.2.2.2.1, show g_takeT (g_draw0 S) ((g_draw0 S) 5 1) = nI u from eu, decide_eq_true (show nI u < 100 from nI_lt (a := u) (b := 100) (by omega) (by decide))]
        exact ⟨fun _ z => Int32.lt_irrefl z, fun _ => rfl⟩
    · rw [if_neg d, if_neg d]
      unfold g_passA g_pass
      by_cases h0 : (g_over S || decide (0 < g_stock S)) = true
      · rw [if_pos h0, if_pos h0, ref_5]
        refine ⟨fun z => ?_, fun z => absurd hlt z⟩
        have z2 := of_decide_eq_true z
        by_cases q : g_over (g_ref S) = true
        · rw [if_pos q] at z2; exact absurd z2 (by decide)
        · rw [if_neg q] at z2; exact absurd z2 (by decide)
      · rw [if_neg h0, if_neg h0, end_5, decide_eq_true (endA_9 _)]
        exact ⟨fun _ z => Int32.lt_irrefl z, fun _ => rfl⟩
/-- the text's turns, made -/
theorem mak {nn : Nat} (hnn : nn < 1000000) (h6 : x_st f n = 6) : ∀ (k : Nat) (c : Int32) (S : gS) (t : tT_), t.1 ≤ n → t.2.1 = false → x_st f t.1 = 0 → n - t.1 < k → gOk nn S → ∀ q ro, (e_go f n true k c S t).1 = (y_run f (n - t.1) t.1 c q ro S).1 ∧ (e_go f n true k c S t).2.1 = (y_run f (n - t.1) t.1 c q ro S).2 := by
  intro k
  induction k with
  | zero => intro c S t _ _ _ h; omega
  | succ k ih =>
    intro c S t hp hw h0 hk hg q ro
    rw [e_go]
    rcases rd hp hw h0 with ⟨z1, z2⟩ | ⟨z1, z2⟩
    · exact absurd h6 (rdA_n6 z2)
    · have hro := rT_ro (f := f) (n := n) (t := t) z1
      have hit := made_iff hg hnn hro
      have hok : e_ok S (r_T f n t) true = m_mB S (r_T f n t) := by unfold e_ok; rw [z1, Bool.not_false, Bool.true_and, Bool.not_true, Bool.false_or]
      have hS : e_S S (r_T f n t) true = m_mS S (r_T f n t) := by unfold e_S; rw [z1]; rfl
      obtain ⟨q2, r2, hy⟩ := z2.2.2.2 c q ro S
      rw [hok, hS, hy]
      by_cases hm : m_mB S (r_T f n t) = true
      · rw [hm, Bool.true_and, if_neg (hit.mp hm)]
        by_cases c1 : (r_T f n t).1 < n
        · rw [if_pos (decide_eq_true c1)]
          rcases semi z1 c1 z2.2.2.1 with ⟨y1, y2⟩ | ⟨y1, y2, y3, y4⟩
          · exact absurd h6 (rdA_n6 y2)
          · rw [if_neg (by rw [y1]; decide), if_pos rfl]
            have e59 : y_l (nI 59) = false ∧ y_d (nI 59) = false ∧ y_a (nI 59) = false := by decide +kernel
            have es : y_run f (n - (r_T f n t).1) (r_T f n t).1 (c + 1) q2 r2 (m_mS S (r_T f n t)) = y_run f (n - ((r_T f n t).1 + 1)) ((r_T f n t).1 + 1) (c + 1) q2 r2 (m_mS S (r_T f n t)) := by
              rw [show n - (r_T f n t).1 = (n - ((r_T f n t).1 + 1)) + 1 by omega, yr_step (by unfold y_S; rw [y2, e59.2.1, e59.2.2]; rfl)]
              have b0 : y_b (f (r_T f n t).1) (c + 1) = c + 1 := by unfold y_b; rw [y2, e59.1]; rfl
              have p0 : y_p (f (r_T f n t).1) (y_p0 (f (r_T f n t).1) q2) = q2 := by unfold y_p y_p0; rw [y2, e59.1, e59.2.1]; rfl
              have r0 : y_r (f (r_T f n t).1) r2 = r2 := by unfold y_r; rw [y2, e59.2.1, e59.2.2]; rfl
              rw [b0, p0, r0]
            rw [es, ← y3]
            exact ih _ _ _ (by rw [y3]; omega) y1 (by rw [y3]; exact y4) (by rw [y3]; have := z2.1; omega) (made_ok hg hro hm) q2 r2
        · rw [if_neg (by rw [decide_eq_false c1]; decide), if_pos rfl, show n - (r_T f n t).1 = 0 by omega]
          exact ⟨rfl, rfl⟩
      · have hm' : m_mB S (r_T f n t) = false := by simpa using hm
        rw [hm', Bool.false_and, if_neg (by decide), if_neg (by decide), if_pos (Classical.not_not.mp (fun z => hm (hit.mpr z)))]
        exact ⟨Int32.add_zero c, rfl⟩
end RE
