/-! THE MODEL'S TRAINS ARE THE TRAILS -/
/-- the halves of a hand, as the tiles' table tells them -/
def HG (S : gS) (u : Int32) (k : Nat) (a b : Nat → Nat) : Prop := ∀ i, i < k → tAt 7 196 (S 0) (g_hand S u (nI i)) (nI 0) = nI (a i) ∧ tAt 7 196 (S 0) (g_hand S u (nI i)) (nI 1) = nI (b i) ∧ a i < 7 ∧ b i < 7
def cms (C : Nat → Int32) (k : Nat) (D : Nat → Nat → Prop) : Prop := ∀ c, c < 2 ^ k → ∀ e, e < 7 → (C (7 * c + e) = 0 ∨ C (7 * c + e) = 1) ∧ (C (7 * c + e) = 1 ↔ D c e)
theorem cms.iff {C : Nat → Int32} {k : Nat} {D E : Nat → Nat → Prop} (h : cms C k D) (q : ∀ c, c < 2 ^ k → ∀ e, e < 7 → (D c e ↔ E c e)) : cms C k E := fun c hc e he => ⟨(h c hc e he).1, (h c hc e he).2.trans (q c hc e he)⟩
theorem cms.upd {C : Nat → Int32} {k : Nat} {D : Nat → Nat → Prop} (h : cms C k D) {c0 e0 : Nat} (he0 : e0 < 7) : cms (upd C (7 * c0 + e0) (vp_nar .boolean 1)) k (fun c e => D c e ∨ (c = c0 ∧ e = e0)) := by
  intro c hc e he
  by_cases q : 7 * c + e = 7 * c0 + e0
  · have h1 : c = c0 := by omega
    have h2 : e = e0 := by omega
    subst h1; subst h2
    rw [upd_s]
    exact ⟨Or.inr rfl, fun _ => Or.inr ⟨rfl, rfl⟩, fun _ => rfl⟩
  · rw [upd_n q]
    refine ⟨(h c hc e he).1, (h c hc e he).2.trans ⟨Or.inl, fun z => z.elim id (fun ⟨z1, z2⟩ => absurd (by rw [z1, z2]) q)⟩⟩
section T2
variable {S : gS} {u : Int32} {a b : Nat → Nat} {k g : Nat}
/-- what the open grade x of the set n adds -/
def stq (a b : Nat → Nat) (n x j c e : Nat) : Prop := ∃ i, i < j ∧ n.testBit i = false ∧ c = n ||| 2 ^ i ∧ ((a i = x ∧ e = b i) ∨ (b i = x ∧ e = a i))
theorem bit_0 {n i : Nat} : n / 2 ^ i % 2 = 0 ↔ n.testBit i = false := by
  rw [Nat.testBit_eq_decide_div_mod_eq, decide_eq_false_iff_not]
  omega
theorem gl_cms (h : HG S u k a b) {n x i : Nat} (hi : i < k) (hx : x < 7) {C : Nat → Int32} {D : Nat → Nat → Prop} (hC : cms C k D) : cms (m_gl S (g_hand S u (nI i)) n x i C 2) k (fun c e => D c e ∨ (n.testBit i = false ∧ c = n ||| 2 ^ i ∧ ((a i = x ∧ e = b i) ∨ (b i = x ∧ e = a i)))) := by
  obtain ⟨h1, h2, h3, h4⟩ := h i hi
  show cms (m_gh S (g_hand S u (nI i)) n x i (m_gh S (g_hand S u (nI i)) n x i C 0) 1) k _
  by_cases hb : n.testBit i = false
  · have hb0 := bit_0.mpr hb
    have s0 : cms (m_gh S (g_hand S u (nI i)) n x i C 0) k (fun c e => D c e ∨ (c = n ||| 2 ^ i ∧ a i = x ∧ e = b i)) := by
      by_cases c1 : a i = x
      · rw [gh_t (h := 0) (g := b i) hb0 (by rw [h1, c1]) h2 h4]
        exact (hC.upd h4).iff (fun c _ e _ => ⟨fun q => q.imp id (fun ⟨q1, q2⟩ => ⟨q1, c1, q2⟩), fun q => q.imp id (fun ⟨q1, _, q2⟩ => ⟨q1, q2⟩)⟩)
      · rw [gh_2 (h := 0) (by rw [h1]; exact fun q => c1 (nI_inj (by omega) (by omega) q))]
        exact hC.iff (fun c _ e _ => ⟨Or.inl, fun q => q.elim id (fun ⟨_, q1, _⟩ => absurd q1 c1)⟩)
    by_cases c2 : b i = x
    · rw [gh_t (h := 1) (g := a i) hb0 (by rw [h2, c2]) h1 h3]
      refine (s0.upd h3).iff (fun c _ e _ => ⟨fun q => ?_, fun q => ?_⟩)
      · rcases q with (q | ⟨q1, q2, q3⟩) | ⟨q1, q2⟩
        · exact Or.inl q
        · exact Or.inr ⟨hb, q1, Or.inl ⟨q2, q3⟩⟩
        · exact Or.inr ⟨hb, q1, Or.inr ⟨c2, q2⟩⟩
      · rcases q with q | ⟨_, q1, ⟨q2, q3⟩ | ⟨q2, q3⟩⟩
        · exact Or.inl (Or.inl q)
        · exact Or.inl (Or.inr ⟨q1, q2, q3⟩)
        · exact Or.inr ⟨q1, q3⟩
    · rw [gh_2 (h := 1) (by rw [h2]; exact fun q => c2 (nI_inj (by omega) (by omega) q))]
      refine s0.iff (fun c _ e _ => ⟨fun q => q.imp id (fun ⟨q1, q2, q3⟩ => ⟨hb, q1, Or.inl ⟨q2, q3⟩⟩), fun q => q.imp id ?_⟩)
      rintro ⟨_, q1, ⟨q2, q3⟩ | ⟨q2, q3⟩⟩
      · exact ⟨q1, q2, q3⟩
      · exact absurd q2 c2
  · have hb1 : ¬ n / 2 ^ i % 2 = 0 := fun q => hb (bit_0.mp q)
    rw [gh_1 hb1, gh_1 hb1]
    exact hC.iff (fun c _ e _ => ⟨Or.inl, fun q => q.elim id (fun ⟨q1, _⟩ => absurd q1 hb)⟩)
theorem go_cms (h : HG S u k a b) {n x : Nat} (hx : x < 7) {C : Nat → Int32} {D : Nat → Nat → Prop} (hC : cms C k D) : ∀ j, j ≤ k → cms (m_go S u n x C j) k (fun c e => D c e ∨ stq a b n x j c e) := by
  intro j
  induction j with
  | zero => intro _; exact hC.iff (fun c _ e _ => ⟨Or.inl, fun q => q.elim id (fun ⟨i, hi, _⟩ => absurd hi (Nat.not_lt_zero i))⟩)
  | succ j ih =>
    intro hj
    refine (gl_cms h (n := n) (x := x) (i := j) (by omega) hx (ih (by omega))).iff (fun c _ e _ => ⟨fun q => ?_, fun q => ?_⟩)
    · rcases q with (q | ⟨i, q1, q2⟩) | q
      · exact Or.inl q
      · exact Or.inr ⟨i, by omega, q2⟩
      · exact Or.inr ⟨j, by omega, q⟩
    · rcases q with q | ⟨i, q1, q2⟩
      · exact Or.inl (Or.inl q)
      · by_cases c1 : i = j
        · subst c1; exact Or.inr q2
        · exact Or.inl (Or.inr ⟨i, by omega, q2⟩)
theorem tb_cms (h : HG S u k a b) (hk : k ≤ 10) {n : Nat} (hn : n < 2 ^ k) {q : Int32 × (Nat → Int32)} {D : Nat → Nat → Prop} (hC : cms q.2 k D) : ∀ j, j ≤ 7 → cms (m_tb S u n k q j).2 k (fun c e => D c e ∨ ∃ x, x < j ∧ D n x ∧ stq a b n x k c e) ∧ ((∀ x, x < j → ¬ D n x) → (m_tb S u n k q j).1 = q.1) ∧ ((∃ x, x < j ∧ D n x) → (m_tb S u n k q j).1 = if q.1 < m_ones (nI n) then m_ones (nI n) else q.1) := by
  intro j
  induction j with
  | zero => intro _; exact ⟨hC.iff (fun c _ e _ => ⟨Or.inl, fun z => z.elim id (fun ⟨x, hx, _⟩ => absurd hx (Nat.not_lt_zero x))⟩), fun _ => rfl, fun ⟨x, hx, _⟩ => absurd hx (Nat.not_lt_zero x)⟩
  | succ j ih =>
    intro hj
    obtain ⟨i1, i2, i3⟩ := ih (by omega)
    have hself : ((m_tb S u n k q j).2 (7 * n + j) = 1) ↔ D n j := (i1 n hn j (by omega)).2.trans ⟨fun z => z.elim id (fun ⟨x, _, _, i, _, z2, z3, _⟩ => absurd z3 (Nat.ne_of_lt (or_gt z2))), Or.inl⟩
    have h01 := (i1 n hn j (by omega)).1
    show cms (m_ts S u n k (m_tb S u n k q j) j).2 k _ ∧ _ ∧ _
    by_cases c1 : (m_tb S u n k q j).2 (7 * n + j) = 0
    · have hD : ¬ D n j := fun z => by rw [hself.mpr z] at c1; exact absurd c1 (by decide)
      have e : m_ts S u n k (m_tb S u n k q j) j = m_tb S u n k q j := if_pos c1
      have e' : m_tb S u n k q (j + 1) = m_tb S u n k q j := e
      rw [e, e']
      refine ⟨i1.iff (fun c _ e _ => ⟨fun z => z.imp id (fun ⟨x, z1, z2⟩ => ⟨x, by omega, z2⟩), fun z => z.imp id (fun ⟨x, z1, z2, z3⟩ => ⟨x, ?_, z2, z3⟩)⟩), fun z => i2 (fun x hx => z x (by omega)), fun ⟨x, z1, z2⟩ => i3 ⟨x, ?_, z2⟩⟩
      · by_cases c2 : x = j
        · subst c2; exact absurd z2 hD
        · omega
      · by_cases c2 : x = j
        · subst c2; exact absurd z2 hD
        · omega
    · have hD : D n j := hself.mp (h01.resolve_left c1)
      have e : m_ts S u n k (m_tb S u n k q j) j = (if (m_tb S u n k q j).1 < m_ones (nI n) then m_ones (nI n) else (m_tb S u n k q j).1, m_go S u n j (m_tb S u n k q j).2 k) := if_neg c1
      have e' : m_tb S u n k q (j + 1) = (if (m_tb S u n k q j).1 < m_ones (nI n) then m_ones (nI n) else (m_tb S u n k q j).1, m_go S u n j (m_tb S u n k q j).2 k) := e
      rw [e, e']
      refine ⟨(go_cms h (n := n) (x := j) (by omega) i1 k (Nat.le_refl _)).iff (fun c _ e _ => ⟨fun z => ?_, fun z => ?_⟩), fun z => absurd hD (z j (by omega)), fun _ => ?_⟩
      · rcases z with (z | ⟨x, z1, z2⟩) | z
        · exact Or.inl z
        · exact Or.inr ⟨x, by omega, z2⟩
        · exact Or.inr ⟨j, by omega, hD, z⟩
      · rcases z with z | ⟨x, z1, z2, z3⟩
        · exact Or.inl (Or.inl z)
        · by_cases c2 : x = j
          · subst c2; exact Or.inr z3
          · exact Or.inl (Or.inr ⟨x, by omega, z2, z3⟩)
      · show (if (m_tb S u n k q j).1 < m_ones (nI n) then m_ones (nI n) else (m_tb S u n k q j).1) = _
        by_cases c2 : ∃ x, x < j ∧ D n x
        · rw [i3 c2]
          by_cases c3 : q.1 < m_ones (nI n)
          · rw [if_pos c3, if_neg (fun z => Int32.lt_irrefl z)]
          · rw [if_neg c3, if_neg c3]
        · rw [i2 (fun x hx z => c2 ⟨x, hx, z⟩)]
theorem f0_cms (hk : k ≤ 10) (hg : g < 7) (F : Nat → Int32) : cms (m_f0 (nI g) F (7 * 2 ^ k)) k (fun c e => c = 0 ∧ e = g) := by
  have key : ∀ N idx, idx < N → m_f0 (nI g) F N idx = vp_nar .boolean (bI (decide (nI idx = nI g))) := by
    intro N
    induction N with
    | zero => intro idx h; omega
    | succ N ih =>
      intro idx h
      show upd (m_f0 (nI g) F N) N (vp_nar .boolean (bI (decide (nI N = nI g)))) idx = _
      by_cases c : idx = N
      · subst c; rw [upd_s]
      · rw [upd_n c]; exact ih idx (by omega)
  intro c hc e he
  rw [key _ (7 * c + e) (by omega)]
  by_cases q : nI (7 * c + e) = nI g
  · rw [decide_eq_true q]
    refine ⟨Or.inr rfl, fun _ => ?_, fun _ => rfl⟩
    by_cases c0 : c = 0
    · subst c0
      exact ⟨rfl, by have := nI_inj (a := 7 * 0 + e) (b := g) (by omega) (by omega) q; omega⟩
    · exfalso
      have hp := p2_le hk
      have := nI_inj (a := 7 * c + e) (b := g) (by omega) (by omega) q
      omega
  · rw [decide_eq_false q]
    refine ⟨Or.inl rfl, fun z => absurd z (by decide), fun ⟨z1, z2⟩ => absurd (by rw [z1, z2]; simp) q⟩
theorem tr_cms (h : HG S u k a b) (hk : k ≤ 10) (hg : g < 7) (F of : Nat → Int32) (hof : ∀ c, c < 2 ^ k → (of c = 0 ↔ ∀ e, e < 7 → ¬ Dp a b k g (2 ^ k) c e)) : ∀ n, n ≤ 2 ^ k → cms (m_tr S u k (0, m_f0 (nI g) F (7 * 2 ^ k)) n).2 k (Dp a b k g n) ∧ (m_tr S u k (0, m_f0 (nI g) F (7 * 2 ^ k)) n).1 = t_mx of n := by
  intro n
  induction n with
  | zero => intro _; exact ⟨f0_cms hk hg F, rfl⟩
  | succ n ih =>
    intro hn
    obtain ⟨i1, i2⟩ := ih (by omega)
    have hp := p2_le hk
    obtain ⟨j1, j2, j3⟩ := tb_cms h hk (n := n) (by omega) i1 7 (Nat.le_refl _)
    refine ⟨j1.iff (fun c _ e _ => ⟨fun z => z.imp id ?_, fun z => z.imp id ?_⟩), ?_⟩
    · rintro ⟨x, z1, z2, i, z3, z4, z5, z6⟩
      refine ⟨i, z3, z4, z5, ?_⟩
      rcases z6 with ⟨z7, z8⟩ | ⟨z7, z8⟩
      · left; rw [z7]; exact ⟨z2, z8⟩
      · right; rw [z7]; exact ⟨z2, z8⟩
    · rintro ⟨i, z3, z4, z5, z6⟩
      obtain ⟨-, -, ha, hb⟩ := h i z3
      rcases z6 with ⟨z7, z8⟩ | ⟨z7, z8⟩
      · exact ⟨a i, ha, z7, i, z3, z4, z5, Or.inl ⟨rfl, z8⟩⟩
      · exact ⟨b i, hb, z7, i, z3, z4, z5, Or.inr ⟨rfl, z8⟩⟩
    · have hfin : ∀ e, Dp a b k g (2 ^ k) n e ↔ Dp a b k g n n e := fun e => ⟨Dp.fin (by omega), Dp.mono (by omega)⟩
      show (m_tb S u n k (m_tr S u k (0, m_f0 (nI g) F (7 * 2 ^ k)) n) 7).1 = (if of n = 0 then t_mx of n else if t_mx of n < j_bc (nI n) then j_bc (nI n) else t_mx of n)
      by_cases c1 : of n = 0
      · rw [if_pos c1]
        have hz := (hof n (by omega)).mp c1
        rw [j2 (fun x hx q => hz x hx ((hfin x).mpr q)), i2]
      · rw [if_neg c1]
        have hex : ∃ x, x < 7 ∧ Dp a b k g n n x := by
          apply Classical.byContradiction
          intro q
          exact c1 ((hof n (by omega)).mpr (fun e he z => q ⟨e, he, (hfin e).mp z⟩))
        rw [j3 hex, i2, (onc_ok n (by omega)).2, (onc_ok n (by omega)).1]
/-- the model's longest train is the class's -/
theorem lo_eq {hf : Nat → Int32} (hv : HV hf k a b) (h : HG S u k a b) (hg : g < 7) (F f : Nat → Int32) : (m_lo S u (nI g) k F).1 = t_most (t_of hf k (nI g) f) k := by
  unfold m_lo t_most
  by_cases c : 10 < k
  · rw [if_pos c, if_pos c]
  · rw [if_neg c, if_neg c]
    unfold m_try
    exact (tr_cms h (by omega) hg F (t_of hf k (nI g) f) (fun c hc => (of_bits hv (by omega) hg f c hc).zero) (2 ^ k) (Nat.le_refl _)).2
theorem wh_eq {hf : Nat → Int32} (hv : HV hf k a b) (h : HG S u k a b) (hg : g < 7) (F f : Nat → Int32) : m_wh S u (nI g) k F = t_whole (t_of hf k (nI g) f) k := by
  have hl := lo_eq hv h hg F f
  unfold m_wh
  rw [hl]
  unfold t_most t_whole
  by_cases c : 10 < k
  · rw [if_pos c, if_pos c, if_pos rfl]
  · rw [if_neg c, if_neg c]
    obtain ⟨x, h1, h2, h3⟩ := whole_mx hv (by omega) hg f
    rw [h2, if_neg (nI_ne1 (by omega))]
    by_cases c2 : t_of hf k (nI g) f (2 ^ k - 1) = 0
    · rw [if_pos c2, if_neg (fun q => ?_)]
      have := nI_inj (by omega) (by omega) q
      exact (h3.mp this) c2
    · rw [if_neg c2, if_pos (by rw [h3.mpr c2])]
end T2
