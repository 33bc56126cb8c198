/-! THE CLASS'S TRAINS ARE THE TRAILS -/
def HV (hf : Nat → Int32) (k : Nat) (a b : Nat → Nat) : Prop := ∀ i, i < k → t_half hf (nI i) 0 = nI (2 ^ a i) ∧ t_half hf (nI i) 1 = nI (2 ^ b i) ∧ a i < 7 ∧ b i < 7
def bits (x : Int32) (D : Nat → Prop) : Prop := ∃ m, m < 128 ∧ x = nI m ∧ ∀ e, e < 7 → (m.testBit e = true ↔ D e)
theorem bits.iff {x : Int32} {D E : Nat → Prop} (h : bits x D) (q : ∀ e, e < 7 → (D e ↔ E e)) : bits x E := by
  obtain ⟨m, h1, h2, h3⟩ := h
  exact ⟨m, h1, h2, fun e he => (h3 e he).trans (q e he)⟩
theorem bits.zero {x : Int32} {D : Nat → Prop} (h : bits x D) : x = 0 ↔ ∀ e, e < 7 → ¬ D e := by
  obtain ⟨m, h1, h2, h3⟩ := h
  constructor
  · intro hx e he hd
    have hm : m = 0 := nI_inj (b := 0) (by omega) (by decide) (h2.symm.trans hx)
    rw [hm] at h3
    have := (h3 e he).mpr hd
    rw [Nat.zero_testBit] at this
    exact absurd this (by decide)
  · intro h
    have hm : m = 0 := by
      apply Nat.eq_of_testBit_eq
      intro j
      rw [Nat.zero_testBit]
      by_cases c : j < 7
      · rw [Bool.eq_false_iff]
        intro q
        exact h j c ((h3 j c).mp q)
      · exact Nat.testBit_lt_two_pow (Nat.lt_of_lt_of_le h1 (Nat.pow_le_pow_right (n := 2) (by decide) (show 7 ≤ j by omega)))
    rw [h2, hm]; rfl
section T1
variable {hf : Nat → Int32} {a b : Nat → Nat} {k g : Nat}
theorem HV.ob (h : HV hf k a b) {i m : Nat} (hi : i < k) (hm : m < 128) : t_ob hf (nI i) (nI m) = nI (ob m (a i) (b i)) ∧ ob m (a i) (b i) < 128 := by
  obtain ⟨h1, h2, h3, h4⟩ := h i hi
  have e := ob_ok m hm (a i) h3 (b i) h4
  refine ⟨?_, e.2⟩
  unfold t_ob
  rw [h1, h2]
  exact e.1
/-- what a set that is gone on from adds -/
def stp (a b : Nat → Nat) (n : Nat) (D : Nat → Nat → Prop) (j c e : Nat) : Prop := ∃ i, i < j ∧ n.testBit i = false ∧ c = n ||| 2 ^ i ∧ ((D n (a i) ∧ e = b i) ∨ (D n (b i) ∧ e = a i))
theorem go_bits (h : HV hf k a b) (hk : k ≤ 10) {n : Nat} (hn : n < 2 ^ k) {F : Nat → Int32} {D : Nat → Nat → Prop} (hF : ∀ c, c < 2 ^ k → bits (F c) (D c)) : ∀ j, j ≤ k → ∀ c, c < 2 ^ k → bits (t_go hf n F j c) (fun e => D c e ∨ stp a b n D j c e) := by
  intro j
  induction j with
  | zero =>
    intro _ c hc
    exact (hF c hc).iff (fun e _ => ⟨Or.inl, fun q => q.elim id (fun ⟨i, hi, _⟩ => absurd hi (Nat.not_lt_zero i))⟩)
  | succ j ih =>
    intro hj c hc
    have ihc := ih (by omega)
    have hup : ∀ c, (bits (t_go hf n F j c) (fun e => D c e ∨ stp a b n D j c e)) → c ≠ n ||| 2 ^ j ∨ n.testBit j = true → bits (t_go hf n F j c) (fun e => D c e ∨ stp a b n D (j + 1) c e) := by
      intro c hb hne
      refine hb.iff (fun e _ => ⟨fun q => q.imp id (fun ⟨i, h1, h2⟩ => ⟨i, by omega, h2⟩), fun q => q.imp id (fun ⟨i, h1, h2, h3, h4⟩ => ?_)⟩)
      by_cases c1 : i = j
      · subst c1
        rcases hne with hne | hne
        · exact absurd h3 hne
        · rw [hne] at h2; exact absurd h2 (by decide)
      · exact ⟨i, by omega, h2, h3, h4⟩
    show bits ((if n ||| 2 ^ j = n then t_go hf n F j else upd (t_go hf n F j) (n ||| 2 ^ j) (t_go hf n F j (n ||| 2 ^ j) ||| t_ob hf (nI j) (t_go hf n F j n))) c) _
    by_cases c0 : n ||| 2 ^ j = n
    · rw [if_pos c0]
      exact hup c (ihc c hc) (Or.inr (or_eq.mp c0))
    · rw [if_neg c0]
      have hbj : n.testBit j = false := by
        rw [Bool.eq_false_iff]
        exact fun q => c0 (or_eq.mpr q)
      by_cases c1 : c = n ||| 2 ^ j
      · subst c1
        rw [upd_s]
        obtain ⟨m, m1, m2, m3⟩ := ihc _ hc
        obtain ⟨q, q1, q2, q3⟩ := ihc n hn
        rw [m2, q2, (h.ob (by omega) q1).1, fa_or_]
        refine ⟨_, or_128 m1 (h.ob (i := j) (by omega) q1).2, rfl, fun e he => ?_⟩
        rw [Nat.testBit_or, Bool.or_eq_true, m3 e he, ob_bit]
        have hD : ∀ x, x < 7 → (q.testBit x = true ↔ D n x) := fun x hx => (q3 x hx).trans ⟨fun z => z.elim id (fun ⟨i, h1, h2, h3, _⟩ => absurd h3 (Nat.ne_of_lt (or_gt h2))), Or.inl⟩
        obtain ⟨-, -, ha, hb⟩ := h j (by omega)
        rw [hD _ ha, hD _ hb]
        constructor
        · rintro ((z | ⟨i, h1, h2⟩) | z)
          · exact Or.inl z
          · exact Or.inr ⟨i, by omega, h2⟩
          · exact Or.inr ⟨j, by omega, hbj, rfl, z⟩
        · rintro (z | ⟨i, h1, h2, h3, h4⟩)
          · exact Or.inl (Or.inl z)
          · by_cases c2 : i = j
            · subst c2; exact Or.inr h4
            · exact Or.inl (Or.inr ⟨i, by omega, h2, h3, h4⟩)
      · rw [upd_n c1]
        exact hup c (ihc c hc) (Or.inl c1)
theorem fill_0 (f : Nat → Int32) (x : Int32) : ∀ N c, c < N → t_fill x N f c = if c = 0 then 1 <<< (x &&& 31) else 0 := by
  intro N
  induction N with
  | zero => intro c hc; omega
  | succ N ih =>
    intro c hc
    show upd (t_fill x N f) N (if N = 0 then 1 <<< (x &&& 31) else 0) c = _
    by_cases c1 : c = N
    · subst c1; rw [upd_s]
    · rw [upd_n c1]; exact ih c (by omega)
theorem try_bits (h : HV hf k a b) (hk : k ≤ 10) (hg : g < 7) (f : Nat → Int32) : ∀ n, n ≤ 2 ^ k → ∀ c, c < 2 ^ k → bits (t_try hf k (t_fill (nI g) (2 ^ k) f) n c) (Dp a b k g n c) := by
  intro n
  induction n with
  | zero =>
    intro _ c hc
    show bits (t_fill (nI g) (2 ^ k) f c) _
    rw [fill_0 f (nI g) (2 ^ k) c hc]
    by_cases c1 : c = 0
    · subst c1
      rw [if_pos rfl, sh_ok g (by omega)]
      refine ⟨2 ^ g, Nat.pow_lt_pow_right (by decide) hg, rfl, fun e he => ?_⟩
      rw [Nat.testBit_two_pow, decide_eq_true_eq]
      exact ⟨fun q => ⟨rfl, q.symm⟩, fun q => q.2.symm⟩
    · rw [if_neg c1]
      refine ⟨0, by decide, rfl, fun e he => ?_⟩
      rw [Nat.zero_testBit]
      exact ⟨fun q => absurd q (by decide), fun q => absurd q.1 c1⟩
  | succ n ih =>
    intro hn c hc
    have ihc := ih (by omega)
    show bits ((if t_try hf k (t_fill (nI g) (2 ^ k) f) n n = 0 then t_try hf k (t_fill (nI g) (2 ^ k) f) n else t_go hf n (t_try hf k (t_fill (nI g) (2 ^ k) f) n) k) c) _
    by_cases c1 : t_try hf k (t_fill (nI g) (2 ^ k) f) n n = 0
    · rw [if_pos c1]
      have hz := (ihc n (by omega)).zero.mp c1
      refine (ihc c hc).iff (fun e _ => ⟨Or.inl, fun q => q.elim id (fun ⟨i, h1, h2, h3, h4⟩ => ?_)⟩)
      obtain ⟨-, -, ha, hb⟩ := h i h1
      rcases h4 with h4 | h4
      · exact absurd h4.1 (hz _ ha)
      · exact absurd h4.1 (hz _ hb)
    · rw [if_neg c1]
      exact go_bits h hk (by omega) ihc k (Nat.le_refl _) c hc
theorem of_bits (h : HV hf k a b) (hk : k ≤ 10) (hg : g < 7) (f : Nat → Int32) : ∀ c, c < 2 ^ k → bits (t_of hf k (nI g) f c) (Dp a b k g (2 ^ k) c) := by
  intro c hc
  unfold t_of
  rw [if_neg (by omega)]
  exact try_bits h hk hg f (2 ^ k) (Nat.le_refl _) c hc
end T1
def onc (c : Nat) : Nat := (List.range 10).foldl (fun s i => s + c / 2 ^ i % 2) 0
set_option maxRecDepth 100000 in
theorem onc_ok : ∀ c, c < 1024 → j_bc (nI c) = nI (onc c) ∧ m_ones (nI c) = nI (onc c) := by decide +kernel
set_option maxRecDepth 100000 in
theorem onc_le : ∀ k, k < 11 → ∀ c, c < 2 ^ k → onc c ≤ k ∧ (onc c = k → c = 2 ^ k - 1) := by decide +kernel
theorem onc_all : ∀ k, k < 11 → onc (2 ^ k - 1) = k := by decide +kernel
/-- the most tiles: a natural up to k; k where the whole hand is one train -/
theorem mx_nat {of : Nat → Int32} {k : Nat} (hk : k ≤ 10) : ∀ n, n ≤ 2 ^ k → ∃ x, x ≤ k ∧ t_mx of n = nI x ∧ ((∃ c, c < n ∧ of c ≠ 0 ∧ onc c = k) → x = k) ∧ (x = k → k = 0 ∨ ∃ c, c < n ∧ of c ≠ 0 ∧ onc c = k) := by
  intro n
  induction n with
  | zero => intro _; exact ⟨0, by omega, rfl, fun ⟨c, hc, _⟩ => absurd hc (Nat.not_lt_zero c), fun q => Or.inl q.symm⟩
  | succ n ih =>
    intro hn
    obtain ⟨x, h1, h2, h3, h4⟩ := ih (by omega)
    have hp := p2_le hk
    have hl := onc_le k (by omega) n (by omega)
    show ∃ x, x ≤ k ∧ (if of n = 0 then t_mx of n else if t_mx of n < j_bc (nI n) then j_bc (nI n) else t_mx of n) = nI x ∧ _ ∧ _
    by_cases c1 : of n = 0
    · rw [if_pos c1]
      refine ⟨x, h1, h2, fun ⟨c, hc, q1, q2⟩ => h3 ⟨c, ?_, q1, q2⟩, fun q => (h4 q).imp id (fun ⟨c, hc, z⟩ => ⟨c, by omega, z⟩)⟩
      by_cases c2 : c = n
      · subst c2; exact absurd c1 q1
      · omega
    · rw [if_neg c1, (onc_ok n (by omega)).1, h2]
      by_cases c2 : x < onc n
      · rw [if_pos (nI_lt c2 (by omega))]
        refine ⟨onc n, hl.1, rfl, fun ⟨c, hc, q1, q2⟩ => ?_, fun q => Or.inr ⟨n, by omega, c1, q⟩⟩
        by_cases c3 : c = n
        · subst c3; exact q2
        · have := h3 ⟨c, by omega, q1, q2⟩; omega
      · rw [if_neg (fun q => c2 ((nI_ltI (by omega) (by omega)).mp q))]
        refine ⟨x, h1, rfl, fun ⟨c, hc, q1, q2⟩ => ?_, fun q => (h4 q).imp id (fun ⟨c, hc, z⟩ => ⟨c, by omega, z⟩)⟩
        by_cases c3 : c = n
        · subst c3; omega
        · exact h3 ⟨c, by omega, q1, q2⟩
theorem whole_mx {hf : Nat → Int32} {a b : Nat → Nat} {k g : Nat} (h : HV hf k a b) (hk : k ≤ 10) (hg : g < 7) (f : Nat → Int32) : ∃ x, x ≤ k ∧ t_mx (t_of hf k (nI g) f) (2 ^ k) = nI x ∧ (x = k ↔ t_of hf k (nI g) f (2 ^ k - 1) ≠ 0) := by
  obtain ⟨x, h1, h2, h3, h4⟩ := mx_nat (of := t_of hf k (nI g) f) hk (2 ^ k) (Nat.le_refl _)
  have hpos := p2_pos k
  refine ⟨x, h1, h2, fun q => ?_, fun q => h3 ⟨2 ^ k - 1, by omega, q, onc_all k (by omega)⟩⟩
  rcases h4 q with z | ⟨c, hc, q1, q2⟩
  · subst z
    intro hz
    have := (of_bits h hk hg f 0 (by decide)).zero.mp hz g hg
    exact this (Dp.mono (n := 0) (Nat.zero_le _) ⟨rfl, rfl⟩)
  · rw [← (onc_le k (by omega) c hc).2 q2]
    exact q1
