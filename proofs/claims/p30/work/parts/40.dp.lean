/-! TRAILS BY SETS OF TILES: Dp n c e: with the sets below n gone on from, a trail of the tiles of c leads to e -/
def Dp (a b : Nat → Nat) (k g : Nat) : Nat → Nat → Nat → Prop
  | 0, c, e => c = 0 ∧ e = g
  | n + 1, c, e => Dp a b k g n c e ∨ ∃ i, i < k ∧ n.testBit i = false ∧ c = n ||| 2 ^ i ∧ ((Dp a b k g n n (a i) ∧ e = b i) ∨ (Dp a b k g n n (b i) ∧ e = a i))
def msk : List Nat → Nat
  | [] => 0
  | i :: l => msk l ||| 2 ^ i
theorem msk_bit : ∀ {l : List Nat} {j : Nat}, (msk l).testBit j = true ↔ j ∈ l := by
  intro l
  induction l with
  | nil => intro j; simp [msk]
  | cons i l ih =>
    intro j
    show (msk l ||| 2 ^ i).testBit j = true ↔ _
    rw [Nat.testBit_or, Bool.or_eq_true, ih, Nat.testBit_two_pow, List.mem_cons, decide_eq_true_eq]
    exact ⟨fun h => h.elim Or.inr (fun q => Or.inl q.symm), fun h => h.elim (fun q => Or.inr q.symm) Or.inl⟩
theorem or_gt {n i : Nat} (h : n.testBit i = false) : n < n ||| 2 ^ i := by
  have h1 : n ≤ n ||| 2 ^ i := Nat.left_le_or
  have h2 : n ≠ n ||| 2 ^ i := by
    intro e
    have := congrArg (fun x => x.testBit i) e
    simp only [Nat.testBit_or, h, Nat.testBit_two_pow_self, Bool.or_true] at this
    exact absurd this (by decide)
  omega
theorem or_eq {n i : Nat} : n ||| 2 ^ i = n ↔ n.testBit i = true := by
  constructor
  · intro e
    by_cases c : n.testBit i = true
    · exact c
    · have := or_gt (n := n) (i := i) (by simpa using c)
      omega
  · intro h
    apply Nat.eq_of_testBit_eq
    intro j
    rw [Nat.testBit_or, Nat.testBit_two_pow]
    by_cases c : i = j
    · subst c; rw [h]; rfl
    · rw [decide_eq_false c, Bool.or_false]
theorem snoc_ : ∀ (l : List Nat), l ≠ [] → ∃ l0 i, l = l0 ++ [i] := by
  intro l
  induction l with
  | nil => intro h; exact absurd rfl h
  | cons j l ih =>
    intro _
    by_cases c : l = []
    · subst c; exact ⟨[], j, rfl⟩
    · obtain ⟨l0, i, e⟩ := ih c
      exact ⟨j :: l0, i, by rw [e]; rfl⟩
section DP
variable {a b : Nat → Nat} {k g : Nat}
theorem Dp.mono {c e : Nat} : ∀ {m n : Nat}, n ≤ m → Dp a b k g n c e → Dp a b k g m c e := by
  intro m
  induction m with
  | zero => intro n h q; rw [show n = 0 by omega] at q; exact q
  | succ m ih =>
    intro n h q
    by_cases c1 : n = m + 1
    · subst c1; exact q
    · exact Or.inl (ih (by omega) q)
/-- the set n is through once the sets below it are gone on from -/
theorem Dp.fin {c e : Nat} : ∀ {m : Nat}, c ≤ m → Dp a b k g m c e → Dp a b k g c c e := by
  intro m
  induction m with
  | zero => intro h q; rw [show c = 0 by omega] at q ⊢; exact q
  | succ m ih =>
    intro h q
    by_cases c1 : c = m + 1
    · rw [← c1] at q; exact q
    · rcases q with q | ⟨i, hi, hb, hc, -⟩
      · exact ih (by omega) q
      · have := or_gt hb
        omega
theorem Dp.out : ∀ {n c e : Nat}, Dp a b k g n c e → ∃ l : List Nat, l.Nodup ∧ (∀ i, i ∈ l → i < k) ∧ msk l = c ∧ tr a b l g e := by
  intro n
  induction n with
  | zero =>
    rintro c e ⟨h1, h2⟩
    exact ⟨[], List.nodup_nil, fun i hi => (by cases hi), h1.symm, h2.symm⟩
  | succ n ih =>
    intro c e h
    rcases h with h | ⟨i, hi, hb, hc, h⟩
    · exact ih h
    · have key : ∀ x, Dp a b k g n n x → (a i = x ∧ b i = e ∨ b i = x ∧ a i = e) → ∃ l : List Nat, l.Nodup ∧ (∀ i, i ∈ l → i < k) ∧ msk l = c ∧ tr a b l g e := by
        intro x hx hh
        obtain ⟨l, h1, h2, h3, h4⟩ := ih hx
        have hil : i ∉ l := fun q => by
          have := msk_bit.mpr q
          rw [h3, hb] at this
          exact absurd this (by decide)
        have hpm : (i :: l).Perm (l ++ [i]) := (List.perm_append_comm (l₁ := l) (l₂ := [i])).symm
        refine ⟨l ++ [i], hpm.nodup_iff.mp (List.nodup_cons.mpr ⟨hil, h1⟩), fun j hj => ?_, ?_, tr_app.mpr ⟨x, h4, ?_⟩⟩
        · rcases List.mem_append.mp hj with q | q
          · exact h2 j q
          · rw [List.mem_singleton.mp q]; exact hi
        · apply Nat.eq_of_testBit_eq
          intro j
          rw [Bool.eq_iff_iff, msk_bit, hc, Nat.testBit_or, Bool.or_eq_true, List.mem_append, List.mem_singleton, ← h3, msk_bit, Nat.testBit_two_pow, decide_eq_true_eq]
          exact ⟨fun q => q.imp id Eq.symm, fun q => q.imp id Eq.symm⟩
        · rcases hh with ⟨q1, q2⟩ | ⟨q1, q2⟩
          · exact Or.inl ⟨q1, q2⟩
          · exact Or.inr ⟨q1, q2⟩
      rcases h with ⟨h1, h2⟩ | ⟨h1, h2⟩
      · exact key (a i) h1 (Or.inl ⟨rfl, h2.symm⟩)
      · exact key (b i) h1 (Or.inr ⟨rfl, h2.symm⟩)
theorem Dp.in_ : ∀ (m : Nat) (l : List Nat) (e : Nat), l.length = m → l.Nodup → (∀ i, i ∈ l → i < k) → tr a b l g e → Dp a b k g (msk l) (msk l) e := by
  intro m
  induction m with
  | zero =>
    intro l e hl _ _ ht
    have q : l = [] := List.eq_nil_of_length_eq_zero hl
    subst q
    exact ⟨rfl, ht.symm⟩
  | succ m ih =>
    intro l e hl hn hk ht
    have hne : l ≠ [] := by intro q; subst q; cases hl
    obtain ⟨l0, i, rfl⟩ := snoc_ l hne
    obtain ⟨x, h1, h2⟩ := tr_app.mp ht
    have hpm : (i :: l0).Perm (l0 ++ [i]) := (List.perm_append_comm (l₁ := l0) (l₂ := [i])).symm
    have hn2 := List.nodup_cons.mp (hpm.nodup_iff.mpr hn)
    have hl0 : l0.length = m := by rw [List.length_append] at hl; exact Nat.succ.inj hl
    have hd := ih l0 x hl0 hn2.2 (fun j hj => hk j (List.mem_append_left _ hj)) h1
    have hb : (msk l0).testBit i = false := by
      rw [Bool.eq_false_iff]
      intro q
      exact hn2.1 (msk_bit.mp q)
    have he : msk (l0 ++ [i]) = msk l0 ||| 2 ^ i := by
      apply Nat.eq_of_testBit_eq
      intro j
      rw [Bool.eq_iff_iff, msk_bit, Nat.testBit_or, Bool.or_eq_true, List.mem_append, List.mem_singleton, msk_bit, Nat.testBit_two_pow, decide_eq_true_eq]
      exact ⟨fun q => q.imp id Eq.symm, fun q => q.imp id Eq.symm⟩
    have hstep : Dp a b k g (msk l0 + 1) (msk (l0 ++ [i])) e := by
      right
      refine ⟨i, hk i (List.mem_append_right _ List.mem_cons_self), hb, he, ?_⟩
      rcases h2 with ⟨q1, q2⟩ | ⟨q1, q2⟩
      · left; rw [q1]; exact ⟨hd, q2.symm⟩
      · right; rw [q1]; exact ⟨hd, q2.symm⟩
    exact Dp.mono (by rw [he]; exact or_gt hb) hstep
/-- the whole hand can be one train -/
theorem Dp.all : (∃ e, Dp a b k g (2 ^ k) (2 ^ k - 1) e) ↔ ∃ l e, (List.range k).Perm l ∧ tr a b l g e := by
  have hmem : ∀ {l : List Nat}, (∀ i, i ∈ l → i < k) → (msk l = 2 ^ k - 1 ↔ ∀ i, i < k → i ∈ l) := by
    intro l hl
    constructor
    · intro h i hi
      have : (msk l).testBit i = true := by rw [h, Nat.testBit_two_pow_sub_one]; exact decide_eq_true hi
      exact msk_bit.mp this
    · intro h
      apply Nat.eq_of_testBit_eq
      intro j
      rw [Bool.eq_iff_iff, msk_bit, Nat.testBit_two_pow_sub_one, decide_eq_true_eq]
      exact ⟨hl j, h j⟩
  constructor
  · rintro ⟨e, h⟩
    obtain ⟨l, h1, h2, h3, h4⟩ := h.out
    refine ⟨l, e, ?_, h4⟩
    have h5 := (hmem h2).mp h3
    exact (List.perm_ext_iff_of_nodup List.nodup_range h1).mpr (fun i => ⟨fun q => h5 i (List.mem_range.mp q), fun q => List.mem_range.mpr (h2 i q)⟩)
  · rintro ⟨l, e, hp, ht⟩
    have h2 : ∀ i, i ∈ l → i < k := fun i hi => List.mem_range.mp (hp.mem_iff.mpr hi)
    have h3 : msk l = 2 ^ k - 1 := (hmem h2).mpr (fun i hi => hp.mem_iff.mp (List.mem_range.mpr hi))
    have hd := Dp.in_ (a := a) (b := b) (k := k) (g := g) l.length l e rfl (hp.nodup_iff.mp List.nodup_range) h2 ht
    rw [h3] at hd
    exact ⟨e, hd.mono (Nat.sub_le _ _)⟩
theorem Dp.lt {n c e : Nat} (hg : g < 7) (hab : ∀ i, i < k → a i < 7 ∧ b i < 7) (h : Dp a b k g n c e) : e < 7 := by
  induction n with
  | zero => rw [h.2]; exact hg
  | succ n ih =>
    rcases h with h | ⟨i, hi, -, -, h⟩
    · exact ih h
    · rcases h with ⟨-, h⟩ | ⟨-, h⟩
      · rw [h]; exact (hab i hi).2
      · rw [h]; exact (hab i hi).1
end DP
-- masks of grades
def ob (m x y : Nat) : Nat := (if m.testBit x = true then 2 ^ y else 0) ||| (if m.testBit y = true then 2 ^ x else 0)
set_option maxRecDepth 100000 in
theorem ob_ok : ∀ m, m < 128 → ∀ x, x < 7 → ∀ y, y < 7 → (if nI m &&& nI (2 ^ y) = 0 then (if nI m &&& nI (2 ^ x) = 0 then (0 : Int32) else 0 ||| nI (2 ^ y)) else (if nI m &&& nI (2 ^ x) = 0 then 0 else 0 ||| nI (2 ^ y)) ||| nI (2 ^ x)) = nI (ob m x y) ∧ ob m x y < 128 := by decide +kernel
theorem ob_bit {m x y e : Nat} : (ob m x y).testBit e = true ↔ (m.testBit x = true ∧ e = y) ∨ (m.testBit y = true ∧ e = x) := by
  unfold ob
  rw [Nat.testBit_or, Bool.or_eq_true]
  have h : ∀ p q : Nat, (if m.testBit p = true then 2 ^ q else 0).testBit e = true ↔ m.testBit p = true ∧ e = q := by
    intro p q
    split
    · rename_i c
      rw [Nat.testBit_two_pow, decide_eq_true_eq]
      exact ⟨fun z => ⟨c, z.symm⟩, fun z => z.2.symm⟩
    · rename_i c
      rw [Nat.zero_testBit]
      exact ⟨fun z => absurd z (by decide), fun z => absurd z.1 c⟩
  rw [h, h]
def pc (m : Nat) : Nat := (if m.testBit 0 = true then 1 else 0) + (if m.testBit 1 = true then 1 else 0) + (if m.testBit 2 = true then 1 else 0) + (if m.testBit 3 = true then 1 else 0) + (if m.testBit 4 = true then 1 else 0) + (if m.testBit 5 = true then 1 else 0) + (if m.testBit 6 = true then 1 else 0)
set_option maxRecDepth 100000 in
theorem pc_bc : ∀ m, m < 128 → j_bc (nI m) = nI (pc m) := by decide +kernel
set_option maxRecDepth 100000 in
theorem pc_or : ∀ m, m < 128 → ∀ q, q < 128 → m ||| q = m ∨ pc m < pc (m ||| q) := by decide +kernel
theorem pc_le : ∀ m, m < 128 → pc m ≤ 7 := by decide +kernel
def f2 (m g w : Nat) : Bool := (List.range 7).all (fun v => m.testBit v == (decide (v = g) || decide (v = w)))
theorem f2_ok {m g w : Nat} : f2 m g w = true ↔ ∀ v, v < 7 → (m.testBit v = true ↔ v = g ∨ v = w) := by
  unfold f2
  rw [List.all_eq_true]
  constructor
  · intro h v hv
    have := h v (List.mem_range.mpr hv)
    rw [beq_iff_eq] at this
    rw [this, Bool.or_eq_true, decide_eq_true_eq, decide_eq_true_eq]
  · intro h v hv
    rw [beq_iff_eq, Bool.eq_iff_iff, h v (List.mem_range.mp hv), Bool.or_eq_true, decide_eq_true_eq, decide_eq_true_eq]
set_option maxRecDepth 100000 in
theorem pc_2a : ∀ m, m < 128 → ∀ g, g < 7 → (!(decide (pc m = 2) && m.testBit g) || (List.range 7).any (fun w => !decide (w = g) && f2 m g w)) = true := by decide +kernel
set_option maxRecDepth 100000 in
theorem pc_2b : ∀ m, m < 128 → ∀ g, g < 7 → ∀ w, w < 7 → (decide (w = g) || (!f2 m g w || decide (pc m = 2))) = true := by decide +kernel
theorem pc_2 {m g : Nat} (hm : m < 128) (hg : g < 7) (h : pc m = 2) (hb : m.testBit g = true) : ∃ w, w < 7 ∧ w ≠ g ∧ ∀ v, v < 7 → (m.testBit v = true ↔ v = g ∨ v = w) := by
  have q := pc_2a m hm g hg
  rw [decide_eq_true h, hb] at q
  rw [Bool.and_self, Bool.not_true, Bool.false_or, List.any_eq_true] at q
  obtain ⟨w, h1, h2⟩ := q
  rw [Bool.and_eq_true, Bool.not_eq_true'] at h2
  exact ⟨w, List.mem_range.mp h1, of_decide_eq_false h2.1, f2_ok.mp h2.2⟩
theorem pc_2' {m g w : Nat} (hm : m < 128) (hg : g < 7) (hw : w < 7) (hne : w ≠ g) (h : ∀ v, v < 7 → (m.testBit v = true ↔ v = g ∨ v = w)) : pc m = 2 := by
  have q := pc_2b m hm g hg w hw
  rw [decide_eq_false hne, f2_ok.mpr h] at q
  exact of_decide_eq_true q
theorem or_128 {m q : Nat} (h1 : m < 128) (h2 : q < 128) : m ||| q < 128 := Nat.or_lt_two_pow (n := 7) h1 h2
