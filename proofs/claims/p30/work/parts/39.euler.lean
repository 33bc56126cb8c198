/-! TRAILS: a, b: the halves of each tile; tr l g e: the tiles of l, one behind the other, lead from g to e -/
def tr (a b : Nat → Nat) : List Nat → Nat → Nat → Prop
  | [], g, e => g = e
  | i :: l, g, e => (a i = g ∧ tr a b l (b i) e) ∨ (b i = g ∧ tr a b l (a i) e)
def dgr (a b : Nat → Nat) : List Nat → Nat → Nat
  | [], _ => 0
  | i :: l, v => (if a i = v then 1 else 0) + (if b i = v then 1 else 0) + dgr a b l v
section EU
variable {a b : Nat → Nat}
theorem tr_app : ∀ {l1 l2 : List Nat} {g e : Nat}, tr a b (l1 ++ l2) g e ↔ ∃ v, tr a b l1 g v ∧ tr a b l2 v e := by
  intro l1
  induction l1 with
  | nil => intro l2 g e; exact ⟨fun h => ⟨g, rfl, h⟩, fun ⟨v, h1, h2⟩ => by cases h1; exact h2⟩
  | cons i l ih =>
    intro l2 g e
    constructor
    · rintro (⟨h1, h2⟩ | ⟨h1, h2⟩)
      · obtain ⟨v, h3, h4⟩ := ih.mp h2
        exact ⟨v, Or.inl ⟨h1, h3⟩, h4⟩
      · obtain ⟨v, h3, h4⟩ := ih.mp h2
        exact ⟨v, Or.inr ⟨h1, h3⟩, h4⟩
    · rintro ⟨v, (⟨h1, h3⟩ | ⟨h1, h3⟩), h4⟩
      · exact Or.inl ⟨h1, ih.mpr ⟨v, h3, h4⟩⟩
      · exact Or.inr ⟨h1, ih.mpr ⟨v, h3, h4⟩⟩
theorem tr_deg : ∀ {l : List Nat} {g e : Nat} (v : Nat), tr a b l g e → (dgr a b l v + (if v = g then 1 else 0) + (if v = e then 1 else 0)) % 2 = 0 := by
  intro l
  induction l with
  | nil =>
    intro g e v h
    cases h
    show (0 + _ + _) % 2 = 0
    split <;> omega
  | cons i l ih =>
    intro g e v h
    have sy : ∀ x : Nat, (if x = v then 1 else 0) = (if v = x then 1 else 0) := fun x => by
      by_cases c : x = v
      · rw [if_pos c, if_pos c.symm]
      · rw [if_neg c, if_neg (fun q => c q.symm)]
    show ((if a i = v then 1 else 0) + (if b i = v then 1 else 0) + dgr a b l v + (if v = g then 1 else 0) + (if v = e then 1 else 0)) % 2 = 0
    rw [sy, sy]
    rcases h with ⟨h1, h2⟩ | ⟨h1, h2⟩
    · have := ih v h2
      subst h1
      generalize (if v = a i then 1 else 0) = X at this ⊢
      generalize (if v = b i then 1 else 0) = Y at this ⊢
      generalize (if v = e then 1 else 0) = Z at this ⊢
      omega
    · have := ih v h2
      subst h1
      generalize (if v = a i then 1 else 0) = X at this ⊢
      generalize (if v = b i then 1 else 0) = Y at this ⊢
      generalize (if v = e then 1 else 0) = Z at this ⊢
      omega
theorem dgr_app : ∀ {l1 l2 : List Nat} (v : Nat), dgr a b (l1 ++ l2) v = dgr a b l1 v + dgr a b l2 v := by
  intro l1
  induction l1 with
  | nil => intro l2 v; show _ = 0 + _; rw [Nat.zero_add]; rfl
  | cons i l ih =>
    intro l2 v
    show _ + _ + dgr a b (l ++ l2) v = _ + _ + dgr a b l v + _
    rw [ih]; omega
theorem dgr_perm {l1 l2 : List Nat} (h : l1.Perm l2) (v : Nat) : dgr a b l1 v = dgr a b l2 v := by
  induction h with
  | nil => rfl
  | cons x _ ih => show _ + _ + _ = _ + _ + _; rw [ih]
  | swap x y l => show _ + _ + (_ + _ + _) = _ + _ + (_ + _ + _); omega
  | trans _ _ ih1 ih2 => rw [ih1, ih2]
theorem dgr_0 {v : Nat} : ∀ {l : List Nat}, (∀ i ∈ l, a i ≠ v ∧ b i ≠ v) → dgr a b l v = 0 := by
  intro l
  induction l with
  | nil => intro _; rfl
  | cons i l ih =>
    intro h
    show _ + _ + dgr a b l v = 0
    rw [ih (fun j hj => h j (List.mem_cons_of_mem _ hj)), if_neg (h i List.mem_cons_self).1, if_neg (h i List.mem_cons_self).2]
/-- as far as it goes -/
theorem greedy : ∀ (n : Nat) (r : List Nat) (x : Nat), r.length ≤ n → ∃ c r' y, r.Perm (c ++ r') ∧ tr a b c x y ∧ ∀ i ∈ r', a i ≠ y ∧ b i ≠ y := by
  intro n
  induction n with
  | zero =>
    intro r x h
    have e : r = [] := List.eq_nil_of_length_eq_zero (by omega)
    subst e
    exact ⟨[], [], x, List.Perm.refl _, rfl, fun i hi => by cases hi⟩
  | succ n ih =>
    intro r x h
    by_cases c : ∃ i, i ∈ r ∧ (a i = x ∨ b i = x)
    · obtain ⟨i, hi, hx⟩ := c
      have hp := List.perm_cons_erase hi
      have hl : (r.erase i).length ≤ n := by
        have := hp.length_eq
        rw [List.length_cons] at this
        omega
      rcases hx with hx | hx
      · obtain ⟨c, r', y, h1, h2, h3⟩ := ih (r.erase i) (b i) hl
        exact ⟨i :: c, r', y, hp.trans (List.Perm.cons i h1), Or.inl ⟨hx, h2⟩, h3⟩
      · obtain ⟨c, r', y, h1, h2, h3⟩ := ih (r.erase i) (a i) hl
        exact ⟨i :: c, r', y, hp.trans (List.Perm.cons i h1), Or.inr ⟨hx, h2⟩, h3⟩
    · exact ⟨[], r, x, List.Perm.refl _, rfl, fun i hi => ⟨fun q => c ⟨i, hi, Or.inl q⟩, fun q => c ⟨i, hi, Or.inr q⟩⟩⟩
theorem closed {r : List Nat} {x : Nat} (hev : ∀ v, dgr a b r v % 2 = 0) (ht : ∃ i, i ∈ r ∧ (a i = x ∨ b i = x)) : ∃ c r', r.Perm (c ++ r') ∧ tr a b c x x ∧ r'.length < r.length ∧ ∀ v, dgr a b r' v % 2 = 0 := by
  obtain ⟨c, r', y, h1, h2, h3⟩ := greedy (a := a) (b := b) r.length r x (Nat.le_refl _)
  have hy : y = x := by
    by_cases q : y = x
    · exact q
    · exfalso
      have e1 := tr_deg y h2
      rw [if_neg q, if_pos rfl] at e1
      have e2 := hev y
      rw [dgr_perm h1, dgr_app, dgr_0 h3] at e2
      omega
  subst hy
  refine ⟨c, r', h1, h2, ?_, fun v => ?_⟩
  · have hl := h1.length_eq
    rw [List.length_append] at hl
    have hc : c ≠ [] := by
      intro q
      subst q
      obtain ⟨i, hi, hx⟩ := ht
      have := h3 i ((h1.mem_iff).mp hi)
      rcases hx with hx | hx
      · exact this.1 hx
      · exact this.2 hx
    have : 0 < c.length := List.length_pos_iff.mpr hc
    omega
  · have e1 := tr_deg v h2
    have e2 := hev v
    rw [dgr_perm h1, dgr_app] at e2
    omega
/-- both ends of a tile of a trail are on it -/
theorem tr_vis {l : List Nat} {g e i : Nat} (h : tr a b l g e) (hi : i ∈ l) : (∃ l1 l2, l = l1 ++ l2 ∧ tr a b l1 g (a i) ∧ tr a b l2 (a i) e) ∧ ∃ l1 l2, l = l1 ++ l2 ∧ tr a b l1 g (b i) ∧ tr a b l2 (b i) e := by
  obtain ⟨s, t, rfl⟩ := List.append_of_mem hi
  obtain ⟨v, h1, h2⟩ := tr_app.mp h
  rcases h2 with ⟨h3, h4⟩ | ⟨h3, h4⟩
  · subst h3
    refine ⟨⟨s, i :: t, rfl, h1, Or.inl ⟨rfl, h4⟩⟩, s ++ [i], t, by rw [List.append_assoc]; rfl, tr_app.mpr ⟨a i, h1, Or.inl ⟨rfl, rfl⟩⟩, h4⟩
  · subst h3
    refine ⟨⟨s ++ [i], t, by rw [List.append_assoc]; rfl, tr_app.mpr ⟨b i, h1, Or.inr ⟨rfl, rfl⟩⟩, h4⟩, s, i :: t, rfl, h1, Or.inr ⟨rfl, h4⟩⟩
def conn (a b : Nat → Nat) (E : List Nat) (g : Nat) : Prop := ∀ V : Nat → Prop, V g → (∀ i, i ∈ E → (V (a i) ↔ V (b i))) → ∀ i, i ∈ E → V (a i)
theorem eu_main {E : List Nat} {g e : Nat} (hc : conn a b E g) : ∀ (n : Nat) (l r : List Nat), r.length ≤ n → E.Perm (l ++ r) → tr a b l g e → (∀ v, dgr a b r v % 2 = 0) → ∃ l', E.Perm l' ∧ tr a b l' g e := by
  intro n
  induction n with
  | zero =>
    intro l r hr hp ht _
    have q : r = [] := List.eq_nil_of_length_eq_zero (by omega)
    subst q
    rw [List.append_nil] at hp
    exact ⟨l, hp, ht⟩
  | succ n ih =>
    intro l r hr hp ht hev
    by_cases hr0 : r = []
    · subst hr0
      rw [List.append_nil] at hp
      exact ⟨l, hp, ht⟩
    · have key : ∃ i v, i ∈ r ∧ (a i = v ∨ b i = v) ∧ ∃ l1 l2, l = l1 ++ l2 ∧ tr a b l1 g v ∧ tr a b l2 v e := by
        apply Classical.byContradiction
        intro hno
        have hall := hc (fun v => ∃ l1 l2, l = l1 ++ l2 ∧ tr a b l1 g v ∧ tr a b l2 v e) ⟨[], l, rfl, rfl, ht⟩ (fun i hi => by
          rcases List.mem_append.mp (hp.mem_iff.mp hi) with h | h
          · have := tr_vis ht h
            exact ⟨fun _ => this.2, fun _ => this.1⟩
          · exact ⟨fun q => absurd ⟨i, a i, h, Or.inl rfl, q⟩ hno, fun q => absurd ⟨i, b i, h, Or.inr rfl, q⟩ hno⟩)
        obtain ⟨i, hi⟩ := List.exists_mem_of_ne_nil r hr0
        exact hno ⟨i, a i, hi, Or.inl rfl, hall i (hp.mem_iff.mpr (List.mem_append_right _ hi))⟩
      obtain ⟨i, v, hi, hv, l1, l2, rfl, h1, h2⟩ := key
      obtain ⟨c, r', p1, p2, p3, p4⟩ := closed hev ⟨i, hi, hv⟩
      refine ih (l1 ++ c ++ l2) r' (by omega) ?_ ?_ p4
      · refine hp.trans ?_
        refine ((List.Perm.refl (l1 ++ l2)).append p1).trans ?_
        rw [List.append_assoc, List.append_assoc, List.append_assoc]
        refine List.Perm.append (List.Perm.refl l1) ?_
        rw [← List.append_assoc, ← List.append_assoc]
        exact List.Perm.append List.perm_append_comm (List.Perm.refl r')
      · exact tr_app.mpr ⟨v, tr_app.mpr ⟨v, h1, p2⟩, h2⟩
theorem eu_conn {V : Nat → Prop} : ∀ {l : List Nat} {g e : Nat}, tr a b l g e → V g → (∀ i, i ∈ l → (V (a i) ↔ V (b i))) → ∀ i, i ∈ l → V (a i) := by
  intro l
  induction l with
  | nil => intro g e _ _ _ i hi; cases hi
  | cons j l ih =>
    intro g e h hg hV i hi
    have hj := hV j List.mem_cons_self
    have hV2 : ∀ i, i ∈ l → (V (a i) ↔ V (b i)) := fun i hi => hV i (List.mem_cons_of_mem _ hi)
    rcases h with ⟨h1, h2⟩ | ⟨h1, h2⟩
    · subst h1
      rcases List.mem_cons.mp hi with rfl | hi
      · exact hg
      · exact ih h2 (hj.mp hg) hV2 i hi
    · subst h1
      rcases List.mem_cons.mp hi with rfl | hi
      · exact hj.mpr hg
      · exact ih h2 (hj.mpr hg) hV2 i hi
/-- a train of all tiles, told by counting -/
theorem euler {E : List Nat} {g : Nat} : (∃ l e, E.Perm l ∧ tr a b l g e) ↔ conn a b E g ∧ ((∀ v, dgr a b E v % 2 = 0) ∨ ∃ w, w ≠ g ∧ ∀ v, dgr a b E v % 2 = if v = g ∨ v = w then 1 else 0) := by
  constructor
  · rintro ⟨l, e, hp, ht⟩
    refine ⟨fun V hg hV i hi => eu_conn ht hg (fun j hj => hV j (hp.mem_iff.mpr hj)) i (hp.mem_iff.mp hi), ?_⟩
    by_cases c : e = g
    · left
      intro v
      have := tr_deg v ht
      rw [c] at this
      rw [dgr_perm hp]
      split at this <;> omega
    · right
      refine ⟨e, c, fun v => ?_⟩
      have := tr_deg v ht
      rw [dgr_perm hp]
      by_cases c1 : v = g
      · rw [if_pos (Or.inl c1)]
        rw [if_pos c1, if_neg (fun q => c (q.symm.trans c1))] at this
        omega
      · by_cases c2 : v = e
        · rw [if_pos (Or.inr c2)]
          rw [if_neg c1, if_pos c2] at this
          omega
        · rw [if_neg (by rintro (q | q); exact c1 q; exact c2 q)]
          rw [if_neg c1, if_neg c2] at this
          omega
  · rintro ⟨hc, hd⟩
    obtain ⟨c, r', y, h1, h2, h3⟩ := greedy (a := a) (b := b) E.length E g (Nat.le_refl _)
    have hy : ∀ v, (dgr a b E v) % 2 = (dgr a b c v + dgr a b r' v) % 2 := fun v => by rw [dgr_perm h1, dgr_app]
    have hyy := hy y
    rw [dgr_0 h3] at hyy
    have ty := tr_deg y h2
    rw [if_pos rfl] at ty
    refine (eu_main (e := y) hc r'.length c r' (Nat.le_refl _) h1 h2 (fun v => ?_)).imp (fun l q => ⟨y, q⟩)
    have tv := tr_deg v h2
    have hv := hy v
    rcases hd with hd | ⟨w, hw, hd⟩
    · have q : y = g := by
        apply Classical.byContradiction
        intro q
        rw [if_neg q] at ty
        have := hd y
        omega
      have := hd v
      rw [q] at tv
      split at tv <;> omega
    · have dy := hd y
      have q : y ≠ g := by
        intro q
        rw [if_pos q] at ty
        rw [if_pos (Or.inl q)] at dy
        omega
      rw [if_neg q] at ty
      have q2 : y = w := by
        apply Classical.byContradiction
        intro q2
        rw [if_neg (by rintro (z | z); exact q z; exact q2 z)] at dy
        omega
      have dv := hd v
      rw [q2] at tv
      by_cases c1 : v = g
      · rw [if_pos (Or.inl c1)] at dv
        rw [if_pos c1, if_neg (fun z => hw (z.symm.trans c1))] at tv
        omega
      · by_cases c2 : v = w
        · rw [if_pos (Or.inr c2)] at dv
          rw [if_neg c1, if_pos c2] at tv
          omega
        · rw [if_neg (by rintro (z | z); exact c1 z; exact c2 z)] at dv
          rw [if_neg c1, if_neg c2] at tv
          omega
end EU
