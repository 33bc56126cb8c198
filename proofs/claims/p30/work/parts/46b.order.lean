/-! THE ORDER OF THE STOCK: insertion by lots is the ranking by lots -/
def lx (L : Nat → Int32) (i j : Nat) : Prop := L i < L j ∨ (L i = L j ∧ i < j)
section OD
variable {L : Nat → Int32}
theorem ls_lx {i j : Nat} : m_ls L j i = true ↔ lx L i j := by
  unfold m_ls lx
  rw [Bool.or_eq_true, Bool.and_eq_true, decide_eq_true_eq, decide_eq_true_eq, decide_eq_true_eq]
theorem lx_trans {i j m : Nat} (h1 : lx L i j) (h2 : lx L j m) : lx L i m := by
  unfold lx at *
  simp only [Int32.lt_iff_toInt_lt] at *
  rcases h1 with h1 | ⟨h1, h1'⟩
  · rcases h2 with h2 | ⟨h2, h2'⟩
    · left; omega
    · left; rw [← h2]; exact h1
  · rcases h2 with h2 | ⟨h2, h2'⟩
    · left; rw [h1]; exact h2
    · right; exact ⟨h1.trans h2, by omega⟩
theorem lx_tri {i j : Nat} (h : i ≠ j) : lx L i j ∨ lx L j i := by
  unfold lx
  by_cases c : L i < L j
  · exact Or.inl (Or.inl c)
  · by_cases c2 : L j < L i
    · exact Or.inr (Or.inl c2)
    · have e : L i = L j := by
        apply Int32.toInt_inj.mp
        rw [Int32.lt_iff_toInt_lt] at c c2
        omega
      by_cases c3 : i < j
      · exact Or.inl (Or.inr ⟨e, c3⟩)
      · exact Or.inr (Or.inr ⟨e.symm, by omega⟩)
theorem lx_irr {i : Nat} : ¬ lx L i i := by
  unfold lx
  rintro (h | ⟨-, h⟩)
  · exact Int32.lt_irrefl h
  · omega
theorem rk_congr {f : Nat → Int32} {t : Nat} : ∀ {T : Nat}, (∀ o, o < T → f o = L o) → f t = L t → m_rk f t T = m_rk L t T := by
  intro T
  induction T with
  | zero => intro _ _; rfl
  | succ T ih =>
    intro h ht
    show m_rk f t T + (if m_ls f t T then 1 else 0) = m_rk L t T + (if m_ls L t T then 1 else 0)
    rw [ih (fun o ho => h o (by omega)) ht]
    unfold m_ls
    rw [h T (by omega), ht]
theorem rk_mono {i j : Nat} (h : lx L i j) : ∀ T, m_rk L i T ≤ m_rk L j T ∧ (i < T → m_rk L i T < m_rk L j T) := by
  intro T
  induction T with
  | zero => exact ⟨Nat.le_refl _, fun q => absurd q (Nat.not_lt_zero i)⟩
  | succ T ih =>
    have e : m_ls L i T = true → m_ls L j T = true := fun q => ls_lx.mpr (lx_trans (ls_lx.mp q) h)
    show m_rk L i T + (if m_ls L i T = true then 1 else 0) ≤ m_rk L j T + (if m_ls L j T = true then 1 else 0) ∧ (i < T + 1 → m_rk L i T + (if m_ls L i T = true then 1 else 0) < m_rk L j T + (if m_ls L j T = true then 1 else 0))
    have h1 := ih.1
    have h2 := ih.2
    by_cases c1 : m_ls L i T = true
    · rw [if_pos c1, if_pos (e c1)]
      have hne : i ≠ T := fun q => by subst q; rw [ls_self] at c1; exact absurd c1 (by decide)
      exact ⟨by omega, fun q => by have := h2 (by omega); omega⟩
    · rw [if_neg c1]
      refine ⟨by split <;> omega, fun q => ?_⟩
      by_cases c2 : i = T
      · subst c2
        rw [if_pos (ls_lx.mpr h)]
        omega
      · have := h2 (by omega)
        split <;> omega
theorem rk_inj {i j T : Nat} (hi : i < T) (hj : j < T) (h : m_rk L i T = m_rk L j T) : i = j := by
  apply Classical.byContradiction
  intro c
  rcases lx_tri (L := L) c with q | q
  · have := (rk_mono q T).2 hi; omega
  · have := (rk_mono q T).2 hj; omega
/-- the lots stay below 10000 -/
theorem lot_nat (k : Nat) (hk : k < 10000) : i_lot (nI k) = nI ((k * 421 + 1663) % 10000) := by
  show nI k * nI 421 + nI 1663 - (nI k * nI 421 + nI 1663) / nI 10000 * nI 10000 = _
  rw [nI_mul, nI_add, pk_rem (by omega) (by decide) (by decide)]
theorem lt_nat {x : Int32} (hx : ∃ k, k < 10000 ∧ x = nI k) : ∀ t, ∃ k, k < 10000 ∧ m_lt x t = nI k := by
  intro t
  induction t with
  | zero => exact hx
  | succ t ih =>
    obtain ⟨k, hk, e⟩ := ih
    refine ⟨(k * 421 + 1663) % 10000, by omega, ?_⟩
    show i_lot (m_lt x t) = _
    rw [e, lot_nat k hk]
/-- a lot and a tile as one number -/
theorem lot_cmp {a b : Int32} (ha : ∃ k, k < 10000 ∧ a = nI k) (hb : ∃ k, k < 10000 ∧ b = nI k) {i t : Nat} (hi : i < t) (ht : t < 28) : a * 28 + nI t < b * 28 + nI i ↔ a < b := by
  obtain ⟨k, hk, rfl⟩ := ha
  obtain ⟨m, hm, rfl⟩ := hb
  rw [show nI k * 28 = nI (k * 28) from nI_mul k 28, show nI m * 28 = nI (m * 28) from nI_mul m 28, nI_add, nI_add, nI_ltI (by omega) (by omega), nI_ltI (by omega) (by omega)]
  omega
theorem lot_m28 {a : Int32} (ha : ∃ k, k < 10000 ∧ a = nI k) {i : Nat} (hi : i < 28) : i_m28 (a * 28 + nI i) = nI i := by
  obtain ⟨k, hk, rfl⟩ := ha
  rw [show nI k * 28 = nI (k * 28) from nI_mul k 28, nI_add]
  show nI (k * 28 + i) - nI (k * 28 + i) / nI 28 * nI 28 = _
  rw [pk_rem (by omega) (by decide) (by decide), show (k * 28 + i) % 28 = i by omega]
theorem put4 {X : gS} {p : Nat} {v : Int32} (hp : p < 28) : gP X 4 0 (nI p) v = gu X 4 (upd (X 4) p v) := by
  have e := tPut_in (C := 28) (n := 28) (t := 0) (w := p) (f := X 4) (v := v) (by omega) (by decide)
  rw [Nat.zero_mul, Nat.zero_add] at e
  show gu X 4 (tPut 28 28 (X 4) 0 (nI p) v) = _
  rw [show tPut 28 28 (X 4) 0 (nI p) v = upd (X 4) p v from e]
/-- insertion, raw -/
theorem ins_raw {v : Int32} {p0 : Nat} : ∀ p, p < 28 → ∀ (S : gS), p0 ≤ p → (∀ q, p0 ≤ q → q < p → v < S 4 q) → (0 < p0 → ¬ v < S 4 (p0 - 1)) →
    (∀ q, (i_ins v p S) 4 q = if q = p0 then v else if p0 < q ∧ q ≤ p then S 4 (q - 1) else S 4 q) ∧ ∀ j, j ≠ 4 → (i_ins v p S) j = S j := by
  have fin : ∀ (S : gS) (p : Nat), p < 28 → (∀ q, (gP S 4 0 (nI p) v) 4 q = if q = p then v else S 4 q) ∧ ∀ j, j ≠ 4 → (gP S 4 0 (nI p) v) j = S j := by
    intro S p hp
    rw [put4 hp]
    exact ⟨fun q => by rw [gu_s]; rfl, fun j hj => gu_n hj⟩
  intro p
  induction p with
  | zero =>
    intro hp S hp0 _ _
    have e : p0 = 0 := by omega
    subst e
    obtain ⟨h2, h3⟩ := fin S 0 hp
    refine ⟨fun q => ?_, h3⟩
    show (gP S 4 0 (nI 0) v) 4 q = _
    rw [h2]
    by_cases c : q = 0
    · rw [if_pos c, if_pos c]
    · rw [if_neg c, if_neg c, if_neg (by omega)]
  | succ p ih =>
    intro hp S hp0 hgt hle
    have es : nI (p + 1) - 1 = nI p := pk_sub (a := p + 1) (b := 1) (by omega)
    have at_ : ∀ g : Nat → Int32, tAt 28 28 g 0 (nI (p + 1) - 1) = g p := fun g => by rw [es]; exact at4 (by omega)
    by_cases c : p0 = p + 1
    · have hn : ¬ v < tAt 28 28 (S 4) 0 (nI (p + 1) - 1) := by
        rw [at_]
        have := hle (by omega)
        rw [c] at this
        exact this
      have e : i_ins v (p + 1) S = gP S 4 0 (nI (p + 1)) v := if_neg hn
      rw [e]
      obtain ⟨h2, h3⟩ := fin S (p + 1) hp
      refine ⟨fun q => ?_, h3⟩
      rw [h2, c]
      by_cases c2 : q = p + 1
      · rw [if_pos c2, if_pos c2]
      · rw [if_neg c2, if_neg c2, if_neg (by omega)]
    · have hy : v < tAt 28 28 (S 4) 0 (nI (p + 1) - 1) := by rw [at_]; exact hgt p (by omega) (by omega)
      have e : i_ins v (p + 1) S = i_ins v p (gu S 4 (upd (S 4) (p + 1) (S 4 p))) := by
        show (if v < tAt 28 28 (S 4) 0 (nI (p + 1) - 1) then i_ins v p (gP S 4 0 (nI (p + 1)) (tAt 28 28 (S 4) 0 (nI (p + 1) - 1))) else gP S 4 0 (nI (p + 1)) v) = _
        rw [if_pos hy, at_, put4 hp]
      rw [e]
      obtain ⟨h2, h3⟩ := ih (by omega) (gu S 4 (upd (S 4) (p + 1) (S 4 p))) (by omega) (fun q q1 q2 => by rw [gu_s, upd_n (by omega)]; exact hgt q q1 (by omega)) (fun q => by rw [gu_s, upd_n (by omega)]; exact hle q)
      refine ⟨fun q => ?_, fun j hj => by rw [h3 j hj, gu_n hj]⟩
      rw [h2, gu_s]
      by_cases c2 : q = p0
      · rw [if_pos c2, if_pos c2]
      · rw [if_neg c2, if_neg c2]
        by_cases c3 : q = p + 1
        · subst c3
          rw [if_neg (by omega), if_pos (by omega), upd_s, Nat.add_sub_cancel]
        · by_cases c4 : p0 < q ∧ q ≤ p
          · rw [if_pos c4, if_pos (by omega), upd_n (by omega)]
          · rw [if_neg c4, if_neg (by omega), upd_n c3]
/-- the class's order, tile by tile: lots and tiles as one number -/
theorem ord_raw (S : gS) {x : Int32} (hx : ∃ k, k < 10000 ∧ x = nI k) : ∀ t, t ≤ 28 → ∃ pi : Nat → Nat, (∀ q, q < t → pi q < t ∧ m_rk (fun i => m_lt x (i + 1)) (pi q) t = q ∧ (i_ord S x t) 4 q = m_lt x (pi q + 1) * 28 + nI (pi q)) ∧ (∀ q, t ≤ q → (i_ord S x t) 4 q = S 4 q) ∧ (∀ j, j ≠ 4 → j ≠ 5 → (i_ord S x t) j = S j) ∧ ∀ k, (i_ord S x t) 5 k = if k = 6 then m_lt x t else S 5 k := by
  intro t
  induction t with
  | zero => intro _; exact ⟨fun q => q, fun q hq => absurd hq (Nat.not_lt_zero q), fun q _ => rfl, fun j _ h5 => gc_n h5, fun k => rfl⟩
  | succ t ih =>
    intro ht
    obtain ⟨pi, h1, h2, h3, h4⟩ := ih (by omega)
    have hln : ∀ i, ∃ k, k < 10000 ∧ (fun i => m_lt x (i + 1)) i = nI k := fun i => lt_nat hx (i + 1)
    generalize hL : (fun i => m_lt x (i + 1)) = L at h1 hln ⊢
    have hlot : ∀ i, m_lt x (i + 1) = L i := fun i => by rw [← hL]
    have hLt : i_lot ((i_ord S x t) 5 6) = L t := by rw [h4, if_pos rfl, ← hL]; rfl
    have e : i_ord S x (t + 1) = i_ins (L t * 28 + nI t) t (gc (i_ord S x t) 6 (L t)) := by
      show i_ins (i_lot ((i_ord S x t) 5 6) * 28 + nI t) t (gc (i_ord S x t) 6 (i_lot ((i_ord S x t) 5 6))) = _
      rw [hLt]
    have hg4 : (gc (i_ord S x t) 6 (L t)) 4 = (i_ord S x t) 4 := gc_n (by decide)
    have hLa : ∀ q, q < t → (i_ord S x t) 4 q = L (pi q) * 28 + nI (pi q) := fun q hq => by rw [(h1 q hq).2.2, hlot]
    have hp0 : m_rk L t t ≤ t := rk_le L t t
    have hthr : ∀ i, i < t → (L t < L i → m_rk L t t ≤ m_rk L i t) ∧ (¬ L t < L i → m_rk L i t < m_rk L t t) := by
      intro i hi
      refine ⟨fun q => (rk_mono (Or.inl q) t).1, fun q => ?_⟩
      have hx : lx L i t := by
        by_cases c : L i < L t
        · exact Or.inl c
        · refine Or.inr ⟨?_, hi⟩
          apply Int32.toInt_inj.mp
          rw [Int32.lt_iff_toInt_lt] at c q
          omega
      exact (rk_mono hx t).2 hi
    have hself : ∀ q, q < t → (m_rk L t t ≤ q ↔ L t < L (pi q)) := by
      intro q hq
      obtain ⟨a1, a2, -⟩ := h1 q hq
      have := hthr (pi q) a1
      rw [a2] at this
      constructor
      · intro z
        apply Classical.byContradiction
        intro w
        have := this.2 w
        omega
      · exact this.1
    have hval : ∀ q, q < t → (L t * 28 + nI t < (i_ord S x t) 4 q ↔ L t < L (pi q)) := fun q hq => by
      rw [hLa q hq]
      exact lot_cmp (hln t) (hln (pi q)) (h1 q hq).1 (by omega)
    have hstep : ∀ i, i < t → m_rk L i (t + 1) = m_rk L i t + (if L t < L i then 1 else 0) := by
      intro i hi
      show m_rk L i t + (if m_ls L i t = true then 1 else 0) = _
      congr 1
      by_cases c : L t < L i
      · rw [if_pos c, if_pos (ls_lx.mpr (Or.inl c))]
      · rw [if_neg c, if_neg (fun z => ?_)]
        rcases ls_lx.mp z with z | ⟨-, z⟩
        · exact c z
        · omega
    have hnew : m_rk L t (t + 1) = m_rk L t t := by
      show m_rk L t t + (if m_ls L t t = true then 1 else 0) = _
      rw [ls_self, if_neg (by decide)]
      rfl
    obtain ⟨r2, r3⟩ := ins_raw (v := L t * 28 + nI t) (p0 := m_rk L t t) t (by omega) (gc (i_ord S x t) 6 (L t)) hp0
      (fun q q1 q2 => by rw [hg4]; exact (hval q q2).mpr ((hself q q2).mp q1))
      (fun z => by rw [hg4]; exact fun w => by have := (hself (m_rk L t t - 1) (by omega)).mpr ((hval _ (by omega)).mp w); omega)
    rw [e]
    refine ⟨fun q => if q = m_rk L t t then t else if m_rk L t t < q then pi (q - 1) else pi q, fun q hq => ?_, fun q hq => ?_, fun j hj4 hj5 => ?_, fun k => ?_⟩
    · rw [r2]
      dsimp only
      by_cases c1 : q = m_rk L t t
      · rw [if_pos c1, if_pos c1]
        exact ⟨by omega, by rw [hnew, c1], by rw [hlot]⟩
      · rw [if_neg c1, if_neg c1]
        by_cases c2 : m_rk L t t < q
        · rw [if_pos c2, if_pos ⟨c2, by omega⟩]
          obtain ⟨a1, a2, a3⟩ := h1 (q - 1) (by omega)
          have hgt := (hself (q - 1) (by omega)).mp (by omega)
          refine ⟨by omega, ?_, ?_⟩
          · rw [hstep _ a1, if_pos hgt, a2]; omega
          · rw [hg4]; exact a3
        · rw [if_neg c2, if_neg (fun z => c2 z.1)]
          obtain ⟨a1, a2, a3⟩ := h1 q (by omega)
          have hgt : ¬ L t < L (pi q) := fun z => by have := (hself q (by omega)).mpr z; omega
          refine ⟨by omega, ?_, ?_⟩
          · rw [hstep _ a1, if_neg hgt, a2, Nat.add_zero]
          · rw [hg4]; exact a3
    · rw [r2, if_neg (by omega), if_neg (by omega), hg4]
      exact h2 q (by omega)
    · rw [r3 j hj4, gc_n hj5]
      exact h3 j hj4 hj5
    · rw [r3 5 (by decide)]
      show (if k = 6 then L t else (i_ord S x t) 5 k) = _
      by_cases c : k = 6
      · rw [if_pos c, if_pos c, hlot]
      · rw [if_neg c, if_neg c, h4, if_neg c]
theorem mod_raw (X : gS) : ∀ k, k ≤ 28 → (∀ q, (i_mod X k) 4 q = if q < k then i_m28 (X 4 q) else X 4 q) ∧ ∀ j, j ≠ 4 → (i_mod X k) j = X j := by
  intro k
  induction k with
  | zero => intro _; exact ⟨fun q => by rw [if_neg (Nat.not_lt_zero q)]; rfl, fun j _ => rfl⟩
  | succ k ih =>
    intro hk
    obtain ⟨h1, h2⟩ := ih (by omega)
    have e : i_mod X (k + 1) = gu (i_mod X k) 4 (upd ((i_mod X k) 4) k (i_m28 (X 4 k))) := by
      show gP (i_mod X k) 4 0 (nI k) (i_m28 (tAt 28 28 ((i_mod X k) 4) 0 (nI k))) = _
      rw [put4 (by omega), at4 (by omega), h1 k, if_neg (Nat.lt_irrefl k)]
    rw [e]
    refine ⟨fun q => ?_, fun j hj => by rw [gu_n hj, h2 j hj]⟩
    rw [gu_s]
    by_cases c : q = k
    · subst c; rw [upd_s, if_pos (by omega)]
    · rw [upd_n c, h1]
      by_cases c2 : q < k
      · rw [if_pos c2, if_pos (by omega)]
      · rw [if_neg c2, if_neg (by omega)]
/-- the class's order, as it is left -/
theorem ord2 (S : gS) {x : Int32} (hx : ∃ k, k < 10000 ∧ x = nI k) : ∃ pi : Nat → Nat, (∀ q, q < 28 → pi q < 28 ∧ m_rk (fun i => m_lt x (i + 1)) (pi q) 28 = q ∧ (i_mod (i_ord S x 28) 28) 4 q = nI (pi q)) ∧ (∀ q, 28 ≤ q → (i_mod (i_ord S x 28) 28) 4 q = S 4 q) ∧ (∀ j, j ≠ 4 → j ≠ 5 → (i_mod (i_ord S x 28) 28) j = S j) ∧ ∀ k, (i_mod (i_ord S x 28) 28) 5 k = if k = 6 then m_lt x 28 else S 5 k := by
  obtain ⟨pi, h1, h2, h3, h4⟩ := ord_raw S hx 28 (Nat.le_refl _)
  obtain ⟨r1, r2⟩ := mod_raw (i_ord S x 28) 28 (Nat.le_refl _)
  refine ⟨pi, fun q hq => ?_, fun q hq => by rw [r1, if_neg (by omega)]; exact h2 q hq, fun j h4' h5' => by rw [r2 j h4']; exact h3 j h4' h5', fun k => by rw [r2 5 (by decide)]; exact h4 k⟩
  obtain ⟨a1, a2, a3⟩ := h1 q hq
  refine ⟨a1, a2, ?_⟩
  rw [r1, if_pos hq, a3, lot_m28 (lt_nat hx _) a1]
end OD
