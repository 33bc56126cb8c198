/-! out of whole's parts 20, 21, 31 -/
theorem nI_mul (a b : Nat) : nI a * nI b = nI (a * b) := (Int32.ofNat_mul a b).symm
theorem tAt_in {C n t w : Nat} {f : Nat → Int32} (h : t * C + w < n) (hn : n < 2147483648) : tAt (nI C) n f (nI t) (nI w) = f (t * C + w) := by
  unfold tAt
  rw [nI_mul, nI_add, if_neg (nI_pos (by omega)), if_neg (nI_ge h hn), nI_clamp (by omega)]
theorem tPut_in {C n t w : Nat} {f : Nat → Int32} {v : Int32} (h : t * C + w < n) (hn : n < 2147483648) : tPut (nI C) n f (nI t) (nI w) v = upd f (t * C + w) v := by
  unfold tPut
  rw [nI_mul, nI_add, if_neg (nI_pos (by omega)), if_neg (nI_ge h hn), nI_clamp (by omega)]
theorem tInc_in {C n t w : Nat} {f : Nat → Int32} {v : Int32} (h : t * C + w < n) (hn : n < 2147483648) : tInc (nI C) n f (nI t) (nI w) v = upd f (t * C + w) (f (t * C + w) + v) := by
  unfold tInc
  rw [nI_mul, nI_add, if_neg (nI_pos (by omega)), if_neg (nI_ge h hn), nI_clamp (by omega)]
/-! THE MODEL'S LOOKS -/
/-- what is known of a game that both hold -/
def nB (S : gS) : Prop := (∃ P, 2 ≤ P ∧ P ≤ 4 ∧ S 5 0 = nI P ∧ (S 5 1 = -1 ∨ ∃ m, m < P ∧ S 5 1 = nI m) ∧ (∀ p, P ≤ p → p < 4 → ∀ q, q < 4 → tAt 4 16 (S 2) (nI p) (nI q) = 0)) ∧ (∃ k, k ≤ 28 ∧ S 5 2 = nI k) ∧ (∀ p, p < 4 → ∃ k, k ≤ 28 ∧ tAt 4 16 (S 2) (nI p) 0 = nI k ∧ ∀ i, i < k → ∃ t, t < 28 ∧ tAt 28 112 (S 1) (nI p) (nI i) = nI t) ∧ (∀ i, i < 28 → ∃ t, t < 28 ∧ tAt 28 28 (S 4) 0 (nI i) = nI t) ∧ (∀ t, t < 28 → ∀ w, w < 2 → ∃ g, g < 7 ∧ tAt 7 196 (S 0) (nI t) (nI w) = nI g) ∧ (∀ r, r < 3 → ∃ k, k ≤ 28 ∧ tAt 4 12 (S 3) (nI r) 0 = nI k)
theorem nB.mv {S : gS} (h : nB S) : S 5 1 = -1 ∨ ∃ m, m < 4 ∧ S 5 1 = nI m := by
  obtain ⟨⟨P, h1, h2, h3, h4, -⟩, -⟩ := h
  rcases h4 with h4 | ⟨m, h5, h6⟩
  · exact Or.inl h4
  · exact Or.inr ⟨m, by omega, h6⟩
theorem nB.pl {S : gS} (h : nB S) : ∃ P, 2 ≤ P ∧ P ≤ 4 ∧ S 5 0 = nI P ∧ (S 5 1 = -1 ∨ ∃ m, m < P ∧ S 5 1 = nI m) ∧ (∀ p, P ≤ p → p < 4 → ∀ q, q < 4 → tAt 4 16 (S 2) (nI p) (nI q) = 0) := h.1
theorem nB.gone {S : gS} (h : nB S) : ∃ k, k ≤ 28 ∧ S 5 2 = nI k := h.2.1
theorem nB.hd {S : gS} (h : nB S) {p : Nat} (hp : p < 4) : ∃ k, k ≤ 28 ∧ tAt 4 16 (S 2) (nI p) 0 = nI k ∧ ∀ i, i < k → ∃ t, t < 28 ∧ tAt 28 112 (S 1) (nI p) (nI i) = nI t := h.2.2.1 p hp
theorem nB.ord {S : gS} (h : nB S) {i : Nat} (hi : i < 28) : ∃ t, t < 28 ∧ tAt 28 28 (S 4) 0 (nI i) = nI t := h.2.2.2.1 i hi
theorem nB.gr {S : gS} (h : nB S) {t w : Nat} (ht : t < 28) (hw : w < 2) : ∃ g, g < 7 ∧ tAt 7 196 (S 0) (nI t) (nI w) = nI g := h.2.2.2.2.1 t ht w hw
theorem nB.row {S : gS} (h : nB S) {r : Nat} (hr : r < 3) : ∃ k, k ≤ 28 ∧ tAt 4 12 (S 3) (nI r) 0 = nI k := h.2.2.2.2.2 r hr
theorem nI_ne1 {m : Nat} (h : m < 2147483648) : nI m ≠ -1 := by
  intro e
  have := congrArg Int32.toInt e
  rw [nI_toInt h] at this
  have h2 : (-1 : Int32).toInt = -1 := rfl
  omega
theorem m_nat {a : Int32} {k : Nat} (hk : k < 2147483648) (h : (!decide (a < 0) && decide (a < nI k)) = true) : ∃ i, i < k ∧ a = nI i := by
  rw [Bool.and_eq_true] at h
  have h0 : ¬ a < 0 := by simpa using h.1
  have h1 : a < nI k := by simpa using h.2
  have e := clI h0
  rw [e] at h1
  exact ⟨_, (nI_ltI (tn_lt a) hk).mp h1, e⟩
/-! THE MODEL'S TRAINS -/
def m_ones (x : Int32) : Int32 := l_sum (fun k => (x >>> (nI k &&& 31)) &&& 1) 10
