/-! out of whole's parts 29, 30 -/
theorem gu_id {S : gS} {j : Nat} : gu S j (S j) = S := by
  funext k
  by_cases c : k = j
  · subst c; rw [gu_s]
  · rw [gu_n c]
theorem gu_cm {S : gS} {i j : Nat} {f g : Nat → Int32} (h : i ≠ j) : gu (gu S i f) j g = gu (gu S j g) i f := by
  funext k
  by_cases c : k = j
  · subst c; rw [gu_s, gu_n (fun e => h e.symm), gu_s]
  · rw [gu_n c]
    by_cases d : k = i
    · subst d; rw [gu_s, gu_s]
    · rw [gu_n d, gu_n d, gu_n c]
def m_lt (x : Int32) : Nat → Int32
  | 0 => x
  | k + 1 => i_lot (m_lt x k)
def m_ls (f : Nat → Int32) (t o : Nat) : Bool := decide (f o < f t) || (decide (f o = f t) && decide (o < t))
def m_rk (f : Nat → Int32) (t : Nat) : Nat → Nat
  | 0 => 0
  | o + 1 => m_rk f t o + (if m_ls f t o then 1 else 0)
theorem rk_le (f : Nat → Int32) (t : Nat) : ∀ o, m_rk f t o ≤ o := by
  intro o
  induction o with
  | zero => exact Nat.le_refl _
  | succ o ih => show m_rk f t o + (if m_ls f t o then 1 else 0) ≤ o + 1; split <;> omega
theorem ls_self (f : Nat → Int32) (t : Nat) : m_ls f t t = false := by
  unfold m_ls
  rw [decide_eq_false (show ¬ f t < f t from fun h => Int32.lt_irrefl h), decide_eq_false (Nat.lt_irrefl t), Bool.and_false, Bool.or_false]
theorem rk_lt (f : Nat → Int32) (t : Nat) : ∀ o, t < o → m_rk f t o < o := by
  intro o
  induction o with
  | zero => intro h; omega
  | succ o ih =>
    intro h
    show m_rk f t o + (if m_ls f t o then 1 else 0) < o + 1
    by_cases c : t = o
    · subst c
      rw [ls_self]
      have := rk_le f t t
      simp only [Bool.false_eq_true, if_false]
      omega
    · have := ih (by omega)
      split <;> omega
def m_dl (S : gS) : Nat → gS
  | 0 => S
  | k + 1 => g_take (m_dl S k) (nI (k / 5))
