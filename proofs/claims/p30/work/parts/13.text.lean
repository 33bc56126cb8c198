/-! TEXT at tx: the object, its codes cf, its length n -/
def XA (G : ga_) (h : HP) (tx : Nat) (cf : Nat → Int32) (n : Int32) : Prop := h tx = some (ob_ 3 [.ref (tx + 1), .int n]) ∧ h (tx + 1) = some (aC_ G 60 cf)
def pX (G : ga_) (h : HP) (tx : Nat) (cf : Nat → Int32) (n : Int32) : HP := up_ (up_ h tx (ob_ 3 [.ref (tx + 1), .int n])) (tx + 1) (aC_ G 60 cf)
theorem XA_pX {G : ga_} {h : HP} {tx : Nat} {cf : Nat → Int32} {n : Int32} : XA G (pX G h tx cf n) tx cf n := by
  refine ⟨?_, ?_⟩ <;> simp [pX, up_]
theorem pX_out {G : ga_} {h : HP} {tx a : Nat} {cf : Nat → Int32} {n : Int32} (ha : a < tx ∨ tx + 2 ≤ a) : pX G h tx cf n a = h a := by
  unfold pX; rw [up_n (by omega), up_n (by omega)]
theorem pX_eq {G : ga_} {h H : HP} {tx : Nat} {cf : Nat → Int32} {n : Int32} (w : XA G H tx cf n) (ho : ∀ a, (a < tx ∨ tx + 2 ≤ a) → H a = h a) : H = pX G h tx cf n := by
  obtain ⟨w0, w1⟩ := w
  funext a
  by_cases c0 : a = tx
  · subst c0; rw [w0]; simp [pX, up_]
  · by_cases c1 : a = tx + 1
    · subst c1; rw [w1]; simp [pX, up_]
    · rw [ho a (by omega), pX_out (by omega)]
theorem pX_id {G : ga_} {h : HP} {tx : Nat} {cf : Nat → Int32} {n : Int32} (w : XA G h tx cf n) : pX G h tx cf n = h := (pX_eq w (fun _ _ => rfl)).symm
theorem pX_pX {G : ga_} {h : HP} {tx : Nat} {cf cf2 : Nat → Int32} {n n2 : Int32} : pX G (pX G h tx cf n) tx cf2 n2 = pX G h tx cf2 n2 := pX_eq XA_pX (fun a ha => by rw [pX_out ha, pX_out ha])
theorem pX_n {G : ga_} {h : HP} {tx : Nat} {cf : Nat → Int32} {n n2 : Int32} (w : XA G h tx cf n) : up_ h tx (ob_ 3 [.ref (tx + 1), .int n2]) = pX G h tx cf n2 :=
  pX_eq ⟨by simp [up_], by rw [up_n (by omega)]; exact w.2⟩ (fun a ha => by rw [up_n (by omega)])
theorem pX_c {G : ga_} {h : HP} {tx : Nat} {cf f : Nat → Int32} {n : Int32} (w : XA G h tx cf n) : up_ h (tx + 1) (aC_ G 60 f) = pX G h tx f n :=
  pX_eq ⟨by rw [up_n (by omega)]; exact w.1, by simp [up_]⟩ (fun a ha => by rw [up_n (by omega)])
def x_turn (c : Int32) : Int32 := if c = 108 then 1 else if c = 100 then 6 else if c = 112 then 6 else -1
def x_dig (c : Int32) : Int32 := if c = 49 then 2 else if c = 50 then 3 else if c < 48 then -1 else if 57 < c then -1 else 4
def x_row (c : Int32) : Int32 := if c < 97 then -1 else if 99 < c then -1 else 5
def x_exp (e c : Int32) : Int32 := if e = 0 then x_turn c else if e = 1 then x_dig c else if e = 2 then (if c < 48 then x_row c else if 57 < c then x_row c else 4) else if e = 3 then (if c < 48 then x_row c else if 55 < c then x_row c else 4) else if e = 4 then x_row c else if e = 5 then (if c = 60 then 6 else if c = 62 then 6 else -1) else if e = 6 then (if c = 59 then 0 else -1) else -1
def x_st (f : Nat → Int32) : Nat → Int32
  | 0 => 0
  | i + 1 => x_exp (x_st f i) (f i)
def x_fst (p : Nat → Bool) : Nat → Nat
  | 0 => 0
  | n + 1 => if x_fst p n < n then x_fst p n else if p n then n else n + 1
theorem x_fst_le (p : Nat → Bool) : ∀ n, x_fst p n ≤ n := by
  intro n
  induction n with
  | zero => exact Nat.le_refl 0
  | succ n ih => simp only [x_fst]; split <;> (try split) <;> omega
theorem x_fst_no {p : Nat → Bool} : ∀ {n : Nat}, anyB p n = false → x_fst p n = n := by
  intro n
  induction n with
  | zero => intro _; rfl
  | succ n ih =>
    intro h
    simp only [anyB, Bool.or_eq_false_iff] at h
    simp only [x_fst]
    rw [ih h.1, if_neg (Nat.lt_irrefl n), h.2]
    rfl
theorem x_fst_at {p : Nat → Bool} {i : Nat} (h : anyB p i = false) (hp : p i = true) : ∀ {n : Nat}, i < n → x_fst p n = i := by
  intro n
  induction n with
  | zero => intro h; omega
  | succ n ih =>
    intro hi
    simp only [x_fst]
    by_cases c : i = n
    · subst c
      rw [x_fst_no h, if_neg (Nat.lt_irrefl i), hp]
      rfl
    · rw [ih (by omega), if_pos (by omega)]
def x_err (f : Nat → Int32) (n : Nat) : Nat := x_fst (fun i => decide (x_st f (i + 1) = -1)) n
def x_char (x : Int32) : Int32 := vp_nar .char (x.toUInt32 % 65536).toInt32
def x_mix (f : Nat → Int32) (n : Nat) (x : Int64) : Nat → Int64
  | 0 => 31 * x + (nI n).toInt64
  | i + 1 => 31 * x_mix f n x i + (f i).toInt64
