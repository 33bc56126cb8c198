/-! TEXT at tx: the object, its codes cf, its length n -/
def XA (G : ga_) (h : HP) (tx : Nat) (cf : Nat → Int32) (n : Int32) : Prop := h tx = some (ob_ 3 [.ref (tx + 1), .int n]) ∧ h (tx + 1) = some (aC_ G 60 cf)
def pX (G : ga_) (h : HP) (tx : Nat) (cf : Nat → Int32) (n : Int32) : HP := up_ (up_ h tx (ob_ 3 [.ref (tx + 1), .int n])) (tx + 1) (aC_ G 60 cf)
theorem XA_pX {G : ga_} {h : HP} {tx : Nat} {cf : Nat → Int32} {n : Int32} : XA G (pX G h tx cf n) tx cf n := by
  refine ⟨?_, ?_⟩ <;> simp [pX, up_]
theorem pX_out {G : ga_} {h : HP} {tx a : Nat} {cf : Nat → Int32} {n : Int32} (ha : a < tx ∨ tx + 2 ≤ a) : pX G h tx cf n a = h a := by
  unfold pX; rw [up_n (by omega), up_n (by omega)]
theorem pX_eq {G : ga_} {h H : HP} {tx : Nat} {cf : Nat → Int32} {n : Int32} (w : XA G H tx cf n) (ho : ∀ a, (a < tx ∨ tx + 2 ≤ a) → H a = h a) : H = pX G h tx cf n := by
  obtain ⟨w0, w1⟩ := w
  funext a
  by_cases c0 : a = tx
  · subst c0; rw [w0]; simp [pX, up_]
  · by_cases c1 : a = tx + 1
    · subst c1; rw [w1]; simp [pX, up_]
    · rw [ho a (by omega), pX_out (by omega)]
theorem pX_id {G : ga_} {h : HP} {tx : Nat} {cf : Nat → Int32} {n : Int32} (w : XA G h tx cf n) : pX G h tx cf n = h := (pX_eq w (fun _ _ => rfl)).symm
theorem pX_pX {G : ga_} {h : HP} {tx : Nat} {cf cf2 : Nat → Int32} {n n2 : Int32} : pX G (pX G h tx cf n) tx cf2 n2 = pX G h tx cf2 n2 := pX_eq XA_pX (fun a ha => by rw [pX_out ha, pX_out ha])
theorem pX_n {G : ga_} {h : HP} {tx : Nat} {cf : Nat → Int32} {n n2 : Int32} (w : XA G h tx cf n) : up_ h tx (ob_ 3 [.ref (tx + 1), .int n2]) = pX G h tx cf n2 :=
  pX_eq ⟨by simp [up_], by rw [up_n (by omega)]; exact w.2⟩ (fun a ha => by rw [up_n (by omega)])
theorem pX_c {G : ga_} {h : HP} {tx : Nat} {cf f : Nat → Int32} {n : Int32} (w : XA G h tx cf n) : up_ h (tx + 1) (aC_ G 60 f) = pX G h tx f n :=
  pX_eq ⟨by rw [up_n (by omega)]; exact w.1, by simp [up_]⟩ (fun a ha => by rw [up_n (by omega)])
def x_turn (c : Int32) : Int32 := if c = 108 then 1 else if c = 100 then 6 else if c = 112 then 6 else -1
def x_dig (c : Int32) : Int32 := if c = 49 then 2 else if c = 50 then 3 else if c < 48 then -1 else if 57 < c then -1 else 4
def x_row (c : Int32) : Int32 := if c < 97 then -1 else if 99 < c then -1 else 5
def x_exp (e c : Int32) : Int32 := if e = 0 then x_turn c else if e = 1 then x_dig c else if e = 2 then (if c < 48 then x_row c else if 57 < c then x_row c else 4) else if e = 3 then (if c < 48 then x_row c else if 55 < c then x_row c else 4) else if e = 4 then x_row c else if e = 5 then (if c = 60 then 6 else if c = 62 then 6 else -1) else if e = 6 then (if c = 59 then 0 else -1) else -1
def x_st (f : Nat → Int32) : Nat → Int32
  | 0 => 0
  | i + 1 => x_exp (x_st f i) (f i)
def x_fst (p : Nat → Bool) : Nat → Nat
  | 0 => 0
  | n + 1 => if x_fst p n < n then x_fst p n else if p n then n else n + 1
theorem x_fst_le (p : Nat → Bool) : ∀ n, x_fst p n ≤ n := by
  intro n
  induction n with
  | zero => exact Nat.le_refl 0
  | succ n ih => simp only [x_fst]; split <;> (try split) <;> omega
theorem x_fst_no {p : Nat → Bool} : ∀ {n : Nat}, anyB p n = false → x_fst p n = n := by
  intro n
  induction n with
  | zero => intro _; rfl
  | succ n ih =>
    intro h
    simp only [anyB, Bool.or_eq_false_iff] at h
    simp only [x_fst]
    rw [ih h.1, if_neg (Nat.lt_irrefl n), h.2]
    rfl
theorem x_fst_at {p : Nat → Bool} {i : Nat} (h : anyB p i = false) (hp : p i = true) : ∀ {n : Nat}, i < n → x_fst p n = i := by
  intro n
  induction n with
  | zero => intro h; omega
  | succ n ih =>
    intro hi
    simp only [x_fst]
    by_cases c : i = n
    · subst c
      rw [x_fst_no h, if_neg (Nat.lt_irrefl i), hp]
      rfl
    · rw [ih (by omega), if_pos (by omega)]
def x_err (f : Nat → Int32) (n : Nat) : Nat := x_fst (fun i => decide (x_st f (i + 1) = -1)) n
def x_char (x : Int32) : Int32 := vp_nar .char (x.toUInt32 % 65536).toInt32
def x_mix (f : Nat → Int32) (n : Nat) (x : Int64) : Nat → Int64
  | 0 => 31 * x + (nI n).toInt64
  | i + 1 => 31 * x_mix f n x i + (f i).toInt64
set_option maxHeartbeats 800000 in
set_option maxRecDepth 100000 in
theorem c_X3_behindTurnLetter {G : ga_} {l : Launch} {h : HP} {sz : Nat} {a : Int32}  : Mf G l yX3_behindTurnLetter cX3_behindTurnLetter 1 (some .int) 0 0 0 0 [.int a] h sz (some (.int (x_turn a))) h sz := by
  refine Mg.ofV [(0, .int a)] (by decide) (Nat.le_of_ble_eq_true rfl) rfl ?_
  intro p e s m args below meth c C
  refine r_iload_n C dX3_behindTurnLetter_0 rfl rfl ?_
  refine r_bipush C (v := 108) dX3_behindTurnLetter_1 rfl ?_
  refine r_icmp_ne C 8 dX3_behindTurnLetter_3 (by decide) (fun c_3 => ?_) (fun c_3 => ?_)
  · refine r_iload_n C dX3_behindTurnLetter_8 rfl rfl ?_
    refine r_bipush C (v := 100) dX3_behindTurnLetter_9 rfl ?_
    refine r_icmp_eq C 20 dX3_behindTurnLetter_11 (by decide) (fun c_11 => ?_) (fun c_11 => ?_)
    · refine r_bipush C (v := 6) dX3_behindTurnLetter_20 rfl ?_
      refine r_goto C 26 dX3_behindTurnLetter_22 (by decide) ?_
      exact r_iret C rfl (Nat.le_of_ble_eq_true rfl) (Nat.le_of_ble_eq_true rfl) ⟨by simp [x_turn, c_3, c_11], rfl, rfl⟩ dX3_behindTurnLetter_26
    · refine r_iload_n C dX3_behindTurnLetter_14 rfl rfl ?_
      refine r_bipush C (v := 112) dX3_behindTurnLetter_15 rfl ?_
      refine r_icmp_ne C 25 dX3_behindTurnLetter_17 (by decide) (fun c_17 => ?_) (fun c_17 => ?_)
      · refine r_iconst C (v := -1) dX3_behindTurnLetter_25 rfl ?_
        exact r_iret C rfl (Nat.le_of_ble_eq_true rfl) (Nat.le_of_ble_eq_true rfl) ⟨by simp [x_turn, c_3, c_11, c_17], rfl, rfl⟩ dX3_behindTurnLetter_26
      · refine r_bipush C (v := 6) dX3_behindTurnLetter_20 rfl ?_
        refine r_goto C 26 dX3_behindTurnLetter_22 (by decide) ?_
        exact r_iret C rfl (Nat.le_of_ble_eq_true rfl) (Nat.le_of_ble_eq_true rfl) ⟨by simp [x_turn, c_3, c_11, c_17], rfl, rfl⟩ dX3_behindTurnLetter_26
  · refine r_iconst C (v := 1) dX3_behindTurnLetter_6 rfl ?_
    exact r_iret C rfl (Nat.le_of_ble_eq_true rfl) (Nat.le_of_ble_eq_true rfl) ⟨by simp [x_turn, c_3], rfl, rfl⟩ dX3_behindTurnLetter_7

set_option maxHeartbeats 800000 in
set_option maxRecDepth 100000 in
theorem c_X3_behindFirstDigit {G : ga_} {l : Launch} {h : HP} {sz : Nat} {a : Int32}  : Mf G l yX3_behindFirstDigit cX3_behindFirstDigit 1 (some .int) 0 0 0 0 [.int a] h sz (some (.int (x_dig a))) h sz := by
  refine Mg.ofV [(0, .int a)] (by decide) (Nat.le_of_ble_eq_true rfl) rfl ?_
  intro p e s m args below meth c C
  refine r_iload_n C dX3_behindFirstDigit_0 rfl rfl ?_
  refine r_bipush C (v := 49) dX3_behindFirstDigit_1 rfl ?_
  refine r_icmp_ne C 8 dX3_behindFirstDigit_3 (by decide) (fun c_3 => ?_) (fun c_3 => ?_)
  · refine r_iload_n C dX3_behindFirstDigit_8 rfl rfl ?_
    refine r_bipush C (v := 50) dX3_behindFirstDigit_9 rfl ?_
    refine r_icmp_ne C 16 dX3_behindFirstDigit_11 (by decide) (fun c_11 => ?_) (fun c_11 => ?_)
    · refine r_iload_n C dX3_behindFirstDigit_16 rfl rfl ?_
      refine r_bipush C (v := 48) dX3_behindFirstDigit_17 rfl ?_
      refine r_icmp_lt C 32 dX3_behindFirstDigit_19 (by decide) (fun c_19 => ?_) (fun c_19 => ?_)
      · have e_19 := i32_nle c_19
        refine r_iconst C (v := -1) dX3_behindFirstDigit_32 rfl ?_
        exact r_iret C rfl (Nat.le_of_ble_eq_true rfl) (Nat.le_of_ble_eq_true rfl) ⟨by simp [x_dig, c_3, c_11, c_19, e_19], rfl, rfl⟩ dX3_behindFirstDigit_33
      · have e_19 := i32_le c_19
        refine r_iload_n C dX3_behindFirstDigit_22 rfl rfl ?_
        refine r_bipush C (v := 57) dX3_behindFirstDigit_23 rfl ?_
        refine r_icmp_gt C 32 dX3_behindFirstDigit_25 (by decide) (fun c_25 => ?_) (fun c_25 => ?_)
        · have e_25 := i32_nle c_25
          refine r_iconst C (v := -1) dX3_behindFirstDigit_32 rfl ?_
          exact r_iret C rfl (Nat.le_of_ble_eq_true rfl) (Nat.le_of_ble_eq_true rfl) ⟨by simp [x_dig, c_3, c_11, c_19, e_19, c_25, e_25], rfl, rfl⟩ dX3_behindFirstDigit_33
        · have e_25 := i32_le c_25
          refine r_iconst C (v := 4) dX3_behindFirstDigit_28 rfl ?_
          refine r_goto C 33 dX3_behindFirstDigit_29 (by decide) ?_
          exact r_iret C rfl (Nat.le_of_ble_eq_true rfl) (Nat.le_of_ble_eq_true rfl) ⟨by simp [x_dig, c_3, c_11, c_19, e_19, c_25, e_25], rfl, rfl⟩ dX3_behindFirstDigit_33
    · refine r_iconst C (v := 3) dX3_behindFirstDigit_14 rfl ?_
      exact r_iret C rfl (Nat.le_of_ble_eq_true rfl) (Nat.le_of_ble_eq_true rfl) ⟨by simp [x_dig, c_3, c_11], rfl, rfl⟩ dX3_behindFirstDigit_15
  · refine r_iconst C (v := 2) dX3_behindFirstDigit_6 rfl ?_
    exact r_iret C rfl (Nat.le_of_ble_eq_true rfl) (Nat.le_of_ble_eq_true rfl) ⟨by simp [x_dig, c_3], rfl, rfl⟩ dX3_behindFirstDigit_7

set_option maxHeartbeats 800000 in
set_option maxRecDepth 100000 in
theorem c_X3_behindRowLetter {G : ga_} {l : Launch} {h : HP} {sz : Nat} {a : Int32}  : Mf G l yX3_behindRowLetter cX3_behindRowLetter 1 (some .int) 0 0 0 0 [.int a] h sz (some (.int (x_row a))) h sz := by
  refine Mg.ofV [(0, .int a)] (by decide) (Nat.le_of_ble_eq_true rfl) rfl ?_
  intro p e s m args below meth c C
  refine r_iload_n C dX3_behindRowLetter_0 rfl rfl ?_
  refine r_bipush C (v := 97) dX3_behindRowLetter_1 rfl ?_
  refine r_icmp_lt C 16 dX3_behindRowLetter_3 (by decide) (fun c_3 => ?_) (fun c_3 => ?_)
  · have e_3 := i32_nle c_3
    refine r_iconst C (v := -1) dX3_behindRowLetter_16 rfl ?_
    exact r_iret C rfl (Nat.le_of_ble_eq_true rfl) (Nat.le_of_ble_eq_true rfl) ⟨by simp [x_row, c_3, e_3], rfl, rfl⟩ dX3_behindRowLetter_17
  · have e_3 := i32_le c_3
    refine r_iload_n C dX3_behindRowLetter_6 rfl rfl ?_
    refine r_bipush C (v := 99) dX3_behindRowLetter_7 rfl ?_
    refine r_icmp_gt C 16 dX3_behindRowLetter_9 (by decide) (fun c_9 => ?_) (fun c_9 => ?_)
    · have e_9 := i32_nle c_9
      refine r_iconst C (v := -1) dX3_behindRowLetter_16 rfl ?_
      exact r_iret C rfl (Nat.le_of_ble_eq_true rfl) (Nat.le_of_ble_eq_true rfl) ⟨by simp [x_row, c_3, e_3, c_9, e_9], rfl, rfl⟩ dX3_behindRowLetter_17
    · have e_9 := i32_le c_9
      refine r_iconst C (v := 5) dX3_behindRowLetter_12 rfl ?_
      refine r_goto C 17 dX3_behindRowLetter_13 (by decide) ?_
      exact r_iret C rfl (Nat.le_of_ble_eq_true rfl) (Nat.le_of_ble_eq_true rfl) ⟨by simp [x_row, c_3, e_3, c_9, e_9], rfl, rfl⟩ dX3_behindRowLetter_17

set_option maxHeartbeats 800000 in
set_option maxRecDepth 100000 in
theorem c_X3_expectedBehind {G : ga_} {l : Launch} {h : HP} {sz : Nat} {a b : Int32}  : Mf G l yX3_expectedBehind cX3_expectedBehind 2 (some .int) 1 20 0 0 [.int a, .int b] h sz (some (.int (x_exp a b))) h sz := by
  refine Mg.ofV [(0, .int a), (1, .int b)] (by decide) (Nat.le_of_ble_eq_true rfl) rfl ?_
  intro p e s m args below meth c C
  refine r_iload_n C dX3_expectedBehind_0 rfl rfl ?_
  by_cases c_1_0 : a = 0
  · subst c_1_0
    refine r_tsw C 44 dX3_expectedBehind_1 (by decide) (by decide) rfl (by decide) ?_
    refine r_iload_n C dX3_expectedBehind_44 rfl rfl ?_
    refine r_cSi C (c_X3_behindTurnLetter) lk_X3_23 rfl rfl ⟨(Nat.le_of_ble_eq_true rfl), (Nat.le_of_ble_eq_true rfl), (Nat.le_of_ble_eq_true rfl), (Nat.le_of_ble_eq_true rfl), (Nat.le_of_ble_eq_true rfl)⟩ dX3_expectedBehind_45 ?_
    exact r_iret C rfl (Nat.le_of_ble_eq_true rfl) (Nat.le_of_ble_eq_true rfl) ⟨by simp [x_exp ], rfl, rfl⟩ dX3_expectedBehind_48
  by_cases c_1_1 : a = 1
  · subst c_1_1
    refine r_tsw C 49 dX3_expectedBehind_1 (by decide) (by decide) rfl (by decide) ?_
    refine r_iload_n C dX3_expectedBehind_49 rfl rfl ?_
    refine r_cSi C (c_X3_behindFirstDigit) lk_X3_27 rfl rfl ⟨(Nat.le_of_ble_eq_true rfl), (Nat.le_of_ble_eq_true rfl), (Nat.le_of_ble_eq_true rfl), (Nat.le_of_ble_eq_true rfl), (Nat.le_of_ble_eq_true rfl)⟩ dX3_expectedBehind_50 ?_
    exact r_iret C rfl (Nat.le_of_ble_eq_true rfl) (Nat.le_of_ble_eq_true rfl) ⟨by simp [x_exp ], rfl, rfl⟩ dX3_expectedBehind_53
  by_cases c_1_2 : a = 2
  · subst c_1_2
    refine r_tsw C 54 dX3_expectedBehind_1 (by decide) (by decide) rfl (by decide) ?_
    refine r_iload_n C dX3_expectedBehind_54 rfl rfl ?_
    refine r_bipush C (v := 48) dX3_expectedBehind_55 rfl ?_
    refine r_icmp_lt C 70 dX3_expectedBehind_57 (by decide) (fun c_57 => ?_) (fun c_57 => ?_)
    · have e_57 := i32_nle c_57
      refine r_iload_n C dX3_expectedBehind_70 rfl rfl ?_
      refine r_cSi C (c_X3_behindRowLetter) lk_X3_30 rfl rfl ⟨(Nat.le_of_ble_eq_true rfl), (Nat.le_of_ble_eq_true rfl), (Nat.le_of_ble_eq_true rfl), (Nat.le_of_ble_eq_true rfl), (Nat.le_of_ble_eq_true rfl)⟩ dX3_expectedBehind_71 ?_
      exact r_iret C rfl (Nat.le_of_ble_eq_true rfl) (Nat.le_of_ble_eq_true rfl) ⟨by simp [x_exp, c_57, e_57], rfl, rfl⟩ dX3_expectedBehind_74
    · have e_57 := i32_le c_57
      refine r_iload_n C dX3_expectedBehind_60 rfl rfl ?_
      refine r_bipush C (v := 57) dX3_expectedBehind_61 rfl ?_
      refine r_icmp_gt C 70 dX3_expectedBehind_63 (by decide) (fun c_63 => ?_) (fun c_63 => ?_)
      · have e_63 := i32_nle c_63
        refine r_iload_n C dX3_expectedBehind_70 rfl rfl ?_
        refine r_cSi C (c_X3_behindRowLetter) lk_X3_30 rfl rfl ⟨(Nat.le_of_ble_eq_true rfl), (Nat.le_of_ble_eq_true rfl), (Nat.le_of_ble_eq_true rfl), (Nat.le_of_ble_eq_true rfl), (Nat.le_of_ble_eq_true rfl)⟩ dX3_expectedBehind_71 ?_
        exact r_iret C rfl (Nat.le_of_ble_eq_true rfl) (Nat.le_of_ble_eq_true rfl) ⟨by simp [x_exp, c_57, e_57, c_63, e_63], rfl, rfl⟩ dX3_expectedBehind_74
      · have e_63 := i32_le c_63
        refine r_iconst C (v := 4) dX3_expectedBehind_66 rfl ?_
        refine r_goto C 74 dX3_expectedBehind_67 (by decide) ?_
        exact r_iret C rfl (Nat.le_of_ble_eq_true rfl) (Nat.le_of_ble_eq_true rfl) ⟨by simp [x_exp, c_57, e_57, c_63, e_63], rfl, rfl⟩ dX3_expectedBehind_74
  by_cases c_1_3 : a = 3
  · subst c_1_3
    refine r_tsw C 75 dX3_expectedBehind_1 (by decide) (by decide) rfl (by decide) ?_
    refine r_iload_n C dX3_expectedBehind_75 rfl rfl ?_
    refine r_bipush C (v := 48) dX3_expectedBehind_76 rfl ?_
    refine r_icmp_lt C 91 dX3_expectedBehind_78 (by decide) (fun c_78 => ?_) (fun c_78 => ?_)
    · have e_78 := i32_nle c_78
      refine r_iload_n C dX3_expectedBehind_91 rfl rfl ?_
      refine r_cSi C (c_X3_behindRowLetter) lk_X3_30 rfl rfl ⟨(Nat.le_of_ble_eq_true rfl), (Nat.le_of_ble_eq_true rfl), (Nat.le_of_ble_eq_true rfl), (Nat.le_of_ble_eq_true rfl), (Nat.le_of_ble_eq_true rfl)⟩ dX3_expectedBehind_92 ?_
      exact r_iret C rfl (Nat.le_of_ble_eq_true rfl) (Nat.le_of_ble_eq_true rfl) ⟨by simp [x_exp, c_78, e_78], rfl, rfl⟩ dX3_expectedBehind_95
    · have e_78 := i32_le c_78
      refine r_iload_n C dX3_expectedBehind_81 rfl rfl ?_
      refine r_bipush C (v := 55) dX3_expectedBehind_82 rfl ?_
      refine r_icmp_gt C 91 dX3_expectedBehind_84 (by decide) (fun c_84 => ?_) (fun c_84 => ?_)
      · have e_84 := i32_nle c_84
        refine r_iload_n C dX3_expectedBehind_91 rfl rfl ?_
        refine r_cSi C (c_X3_behindRowLetter) lk_X3_30 rfl rfl ⟨(Nat.le_of_ble_eq_true rfl), (Nat.le_of_ble_eq_true rfl), (Nat.le_of_ble_eq_true rfl), (Nat.le_of_ble_eq_true rfl), (Nat.le_of_ble_eq_true rfl)⟩ dX3_expectedBehind_92 ?_
        exact r_iret C rfl (Nat.le_of_ble_eq_true rfl) (Nat.le_of_ble_eq_true rfl) ⟨by simp [x_exp, c_78, e_78, c_84, e_84], rfl, rfl⟩ dX3_expectedBehind_95
      · have e_84 := i32_le c_84
        refine r_iconst C (v := 4) dX3_expectedBehind_87 rfl ?_
        refine r_goto C 95 dX3_expectedBehind_88 (by decide) ?_
        exact r_iret C rfl (Nat.le_of_ble_eq_true rfl) (Nat.le_of_ble_eq_true rfl) ⟨by simp [x_exp, c_78, e_78, c_84, e_84], rfl, rfl⟩ dX3_expectedBehind_95
  by_cases c_1_4 : a = 4
  · subst c_1_4
    refine r_tsw C 96 dX3_expectedBehind_1 (by decide) (by decide) rfl (by decide) ?_
    refine r_iload_n C dX3_expectedBehind_96 rfl rfl ?_
    refine r_cSi C (c_X3_behindRowLetter) lk_X3_30 rfl rfl ⟨(Nat.le_of_ble_eq_true rfl), (Nat.le_of_ble_eq_true rfl), (Nat.le_of_ble_eq_true rfl), (Nat.le_of_ble_eq_true rfl), (Nat.le_of_ble_eq_true rfl)⟩ dX3_expectedBehind_97 ?_
    exact r_iret C rfl (Nat.le_of_ble_eq_true rfl) (Nat.le_of_ble_eq_true rfl) ⟨by simp [x_exp ], rfl, rfl⟩ dX3_expectedBehind_100
  by_cases c_1_5 : a = 5
  · subst c_1_5
    refine r_tsw C 101 dX3_expectedBehind_1 (by decide) (by decide) rfl (by decide) ?_
    refine r_iload_n C dX3_expectedBehind_101 rfl rfl ?_
    refine r_bipush C (v := 60) dX3_expectedBehind_102 rfl ?_
    refine r_icmp_eq C 113 dX3_expectedBehind_104 (by decide) (fun c_104 => ?_) (fun c_104 => ?_)
    · refine r_bipush C (v := 6) dX3_expectedBehind_113 rfl ?_
      refine r_goto C 119 dX3_expectedBehind_115 (by decide) ?_
      exact r_iret C rfl (Nat.le_of_ble_eq_true rfl) (Nat.le_of_ble_eq_true rfl) ⟨by simp [x_exp, c_104], rfl, rfl⟩ dX3_expectedBehind_119
    · refine r_iload_n C dX3_expectedBehind_107 rfl rfl ?_
      refine r_bipush C (v := 62) dX3_expectedBehind_108 rfl ?_
      refine r_icmp_ne C 118 dX3_expectedBehind_110 (by decide) (fun c_110 => ?_) (fun c_110 => ?_)
      · refine r_iconst C (v := -1) dX3_expectedBehind_118 rfl ?_
        exact r_iret C rfl (Nat.le_of_ble_eq_true rfl) (Nat.le_of_ble_eq_true rfl) ⟨by simp [x_exp, c_104, c_110], rfl, rfl⟩ dX3_expectedBehind_119
      · refine r_bipush C (v := 6) dX3_expectedBehind_113 rfl ?_
        refine r_goto C 119 dX3_expectedBehind_115 (by decide) ?_
        exact r_iret C rfl (Nat.le_of_ble_eq_true rfl) (Nat.le_of_ble_eq_true rfl) ⟨by simp [x_exp, c_104, c_110], rfl, rfl⟩ dX3_expectedBehind_119
  by_cases c_1_6 : a = 6
  · subst c_1_6
    refine r_tsw C 120 dX3_expectedBehind_1 (by decide) (by decide) rfl (by decide) ?_
    refine r_iload_n C dX3_expectedBehind_120 rfl rfl ?_
    refine r_bipush C (v := 59) dX3_expectedBehind_121 rfl ?_
    refine r_icmp_ne C 130 dX3_expectedBehind_123 (by decide) (fun c_123 => ?_) (fun c_123 => ?_)
    · refine r_iconst C (v := -1) dX3_expectedBehind_130 rfl ?_
      exact r_iret C rfl (Nat.le_of_ble_eq_true rfl) (Nat.le_of_ble_eq_true rfl) ⟨by simp [x_exp, c_123], rfl, rfl⟩ dX3_expectedBehind_131
    · refine r_iconst C (v := 0) dX3_expectedBehind_126 rfl ?_
      refine r_goto C 131 dX3_expectedBehind_127 (by decide) ?_
      exact r_iret C rfl (Nat.le_of_ble_eq_true rfl) (Nat.le_of_ble_eq_true rfl) ⟨by simp [x_exp, c_123], rfl, rfl⟩ dX3_expectedBehind_131
  refine r_tswO C 132 dX3_expectedBehind_1 (sw_out 7 (by decide) (lt_s_7 c_1_0 c_1_1 c_1_2 c_1_3 c_1_4 c_1_5 c_1_6)) (by decide) ?_
  refine r_iconst C (v := -1) dX3_expectedBehind_132 rfl ?_
  exact r_iret C rfl (Nat.le_of_ble_eq_true rfl) (Nat.le_of_ble_eq_true rfl) ⟨by simp [x_exp, c_1_0, c_1_1, c_1_2, c_1_3, c_1_4, c_1_5, c_1_6], rfl, rfl⟩ dX3_expectedBehind_133

set_option maxHeartbeats 800000 in
set_option maxRecDepth 100000 in
theorem c_X3_errorPlace {G : ga_} {l : Launch} {h : HP} {sz : Nat} {tx n : Nat} {cf : Nat → Int32}  (w : XA G h tx cf (nI n)) (hn : n ≤ 60) : Mf G l yX3_errorPlace cX3_errorPlace 3 (some .int) 2 41 0 0 [.ref tx] h sz (some (.int (nI (x_err cf n)))) h sz := by
  refine Mg.ofV [(0, .ref tx)] (by decide) (Nat.le_of_ble_eq_true rfl) rfl ?_
  intro p e s m args below meth c C
  refine r_iconst C (v := 0) dX3_errorPlace_0 rfl ?_
  refine r_istore_n C dX3_errorPlace_1 rfl (by decide) ?_
  refine r_iconst C (v := 0) dX3_errorPlace_2 rfl ?_
  refine r_istore_n C dX3_errorPlace_3 rfl (by decide) ?_
  refine V.sub [(0, .ref tx), (1, .int (x_st cf 0)), (2, .int (nI 0))] ⟨rfl, rfl, rfl, trivial⟩ ?_
  refine downI_ (I := fun i => anyB (fun i => decide (x_st cf (i + 1) = -1)) i = false) (P := fun i => V p l e ⟨2, 0, 0, 41⟩ s m args below meth c G 3 (Qg G below args s 0 0 (fun v1 h1 s1 => v1 = (some (.int (nI (x_err cf n)))) ∧ h1 = h ∧ s1 = sz)) h sz 0 0 4 [(0, .ref tx), (1, .int (x_st cf i)), (2, .int (nI i))] []) (n) ?_ ?_ (rfl)
  · intro I_i
    refine r_iload_n C dX3_errorPlace_4 rfl rfl ?_
    refine r_aload_n C dX3_errorPlace_5 rfl rfl ?_
    refine r_get C (j := 1) rfl in_X3 (w.1) (by decide) fl_X3_15 rfl rfl dX3_errorPlace_6 ?_
    refine r_icmp_ge C 45 dX3_errorPlace_9 (by decide) (fun _ => ?_) (fun c => absurd (Int32.le_refl _) c)
    refine r_aload_n C dX3_errorPlace_45 rfl rfl ?_
    refine r_get C (j := 1) rfl in_X3 (w.1) (by decide) fl_X3_15 rfl rfl dX3_errorPlace_46 ?_
    exact r_iret C rfl (Nat.le_of_ble_eq_true rfl) (Nat.le_of_ble_eq_true rfl) ⟨by rw [show x_err cf n = n from x_fst_no I_i], rfl, rfl⟩ dX3_errorPlace_49
  · intro i h_i I_i ih_i
    refine r_iload_n C dX3_errorPlace_4 rfl rfl ?_
    refine r_aload_n C dX3_errorPlace_5 rfl rfl ?_
    refine r_get C (j := 1) rfl in_X3 (w.1) (by decide) fl_X3_15 rfl rfl dX3_errorPlace_6 ?_
    refine r_icmp_ge C 45 dX3_errorPlace_9 (by decide) (fun c => absurd c (nI_ge h_i (by omega))) (fun _ => ?_)
    refine r_iload_n C dX3_errorPlace_12 rfl rfl ?_
    refine r_aload_n C dX3_errorPlace_13 rfl rfl ?_
    refine r_get C (j := 0) rfl in_X3 (w.1) (by decide) fl_X3_9 rfl rfl dX3_errorPlace_14 ?_
    refine r_alenC C (w.2) dX3_errorPlace_17 ?_
    refine r_icmp_ge C 45 dX3_errorPlace_18 (by decide) (fun c => absurd c (nI_ge (b := 60) (by omega) (by decide))) (fun _ => ?_)
    refine r_iload_n C dX3_errorPlace_21 rfl rfl ?_
    refine r_aload_n C dX3_errorPlace_22 rfl rfl ?_
    refine r_get C (j := 0) rfl in_X3 (w.1) (by decide) fl_X3_9 rfl rfl dX3_errorPlace_23 ?_
    refine r_iload_n C dX3_errorPlace_26 rfl rfl ?_
    refine r_cald C (w.2) (vp_in_nI (by omega) (by decide)) dX3_errorPlace_27 ?_
    refine r_cSi C (c_X3_expectedBehind) lk_X3_19 rfl rfl ⟨(Nat.le_of_ble_eq_true rfl), (Nat.le_of_ble_eq_true rfl), (Nat.le_of_ble_eq_true rfl), (Nat.le_of_ble_eq_true rfl), (Nat.le_of_ble_eq_true rfl)⟩ dX3_errorPlace_28 ?_
    refine r_istore_n C dX3_errorPlace_31 rfl (by decide) ?_
    refine r_iload_n C dX3_errorPlace_32 rfl rfl ?_
    refine r_iconst C (v := -1) dX3_errorPlace_33 rfl ?_
    refine r_icmp_ne C 39 dX3_errorPlace_34 (by decide) (fun c_34 => ?_) (fun c_34 => ?_)
    · refine r_iinc C (v := 1) dX3_errorPlace_39 rfl rfl (by decide) ?_
      refine r_goto C 4 dX3_errorPlace_42 (by decide) ?_
      refine V.sub [(0, .ref tx), (1, .int (x_st cf (i + 1))), (2, .int (nI (i + 1)))] ⟨rfl, by rw [nI_clamp (by omega)]; rfl, (by rw [← nI_1 i]; rfl), trivial⟩ ?_
      exact ih_i (by simp only [anyB, I_i, Bool.false_or]; rw [nI_clamp (by omega)] at c_34; exact decide_eq_false c_34)
    · refine r_iload_n C dX3_errorPlace_37 rfl rfl ?_
      exact r_iret C rfl (Nat.le_of_ble_eq_true rfl) (Nat.le_of_ble_eq_true rfl) ⟨by rw [show x_err cf n = i from x_fst_at I_i (by rw [nI_clamp (by omega)] at c_34; exact decide_eq_true c_34) h_i], rfl, rfl⟩ dX3_errorPlace_38

set_option maxHeartbeats 800000 in
set_option maxRecDepth 100000 in
theorem c_X3_tellsTurns {G : ga_} {l : Launch} {h : HP} {sz : Nat} {tx n : Nat} {cf : Nat → Int32}  (w : XA G h tx cf (nI n)) (hn : n ≤ 60) : Mf G l yX3_tellsTurns cX3_tellsTurns 3 (some .boolean) 2 41 0 0 [.ref tx] h sz (some (.int (bI (decide (x_st cf n = 6))))) h sz := by
  refine Mg.ofV [(0, .ref tx)] (by decide) (Nat.le_of_ble_eq_true rfl) rfl ?_
  intro p e s m args below meth c C
  refine r_iconst C (v := 0) dX3_tellsTurns_0 rfl ?_
  refine r_istore_n C dX3_tellsTurns_1 rfl (by decide) ?_
  refine r_iconst C (v := 0) dX3_tellsTurns_2 rfl ?_
  refine r_istore_n C dX3_tellsTurns_3 rfl (by decide) ?_
  refine V.sub [(0, .ref tx), (1, .int (x_st cf 0)), (2, .int (nI 0))] ⟨rfl, rfl, rfl, trivial⟩ ?_
  refine down_ (P := fun i => V p l e ⟨2, 0, 0, 41⟩ s m args below meth c G 3 (Qg G below args s 0 0 (fun v1 h1 s1 => v1 = (some (.int (bI (decide (x_st cf n = 6))))) ∧ h1 = h ∧ s1 = sz)) h sz 0 0 4 [(0, .ref tx), (1, .int (x_st cf i)), (2, .int (nI i))] []) (n) ?_ ?_
  · refine r_iload_n C dX3_tellsTurns_4 rfl rfl ?_
    refine r_aload_n C dX3_tellsTurns_5 rfl rfl ?_
    refine r_get C (j := 1) rfl in_X3 (w.1) (by decide) fl_X3_15 rfl rfl dX3_tellsTurns_6 ?_
    refine r_icmp_ge C 38 dX3_tellsTurns_9 (by decide) (fun _ => ?_) (fun c => absurd (Int32.le_refl _) c)
    refine r_iload_n C dX3_tellsTurns_38 rfl rfl ?_
    refine r_bipush C (v := 6) dX3_tellsTurns_39 rfl ?_
    refine r_icmp_ne C 48 dX3_tellsTurns_41 (by decide) (fun c_41 => ?_) (fun c_41 => ?_)
    · refine r_iconst C (v := 0) dX3_tellsTurns_48 rfl ?_
      exact r_zret C rfl (by first | exact Or.inl rfl | exact Or.inr rfl) (Nat.le_of_ble_eq_true rfl) (Nat.le_of_ble_eq_true rfl) ⟨by simp [bI, c_41], rfl, rfl⟩ dX3_tellsTurns_49
    · refine r_iconst C (v := 1) dX3_tellsTurns_44 rfl ?_
      refine r_goto C 49 dX3_tellsTurns_45 (by decide) ?_
      exact r_zret C rfl (by first | exact Or.inl rfl | exact Or.inr rfl) (Nat.le_of_ble_eq_true rfl) (Nat.le_of_ble_eq_true rfl) ⟨by simp [bI, c_41], rfl, rfl⟩ dX3_tellsTurns_49
  · intro i h_i ih_i
    refine r_iload_n C dX3_tellsTurns_4 rfl rfl ?_
    refine r_aload_n C dX3_tellsTurns_5 rfl rfl ?_
    refine r_get C (j := 1) rfl in_X3 (w.1) (by decide) fl_X3_15 rfl rfl dX3_tellsTurns_6 ?_
    refine r_icmp_ge C 38 dX3_tellsTurns_9 (by decide) (fun c => absurd c (nI_ge h_i (by omega))) (fun _ => ?_)
    refine r_iload_n C dX3_tellsTurns_12 rfl rfl ?_
    refine r_aload_n C dX3_tellsTurns_13 rfl rfl ?_
    refine r_get C (j := 0) rfl in_X3 (w.1) (by decide) fl_X3_9 rfl rfl dX3_tellsTurns_14 ?_
    refine r_alenC C (w.2) dX3_tellsTurns_17 ?_
    refine r_icmp_ge C 38 dX3_tellsTurns_18 (by decide) (fun c => absurd c (nI_ge (b := 60) (by omega) (by decide))) (fun _ => ?_)
    refine r_iload_n C dX3_tellsTurns_21 rfl rfl ?_
    refine r_aload_n C dX3_tellsTurns_22 rfl rfl ?_
    refine r_get C (j := 0) rfl in_X3 (w.1) (by decide) fl_X3_9 rfl rfl dX3_tellsTurns_23 ?_
    refine r_iload_n C dX3_tellsTurns_26 rfl rfl ?_
    refine r_cald C (w.2) (vp_in_nI (by omega) (by decide)) dX3_tellsTurns_27 ?_
    refine r_cSi C (c_X3_expectedBehind) lk_X3_19 rfl rfl ⟨(Nat.le_of_ble_eq_true rfl), (Nat.le_of_ble_eq_true rfl), (Nat.le_of_ble_eq_true rfl), (Nat.le_of_ble_eq_true rfl), (Nat.le_of_ble_eq_true rfl)⟩ dX3_tellsTurns_28 ?_
    refine r_istore_n C dX3_tellsTurns_31 rfl (by decide) ?_
    refine r_iinc C (v := 1) dX3_tellsTurns_32 rfl rfl (by decide) ?_
    refine r_goto C 4 dX3_tellsTurns_35 (by decide) ?_
    refine V.sub [(0, .ref tx), (1, .int (x_st cf (i + 1))), (2, .int (nI (i + 1)))] ⟨rfl, by rw [nI_clamp (by omega)]; rfl, (by rw [← nI_1 i]; rfl), trivial⟩ ?_
    exact ih_i

set_option maxHeartbeats 800000 in
set_option maxRecDepth 100000 in
theorem c_X3_mixInto {G : ga_} {l : Launch} {h : HP} {sz : Nat} {tx n : Nat} {cf : Nat → Int32} {x : Int64} (w : XA G h tx cf (nI n)) (hn : n ≤ 60) : Mf G l yX3_mixInto cX3_mixInto 6 (some .long) 0 0 0 0 [.ref tx, .long x] h sz (some (.long (x_mix cf n x n))) h sz := by
  refine Mg.ofV [(0, .ref tx), (1, .long x)] (by decide) (Nat.le_of_ble_eq_true rfl) rfl ?_
  intro p e s m args below meth c C
  refine r_ldc2 C kl_X3_49 dX3_mixInto_0 ?_
  refine r_lload_n C dX3_mixInto_3 rfl rfl ?_
  refine r_lmul C dX3_mixInto_4 ?_
  refine r_aload_n C dX3_mixInto_5 rfl rfl ?_
  refine r_get C (j := 1) rfl in_X3 (w.1) (by decide) fl_X3_15 rfl rfl dX3_mixInto_6 ?_
  refine r_i2l C dX3_mixInto_9 ?_
  refine r_ladd C dX3_mixInto_10 ?_
  refine r_lstore_n C dX3_mixInto_11 rfl (by decide) ?_
  refine r_iconst C (v := 0) dX3_mixInto_12 rfl ?_
  refine r_istore C dX3_mixInto_13 (by decide) ?_
  refine V.sub [(0, .ref tx), (3, .long (x_mix cf n x 0)), (5, .int (nI 0))] ⟨rfl, rfl, rfl, trivial⟩ ?_
  refine down_ (P := fun i => V p l e ⟨0, 0, 0, 0⟩ s m args below meth c G 6 (Qg G below args s 0 0 (fun v1 h1 s1 => v1 = (some (.long (x_mix cf n x n))) ∧ h1 = h ∧ s1 = sz)) h sz 0 0 15 [(0, .ref tx), (3, .long (x_mix cf n x i)), (5, .int (nI i))] []) (n) ?_ ?_
  · refine r_iload C dX3_mixInto_15 rfl ?_
    refine r_aload_n C dX3_mixInto_17 rfl rfl ?_
    refine r_get C (j := 1) rfl in_X3 (w.1) (by decide) fl_X3_15 rfl rfl dX3_mixInto_18 ?_
    refine r_icmp_ge C 55 dX3_mixInto_21 (by decide) (fun _ => ?_) (fun c => absurd (Int32.le_refl _) c)
    refine r_lload_n C dX3_mixInto_55 rfl rfl ?_
    exact r_lret C rfl (Nat.le_of_ble_eq_true rfl) (Nat.le_of_ble_eq_true rfl) ⟨rfl, rfl, rfl⟩ dX3_mixInto_56
  · intro i h_i ih_i
    refine r_iload C dX3_mixInto_15 rfl ?_
    refine r_aload_n C dX3_mixInto_17 rfl rfl ?_
    refine r_get C (j := 1) rfl in_X3 (w.1) (by decide) fl_X3_15 rfl rfl dX3_mixInto_18 ?_
    refine r_icmp_ge C 55 dX3_mixInto_21 (by decide) (fun c => absurd c (nI_ge h_i (by omega))) (fun _ => ?_)
    refine r_iload C dX3_mixInto_24 rfl ?_
    refine r_aload_n C dX3_mixInto_26 rfl rfl ?_
    refine r_get C (j := 0) rfl in_X3 (w.1) (by decide) fl_X3_9 rfl rfl dX3_mixInto_27 ?_
    refine r_alenC C (w.2) dX3_mixInto_30 ?_
    refine r_icmp_ge C 55 dX3_mixInto_31 (by decide) (fun c => absurd c (nI_ge (b := 60) (by omega) (by decide))) (fun _ => ?_)
    refine r_ldc2 C kl_X3_49 dX3_mixInto_34 ?_
    refine r_lload_n C dX3_mixInto_37 rfl rfl ?_
    refine r_lmul C dX3_mixInto_38 ?_
    refine r_aload_n C dX3_mixInto_39 rfl rfl ?_
    refine r_get C (j := 0) rfl in_X3 (w.1) (by decide) fl_X3_9 rfl rfl dX3_mixInto_40 ?_
    refine r_iload C dX3_mixInto_43 rfl ?_
    refine r_cald C (w.2) (vp_in_nI (by omega) (by decide)) dX3_mixInto_45 ?_
    refine r_i2l C dX3_mixInto_46 ?_
    refine r_ladd C dX3_mixInto_47 ?_
    refine r_lstore_n C dX3_mixInto_48 rfl (by decide) ?_
    refine r_iinc C (v := 1) dX3_mixInto_49 rfl rfl (by decide) ?_
    refine r_goto C 15 dX3_mixInto_52 (by decide) ?_
    refine V.sub [(0, .ref tx), (3, .long (x_mix cf n x (i + 1))), (5, .int (nI (i + 1)))] ⟨rfl, by rw [nI_clamp (by omega)]; rfl, (by rw [← nI_1 i]; rfl), trivial⟩ ?_
    exact ih_i

set_option maxHeartbeats 800000 in
set_option maxRecDepth 100000 in
theorem c_X3_add {G : ga_} {l : Launch} {h : HP} {sz : Nat} {tx n : Nat} {cf : Nat → Int32} {a : Int32} (w : XA G h tx cf (nI n)) (hn : n < 60) : Mf G l yX3_add cX3_add 2 none 0 0 0 0 [.ref tx, .int a] h sz none (pX G h tx (upd cf n (x_char a)) (nI (n + 1))) sz := by
  refine Mg.ofV [(0, .ref tx), (1, .int a)] (by decide) (Nat.le_of_ble_eq_true rfl) rfl ?_
  intro p e s m args below meth c C
  refine r_aload_n C dX3_add_0 rfl rfl ?_
  refine r_get C (j := 1) rfl in_X3 (w.1) (by decide) fl_X3_15 rfl rfl dX3_add_1 ?_
  refine r_if_lt C 40 dX3_add_4 (by decide) (fun c => absurd c (nI_pos (by omega))) (fun _ => ?_)
  refine r_aload_n C dX3_add_7 rfl rfl ?_
  refine r_get C (j := 1) rfl in_X3 (w.1) (by decide) fl_X3_15 rfl rfl dX3_add_8 ?_
  refine r_aload_n C dX3_add_11 rfl rfl ?_
  refine r_get C (j := 0) rfl in_X3 (w.1) (by decide) fl_X3_9 rfl rfl dX3_add_12 ?_
  refine r_alenC C (w.2) dX3_add_15 ?_
  refine r_icmp_ge C 40 dX3_add_16 (by decide) (fun c => absurd c (nI_ge (b := 60) hn (by decide))) (fun _ => ?_)
  refine r_aload_n C dX3_add_19 rfl rfl ?_
  refine r_get C (j := 0) rfl in_X3 (w.1) (by decide) fl_X3_9 rfl rfl dX3_add_20 ?_
  refine r_aload_n C dX3_add_23 rfl rfl ?_
  refine r_get C (j := 1) rfl in_X3 (w.1) (by decide) fl_X3_15 rfl rfl dX3_add_24 ?_
  refine r_iload_n C dX3_add_27 rfl rfl ?_
  refine r_i2c C dX3_add_28 ?_
  refine r_cast C (w.2) (vp_in_nI hn (by decide)) dX3_add_29 ?_
  refine V.heap (pX_c w) ?_
  refine r_aload_n C dX3_add_30 rfl rfl ?_
  refine r_dup C dX3_add_31 rfl ?_
  refine r_get C (j := 1) rfl in_X3 (XA_pX.1) (by decide) fl_X3_15 rfl rfl dX3_add_32 ?_
  refine r_iconst C (v := 1) dX3_add_35 rfl ?_
  refine r_iadd C dX3_add_36 ?_
  refine r_put C (j := 1) tyX3 tyX3_ok nmX3 rfl in_X3 (XA_pX.1) (by decide) fl_X3_15 rfl rfl rfl (by first | rfl | decide) (by first | rfl | decide) (Nat.le_of_ble_eq_true rfl) dX3_add_37 ?_
  refine V.heap (pX_n XA_pX) ?_
  exact r_vret C rfl (Nat.le_of_ble_eq_true rfl) (Nat.le_of_ble_eq_true rfl) ⟨rfl, by rw [pX_pX]; rw [nI_clamp (by omega), nI_1]; rfl, rfl⟩ dX3_add_40

