/-! GAME: the looks that loop or switch -/
theorem downI_ {I P : Nat → Prop} (N : Nat) (hN : I N → P N) (hs : ∀ i, i < N → I i → (I (i + 1) → P (i + 1)) → P i) (h0 : I 0) : P 0 := by
  have key := down_ (P := fun i => I i → P i) N hN (fun i hi ih hI => hs i hi hI ih)
  exact key h0
theorem tn_le2 {x : Int32} {i : Nat} (hi : i < 2147483648) (h : x.toNatClampNeg ≤ i) : x ≤ nI i := by
  rw [Int32.le_iff_toInt_le, nI_toInt hi]
  have h2 : x.toInt.toNat ≤ i := h
  omega
theorem sw_out {x : Int32} (N : Nat) (hN : N < 2147483648) (h : ∀ j, j < N → x ≠ nI j) : x.toInt < 0 ∨ ((N : Int) - 1) < x.toInt := by
  rcases pk_ix x (n := N) hN with c | c | ⟨j, hj, c⟩
  · exact Or.inl (by have := Int32.lt_iff_toInt_lt.mp c; simpa using this)
  · right
    have := Int32.le_iff_toInt_le.mp c
    rw [nI_toInt hN] at this
    omega
  · exact absurd c (h j hj)
def anyB (f : Nat → Bool) : Nat → Bool
  | 0 => false
  | n + 1 => anyB f n || f n
theorem any_t {f : Nat → Bool} {N i : Nat} (hi : i < N) (h : f i = true) : anyB f N = true := by
  induction N with
  | zero => omega
  | succ N ih =>
    simp only [anyB, Bool.or_eq_true]
    by_cases c : i = N
    · subst c; exact Or.inr h
    · exact Or.inl (ih (by omega))
theorem lt_s_2 {x : Int32} (h0 : ¬ x = 0) (h1 : ¬ x = 1) : ∀ j, j < 2 → x ≠ nI j := by
  intro j hj
  rcases (show j = 0 ∨ j = 1 by omega) with rfl | rfl
  · exact h0
  · exact h1
theorem lt_s_4 {x : Int32} (h0 : ¬ x = 0) (h1 : ¬ x = 1) (h2 : ¬ x = 2) (h3 : ¬ x = 3) : ∀ j, j < 4 → x ≠ nI j := by
  intro j hj
  rcases (show j = 0 ∨ j = 1 ∨ j = 2 ∨ j = 3 by omega) with rfl | rfl | rfl | rfl
  · exact h0
  · exact h1
  · exact h2
  · exact h3
theorem lt_s_5 {x : Int32} (h0 : ¬ x = 0) (h1 : ¬ x = 1) (h2 : ¬ x = 2) (h3 : ¬ x = 3) (h4 : ¬ x = 4) : ∀ j, j < 5 → x ≠ nI j := by
  intro j hj
  rcases (show j = 0 ∨ j = 1 ∨ j = 2 ∨ j = 3 ∨ j = 4 by omega) with rfl | rfl | rfl | rfl | rfl
  · exact h0
  · exact h1
  · exact h2
  · exact h3
  · exact h4
theorem lt_s_6 {x : Int32} (h0 : ¬ x = 0) (h1 : ¬ x = 1) (h2 : ¬ x = 2) (h3 : ¬ x = 3) (h4 : ¬ x = 4) (h5 : ¬ x = 5) : ∀ j, j < 6 → x ≠ nI j := by
  intro j hj
  rcases (show j = 0 ∨ j = 1 ∨ j = 2 ∨ j = 3 ∨ j = 4 ∨ j = 5 by omega) with rfl | rfl | rfl | rfl | rfl | rfl
  · exact h0
  · exact h1
  · exact h2
  · exact h3
  · exact h4
  · exact h5
theorem lt_s_7 {x : Int32} (h0 : ¬ x = 0) (h1 : ¬ x = 1) (h2 : ¬ x = 2) (h3 : ¬ x = 3) (h4 : ¬ x = 4) (h5 : ¬ x = 5) (h6 : ¬ x = 6) : ∀ j, j < 7 → x ≠ nI j := by
  intro j hj
  rcases (show j = 0 ∨ j = 1 ∨ j = 2 ∨ j = 3 ∨ j = 4 ∨ j = 5 ∨ j = 6 by omega) with rfl | rfl | rfl | rfl | rfl | rfl | rfl
  · exact h0
  · exact h1
  · exact h2
  · exact h3
  · exact h4
  · exact h5
  · exact h6
theorem lt_s_12 {x : Int32} (h0 : ¬ x = 0) (h1 : ¬ x = 1) (h2 : ¬ x = 2) (h3 : ¬ x = 3) (h4 : ¬ x = 4) (h5 : ¬ x = 5) (h6 : ¬ x = 6) (h7 : ¬ x = 7) (h8 : ¬ x = 8) (h9 : ¬ x = 9) (h10 : ¬ x = 10) (h11 : ¬ x = 11) : ∀ j, j < 12 → x ≠ nI j := by
  intro j hj
  rcases (show j = 0 ∨ j = 1 ∨ j = 2 ∨ j = 3 ∨ j = 4 ∨ j = 5 ∨ j = 6 ∨ j = 7 ∨ j = 8 ∨ j = 9 ∨ j = 10 ∨ j = 11 by omega) with rfl | rfl | rfl | rfl | rfl | rfl | rfl | rfl | rfl | rfl | rfl | rfl
  · exact h0
  · exact h1
  · exact h2
  · exact h3
  · exact h4
  · exact h5
  · exact h6
  · exact h7
  · exact h8
  · exact h9
  · exact h10
  · exact h11
theorem lt_s_27 {x : Int32} (h0 : ¬ x = 0) (h1 : ¬ x = 1) (h2 : ¬ x = 2) (h3 : ¬ x = 3) (h4 : ¬ x = 4) (h5 : ¬ x = 5) (h6 : ¬ x = 6) (h7 : ¬ x = 7) (h8 : ¬ x = 8) (h9 : ¬ x = 9) (h10 : ¬ x = 10) (h11 : ¬ x = 11) (h12 : ¬ x = 12) (h13 : ¬ x = 13) (h14 : ¬ x = 14) (h15 : ¬ x = 15) (h16 : ¬ x = 16) (h17 : ¬ x = 17) (h18 : ¬ x = 18) (h19 : ¬ x = 19) (h20 : ¬ x = 20) (h21 : ¬ x = 21) (h22 : ¬ x = 22) (h23 : ¬ x = 23) (h24 : ¬ x = 24) (h25 : ¬ x = 25) (h26 : ¬ x = 26) : ∀ j, j < 27 → x ≠ nI j := by
  intro j hj
  rcases (show j = 0 ∨ j = 1 ∨ j = 2 ∨ j = 3 ∨ j = 4 ∨ j = 5 ∨ j = 6 ∨ j = 7 ∨ j = 8 ∨ j = 9 ∨ j = 10 ∨ j = 11 ∨ j = 12 ∨ j = 13 ∨ j = 14 ∨ j = 15 ∨ j = 16 ∨ j = 17 ∨ j = 18 ∨ j = 19 ∨ j = 20 ∨ j = 21 ∨ j = 22 ∨ j = 23 ∨ j = 24 ∨ j = 25 ∨ j = 26 by omega) with rfl | rfl | rfl | rfl | rfl | rfl | rfl | rfl | rfl | rfl | rfl | rfl | rfl | rfl | rfl | rfl | rfl | rfl | rfl | rfl | rfl | rfl | rfl | rfl | rfl | rfl | rfl
  · exact h0
  · exact h1
  · exact h2
  · exact h3
  · exact h4
  · exact h5
  · exact h6
  · exact h7
  · exact h8
  · exact h9
  · exact h10
  · exact h11
  · exact h12
  · exact h13
  · exact h14
  · exact h15
  · exact h16
  · exact h17
  · exact h18
  · exact h19
  · exact h20
  · exact h21
  · exact h22
  · exact h23
  · exact h24
  · exact h25
  · exact h26
def g_tal (S : gS) (q : Int32) : Int32 := l_sum (fun i => tAt 4 16 (S 2) (nI i) q) (S 5 0).toNatClampNeg
def g_gh (S : gS) (p : Int32) : Int32 := l_sum (fun i => g_grades S (g_hand S p (nI i))) (g_held S p).toNatClampNeg
def g_sum (S : gS) (p : Int32) : Int32 := g_gh S p + tAt 4 16 (S 2) p 1
def g_wl (S : gS) : Nat → Int32
  | 0 => 0
  | i + 1 => if g_sum S (nI (i + 1)) < g_sum S (g_wl S i) then nI (i + 1) else g_wl S i
def g_win (S : gS) : Int32 := if g_over S then g_wl S ((S 5 0).toNatClampNeg - 1) else -1
def g_can (S : gS) (p r q : Int32) : Bool := anyB (fun i => g_fits S (g_hand S p (nI i)) r q) (g_held S p).toNatClampNeg
def g_told (S : gS) (r : Int32) : Nat := if tAt 4 12 (S 3) r 0 = 0 then 1 else 2
def g_ends (S : gS) (p : Int32) : Int32 := l_sum (fun r => l_sum (fun q => bI (g_can S p (nI r) (nI q))) (g_told S (nI r))) 3
def g_some (S : gS) (t : Int32) : Bool := anyB (fun r => g_fits S t (nI r) 0 || g_fits S t (nI r) 1) 3
def g_bl (S : gS) : Nat → Int32
  | 0 => -1
  | i + 1 => if g_some S (g_hand S (S 5 1) (nI i)) && (decide (g_bl S i = -1) || g_better S (nI i) (g_bl S i)) then nI i else g_bl S i
def g_adv (S : gS) : Int32 := if g_over S then -1 else g_bl S (g_held S (S 5 1)).toNatClampNeg
def g_half (S : gS) (q : Int32) : Int32 := l_sum (fun t => if tAt 7 196 (S 0) (nI t) 2 = 2 then 0 else bI (decide (tAt 7 196 (S 0) (nI t) 0 = q)) + bI (decide (tAt 7 196 (S 0) (nI t) 1 = q))) 28
def g_cl (S : gS) : Nat → Int32
  | 0 => 0
  | i + 1 => if g_half S (nI (i + 1)) < g_half S (g_cl S i) then g_cl S i else nI (i + 1)
def g_num (S : gS) (a b : Int32) : Int32 := if a = 0 then S 5 0 else if a = 1 then S 5 1 else if a = 2 then g_stock S else if a = 3 then g_tal S 0 else if a = 4 then g_tal S 2 else if a = 5 then S 5 3 else if a = 6 then S 5 4 else if a = 7 then g_tal S 1 else if a = 8 then g_win S else if a = 9 then S 5 5 else if a = 10 then S 5 6 else if a = 11 then b else -1
def g_prop (S : gS) (a b : Int32) : Int32 := if b = 0 then g_held S a else if b = 1 then g_gh S a else if b = 2 then tAt 4 16 (S 2) a 1 else if b = 3 then g_sum S a else if b = 4 then tAt 4 16 (S 2) a 2 else if b = 5 then tAt 4 16 (S 2) a 3 else if b = 6 then g_ends S a else -1
set_option maxHeartbeats 800000 in
set_option maxRecDepth 100000 in
theorem c_X0_tallied {G : ga_} {l : Launch} {h : HP} {sz : Nat} {g : Nat} {S : gS} {a : Int32}  (w : GA G h g S)  : Mf G l yX0_tallied cX0_tallied 4 (some .int) 1 23 0 0 [.ref g, .int a] h sz (some (.int (g_tal S a))) h sz := by
  refine Mg.ofV [(0, .ref g), (1, .int a)] (by decide) (Nat.le_of_ble_eq_true rfl) rfl ?_
  intro p e s m args below meth c C
  refine r_iconst C (v := 0) dX0_tallied_0 rfl ?_
  refine r_istore_n C dX0_tallied_1 rfl (by decide) ?_
  refine r_iconst C (v := 0) dX0_tallied_2 rfl ?_
  refine r_istore_n C dX0_tallied_3 rfl (by decide) ?_
  refine V.sub [(0, .ref g), (1, .int a), (2, .int (l_sum (fun i => tAt 4 16 (S 2) (nI i) a) 0)), (3, .int (nI 0))] ⟨rfl, rfl, rfl, rfl, trivial⟩ ?_
  refine down_ (P := fun i => V p l e ⟨1, 0, 0, 23⟩ s m args below meth c G 4 (Qg G below args s 0 0 (fun v1 h1 s1 => v1 = (some (.int (g_tal S a))) ∧ h1 = h ∧ s1 = sz)) h sz 0 0 4 [(0, .ref g), (1, .int a), (2, .int (l_sum (fun i => tAt 4 16 (S 2) (nI i) a) i)), (3, .int (nI i))] []) ((S 5 0).toNatClampNeg) ?_ ?_
  · refine r_iload_n C dX0_tallied_4 rfl rfl ?_
    refine r_aload_n C dX0_tallied_5 rfl rfl ?_
    refine r_get C (j := 5) rfl in_X0 (GA_o w) (by decide) fl_X0_40 rfl rfl dX0_tallied_6 ?_
    refine r_icmp_ge C 30 dX0_tallied_9 (by decide) (fun _ => ?_) (fun c => absurd (tn_le _) c)
    refine r_iload_n C dX0_tallied_30 rfl rfl ?_
    exact r_iret C rfl (Nat.le_of_ble_eq_true rfl) (Nat.le_of_ble_eq_true rfl) ⟨rfl, rfl, rfl⟩ dX0_tallied_31
  · intro i h_i ih_i
    refine r_iload_n C dX0_tallied_4 rfl rfl ?_
    refine r_aload_n C dX0_tallied_5 rfl rfl ?_
    refine r_get C (j := 5) rfl in_X0 (GA_o w) (by decide) fl_X0_40 rfl rfl dX0_tallied_6 ?_
    refine r_icmp_ge C 30 dX0_tallied_9 (by decide) (fun c => absurd c (tn_nle h_i)) (fun _ => ?_)
    refine r_iload_n C dX0_tallied_12 rfl rfl ?_
    refine r_aload_n C dX0_tallied_13 rfl rfl ?_
    refine r_get C (j := 2) rfl in_X0 (GA_o w) (by decide) fl_X0_23 rfl rfl dX0_tallied_14 ?_
    refine r_iload_n C dX0_tallied_17 rfl rfl ?_
    refine r_iload_n C dX0_tallied_18 rfl rfl ?_
    refine r_cVi C (c_at2 w) lk_X0_84 rfl (GA_t2 w) rfl rfl ⟨(Nat.le_of_ble_eq_true rfl), (Nat.le_of_ble_eq_true rfl), (Nat.le_of_ble_eq_true rfl), (Nat.le_of_ble_eq_true rfl), (Nat.le_of_ble_eq_true rfl)⟩ dX0_tallied_19 ?_
    refine r_iadd C dX0_tallied_22 ?_
    refine r_istore_n C dX0_tallied_23 rfl (by decide) ?_
    refine r_iinc C (v := 1) dX0_tallied_24 rfl rfl (by decide) ?_
    refine r_goto C 4 dX0_tallied_27 (by decide) ?_
    refine V.sub [(0, .ref g), (1, .int a), (2, .int (l_sum (fun i => tAt 4 16 (S 2) (nI i) a) (i + 1))), (3, .int (nI (i + 1)))] ⟨rfl, rfl, rfl, (by rw [← nI_1 i]; rfl), trivial⟩ ?_
    exact ih_i

set_option maxHeartbeats 800000 in
set_option maxRecDepth 100000 in
theorem c_X0_gradesHeld {G : ga_} {l : Launch} {h : HP} {sz : Nat} {g : Nat} {S : gS} {a : Int32}  (w : GA G h g S)  : Mf G l yX0_gradesHeld cX0_gradesHeld 5 (some .int) 2 44 0 0 [.ref g, .int a] h sz (some (.int (g_gh S a))) h sz := by
  refine Mg.ofV [(0, .ref g), (1, .int a)] (by decide) (Nat.le_of_ble_eq_true rfl) rfl ?_
  intro p e s m args below meth c C
  refine r_aload_n C dX0_gradesHeld_0 rfl rfl ?_
  refine r_iload_n C dX0_gradesHeld_1 rfl rfl ?_
  refine r_cVi C (c_X0_heldBy w) lk_X0_92 rfl (GA_o w) rfl rfl ⟨(Nat.le_of_ble_eq_true rfl), (Nat.le_of_ble_eq_true rfl), (Nat.le_of_ble_eq_true rfl), (Nat.le_of_ble_eq_true rfl), (Nat.le_of_ble_eq_true rfl)⟩ dX0_gradesHeld_2 ?_
  refine r_istore_n C dX0_gradesHeld_5 rfl (by decide) ?_
  refine r_iconst C (v := 0) dX0_gradesHeld_6 rfl ?_
  refine r_istore_n C dX0_gradesHeld_7 rfl (by decide) ?_
  refine r_iconst C (v := 0) dX0_gradesHeld_8 rfl ?_
  refine r_istore C dX0_gradesHeld_9 (by decide) ?_
  refine V.sub [(0, .ref g), (1, .int a), (2, .int (g_held S a)), (3, .int (l_sum (fun i => g_grades S (g_hand S a (nI i))) 0)), (4, .int (nI 0))] ⟨rfl, rfl, rfl, rfl, rfl, trivial⟩ ?_
  refine down_ (P := fun i => V p l e ⟨2, 0, 0, 44⟩ s m args below meth c G 5 (Qg G below args s 0 0 (fun v1 h1 s1 => v1 = (some (.int (g_gh S a))) ∧ h1 = h ∧ s1 = sz)) h sz 0 0 11 [(0, .ref g), (1, .int a), (2, .int (g_held S a)), (3, .int (l_sum (fun i => g_grades S (g_hand S a (nI i))) i)), (4, .int (nI i))] []) ((g_held S a).toNatClampNeg) ?_ ?_
  · refine r_iload C dX0_gradesHeld_11 rfl ?_
    refine r_iload_n C dX0_gradesHeld_13 rfl rfl ?_
    refine r_icmp_ge C 40 dX0_gradesHeld_14 (by decide) (fun _ => ?_) (fun c => absurd (tn_le _) c)
    refine r_iload_n C dX0_gradesHeld_40 rfl rfl ?_
    exact r_iret C rfl (Nat.le_of_ble_eq_true rfl) (Nat.le_of_ble_eq_true rfl) ⟨rfl, rfl, rfl⟩ dX0_gradesHeld_41
  · intro i h_i ih_i
    refine r_iload C dX0_gradesHeld_11 rfl ?_
    refine r_iload_n C dX0_gradesHeld_13 rfl rfl ?_
    refine r_icmp_ge C 40 dX0_gradesHeld_14 (by decide) (fun c => absurd c (tn_nle h_i)) (fun _ => ?_)
    refine r_iload_n C dX0_gradesHeld_17 rfl rfl ?_
    refine r_aload_n C dX0_gradesHeld_18 rfl rfl ?_
    refine r_aload_n C dX0_gradesHeld_19 rfl rfl ?_
    refine r_get C (j := 1) rfl in_X0 (GA_o w) (by decide) fl_X0_20 rfl rfl dX0_gradesHeld_20 ?_
    refine r_iload_n C dX0_gradesHeld_23 rfl rfl ?_
    refine r_iload C dX0_gradesHeld_24 rfl ?_
    refine r_cVi C (c_at1 w) lk_X0_84 rfl (GA_t1 w) rfl rfl ⟨(Nat.le_of_ble_eq_true rfl), (Nat.le_of_ble_eq_true rfl), (Nat.le_of_ble_eq_true rfl), (Nat.le_of_ble_eq_true rfl), (Nat.le_of_ble_eq_true rfl)⟩ dX0_gradesHeld_26 ?_
    refine r_cVi C (c_X0_gradesOf w) lk_X0_148 rfl (GA_o w) rfl rfl ⟨(Nat.le_of_ble_eq_true rfl), (Nat.le_of_ble_eq_true rfl), (Nat.le_of_ble_eq_true rfl), (Nat.le_of_ble_eq_true rfl), (Nat.le_of_ble_eq_true rfl)⟩ dX0_gradesHeld_29 ?_
    refine r_iadd C dX0_gradesHeld_32 ?_
    refine r_istore_n C dX0_gradesHeld_33 rfl (by decide) ?_
    refine r_iinc C (v := 1) dX0_gradesHeld_34 rfl rfl (by decide) ?_
    refine r_goto C 11 dX0_gradesHeld_37 (by decide) ?_
    refine V.sub [(0, .ref g), (1, .int a), (2, .int (g_held S a)), (3, .int (l_sum (fun i => g_grades S (g_hand S a (nI i))) (i + 1))), (4, .int (nI (i + 1)))] ⟨rfl, rfl, rfl, rfl, (by rw [← nI_1 i]; rfl), trivial⟩ ?_
    exact ih_i

set_option maxHeartbeats 800000 in
set_option maxRecDepth 100000 in
theorem c_X0_sumOf {G : ga_} {l : Launch} {h : HP} {sz : Nat} {g : Nat} {S : gS} {a : Int32}  (w : GA G h g S)  : Mf G l yX0_sumOf cX0_sumOf 2 (some .int) 3 68 0 0 [.ref g, .int a] h sz (some (.int (g_sum S a))) h sz := by
  refine Mg.ofV [(0, .ref g), (1, .int a)] (by decide) (Nat.le_of_ble_eq_true rfl) rfl ?_
  intro p e s m args below meth c C
  refine r_aload_n C dX0_sumOf_0 rfl rfl ?_
  refine r_iload_n C dX0_sumOf_1 rfl rfl ?_
  refine r_cVi C (c_X0_gradesHeld w) lk_X0_139 rfl (GA_o w) rfl rfl ⟨(Nat.le_of_ble_eq_true rfl), (Nat.le_of_ble_eq_true rfl), (Nat.le_of_ble_eq_true rfl), (Nat.le_of_ble_eq_true rfl), (Nat.le_of_ble_eq_true rfl)⟩ dX0_sumOf_2 ?_
  refine r_aload_n C dX0_sumOf_5 rfl rfl ?_
  refine r_get C (j := 2) rfl in_X0 (GA_o w) (by decide) fl_X0_23 rfl rfl dX0_sumOf_6 ?_
  refine r_iload_n C dX0_sumOf_9 rfl rfl ?_
  refine r_iconst C (v := 1) dX0_sumOf_10 rfl ?_
  refine r_cVi C (c_at2 w) lk_X0_84 rfl (GA_t2 w) rfl rfl ⟨(Nat.le_of_ble_eq_true rfl), (Nat.le_of_ble_eq_true rfl), (Nat.le_of_ble_eq_true rfl), (Nat.le_of_ble_eq_true rfl), (Nat.le_of_ble_eq_true rfl)⟩ dX0_sumOf_11 ?_
  refine r_iadd C dX0_sumOf_14 ?_
  exact r_iret C rfl (Nat.le_of_ble_eq_true rfl) (Nat.le_of_ble_eq_true rfl) ⟨by simp [g_sum], rfl, rfl⟩ dX0_sumOf_15

set_option maxHeartbeats 800000 in
set_option maxRecDepth 100000 in
theorem c_X0_winner {G : ga_} {l : Launch} {h : HP} {sz : Nat} {g : Nat} {S : gS}  (w : GA G h g S)  : Mf G l yX0_winner cX0_winner 3 (some .int) 4 89 0 0 [.ref g] h sz (some (.int (g_win S))) h sz := by
  refine Mg.ofV [(0, .ref g)] (by decide) (Nat.le_of_ble_eq_true rfl) rfl ?_
  intro p e s m args below meth c C
  refine r_aload_n C dX0_winner_0 rfl rfl ?_
  refine r_cVi C (c_X0_isOver w) lk_X0_112 rfl (GA_o w) rfl rfl ⟨(Nat.le_of_ble_eq_true rfl), (Nat.le_of_ble_eq_true rfl), (Nat.le_of_ble_eq_true rfl), (Nat.le_of_ble_eq_true rfl), (Nat.le_of_ble_eq_true rfl)⟩ dX0_winner_1 ?_
  refine r_if_ne C 9 dX0_winner_4 (by decide) (fun c_4 => ?_) (fun c_4 => ?_)
  · have c_4 := bI_t c_4
    refine r_iconst C (v := 0) dX0_winner_9 rfl ?_
    refine r_istore_n C dX0_winner_10 rfl (by decide) ?_
    refine r_iconst C (v := 1) dX0_winner_11 rfl ?_
    refine r_istore_n C dX0_winner_12 rfl (by decide) ?_
    refine V.sub [(0, .ref g), (1, .int (g_wl S 0)), (2, .int (nI (0 + 1)))] ⟨rfl, rfl, rfl, trivial⟩ ?_
    refine down_ (P := fun i => V p l e ⟨4, 0, 0, 89⟩ s m args below meth c G 3 (Qg G below args s 0 0 (fun v1 h1 s1 => v1 = (some (.int (g_win S))) ∧ h1 = h ∧ s1 = sz)) h sz 0 0 13 [(0, .ref g), (1, .int (g_wl S i)), (2, .int (nI (i + 1)))] []) ((S 5 0).toNatClampNeg - 1) ?_ ?_
    · refine r_iload_n C dX0_winner_13 rfl rfl ?_
      refine r_aload_n C dX0_winner_14 rfl rfl ?_
      refine r_get C (j := 5) rfl in_X0 (GA_o w) (by decide) fl_X0_40 rfl rfl dX0_winner_15 ?_
      refine r_icmp_ge C 42 dX0_winner_18 (by decide) (fun _ => ?_) (fun c => absurd (tn_le2 (by have := tn_lt (S 5 0); omega) (by omega)) c)
      refine r_iload_n C dX0_winner_42 rfl rfl ?_
      exact r_iret C rfl (Nat.le_of_ble_eq_true rfl) (Nat.le_of_ble_eq_true rfl) ⟨by simp [g_win, c_4], rfl, rfl⟩ dX0_winner_43
    · intro i h_i ih_i
      refine r_iload_n C dX0_winner_13 rfl rfl ?_
      refine r_aload_n C dX0_winner_14 rfl rfl ?_
      refine r_get C (j := 5) rfl in_X0 (GA_o w) (by decide) fl_X0_40 rfl rfl dX0_winner_15 ?_
      refine r_icmp_ge C 42 dX0_winner_18 (by decide) (fun c => absurd c (tn_nle (by omega))) (fun _ => ?_)
      refine r_aload_n C dX0_winner_21 rfl rfl ?_
      refine r_iload_n C dX0_winner_22 rfl rfl ?_
      refine r_cVi C (c_X0_sumOf w) lk_X0_142 rfl (GA_o w) rfl rfl ⟨(Nat.le_of_ble_eq_true rfl), (Nat.le_of_ble_eq_true rfl), (Nat.le_of_ble_eq_true rfl), (Nat.le_of_ble_eq_true rfl), (Nat.le_of_ble_eq_true rfl)⟩ dX0_winner_23 ?_
      refine r_aload_n C dX0_winner_26 rfl rfl ?_
      refine r_iload_n C dX0_winner_27 rfl rfl ?_
      refine r_cVi C (c_X0_sumOf w) lk_X0_142 rfl (GA_o w) rfl rfl ⟨(Nat.le_of_ble_eq_true rfl), (Nat.le_of_ble_eq_true rfl), (Nat.le_of_ble_eq_true rfl), (Nat.le_of_ble_eq_true rfl), (Nat.le_of_ble_eq_true rfl)⟩ dX0_winner_28 ?_
      refine r_icmp_ge C 36 dX0_winner_31 (by decide) (fun c_31 => ?_) (fun c_31 => ?_)
      · have e_31 := i32_nlt c_31
        refine r_iinc C (v := 1) dX0_winner_36 rfl rfl (by decide) ?_
        refine r_goto C 13 dX0_winner_39 (by decide) ?_
        refine V.sub [(0, .ref g), (1, .int (g_wl S (i + 1))), (2, .int (nI ((i + 1) + 1)))] ⟨rfl, by simp only [g_wl]; rw [if_neg (i32_nlt c_31)]; rfl, (by rw [← nI_1 (i + 1)]; rfl), trivial⟩ ?_
        exact ih_i
      · have e_31 := i32_lt c_31
        refine r_iload_n C dX0_winner_34 rfl rfl ?_
        refine r_istore_n C dX0_winner_35 rfl (by decide) ?_
        refine r_iinc C (v := 1) dX0_winner_36 rfl rfl (by decide) ?_
        refine r_goto C 13 dX0_winner_39 (by decide) ?_
        refine V.sub [(0, .ref g), (1, .int (g_wl S (i + 1))), (2, .int (nI ((i + 1) + 1)))] ⟨rfl, by simp only [g_wl]; rw [if_pos (i32_lt c_31)]; rfl, (by rw [← nI_1 (i + 1)]; rfl), trivial⟩ ?_
        exact ih_i
  · have c_4 := bI_f c_4
    refine r_iconst C (v := -1) dX0_winner_7 rfl ?_
    exact r_iret C rfl (Nat.le_of_ble_eq_true rfl) (Nat.le_of_ble_eq_true rfl) ⟨by simp [g_win, c_4], rfl, rfl⟩ dX0_winner_8

set_option maxHeartbeats 800000 in
set_option maxRecDepth 100000 in
theorem c_X0_canLayAt {G : ga_} {l : Launch} {h : HP} {sz : Nat} {g : Nat} {S : gS} {a b d : Int32}  (w : GA G h g S)  : Mf G l yX0_canLayAt cX0_canLayAt 6 (some .boolean) 2 47 0 0 [.ref g, .int a, .int b, .int d] h sz (some (.int (bI (g_can S a b d)))) h sz := by
  refine Mg.ofV [(0, .ref g), (1, .int a), (2, .int b), (3, .int d)] (by decide) (Nat.le_of_ble_eq_true rfl) rfl ?_
  intro p e s m args below meth c C
  refine r_aload_n C dX0_canLayAt_0 rfl rfl ?_
  refine r_iload_n C dX0_canLayAt_1 rfl rfl ?_
  refine r_cVi C (c_X0_heldBy w) lk_X0_92 rfl (GA_o w) rfl rfl ⟨(Nat.le_of_ble_eq_true rfl), (Nat.le_of_ble_eq_true rfl), (Nat.le_of_ble_eq_true rfl), (Nat.le_of_ble_eq_true rfl), (Nat.le_of_ble_eq_true rfl)⟩ dX0_canLayAt_2 ?_
  refine r_istore C dX0_canLayAt_5 (by decide) ?_
  refine r_iconst C (v := 0) dX0_canLayAt_7 rfl ?_
  refine r_istore C dX0_canLayAt_8 (by decide) ?_
  refine V.sub [(0, .ref g), (1, .int a), (2, .int b), (3, .int d), (4, .int (g_held S a)), (5, .int (nI 0))] ⟨rfl, rfl, rfl, rfl, rfl, rfl, trivial⟩ ?_
  refine downI_ (I := fun i => anyB (fun i => g_fits S (g_hand S a (nI i)) b d) i = false) (P := fun i => V p l e ⟨2, 0, 0, 47⟩ s m args below meth c G 6 (Qg G below args s 0 0 (fun v1 h1 s1 => v1 = (some (.int (bI (g_can S a b d)))) ∧ h1 = h ∧ s1 = sz)) h sz 0 0 10 [(0, .ref g), (1, .int a), (2, .int b), (3, .int d), (4, .int (g_held S a)), (5, .int (nI i))] []) ((g_held S a).toNatClampNeg) ?_ ?_ (rfl)
  · intro I_i
    refine r_iload C dX0_canLayAt_10 rfl ?_
    refine r_iload C dX0_canLayAt_12 rfl ?_
    refine r_icmp_ge C 44 dX0_canLayAt_14 (by decide) (fun _ => ?_) (fun c => absurd (tn_le _) c)
    refine r_iconst C (v := 0) dX0_canLayAt_44 rfl ?_
    exact r_zret C rfl (by first | exact Or.inl rfl | exact Or.inr rfl | exact bI_01 _) (Nat.le_of_ble_eq_true rfl) (Nat.le_of_ble_eq_true rfl) ⟨by rw [show g_can S a b d = false from I_i]; rfl, rfl, rfl⟩ dX0_canLayAt_45
  · intro i h_i I_i ih_i
    refine r_iload C dX0_canLayAt_10 rfl ?_
    refine r_iload C dX0_canLayAt_12 rfl ?_
    refine r_icmp_ge C 44 dX0_canLayAt_14 (by decide) (fun c => absurd c (tn_nle h_i)) (fun _ => ?_)
    refine r_aload_n C dX0_canLayAt_17 rfl rfl ?_
    refine r_aload_n C dX0_canLayAt_18 rfl rfl ?_
    refine r_get C (j := 1) rfl in_X0 (GA_o w) (by decide) fl_X0_20 rfl rfl dX0_canLayAt_19 ?_
    refine r_iload_n C dX0_canLayAt_22 rfl rfl ?_
    refine r_iload C dX0_canLayAt_23 rfl ?_
    refine r_cVi C (c_at1 w) lk_X0_84 rfl (GA_t1 w) rfl rfl ⟨(Nat.le_of_ble_eq_true rfl), (Nat.le_of_ble_eq_true rfl), (Nat.le_of_ble_eq_true rfl), (Nat.le_of_ble_eq_true rfl), (Nat.le_of_ble_eq_true rfl)⟩ dX0_canLayAt_25 ?_
    refine r_iload_n C dX0_canLayAt_28 rfl rfl ?_
    refine r_iload_n C dX0_canLayAt_29 rfl rfl ?_
    refine r_cVi C (c_X0_fits w) lk_X0_123 rfl (GA_o w) rfl rfl ⟨(Nat.le_of_ble_eq_true rfl), (Nat.le_of_ble_eq_true rfl), (Nat.le_of_ble_eq_true rfl), (Nat.le_of_ble_eq_true rfl), (Nat.le_of_ble_eq_true rfl)⟩ dX0_canLayAt_30 ?_
    refine r_if_eq C 38 dX0_canLayAt_33 (by decide) (fun c_33 => ?_) (fun c_33 => ?_)
    · have c_33 := bI_f c_33
      refine r_iinc C (v := 1) dX0_canLayAt_38 rfl rfl (by decide) ?_
      refine r_goto C 10 dX0_canLayAt_41 (by decide) ?_
      refine V.sub [(0, .ref g), (1, .int a), (2, .int b), (3, .int d), (4, .int (g_held S a)), (5, .int (nI (i + 1)))] ⟨rfl, rfl, rfl, rfl, rfl, (by rw [← nI_1 i]; rfl), trivial⟩ ?_
      exact ih_i (by simp only [anyB, I_i, Bool.false_or]; exact c_33)
    · have c_33 := bI_t c_33
      refine r_iconst C (v := 1) dX0_canLayAt_36 rfl ?_
      exact r_zret C rfl (by first | exact Or.inl rfl | exact Or.inr rfl | exact bI_01 _) (Nat.le_of_ble_eq_true rfl) (Nat.le_of_ble_eq_true rfl) ⟨by rw [show g_can S a b d = true from any_t h_i c_33]; rfl, rfl, rfl⟩ dX0_canLayAt_37

set_option maxHeartbeats 800000 in
set_option maxRecDepth 100000 in
theorem c_X0_fitsSomewhere {G : ga_} {l : Launch} {h : HP} {sz : Nat} {g : Nat} {S : gS} {a : Int32}  (w : GA G h g S)  : Mf G l yX0_fitsSomewhere cX0_fitsSomewhere 3 (some .boolean) 2 47 0 0 [.ref g, .int a] h sz (some (.int (bI (g_some S a)))) h sz := by
  refine Mg.ofV [(0, .ref g), (1, .int a)] (by decide) (Nat.le_of_ble_eq_true rfl) rfl ?_
  intro p e s m args below meth c C
  refine r_iconst C (v := 0) dX0_fitsSomewhere_0 rfl ?_
  refine r_istore_n C dX0_fitsSomewhere_1 rfl (by decide) ?_
  refine V.sub [(0, .ref g), (1, .int a), (2, .int (nI 0))] ⟨rfl, rfl, rfl, trivial⟩ ?_
  refine downI_ (I := fun i => anyB (fun r => g_fits S a (nI r) 0 || g_fits S a (nI r) 1) i = false) (P := fun i => V p l e ⟨2, 0, 0, 47⟩ s m args below meth c G 3 (Qg G below args s 0 0 (fun v1 h1 s1 => v1 = (some (.int (bI (g_some S a)))) ∧ h1 = h ∧ s1 = sz)) h sz 0 0 2 [(0, .ref g), (1, .int a), (2, .int (nI i))] []) (3) ?_ ?_ (rfl)
  · intro I_i
    refine r_iload_n C dX0_fitsSomewhere_2 rfl rfl ?_
    refine r_iconst C (v := 3) dX0_fitsSomewhere_3 rfl ?_
    refine r_icmp_ge C 35 dX0_fitsSomewhere_4 (by decide) (fun _ => ?_) (fun c => absurd (by decide) c)
    refine r_iconst C (v := 0) dX0_fitsSomewhere_35 rfl ?_
    exact r_zret C rfl (by first | exact Or.inl rfl | exact Or.inr rfl | exact bI_01 _) (Nat.le_of_ble_eq_true rfl) (Nat.le_of_ble_eq_true rfl) ⟨by rw [show g_some S a = false from I_i]; rfl, rfl, rfl⟩ dX0_fitsSomewhere_36
  · intro i h_i I_i ih_i
    refine r_iload_n C dX0_fitsSomewhere_2 rfl rfl ?_
    refine r_iconst C (v := 3) dX0_fitsSomewhere_3 rfl ?_
    refine r_icmp_ge C 35 dX0_fitsSomewhere_4 (by decide) (fun c => absurd c (nI_ge (b := 3) h_i (by decide))) (fun _ => ?_)
    refine r_aload_n C dX0_fitsSomewhere_7 rfl rfl ?_
    refine r_iload_n C dX0_fitsSomewhere_8 rfl rfl ?_
    refine r_iload_n C dX0_fitsSomewhere_9 rfl rfl ?_
    refine r_iconst C (v := 0) dX0_fitsSomewhere_10 rfl ?_
    refine r_cVi C (c_X0_fits w) lk_X0_123 rfl (GA_o w) rfl rfl ⟨(Nat.le_of_ble_eq_true rfl), (Nat.le_of_ble_eq_true rfl), (Nat.le_of_ble_eq_true rfl), (Nat.le_of_ble_eq_true rfl), (Nat.le_of_ble_eq_true rfl)⟩ dX0_fitsSomewhere_11 ?_
    refine r_if_ne C 27 dX0_fitsSomewhere_14 (by decide) (fun c_14 => ?_) (fun c_14 => ?_)
    · have c_14 := bI_t c_14
      refine r_iconst C (v := 1) dX0_fitsSomewhere_27 rfl ?_
      exact r_zret C rfl (by first | exact Or.inl rfl | exact Or.inr rfl | exact bI_01 _) (Nat.le_of_ble_eq_true rfl) (Nat.le_of_ble_eq_true rfl) ⟨by rw [show g_some S a = true from any_t h_i (by simp [c_14])]; rfl, rfl, rfl⟩ dX0_fitsSomewhere_28
    · have c_14 := bI_f c_14
      refine r_aload_n C dX0_fitsSomewhere_17 rfl rfl ?_
      refine r_iload_n C dX0_fitsSomewhere_18 rfl rfl ?_
      refine r_iload_n C dX0_fitsSomewhere_19 rfl rfl ?_
      refine r_iconst C (v := 1) dX0_fitsSomewhere_20 rfl ?_
      refine r_cVi C (c_X0_fits w) lk_X0_123 rfl (GA_o w) rfl rfl ⟨(Nat.le_of_ble_eq_true rfl), (Nat.le_of_ble_eq_true rfl), (Nat.le_of_ble_eq_true rfl), (Nat.le_of_ble_eq_true rfl), (Nat.le_of_ble_eq_true rfl)⟩ dX0_fitsSomewhere_21 ?_
      refine r_if_eq C 29 dX0_fitsSomewhere_24 (by decide) (fun c_24 => ?_) (fun c_24 => ?_)
      · have c_24 := bI_f c_24
        refine r_iinc C (v := 1) dX0_fitsSomewhere_29 rfl rfl (by decide) ?_
        refine r_goto C 2 dX0_fitsSomewhere_32 (by decide) ?_
        refine V.sub [(0, .ref g), (1, .int a), (2, .int (nI (i + 1)))] ⟨rfl, rfl, (by rw [← nI_1 i]; rfl), trivial⟩ ?_
        exact ih_i (by simp only [anyB, I_i, c_14, c_24, Bool.false_or])
      · have c_24 := bI_t c_24
        refine r_iconst C (v := 1) dX0_fitsSomewhere_27 rfl ?_
        exact r_zret C rfl (by first | exact Or.inl rfl | exact Or.inr rfl | exact bI_01 _) (Nat.le_of_ble_eq_true rfl) (Nat.le_of_ble_eq_true rfl) ⟨by rw [show g_some S a = true from any_t h_i (by simp [c_14, c_24])]; rfl, rfl, rfl⟩ dX0_fitsSomewhere_28

set_option maxHeartbeats 800000 in
set_option maxRecDepth 100000 in
theorem c_X0_endsOpenTo {G : ga_} {l : Launch} {h : HP} {sz : Nat} {g : Nat} {S : gS} {a : Int32}  (w : GA G h g S)  : Mf G l yX0_endsOpenTo cX0_endsOpenTo 6 (some .int) 3 72 0 0 [.ref g, .int a] h sz (some (.int (g_ends S a))) h sz := by
  refine Mg.ofV [(0, .ref g), (1, .int a)] (by decide) (Nat.le_of_ble_eq_true rfl) rfl ?_
  intro p e s m args below meth c C
  refine r_iconst C (v := 0) dX0_endsOpenTo_0 rfl ?_
  refine r_istore_n C dX0_endsOpenTo_1 rfl (by decide) ?_
  refine r_iconst C (v := 0) dX0_endsOpenTo_2 rfl ?_
  refine r_istore_n C dX0_endsOpenTo_3 rfl (by decide) ?_
  refine V.sub [(0, .ref g), (1, .int a), (2, .int (l_sum (fun r => l_sum (fun q => bI (g_can S a (nI r) (nI q))) (g_told S (nI r))) 0)), (3, .int (nI 0))] ⟨rfl, rfl, rfl, rfl, trivial⟩ ?_
  refine down_ (P := fun i => V p l e ⟨3, 0, 0, 72⟩ s m args below meth c G 6 (Qg G below args s 0 0 (fun v1 h1 s1 => v1 = (some (.int (g_ends S a))) ∧ h1 = h ∧ s1 = sz)) h sz 0 0 4 [(0, .ref g), (1, .int a), (2, .int (l_sum (fun r => l_sum (fun q => bI (g_can S a (nI r) (nI q))) (g_told S (nI r))) i)), (3, .int (nI i))] []) (3) ?_ ?_
  · refine r_iload_n C dX0_endsOpenTo_4 rfl rfl ?_
    refine r_iconst C (v := 3) dX0_endsOpenTo_5 rfl ?_
    refine r_icmp_ge C 64 dX0_endsOpenTo_6 (by decide) (fun _ => ?_) (fun c => absurd (by decide) c)
    refine r_iload_n C dX0_endsOpenTo_64 rfl rfl ?_
    exact r_iret C rfl (Nat.le_of_ble_eq_true rfl) (Nat.le_of_ble_eq_true rfl) ⟨rfl, rfl, rfl⟩ dX0_endsOpenTo_65
  · intro i h_i ih_i
    refine r_iload_n C dX0_endsOpenTo_4 rfl rfl ?_
    refine r_iconst C (v := 3) dX0_endsOpenTo_5 rfl ?_
    refine r_icmp_ge C 64 dX0_endsOpenTo_6 (by decide) (fun c => absurd c (nI_ge (b := 3) h_i (by decide))) (fun _ => ?_)
    refine r_aload_n C dX0_endsOpenTo_9 rfl rfl ?_
    refine r_get C (j := 3) rfl in_X0 (GA_o w) (by decide) fl_X0_26 rfl rfl dX0_endsOpenTo_10 ?_
    refine r_iload_n C dX0_endsOpenTo_13 rfl rfl ?_
    refine r_iconst C (v := 0) dX0_endsOpenTo_14 rfl ?_
    refine r_cVi C (c_at3 w) lk_X0_84 rfl (GA_t3 w) rfl rfl ⟨(Nat.le_of_ble_eq_true rfl), (Nat.le_of_ble_eq_true rfl), (Nat.le_of_ble_eq_true rfl), (Nat.le_of_ble_eq_true rfl), (Nat.le_of_ble_eq_true rfl)⟩ dX0_endsOpenTo_15 ?_
    refine r_if_ne C 25 dX0_endsOpenTo_18 (by decide) (fun c_18 => ?_) (fun c_18 => ?_)
    · refine r_iconst C (v := 2) dX0_endsOpenTo_25 rfl ?_
      refine r_istore C dX0_endsOpenTo_26 (by decide) ?_
      refine r_iconst C (v := 0) dX0_endsOpenTo_28 rfl ?_
      refine r_istore C dX0_endsOpenTo_29 (by decide) ?_
      refine V.sub [(0, .ref g), (1, .int a), (2, .int (l_sum (fun r => l_sum (fun q => bI (g_can S a (nI r) (nI q))) (g_told S (nI r))) i + l_sum (fun q => bI (g_can S a (nI i) (nI q))) 0)), (3, .int (nI i)), (4, .int 2), (5, .int (nI 0))] ⟨rfl, rfl, by simp only [l_sum, Int32.add_zero]; rfl, rfl, rfl, rfl, trivial⟩ ?_
      refine down_ (P := fun j => V p l e ⟨3, 0, 0, 72⟩ s m args below meth c G 6 (Qg G below args s 0 0 (fun v1 h1 s1 => v1 = (some (.int (g_ends S a))) ∧ h1 = h ∧ s1 = sz)) h sz 0 0 31 [(0, .ref g), (1, .int a), (2, .int (l_sum (fun r => l_sum (fun q => bI (g_can S a (nI r) (nI q))) (g_told S (nI r))) i + l_sum (fun q => bI (g_can S a (nI i) (nI q))) j)), (3, .int (nI i)), (4, .int 2), (5, .int (nI j))] []) (2) ?_ ?_
      · refine r_iload C dX0_endsOpenTo_31 rfl ?_
        refine r_iload C dX0_endsOpenTo_33 rfl ?_
        refine r_icmp_ge C 58 dX0_endsOpenTo_35 (by decide) (fun _ => ?_) (fun c => absurd (by decide) c)
        refine r_iinc C (v := 1) dX0_endsOpenTo_58 rfl rfl (by decide) ?_
        refine r_goto C 4 dX0_endsOpenTo_61 (by decide) ?_
        refine V.sub [(0, .ref g), (1, .int a), (2, .int (l_sum (fun r => l_sum (fun q => bI (g_can S a (nI r) (nI q))) (g_told S (nI r))) (i + 1))), (3, .int (nI (i + 1)))] ⟨rfl, rfl, by simp only [l_sum, g_told]; rw [if_neg c_18]; rfl, (by rw [← nI_1 i]; rfl), trivial⟩ ?_
        exact ih_i
      · intro j h_j ih_j
        refine r_iload C dX0_endsOpenTo_31 rfl ?_
        refine r_iload C dX0_endsOpenTo_33 rfl ?_
        refine r_icmp_ge C 58 dX0_endsOpenTo_35 (by decide) (fun c => absurd c (nI_ge (b := 2) h_j (by decide))) (fun _ => ?_)
        refine r_aload_n C dX0_endsOpenTo_38 rfl rfl ?_
        refine r_iload_n C dX0_endsOpenTo_39 rfl rfl ?_
        refine r_iload_n C dX0_endsOpenTo_40 rfl rfl ?_
        refine r_iload C dX0_endsOpenTo_41 rfl ?_
        refine r_cVi C (c_X0_canLayAt w) lk_X0_151 rfl (GA_o w) rfl rfl ⟨(Nat.le_of_ble_eq_true rfl), (Nat.le_of_ble_eq_true rfl), (Nat.le_of_ble_eq_true rfl), (Nat.le_of_ble_eq_true rfl), (Nat.le_of_ble_eq_true rfl)⟩ dX0_endsOpenTo_43 ?_
        refine r_if_eq C 52 dX0_endsOpenTo_46 (by decide) (fun c_46 => ?_) (fun c_46 => ?_)
        · have c_46 := bI_f c_46
          refine r_iinc C (v := 1) dX0_endsOpenTo_52 rfl rfl (by decide) ?_
          refine r_goto C 31 dX0_endsOpenTo_55 (by decide) ?_
          refine V.sub [(0, .ref g), (1, .int a), (2, .int (l_sum (fun r => l_sum (fun q => bI (g_can S a (nI r) (nI q))) (g_told S (nI r))) i + l_sum (fun q => bI (g_can S a (nI i) (nI q))) (j + 1))), (3, .int (nI i)), (4, .int 2), (5, .int (nI (j + 1)))] ⟨rfl, rfl, by simp only [l_sum, c_46, bI, Int32.add_zero, Int32.add_assoc]; rfl, rfl, rfl, (by rw [← nI_1 j]; rfl), trivial⟩ ?_
          exact ih_j
        · have c_46 := bI_t c_46
          refine r_iinc C (v := 1) dX0_endsOpenTo_49 rfl rfl (by decide) ?_
          refine r_iinc C (v := 1) dX0_endsOpenTo_52 rfl rfl (by decide) ?_
          refine r_goto C 31 dX0_endsOpenTo_55 (by decide) ?_
          refine V.sub [(0, .ref g), (1, .int a), (2, .int (l_sum (fun r => l_sum (fun q => bI (g_can S a (nI r) (nI q))) (g_told S (nI r))) i + l_sum (fun q => bI (g_can S a (nI i) (nI q))) (j + 1))), (3, .int (nI i)), (4, .int 2), (5, .int (nI (j + 1)))] ⟨rfl, rfl, by simp only [l_sum, c_46, bI, Int32.add_zero, Int32.add_assoc]; rfl, rfl, rfl, (by rw [← nI_1 j]; rfl), trivial⟩ ?_
          exact ih_j
    · refine r_iconst C (v := 1) dX0_endsOpenTo_21 rfl ?_
      refine r_goto C 26 dX0_endsOpenTo_22 (by decide) ?_
      refine r_istore C dX0_endsOpenTo_26 (by decide) ?_
      refine r_iconst C (v := 0) dX0_endsOpenTo_28 rfl ?_
      refine r_istore C dX0_endsOpenTo_29 (by decide) ?_
      refine V.sub [(0, .ref g), (1, .int a), (2, .int (l_sum (fun r => l_sum (fun q => bI (g_can S a (nI r) (nI q))) (g_told S (nI r))) i + l_sum (fun q => bI (g_can S a (nI i) (nI q))) 0)), (3, .int (nI i)), (4, .int 1), (5, .int (nI 0))] ⟨rfl, rfl, by simp only [l_sum, Int32.add_zero]; rfl, rfl, rfl, rfl, trivial⟩ ?_
      refine down_ (P := fun j => V p l e ⟨3, 0, 0, 72⟩ s m args below meth c G 6 (Qg G below args s 0 0 (fun v1 h1 s1 => v1 = (some (.int (g_ends S a))) ∧ h1 = h ∧ s1 = sz)) h sz 0 0 31 [(0, .ref g), (1, .int a), (2, .int (l_sum (fun r => l_sum (fun q => bI (g_can S a (nI r) (nI q))) (g_told S (nI r))) i + l_sum (fun q => bI (g_can S a (nI i) (nI q))) j)), (3, .int (nI i)), (4, .int 1), (5, .int (nI j))] []) (1) ?_ ?_
      · refine r_iload C dX0_endsOpenTo_31 rfl ?_
        refine r_iload C dX0_endsOpenTo_33 rfl ?_
        refine r_icmp_ge C 58 dX0_endsOpenTo_35 (by decide) (fun _ => ?_) (fun c => absurd (by decide) c)
        refine r_iinc C (v := 1) dX0_endsOpenTo_58 rfl rfl (by decide) ?_
        refine r_goto C 4 dX0_endsOpenTo_61 (by decide) ?_
        refine V.sub [(0, .ref g), (1, .int a), (2, .int (l_sum (fun r => l_sum (fun q => bI (g_can S a (nI r) (nI q))) (g_told S (nI r))) (i + 1))), (3, .int (nI (i + 1)))] ⟨rfl, rfl, by simp only [l_sum, g_told]; rw [if_pos c_18]; rfl, (by rw [← nI_1 i]; rfl), trivial⟩ ?_
        exact ih_i
      · intro j h_j ih_j
        refine r_iload C dX0_endsOpenTo_31 rfl ?_
        refine r_iload C dX0_endsOpenTo_33 rfl ?_
        refine r_icmp_ge C 58 dX0_endsOpenTo_35 (by decide) (fun c => absurd c (nI_ge (b := 1) h_j (by decide))) (fun _ => ?_)
        refine r_aload_n C dX0_endsOpenTo_38 rfl rfl ?_
        refine r_iload_n C dX0_endsOpenTo_39 rfl rfl ?_
        refine r_iload_n C dX0_endsOpenTo_40 rfl rfl ?_
        refine r_iload C dX0_endsOpenTo_41 rfl ?_
        refine r_cVi C (c_X0_canLayAt w) lk_X0_151 rfl (GA_o w) rfl rfl ⟨(Nat.le_of_ble_eq_true rfl), (Nat.le_of_ble_eq_true rfl), (Nat.le_of_ble_eq_true rfl), (Nat.le_of_ble_eq_true rfl), (Nat.le_of_ble_eq_true rfl)⟩ dX0_endsOpenTo_43 ?_
        refine r_if_eq C 52 dX0_endsOpenTo_46 (by decide) (fun c_46 => ?_) (fun c_46 => ?_)
        · have c_46 := bI_f c_46
          refine r_iinc C (v := 1) dX0_endsOpenTo_52 rfl rfl (by decide) ?_
          refine r_goto C 31 dX0_endsOpenTo_55 (by decide) ?_
          refine V.sub [(0, .ref g), (1, .int a), (2, .int (l_sum (fun r => l_sum (fun q => bI (g_can S a (nI r) (nI q))) (g_told S (nI r))) i + l_sum (fun q => bI (g_can S a (nI i) (nI q))) (j + 1))), (3, .int (nI i)), (4, .int 1), (5, .int (nI (j + 1)))] ⟨rfl, rfl, by simp only [l_sum, c_46, bI, Int32.add_zero, Int32.add_assoc]; rfl, rfl, rfl, (by rw [← nI_1 j]; rfl), trivial⟩ ?_
          exact ih_j
        · have c_46 := bI_t c_46
          refine r_iinc C (v := 1) dX0_endsOpenTo_49 rfl rfl (by decide) ?_
          refine r_iinc C (v := 1) dX0_endsOpenTo_52 rfl rfl (by decide) ?_
          refine r_goto C 31 dX0_endsOpenTo_55 (by decide) ?_
          refine V.sub [(0, .ref g), (1, .int a), (2, .int (l_sum (fun r => l_sum (fun q => bI (g_can S a (nI r) (nI q))) (g_told S (nI r))) i + l_sum (fun q => bI (g_can S a (nI i) (nI q))) (j + 1))), (3, .int (nI i)), (4, .int 1), (5, .int (nI (j + 1)))] ⟨rfl, rfl, by simp only [l_sum, c_46, bI, Int32.add_zero, Int32.add_assoc]; rfl, rfl, rfl, (by rw [← nI_1 j]; rfl), trivial⟩ ?_
          exact ih_j

set_option maxHeartbeats 800000 in
set_option maxRecDepth 100000 in
theorem c_X0_bestPlace {G : ga_} {l : Launch} {h : HP} {sz : Nat} {g : Nat} {S : gS}  (w : GA G h g S)  : Mf G l yX0_bestPlace cX0_bestPlace 4 (some .int) 3 69 0 0 [.ref g] h sz (some (.int (g_adv S))) h sz := by
  refine Mg.ofV [(0, .ref g)] (by decide) (Nat.le_of_ble_eq_true rfl) rfl ?_
  intro p e s m args below meth c C
  refine r_aload_n C dX0_bestPlace_0 rfl rfl ?_
  refine r_cVi C (c_X0_isOver w) lk_X0_112 rfl (GA_o w) rfl rfl ⟨(Nat.le_of_ble_eq_true rfl), (Nat.le_of_ble_eq_true rfl), (Nat.le_of_ble_eq_true rfl), (Nat.le_of_ble_eq_true rfl), (Nat.le_of_ble_eq_true rfl)⟩ dX0_bestPlace_1 ?_
  refine r_if_eq C 9 dX0_bestPlace_4 (by decide) (fun c_4 => ?_) (fun c_4 => ?_)
  · have c_4 := bI_f c_4
    refine r_aload_n C dX0_bestPlace_9 rfl rfl ?_
    refine r_aload_n C dX0_bestPlace_10 rfl rfl ?_
    refine r_get C (j := 6) rfl in_X0 (GA_o w) (by decide) fl_X0_43 rfl rfl dX0_bestPlace_11 ?_
    refine r_cVi C (c_X0_heldBy w) lk_X0_92 rfl (GA_o w) rfl rfl ⟨(Nat.le_of_ble_eq_true rfl), (Nat.le_of_ble_eq_true rfl), (Nat.le_of_ble_eq_true rfl), (Nat.le_of_ble_eq_true rfl), (Nat.le_of_ble_eq_true rfl)⟩ dX0_bestPlace_14 ?_
    refine r_istore_n C dX0_bestPlace_17 rfl (by decide) ?_
    refine r_iconst C (v := -1) dX0_bestPlace_18 rfl ?_
    refine r_istore_n C dX0_bestPlace_19 rfl (by decide) ?_
    refine r_iconst C (v := 0) dX0_bestPlace_20 rfl ?_
    refine r_istore_n C dX0_bestPlace_21 rfl (by decide) ?_
    refine V.sub [(0, .ref g), (1, .int (g_held S (S 5 1))), (2, .int (g_bl S 0)), (3, .int (nI 0))] ⟨rfl, rfl, rfl, rfl, trivial⟩ ?_
    refine down_ (P := fun i => V p l e ⟨3, 0, 0, 69⟩ s m args below meth c G 4 (Qg G below args s 0 0 (fun v1 h1 s1 => v1 = (some (.int (g_adv S))) ∧ h1 = h ∧ s1 = sz)) h sz 0 0 22 [(0, .ref g), (1, .int (g_held S (S 5 1))), (2, .int (g_bl S i)), (3, .int (nI i))] []) ((g_held S (S 5 1)).toNatClampNeg) ?_ ?_
    · refine r_iload_n C dX0_bestPlace_22 rfl rfl ?_
      refine r_iload_n C dX0_bestPlace_23 rfl rfl ?_
      refine r_icmp_ge C 68 dX0_bestPlace_24 (by decide) (fun _ => ?_) (fun c => absurd (tn_le _) c)
      refine r_iload_n C dX0_bestPlace_68 rfl rfl ?_
      exact r_iret C rfl (Nat.le_of_ble_eq_true rfl) (Nat.le_of_ble_eq_true rfl) ⟨by simp [g_adv, c_4], rfl, rfl⟩ dX0_bestPlace_69
    · intro i h_i ih_i
      refine r_iload_n C dX0_bestPlace_22 rfl rfl ?_
      refine r_iload_n C dX0_bestPlace_23 rfl rfl ?_
      refine r_icmp_ge C 68 dX0_bestPlace_24 (by decide) (fun c => absurd c (tn_nle h_i)) (fun _ => ?_)
      refine r_aload_n C dX0_bestPlace_27 rfl rfl ?_
      refine r_aload_n C dX0_bestPlace_28 rfl rfl ?_
      refine r_get C (j := 1) rfl in_X0 (GA_o w) (by decide) fl_X0_20 rfl rfl dX0_bestPlace_29 ?_
      refine r_aload_n C dX0_bestPlace_32 rfl rfl ?_
      refine r_get C (j := 6) rfl in_X0 (GA_o w) (by decide) fl_X0_43 rfl rfl dX0_bestPlace_33 ?_
      refine r_iload_n C dX0_bestPlace_36 rfl rfl ?_
      refine r_cVi C (c_at1 w) lk_X0_84 rfl (GA_t1 w) rfl rfl ⟨(Nat.le_of_ble_eq_true rfl), (Nat.le_of_ble_eq_true rfl), (Nat.le_of_ble_eq_true rfl), (Nat.le_of_ble_eq_true rfl), (Nat.le_of_ble_eq_true rfl)⟩ dX0_bestPlace_37 ?_
      refine r_cVi C (c_X0_fitsSomewhere w) lk_X0_154 rfl (GA_o w) rfl rfl ⟨(Nat.le_of_ble_eq_true rfl), (Nat.le_of_ble_eq_true rfl), (Nat.le_of_ble_eq_true rfl), (Nat.le_of_ble_eq_true rfl), (Nat.le_of_ble_eq_true rfl)⟩ dX0_bestPlace_40 ?_
      refine r_if_eq C 62 dX0_bestPlace_43 (by decide) (fun c_43 => ?_) (fun c_43 => ?_)
      · have c_43 := bI_f c_43
        refine r_iinc C (v := 1) dX0_bestPlace_62 rfl rfl (by decide) ?_
        refine r_goto C 22 dX0_bestPlace_65 (by decide) ?_
        have e : g_bl S (i + 1) = g_bl S i := by
          simp only [g_bl]
          simp [g_hand] at *
          simp [c_43]
        refine V.sub [(0, .ref g), (1, .int (g_held S (S 5 1))), (2, .int (g_bl S (i + 1))), (3, .int (nI (i + 1)))] ⟨rfl, rfl, by rw [e]; rfl, (by rw [← nI_1 i]; rfl), trivial⟩ ?_
        exact ih_i
      · have c_43 := bI_t c_43
        refine r_iload_n C dX0_bestPlace_46 rfl rfl ?_
        refine r_iconst C (v := -1) dX0_bestPlace_47 rfl ?_
        refine r_icmp_eq C 60 dX0_bestPlace_48 (by decide) (fun c_48 => ?_) (fun c_48 => ?_)
        · refine r_iload_n C dX0_bestPlace_60 rfl rfl ?_
          refine r_istore_n C dX0_bestPlace_61 rfl (by decide) ?_
          refine r_iinc C (v := 1) dX0_bestPlace_62 rfl rfl (by decide) ?_
          refine r_goto C 22 dX0_bestPlace_65 (by decide) ?_
          have e : g_bl S (i + 1) = nI i := by
            simp only [g_bl]
            simp [g_hand] at *
            simp [c_43, c_48]
          refine V.sub [(0, .ref g), (1, .int (g_held S (S 5 1))), (2, .int (g_bl S (i + 1))), (3, .int (nI (i + 1)))] ⟨rfl, rfl, by rw [e]; rfl, (by rw [← nI_1 i]; rfl), trivial⟩ ?_
          exact ih_i
        · refine r_aload_n C dX0_bestPlace_51 rfl rfl ?_
          refine r_iload_n C dX0_bestPlace_52 rfl rfl ?_
          refine r_iload_n C dX0_bestPlace_53 rfl rfl ?_
          refine r_cVi C (c_X0_isBetter w) lk_X0_158 rfl (GA_o w) rfl rfl ⟨(Nat.le_of_ble_eq_true rfl), (Nat.le_of_ble_eq_true rfl), (Nat.le_of_ble_eq_true rfl), (Nat.le_of_ble_eq_true rfl), (Nat.le_of_ble_eq_true rfl)⟩ dX0_bestPlace_54 ?_
          refine r_if_eq C 62 dX0_bestPlace_57 (by decide) (fun c_57 => ?_) (fun c_57 => ?_)
          · have c_57 := bI_f c_57
            refine r_iinc C (v := 1) dX0_bestPlace_62 rfl rfl (by decide) ?_
            refine r_goto C 22 dX0_bestPlace_65 (by decide) ?_
            have e : g_bl S (i + 1) = g_bl S i := by
              simp only [g_bl]
              simp [g_hand] at *
              simp [c_43, c_48, c_57]
            refine V.sub [(0, .ref g), (1, .int (g_held S (S 5 1))), (2, .int (g_bl S (i + 1))), (3, .int (nI (i + 1)))] ⟨rfl, rfl, by rw [e]; rfl, (by rw [← nI_1 i]; rfl), trivial⟩ ?_
            exact ih_i
          · have c_57 := bI_t c_57
            refine r_iload_n C dX0_bestPlace_60 rfl rfl ?_
            refine r_istore_n C dX0_bestPlace_61 rfl (by decide) ?_
            refine r_iinc C (v := 1) dX0_bestPlace_62 rfl rfl (by decide) ?_
            refine r_goto C 22 dX0_bestPlace_65 (by decide) ?_
            have e : g_bl S (i + 1) = nI i := by
              simp only [g_bl]
              simp [g_hand] at *
              simp [c_43, c_48, c_57]
            refine V.sub [(0, .ref g), (1, .int (g_held S (S 5 1))), (2, .int (g_bl S (i + 1))), (3, .int (nI (i + 1)))] ⟨rfl, rfl, by rw [e]; rfl, (by rw [← nI_1 i]; rfl), trivial⟩ ?_
            exact ih_i
  · have c_4 := bI_t c_4
    refine r_iconst C (v := -1) dX0_bestPlace_7 rfl ?_
    exact r_iret C rfl (Nat.le_of_ble_eq_true rfl) (Nat.le_of_ble_eq_true rfl) ⟨by simp [g_adv, c_4], rfl, rfl⟩ dX0_bestPlace_8

set_option maxHeartbeats 800000 in
set_option maxRecDepth 100000 in
theorem c_X0_numberOf {G : ga_} {l : Launch} {h : HP} {sz : Nat} {g : Nat} {S : gS} {a b : Int32}  (w : GA G h g S)  : Mf G l yX0_numberOf cX0_numberOf 3 (some .int) 5 111 0 0 [.ref g, .int a, .int b] h sz (some (.int (g_num S a b))) h sz := by
  refine Mg.ofV [(0, .ref g), (1, .int a), (2, .int b)] (by decide) (Nat.le_of_ble_eq_true rfl) rfl ?_
  intro p e s m args below meth c C
  refine r_iload_n C dX0_numberOf_0 rfl rfl ?_
  by_cases c_1_0 : a = 0
  · subst c_1_0
    refine r_tsw C 64 dX0_numberOf_1 (by decide) (by decide) rfl (by decide) ?_
    refine r_aload_n C dX0_numberOf_64 rfl rfl ?_
    refine r_get C (j := 5) rfl in_X0 (GA_o w) (by decide) fl_X0_40 rfl rfl dX0_numberOf_65 ?_
    exact r_iret C rfl (Nat.le_of_ble_eq_true rfl) (Nat.le_of_ble_eq_true rfl) ⟨by simp [g_num], rfl, rfl⟩ dX0_numberOf_68
  by_cases c_1_1 : a = 1
  · subst c_1_1
    refine r_tsw C 69 dX0_numberOf_1 (by decide) (by decide) rfl (by decide) ?_
    refine r_aload_n C dX0_numberOf_69 rfl rfl ?_
    refine r_get C (j := 6) rfl in_X0 (GA_o w) (by decide) fl_X0_43 rfl rfl dX0_numberOf_70 ?_
    exact r_iret C rfl (Nat.le_of_ble_eq_true rfl) (Nat.le_of_ble_eq_true rfl) ⟨by simp [g_num], rfl, rfl⟩ dX0_numberOf_73
  by_cases c_1_2 : a = 2
  · subst c_1_2
    refine r_tsw C 74 dX0_numberOf_1 (by decide) (by decide) rfl (by decide) ?_
    refine r_aload_n C dX0_numberOf_74 rfl rfl ?_
    refine r_cVi C (c_X0_stockSize w) lk_X0_116 rfl (GA_o w) rfl rfl ⟨(Nat.le_of_ble_eq_true rfl), (Nat.le_of_ble_eq_true rfl), (Nat.le_of_ble_eq_true rfl), (Nat.le_of_ble_eq_true rfl), (Nat.le_of_ble_eq_true rfl)⟩ dX0_numberOf_75 ?_
    exact r_iret C rfl (Nat.le_of_ble_eq_true rfl) (Nat.le_of_ble_eq_true rfl) ⟨by simp [g_num], rfl, rfl⟩ dX0_numberOf_78
  by_cases c_1_3 : a = 3
  · subst c_1_3
    refine r_tsw C 79 dX0_numberOf_1 (by decide) (by decide) rfl (by decide) ?_
    refine r_aload_n C dX0_numberOf_79 rfl rfl ?_
    refine r_iconst C (v := 0) dX0_numberOf_80 rfl ?_
    refine r_cVi C (c_X0_tallied w) lk_X0_133 rfl (GA_o w) rfl rfl ⟨(Nat.le_of_ble_eq_true rfl), (Nat.le_of_ble_eq_true rfl), (Nat.le_of_ble_eq_true rfl), (Nat.le_of_ble_eq_true rfl), (Nat.le_of_ble_eq_true rfl)⟩ dX0_numberOf_81 ?_
    exact r_iret C rfl (Nat.le_of_ble_eq_true rfl) (Nat.le_of_ble_eq_true rfl) ⟨by simp [g_num], rfl, rfl⟩ dX0_numberOf_84
  by_cases c_1_4 : a = 4
  · subst c_1_4
    refine r_tsw C 85 dX0_numberOf_1 (by decide) (by decide) rfl (by decide) ?_
    refine r_aload_n C dX0_numberOf_85 rfl rfl ?_
    refine r_iconst C (v := 2) dX0_numberOf_86 rfl ?_
    refine r_cVi C (c_X0_tallied w) lk_X0_133 rfl (GA_o w) rfl rfl ⟨(Nat.le_of_ble_eq_true rfl), (Nat.le_of_ble_eq_true rfl), (Nat.le_of_ble_eq_true rfl), (Nat.le_of_ble_eq_true rfl), (Nat.le_of_ble_eq_true rfl)⟩ dX0_numberOf_87 ?_
    exact r_iret C rfl (Nat.le_of_ble_eq_true rfl) (Nat.le_of_ble_eq_true rfl) ⟨by simp [g_num], rfl, rfl⟩ dX0_numberOf_90
  by_cases c_1_5 : a = 5
  · subst c_1_5
    refine r_tsw C 91 dX0_numberOf_1 (by decide) (by decide) rfl (by decide) ?_
    refine r_aload_n C dX0_numberOf_91 rfl rfl ?_
    refine r_get C (j := 8) rfl in_X0 (GA_o w) (by decide) fl_X0_49 rfl rfl dX0_numberOf_92 ?_
    exact r_iret C rfl (Nat.le_of_ble_eq_true rfl) (Nat.le_of_ble_eq_true rfl) ⟨by simp [g_num], rfl, rfl⟩ dX0_numberOf_95
  by_cases c_1_6 : a = 6
  · subst c_1_6
    refine r_tsw C 96 dX0_numberOf_1 (by decide) (by decide) rfl (by decide) ?_
    refine r_aload_n C dX0_numberOf_96 rfl rfl ?_
    refine r_get C (j := 9) rfl in_X0 (GA_o w) (by decide) fl_X0_52 rfl rfl dX0_numberOf_97 ?_
    exact r_iret C rfl (Nat.le_of_ble_eq_true rfl) (Nat.le_of_ble_eq_true rfl) ⟨by simp [g_num], rfl, rfl⟩ dX0_numberOf_100
  by_cases c_1_7 : a = 7
  · subst c_1_7
    refine r_tsw C 101 dX0_numberOf_1 (by decide) (by decide) rfl (by decide) ?_
    refine r_aload_n C dX0_numberOf_101 rfl rfl ?_
    refine r_iconst C (v := 1) dX0_numberOf_102 rfl ?_
    refine r_cVi C (c_X0_tallied w) lk_X0_133 rfl (GA_o w) rfl rfl ⟨(Nat.le_of_ble_eq_true rfl), (Nat.le_of_ble_eq_true rfl), (Nat.le_of_ble_eq_true rfl), (Nat.le_of_ble_eq_true rfl), (Nat.le_of_ble_eq_true rfl)⟩ dX0_numberOf_103 ?_
    exact r_iret C rfl (Nat.le_of_ble_eq_true rfl) (Nat.le_of_ble_eq_true rfl) ⟨by simp [g_num], rfl, rfl⟩ dX0_numberOf_106
  by_cases c_1_8 : a = 8
  · subst c_1_8
    refine r_tsw C 107 dX0_numberOf_1 (by decide) (by decide) rfl (by decide) ?_
    refine r_aload_n C dX0_numberOf_107 rfl rfl ?_
    refine r_cVi C (c_X0_winner w) lk_X0_136 rfl (GA_o w) rfl rfl ⟨(Nat.le_of_ble_eq_true rfl), (Nat.le_of_ble_eq_true rfl), (Nat.le_of_ble_eq_true rfl), (Nat.le_of_ble_eq_true rfl), (Nat.le_of_ble_eq_true rfl)⟩ dX0_numberOf_108 ?_
    exact r_iret C rfl (Nat.le_of_ble_eq_true rfl) (Nat.le_of_ble_eq_true rfl) ⟨by simp [g_num], rfl, rfl⟩ dX0_numberOf_111
  by_cases c_1_9 : a = 9
  · subst c_1_9
    refine r_tsw C 112 dX0_numberOf_1 (by decide) (by decide) rfl (by decide) ?_
    refine r_aload_n C dX0_numberOf_112 rfl rfl ?_
    refine r_get C (j := 10) rfl in_X0 (GA_o w) (by decide) fl_X0_55 rfl rfl dX0_numberOf_113 ?_
    exact r_iret C rfl (Nat.le_of_ble_eq_true rfl) (Nat.le_of_ble_eq_true rfl) ⟨by simp [g_num], rfl, rfl⟩ dX0_numberOf_116
  by_cases c_1_10 : a = 10
  · subst c_1_10
    refine r_tsw C 117 dX0_numberOf_1 (by decide) (by decide) rfl (by decide) ?_
    refine r_aload_n C dX0_numberOf_117 rfl rfl ?_
    refine r_get C (j := 11) rfl in_X0 (GA_o w) (by decide) fl_X0_58 rfl rfl dX0_numberOf_118 ?_
    exact r_iret C rfl (Nat.le_of_ble_eq_true rfl) (Nat.le_of_ble_eq_true rfl) ⟨by simp [g_num], rfl, rfl⟩ dX0_numberOf_121
  by_cases c_1_11 : a = 11
  · subst c_1_11
    refine r_tsw C 122 dX0_numberOf_1 (by decide) (by decide) rfl (by decide) ?_
    refine r_iload_n C dX0_numberOf_122 rfl rfl ?_
    exact r_iret C rfl (Nat.le_of_ble_eq_true rfl) (Nat.le_of_ble_eq_true rfl) ⟨by simp [g_num], rfl, rfl⟩ dX0_numberOf_123
  refine r_tswO C 124 dX0_numberOf_1 (sw_out 12 (by decide) (lt_s_12 c_1_0 c_1_1 c_1_2 c_1_3 c_1_4 c_1_5 c_1_6 c_1_7 c_1_8 c_1_9 c_1_10 c_1_11)) (by decide) ?_
  refine r_iconst C (v := -1) dX0_numberOf_124 rfl ?_
  exact r_iret C rfl (Nat.le_of_ble_eq_true rfl) (Nat.le_of_ble_eq_true rfl) ⟨by simp [g_num, c_1_0, c_1_1, c_1_2, c_1_3, c_1_4, c_1_5, c_1_6, c_1_7, c_1_8, c_1_9, c_1_10, c_1_11], rfl, rfl⟩ dX0_numberOf_125

set_option maxHeartbeats 800000 in
set_option maxRecDepth 100000 in
theorem c_X0_playerProperty {G : ga_} {l : Launch} {h : HP} {sz : Nat} {g : Nat} {S : gS} {a b : Int32}  (w : GA G h g S)  : Mf G l yX0_playerProperty cX0_playerProperty 3 (some .int) 4 97 0 0 [.ref g, .int a, .int b] h sz (some (.int (g_prop S a b))) h sz := by
  refine Mg.ofV [(0, .ref g), (1, .int a), (2, .int b)] (by decide) (Nat.le_of_ble_eq_true rfl) rfl ?_
  intro p e s m args below meth c C
  refine r_iload_n C dX0_playerProperty_0 rfl rfl ?_
  by_cases c_1_0 : b = 0
  · subst c_1_0
    refine r_tsw C 44 dX0_playerProperty_1 (by decide) (by decide) rfl (by decide) ?_
    refine r_aload_n C dX0_playerProperty_44 rfl rfl ?_
    refine r_iload_n C dX0_playerProperty_45 rfl rfl ?_
    refine r_cVi C (c_X0_heldBy w) lk_X0_92 rfl (GA_o w) rfl rfl ⟨(Nat.le_of_ble_eq_true rfl), (Nat.le_of_ble_eq_true rfl), (Nat.le_of_ble_eq_true rfl), (Nat.le_of_ble_eq_true rfl), (Nat.le_of_ble_eq_true rfl)⟩ dX0_playerProperty_46 ?_
    exact r_iret C rfl (Nat.le_of_ble_eq_true rfl) (Nat.le_of_ble_eq_true rfl) ⟨by simp [g_prop], rfl, rfl⟩ dX0_playerProperty_49
  by_cases c_1_1 : b = 1
  · subst c_1_1
    refine r_tsw C 50 dX0_playerProperty_1 (by decide) (by decide) rfl (by decide) ?_
    refine r_aload_n C dX0_playerProperty_50 rfl rfl ?_
    refine r_iload_n C dX0_playerProperty_51 rfl rfl ?_
    refine r_cVi C (c_X0_gradesHeld w) lk_X0_139 rfl (GA_o w) rfl rfl ⟨(Nat.le_of_ble_eq_true rfl), (Nat.le_of_ble_eq_true rfl), (Nat.le_of_ble_eq_true rfl), (Nat.le_of_ble_eq_true rfl), (Nat.le_of_ble_eq_true rfl)⟩ dX0_playerProperty_52 ?_
    exact r_iret C rfl (Nat.le_of_ble_eq_true rfl) (Nat.le_of_ble_eq_true rfl) ⟨by simp [g_prop], rfl, rfl⟩ dX0_playerProperty_55
  by_cases c_1_2 : b = 2
  · subst c_1_2
    refine r_tsw C 56 dX0_playerProperty_1 (by decide) (by decide) rfl (by decide) ?_
    refine r_aload_n C dX0_playerProperty_56 rfl rfl ?_
    refine r_get C (j := 2) rfl in_X0 (GA_o w) (by decide) fl_X0_23 rfl rfl dX0_playerProperty_57 ?_
    refine r_iload_n C dX0_playerProperty_60 rfl rfl ?_
    refine r_iconst C (v := 1) dX0_playerProperty_61 rfl ?_
    refine r_cVi C (c_at2 w) lk_X0_84 rfl (GA_t2 w) rfl rfl ⟨(Nat.le_of_ble_eq_true rfl), (Nat.le_of_ble_eq_true rfl), (Nat.le_of_ble_eq_true rfl), (Nat.le_of_ble_eq_true rfl), (Nat.le_of_ble_eq_true rfl)⟩ dX0_playerProperty_62 ?_
    exact r_iret C rfl (Nat.le_of_ble_eq_true rfl) (Nat.le_of_ble_eq_true rfl) ⟨by simp [g_prop], rfl, rfl⟩ dX0_playerProperty_65
  by_cases c_1_3 : b = 3
  · subst c_1_3
    refine r_tsw C 66 dX0_playerProperty_1 (by decide) (by decide) rfl (by decide) ?_
    refine r_aload_n C dX0_playerProperty_66 rfl rfl ?_
    refine r_iload_n C dX0_playerProperty_67 rfl rfl ?_
    refine r_cVi C (c_X0_sumOf w) lk_X0_142 rfl (GA_o w) rfl rfl ⟨(Nat.le_of_ble_eq_true rfl), (Nat.le_of_ble_eq_true rfl), (Nat.le_of_ble_eq_true rfl), (Nat.le_of_ble_eq_true rfl), (Nat.le_of_ble_eq_true rfl)⟩ dX0_playerProperty_68 ?_
    exact r_iret C rfl (Nat.le_of_ble_eq_true rfl) (Nat.le_of_ble_eq_true rfl) ⟨by simp [g_prop], rfl, rfl⟩ dX0_playerProperty_71
  by_cases c_1_4 : b = 4
  · subst c_1_4
    refine r_tsw C 72 dX0_playerProperty_1 (by decide) (by decide) rfl (by decide) ?_
    refine r_aload_n C dX0_playerProperty_72 rfl rfl ?_
    refine r_get C (j := 2) rfl in_X0 (GA_o w) (by decide) fl_X0_23 rfl rfl dX0_playerProperty_73 ?_
    refine r_iload_n C dX0_playerProperty_76 rfl rfl ?_
    refine r_iconst C (v := 2) dX0_playerProperty_77 rfl ?_
    refine r_cVi C (c_at2 w) lk_X0_84 rfl (GA_t2 w) rfl rfl ⟨(Nat.le_of_ble_eq_true rfl), (Nat.le_of_ble_eq_true rfl), (Nat.le_of_ble_eq_true rfl), (Nat.le_of_ble_eq_true rfl), (Nat.le_of_ble_eq_true rfl)⟩ dX0_playerProperty_78 ?_
    exact r_iret C rfl (Nat.le_of_ble_eq_true rfl) (Nat.le_of_ble_eq_true rfl) ⟨by simp [g_prop], rfl, rfl⟩ dX0_playerProperty_81
  by_cases c_1_5 : b = 5
  · subst c_1_5
    refine r_tsw C 82 dX0_playerProperty_1 (by decide) (by decide) rfl (by decide) ?_
    refine r_aload_n C dX0_playerProperty_82 rfl rfl ?_
    refine r_get C (j := 2) rfl in_X0 (GA_o w) (by decide) fl_X0_23 rfl rfl dX0_playerProperty_83 ?_
    refine r_iload_n C dX0_playerProperty_86 rfl rfl ?_
    refine r_iconst C (v := 3) dX0_playerProperty_87 rfl ?_
    refine r_cVi C (c_at2 w) lk_X0_84 rfl (GA_t2 w) rfl rfl ⟨(Nat.le_of_ble_eq_true rfl), (Nat.le_of_ble_eq_true rfl), (Nat.le_of_ble_eq_true rfl), (Nat.le_of_ble_eq_true rfl), (Nat.le_of_ble_eq_true rfl)⟩ dX0_playerProperty_88 ?_
    exact r_iret C rfl (Nat.le_of_ble_eq_true rfl) (Nat.le_of_ble_eq_true rfl) ⟨by simp [g_prop], rfl, rfl⟩ dX0_playerProperty_91
  by_cases c_1_6 : b = 6
  · subst c_1_6
    refine r_tsw C 92 dX0_playerProperty_1 (by decide) (by decide) rfl (by decide) ?_
    refine r_aload_n C dX0_playerProperty_92 rfl rfl ?_
    refine r_iload_n C dX0_playerProperty_93 rfl rfl ?_
    refine r_cVi C (c_X0_endsOpenTo w) lk_X0_145 rfl (GA_o w) rfl rfl ⟨(Nat.le_of_ble_eq_true rfl), (Nat.le_of_ble_eq_true rfl), (Nat.le_of_ble_eq_true rfl), (Nat.le_of_ble_eq_true rfl), (Nat.le_of_ble_eq_true rfl)⟩ dX0_playerProperty_94 ?_
    exact r_iret C rfl (Nat.le_of_ble_eq_true rfl) (Nat.le_of_ble_eq_true rfl) ⟨by simp [g_prop], rfl, rfl⟩ dX0_playerProperty_97
  refine r_tswO C 98 dX0_playerProperty_1 (sw_out 7 (by decide) (lt_s_7 c_1_0 c_1_1 c_1_2 c_1_3 c_1_4 c_1_5 c_1_6)) (by decide) ?_
  refine r_iconst C (v := -1) dX0_playerProperty_98 rfl ?_
  exact r_iret C rfl (Nat.le_of_ble_eq_true rfl) (Nat.le_of_ble_eq_true rfl) ⟨by simp [g_prop, c_1_0, c_1_1, c_1_2, c_1_3, c_1_4, c_1_5, c_1_6], rfl, rfl⟩ dX0_playerProperty_99

set_option maxHeartbeats 800000 in
set_option maxRecDepth 100000 in
theorem c_X0_shareOfRust {G : ga_} {l : Launch} {h : HP} {sz : Nat} {g : Nat} {S : gS}  (w : GA G h g S) (hz : vf_n64 (FP.ddiv (FP.i2d (g_tal S 1)) 4640114991075164160)) : Mf G l yX0_shareOfRust cX0_shareOfRust 1 (some .double) 2 46 0 0 [.ref g] h sz (some (.double (FP.ddiv (FP.i2d (g_tal S 1)) 4640114991075164160))) h sz := by
  refine Mg.ofV [(0, .ref g)] (by decide) (Nat.le_of_ble_eq_true rfl) rfl ?_
  intro p e s m args below meth c C
  refine r_aload_n C dX0_shareOfRust_0 rfl rfl ?_
  refine r_iconst C (v := 1) dX0_shareOfRust_1 rfl ?_
  refine r_cVi C (c_X0_tallied w) lk_X0_133 rfl (GA_o w) rfl rfl ⟨(Nat.le_of_ble_eq_true rfl), (Nat.le_of_ble_eq_true rfl), (Nat.le_of_ble_eq_true rfl), (Nat.le_of_ble_eq_true rfl), (Nat.le_of_ble_eq_true rfl)⟩ dX0_shareOfRust_2 ?_
  refine r_i2d C dX0_shareOfRust_5 ?_
  refine r_ldcd C kd_X0_164 dX0_shareOfRust_6 ?_
  refine r_ddiv C dX0_shareOfRust_9 hz ?_
  exact r_dret C rfl (Nat.le_of_ble_eq_true rfl) (Nat.le_of_ble_eq_true rfl) ⟨rfl, rfl, rfl⟩ dX0_shareOfRust_10

