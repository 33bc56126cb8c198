/-! THE MODEL'S LOOKS -/
/-- what is known of a game that both hold -/
def nB (S : gS) : Prop := (∃ P, 2 ≤ P ∧ P ≤ 4 ∧ S 5 0 = nI P ∧ (S 5 1 = -1 ∨ ∃ m, m < P ∧ S 5 1 = nI m) ∧ (∀ p, P ≤ p → p < 4 → ∀ q, q < 4 → tAt 4 16 (S 2) (nI p) (nI q) = 0)) ∧ (∃ k, k ≤ 28 ∧ S 5 2 = nI k) ∧ (∀ p, p < 4 → ∃ k, k ≤ 28 ∧ tAt 4 16 (S 2) (nI p) 0 = nI k ∧ ∀ i, i < k → ∃ t, t < 28 ∧ tAt 28 112 (S 1) (nI p) (nI i) = nI t) ∧ (∀ i, i < 28 → ∃ t, t < 28 ∧ tAt 28 28 (S 4) 0 (nI i) = nI t) ∧ (∀ t, t < 28 → ∀ w, w < 2 → ∃ g, g < 7 ∧ tAt 7 196 (S 0) (nI t) (nI w) = nI g) ∧ (∀ r, r < 3 → ∃ k, k ≤ 28 ∧ tAt 4 12 (S 3) (nI r) 0 = nI k)
theorem nB.mv {S : gS} (h : nB S) : S 5 1 = -1 ∨ ∃ m, m < 4 ∧ S 5 1 = nI m := by
  obtain ⟨⟨P, h1, h2, h3, h4, -⟩, -⟩ := h
  rcases h4 with h4 | ⟨m, h5, h6⟩
  · exact Or.inl h4
  · exact Or.inr ⟨m, by omega, h6⟩
theorem nB.pl {S : gS} (h : nB S) : ∃ P, 2 ≤ P ∧ P ≤ 4 ∧ S 5 0 = nI P ∧ (S 5 1 = -1 ∨ ∃ m, m < P ∧ S 5 1 = nI m) ∧ (∀ p, P ≤ p → p < 4 → ∀ q, q < 4 → tAt 4 16 (S 2) (nI p) (nI q) = 0) := h.1
theorem nB.gone {S : gS} (h : nB S) : ∃ k, k ≤ 28 ∧ S 5 2 = nI k := h.2.1
theorem nB.hd {S : gS} (h : nB S) {p : Nat} (hp : p < 4) : ∃ k, k ≤ 28 ∧ tAt 4 16 (S 2) (nI p) 0 = nI k ∧ ∀ i, i < k → ∃ t, t < 28 ∧ tAt 28 112 (S 1) (nI p) (nI i) = nI t := h.2.2.1 p hp
theorem nB.ord {S : gS} (h : nB S) {i : Nat} (hi : i < 28) : ∃ t, t < 28 ∧ tAt 28 28 (S 4) 0 (nI i) = nI t := h.2.2.2.1 i hi
theorem nB.gr {S : gS} (h : nB S) {t w : Nat} (ht : t < 28) (hw : w < 2) : ∃ g, g < 7 ∧ tAt 7 196 (S 0) (nI t) (nI w) = nI g := h.2.2.2.2.1 t ht w hw
theorem nB.row {S : gS} (h : nB S) {r : Nat} (hr : r < 3) : ∃ k, k ≤ 28 ∧ tAt 4 12 (S 3) (nI r) 0 = nI k := h.2.2.2.2.2 r hr
theorem nI_ne1 {m : Nat} (h : m < 2147483648) : nI m ≠ -1 := by
  intro e
  have := congrArg Int32.toInt e
  rw [nI_toInt h] at this
  have h2 : (-1 : Int32).toInt = -1 := rfl
  omega
def m_in (v a b : Int32) : Bool := decide (a ≤ v) && decide (v ≤ b)
theorem m_inh {a : Int32} {k : Nat} (hk : k < 2147483648) : m_in a 0 (nI k - 1) = (!decide (a < 0) && decide (a < nI k)) := by
  have e : (nI k - 1).toInt = (k : Int) - 1 := by
    rcases Nat.eq_zero_or_pos k with h | h
    · subst h; rfl
    · have e2 : nI k - 1 = nI (k - 1) := pk_sub (b := 1) h
      rw [e2, nI_toInt (by omega)]
      omega
  unfold m_in
  have h1 : decide ((0 : Int32) ≤ a) = !decide (a < 0) := by
    by_cases c : a < 0
    · simp [c, Int32.not_le.mpr c]
    · simp [c, Int32.not_lt.mp c]
  have h2 : decide (a ≤ nI k - 1) = decide (a < nI k) := by
    apply decide_eq_decide.mpr
    rw [Int32.le_iff_toInt_le, Int32.lt_iff_toInt_lt, e, nI_toInt hk]
    omega
  rw [h1, h2]
theorem m_nat {a : Int32} {k : Nat} (hk : k < 2147483648) (h : (!decide (a < 0) && decide (a < nI k)) = true) : ∃ i, i < k ∧ a = nI i := by
  rw [Bool.and_eq_true] at h
  have h0 : ¬ a < 0 := by simpa using h.1
  have h1 : a < nI k := by simpa using h.2
  have e := clI h0
  rw [e] at h1
  exact ⟨_, (nI_ltI (tn_lt a) hk).mp h1, e⟩
theorem okN_nat {a : Int32} {k : Nat} (hk : k < 2147483648) (h : okN a (nI k) = true) : ∃ i, i < k ∧ a = nI i := m_nat hk h
set_option maxHeartbeats 800000 in
set_option maxRecDepth 100000 in
theorem c_X6_in {G : ga_} {l : Launch} {h : HP} {sz : Nat} {v : Int32} {a : Int32} {b : Int32}    : Mf G l yX6_in cX6_in 3 (some .boolean) 0 0 0 0 [.int v, .int a, .int b] h sz (some (.int (bI (m_in v a b)))) h sz := by
  refine Mg.ofV [(0, .int v), (1, .int a), (2, .int b)] (by decide) (Nat.le_of_ble_eq_true rfl) rfl ?_
  intro p e s m args below meth c C
  refine r_iload_n C dX6_in_0 rfl rfl ?_
  refine r_iload_n C dX6_in_1 rfl rfl ?_
  refine r_icmp_lt C 14 dX6_in_2 (by decide) (fun c_2 => ?_) (fun c_2 => ?_)
  · have e_2 := i32_nle c_2
    refine r_iconst C (v := 0) dX6_in_14 rfl ?_
    exact r_zret C rfl (by first | exact Or.inl rfl | exact Or.inr rfl | exact bI_01 _) (Nat.le_of_ble_eq_true rfl) (Nat.le_of_ble_eq_true rfl) ⟨by simp [bI, m_in, c_2, e_2], rfl, rfl⟩ dX6_in_15
  · have e_2 := i32_le c_2
    refine r_iload_n C dX6_in_5 rfl rfl ?_
    refine r_iload_n C dX6_in_6 rfl rfl ?_
    refine r_icmp_gt C 14 dX6_in_7 (by decide) (fun c_7 => ?_) (fun c_7 => ?_)
    · have e_7 := i32_nle c_7
      refine r_iconst C (v := 0) dX6_in_14 rfl ?_
      exact r_zret C rfl (by first | exact Or.inl rfl | exact Or.inr rfl | exact bI_01 _) (Nat.le_of_ble_eq_true rfl) (Nat.le_of_ble_eq_true rfl) ⟨by simp [bI, m_in, c_2, e_2, c_7, e_7], rfl, rfl⟩ dX6_in_15
    · have e_7 := i32_le c_7
      refine r_iconst C (v := 1) dX6_in_10 rfl ?_
      refine r_goto C 15 dX6_in_11 (by decide) ?_
      exact r_zret C rfl (by first | exact Or.inl rfl | exact Or.inr rfl | exact bI_01 _) (Nat.le_of_ble_eq_true rfl) (Nat.le_of_ble_eq_true rfl) ⟨by simp [bI, m_in, c_2, e_2, c_7, e_7], rfl, rfl⟩ dX6_in_15

set_option maxHeartbeats 800000 in
set_option maxRecDepth 100000 in
theorem c_X6_of {G : ga_} {l : Launch} {h : HP} {sz : Nat} {a : Nat} {b : Nat}    : Mf G l yX6_of cX6_of 2 (some .int) 0 0 0 0 [.int (nI a), .int (nI b)] h sz (some (.int (nI (7 * a + b)))) h sz := by
  refine Mg.ofV [(0, .int (nI a)), (1, .int (nI b))] (by decide) (Nat.le_of_ble_eq_true rfl) rfl ?_
  intro p e s m args below meth c C
  refine r_iconst C (v := 0) dX6_of_0 rfl ?_
  refine r_bipush C (v := 7) dX6_of_1 rfl ?_
  refine r_iload_n C dX6_of_3 rfl rfl ?_
  refine r_imul C dX6_of_4 ?_
  refine V.st0 (nI_mul (7) (a)) ?_
  refine r_iadd C dX6_of_5 ?_
  refine V.st0 (nI_add (0) ((7 * a))) ?_
  refine r_iload_n C dX6_of_6 rfl rfl ?_
  refine r_iadd C dX6_of_7 ?_
  refine V.st0 (nI_add ((0 + (7 * a))) (b)) ?_
  exact r_iret C rfl (Nat.le_of_ble_eq_true rfl) (Nat.le_of_ble_eq_true rfl) ⟨by rw [Nat.zero_add], rfl, rfl⟩ dX6_of_8

set_option maxHeartbeats 800000 in
set_option maxRecDepth 100000 in
theorem c_X6_inHand {G : ga_} {l : Launch} {h : HP} {sz : Nat} {a : Nat} {b : Nat}    : Mf G l yX6_inHand cX6_inHand 2 (some .int) 0 0 0 0 [.int (nI a), .int (nI b)] h sz (some (.int (nI (225 + 28 * a + b)))) h sz := by
  refine Mg.ofV [(0, .int (nI a)), (1, .int (nI b))] (by decide) (Nat.le_of_ble_eq_true rfl) rfl ?_
  intro p e s m args below meth c C
  refine r_sipush C (v := 225) dX6_inHand_0 rfl ?_
  refine r_bipush C (v := 28) dX6_inHand_3 rfl ?_
  refine r_iload_n C dX6_inHand_5 rfl rfl ?_
  refine r_imul C dX6_inHand_6 ?_
  refine V.st0 (nI_mul (28) (a)) ?_
  refine r_iadd C dX6_inHand_7 ?_
  refine V.st0 (nI_add (225) ((28 * a))) ?_
  refine r_iload_n C dX6_inHand_8 rfl rfl ?_
  refine r_iadd C dX6_inHand_9 ?_
  refine V.st0 (nI_add ((225 + (28 * a))) (b)) ?_
  exact r_iret C rfl (Nat.le_of_ble_eq_true rfl) (Nat.le_of_ble_eq_true rfl) ⟨rfl, rfl, rfl⟩ dX6_inHand_10

set_option maxHeartbeats 800000 in
set_option maxRecDepth 100000 in
theorem c_X6_ofRow {G : ga_} {l : Launch} {h : HP} {sz : Nat} {a : Nat} {b : Nat}    : Mf G l yX6_ofRow cX6_ofRow 2 (some .int) 0 0 0 0 [.int (nI a), .int (nI b)] h sz (some (.int (nI (360 + 4 * a + b)))) h sz := by
  refine Mg.ofV [(0, .int (nI a)), (1, .int (nI b))] (by decide) (Nat.le_of_ble_eq_true rfl) rfl ?_
  intro p e s m args below meth c C
  refine r_sipush C (v := 360) dX6_ofRow_0 rfl ?_
  refine r_iconst C (v := 4) dX6_ofRow_3 rfl ?_
  refine r_iload_n C dX6_ofRow_4 rfl rfl ?_
  refine r_imul C dX6_ofRow_5 ?_
  refine V.st0 (nI_mul (4) (a)) ?_
  refine r_iadd C dX6_ofRow_6 ?_
  refine V.st0 (nI_add (360) ((4 * a))) ?_
  refine r_iload_n C dX6_ofRow_7 rfl rfl ?_
  refine r_iadd C dX6_ofRow_8 ?_
  refine V.st0 (nI_add ((360 + (4 * a))) (b)) ?_
  exact r_iret C rfl (Nat.le_of_ble_eq_true rfl) (Nat.le_of_ble_eq_true rfl) ⟨rfl, rfl, rfl⟩ dX6_ofRow_9

set_option maxHeartbeats 800000 in
set_option maxRecDepth 100000 in
theorem c_X6_thrown {G : ga_} {l : Launch} {h : HP} {sz : Nat} {mo : Nat} {S A : gS} {dg : Int64}  (w : MA G h mo S A dg)   : Mf G l yX6_thrown cX6_thrown 1 (some .int) 0 0 0 0 [.ref mo] h sz (some (.int (A 6 0))) h sz := by
  refine Mg.ofV [(0, .ref mo)] (by decide) (Nat.le_of_ble_eq_true rfl) rfl ?_
  intro p e s m args below meth c C
  refine r_aload_n C dX6_thrown_0 rfl rfl ?_
  refine r_get C (j := 0) rfl in_X6 (MA_o w) (by decide) fl_X6_33 rfl rfl dX6_thrown_1 ?_
  exact r_iret C rfl (Nat.le_of_ble_eq_true rfl) (Nat.le_of_ble_eq_true rfl) ⟨rfl, rfl, rfl⟩ dX6_thrown_4

set_option maxHeartbeats 800000 in
set_option maxRecDepth 100000 in
theorem c_X6_holds {G : ga_} {l : Launch} {h : HP} {sz : Nat} {mo : Nat} {S A : gS} {dg : Int64} {v : Int32}  (w : MA G h mo S A dg)   : Mf G l yX6_holds cX6_holds 2 (some .boolean) 0 0 0 0 [.ref mo, .int v] h sz (some (.int (bI (decide (v = 0))))) (pM G h mo (S) (ac A 0 v) (dg)) sz := by
  refine Mg.ofV [(0, .ref mo), (1, .int v)] (by decide) (Nat.le_of_ble_eq_true rfl) rfl ?_
  intro p e s m args below meth c C
  refine V.heap (pM_id w).symm ?_
  refine r_aload_n C dX6_holds_0 rfl rfl ?_
  refine r_iload_n C dX6_holds_1 rfl rfl ?_
  refine r_put C (j := 0) tyX6 tyX6_ok nmX6 rfl in_X6 (MA_o MA_pM) (by decide) fl_X6_33 rfl rfl rfl (by first | rfl | decide) (by first | rfl | decide) (Nat.le_of_ble_eq_true rfl) dX6_holds_2 ?_
  refine V.heap (qM_f 0 _ rfl) ?_
  refine r_iload_n C dX6_holds_5 rfl rfl ?_
  refine r_if_ne C 13 dX6_holds_6 (by decide) (fun c_6 => ?_) (fun c_6 => ?_)
  · skip
    refine r_iconst C (v := 0) dX6_holds_13 rfl ?_
    exact r_zret C rfl (by first | exact Or.inl rfl | exact Or.inr rfl | exact bI_01 _) (Nat.le_of_ble_eq_true rfl) (Nat.le_of_ble_eq_true rfl) ⟨by simp [bI, c_6], rfl, rfl⟩ dX6_holds_14
  · skip
    refine r_iconst C (v := 1) dX6_holds_9 rfl ?_
    refine r_goto C 14 dX6_holds_10 (by decide) ?_
    exact r_zret C rfl (by first | exact Or.inl rfl | exact Or.inr rfl | exact bI_01 _) (Nat.le_of_ble_eq_true rfl) (Nat.le_of_ble_eq_true rfl) ⟨by simp [bI, c_6], rfl, rfl⟩ dX6_holds_14

set_option maxHeartbeats 800000 in
set_option maxRecDepth 100000 in
theorem c_X6_isPlayer {G : ga_} {l : Launch} {h : HP} {sz : Nat} {mo : Nat} {S A : gS} {dg : Int64} {v : Int32}  (w : MA G h mo S A dg)   : Mf G l yX6_isPlayer cX6_isPlayer 2 (some .boolean) 1 22 0 0 [.ref mo, .int v] h sz (some (.int (bI (m_in v 0 (S 5 0 - 1))))) h sz := by
  refine Mg.ofV [(0, .ref mo), (1, .int v)] (by decide) (Nat.le_of_ble_eq_true rfl) rfl ?_
  intro p e s m args below meth c C
  refine r_iload_n C dX6_isPlayer_0 rfl rfl ?_
  refine r_iconst C (v := 0) dX6_isPlayer_1 rfl ?_
  refine r_aload_n C dX6_isPlayer_2 rfl rfl ?_
  refine r_get C (j := 1) rfl in_X6 (MA_o w) (by decide) fl_X6_7 rfl rfl dX6_isPlayer_3 ?_
  refine r_sipush C (v := 341) dX6_isPlayer_6 rfl ?_
  refine r_iald C (MA_s w) (vp_in_nI (n := 341) (by decide) (by decide)) dX6_isPlayer_9 ?_
  refine V.st0 (en_sc0 _) ?_
  refine r_iconst C (v := 1) dX6_isPlayer_10 rfl ?_
  refine r_isub C dX6_isPlayer_11 ?_
  refine r_cSi C (c_X6_in) lk_X6_37 rfl rfl ⟨(Nat.le_of_ble_eq_true rfl), (Nat.le_of_ble_eq_true rfl), (Nat.le_of_ble_eq_true rfl), (Nat.le_of_ble_eq_true rfl), (Nat.le_of_ble_eq_true rfl)⟩ dX6_isPlayer_12 ?_
  exact r_zret C rfl (by first | exact Or.inl rfl | exact Or.inr rfl | exact bI_01 _) (Nat.le_of_ble_eq_true rfl) (Nat.le_of_ble_eq_true rfl) ⟨rfl, rfl, rfl⟩ dX6_isPlayer_15

set_option maxHeartbeats 800000 in
set_option maxRecDepth 100000 in
theorem c_X6_isRow {G : ga_} {l : Launch} {h : HP} {sz : Nat} {v : Int32}    : Mf G l yX6_isRow cX6_isRow 1 (some .boolean) 1 22 0 0 [.int v] h sz (some (.int (bI (m_in v 0 2)))) h sz := by
  refine Mg.ofV [(0, .int v)] (by decide) (Nat.le_of_ble_eq_true rfl) rfl ?_
  intro p e s m args below meth c C
  refine r_iload_n C dX6_isRow_0 rfl rfl ?_
  refine r_iconst C (v := 0) dX6_isRow_1 rfl ?_
  refine r_iconst C (v := 2) dX6_isRow_2 rfl ?_
  refine r_cSi C (c_X6_in) lk_X6_37 rfl rfl ⟨(Nat.le_of_ble_eq_true rfl), (Nat.le_of_ble_eq_true rfl), (Nat.le_of_ble_eq_true rfl), (Nat.le_of_ble_eq_true rfl), (Nat.le_of_ble_eq_true rfl)⟩ dX6_isRow_3 ?_
  exact r_zret C rfl (by first | exact Or.inl rfl | exact Or.inr rfl | exact bI_01 _) (Nat.le_of_ble_eq_true rfl) (Nat.le_of_ble_eq_true rfl) ⟨rfl, rfl, rfl⟩ dX6_isRow_6

set_option maxHeartbeats 800000 in
set_option maxRecDepth 100000 in
theorem c_X6_inStock {G : ga_} {l : Launch} {h : HP} {sz : Nat} {mo : Nat} {S A : gS} {dg : Int64}  (w : MA G h mo S A dg)   : Mf G l yX6_inStock cX6_inStock 1 (some .int) 0 0 0 0 [.ref mo] h sz (some (.int (g_stock S))) h sz := by
  refine Mg.ofV [(0, .ref mo)] (by decide) (Nat.le_of_ble_eq_true rfl) rfl ?_
  intro p e s m args below meth c C
  refine r_bipush C (v := 28) dX6_inStock_0 rfl ?_
  refine r_aload_n C dX6_inStock_2 rfl rfl ?_
  refine r_get C (j := 1) rfl in_X6 (MA_o w) (by decide) fl_X6_7 rfl rfl dX6_inStock_3 ?_
  refine r_sipush C (v := 224) dX6_inStock_6 rfl ?_
  refine r_iald C (MA_s w) (vp_in_nI (n := 224) (by decide) (by decide)) dX6_inStock_9 ?_
  refine V.st0 (en_sc2 _) ?_
  refine r_isub C dX6_inStock_10 ?_
  exact r_iret C rfl (Nat.le_of_ble_eq_true rfl) (Nat.le_of_ble_eq_true rfl) ⟨rfl, rfl, rfl⟩ dX6_inStock_11

set_option maxHeartbeats 800000 in
set_option maxRecDepth 100000 in
theorem c_X6_refuses {G : ga_} {l : Launch} {h : HP} {sz : Nat} {mo : Nat} {S A : gS} {dg : Int64} {v : Int32}  (w : MA G h mo S A dg)   : Mf G l yX6_refuses cX6_refuses 2 (some .int) 0 0 0 0 [.ref mo, .int v] h sz (some (.int (v))) (pM G h mo (g_ref S) (A) (dg)) sz := by
  refine Mg.ofV [(0, .ref mo), (1, .int v)] (by decide) (Nat.le_of_ble_eq_true rfl) rfl ?_
  intro p e s m args below meth c C
  refine V.heap (pM_id w).symm ?_
  refine r_aload_n C dX6_refuses_0 rfl rfl ?_
  refine r_get C (j := 1) rfl in_X6 (MA_o MA_pM) (by decide) fl_X6_7 rfl rfl dX6_refuses_1 ?_
  refine r_sipush C (v := 358) dX6_refuses_4 rfl ?_
  refine r_dup2 C dX6_refuses_7 rfl rfl ?_
  refine r_iald C (MA_s MA_pM) (vp_in_nI (n := 358) (by decide) (by decide)) dX6_refuses_8 ?_
  refine V.st0 (en_sc5 _) ?_
  refine r_iconst C (v := 1) dX6_refuses_9 rfl ?_
  refine r_iadd C dX6_refuses_10 ?_
  refine r_iast C (MA_s MA_pM) (vp_in_nI (n := 358) (by decide) (by decide)) dX6_refuses_11 ?_
  refine V.heap (qM_sc5 _) ?_
  refine r_iload_n C dX6_refuses_12 rfl rfl ?_
  exact r_iret C rfl (Nat.le_of_ble_eq_true rfl) (Nat.le_of_ble_eq_true rfl) ⟨rfl, rfl, rfl⟩ dX6_refuses_13

set_option maxHeartbeats 800000 in
set_option maxRecDepth 100000 in
theorem c_X6_fits {G : ga_} {l : Launch} {h : HP} {sz : Nat} {mo : Nat} {S A : gS} {dg : Int64} {t : Nat} {r : Nat} {d : Nat} {di : Int32}  (w : MA G h mo S A dg) (hd : di = nI d) (ht : t < 28) (hr : r < 3) (hee : d < 2) : Mf G l yX6_fits cX6_fits 5 (some .boolean) 1 21 0 0 [.ref mo, .int (nI t), .int (nI r), .int di] h sz (some (.int (bI (g_fits S (nI t) (nI r) di)))) h sz := by
  subst hd
  refine Mg.ofV [(0, .ref mo), (1, .int (nI t)), (2, .int (nI r)), (3, .int (nI d))] (by decide) (Nat.le_of_ble_eq_true rfl) rfl ?_
  intro p e s m args below meth c C
  refine r_aload_n C dX6_fits_0 rfl rfl ?_
  refine r_get C (j := 1) rfl in_X6 (MA_o w) (by decide) fl_X6_7 rfl rfl dX6_fits_1 ?_
  refine r_iload_n C dX6_fits_4 rfl rfl ?_
  refine r_iconst C (v := 1) dX6_fits_5 rfl ?_
  refine r_iload_n C dX6_fits_6 rfl rfl ?_
  refine r_iadd C dX6_fits_7 ?_
  refine V.st0 (nI_add (1) (d)) ?_
  refine r_cSi C (c_X6_ofRow (a := r) (b := (1 + d))) lk_X6_62 rfl rfl ⟨(Nat.le_of_ble_eq_true rfl), (Nat.le_of_ble_eq_true rfl), (Nat.le_of_ble_eq_true rfl), (Nat.le_of_ble_eq_true rfl), (Nat.le_of_ble_eq_true rfl)⟩ dX6_fits_8 ?_
  refine r_iald C (MA_s w) (vp_in_nI (by omega) (by decide)) dX6_fits_11 ?_
  refine V.st0 (en_row (r := r) (w := (1 + d)) (wi := nI ((1 + d))) (by omega) (by omega) rfl _) ?_
  refine r_istore C dX6_fits_12 (by decide) ?_
  refine r_aload_n C dX6_fits_14 rfl rfl ?_
  refine r_get C (j := 1) rfl in_X6 (MA_o w) (by decide) fl_X6_7 rfl rfl dX6_fits_15 ?_
  refine r_iload_n C dX6_fits_18 rfl rfl ?_
  refine r_iconst C (v := 0) dX6_fits_19 rfl ?_
  refine r_cSi C (c_X6_ofRow (a := r) (b := 0)) lk_X6_62 rfl rfl ⟨(Nat.le_of_ble_eq_true rfl), (Nat.le_of_ble_eq_true rfl), (Nat.le_of_ble_eq_true rfl), (Nat.le_of_ble_eq_true rfl), (Nat.le_of_ble_eq_true rfl)⟩ dX6_fits_20 ?_
  refine r_iald C (MA_s w) (vp_in_nI (by omega) (by decide)) dX6_fits_23 ?_
  refine V.st0 (en_row (r := r) (w := 0) (wi := 0) (by omega) (by omega) rfl _) ?_
  refine r_if_eq C 57 dX6_fits_24 (by decide) (fun c_24 => ?_) (fun c_24 => ?_)
  · skip
    refine r_iconst C (v := 1) dX6_fits_57 rfl ?_
    refine r_goto C 62 dX6_fits_58 (by decide) ?_
    exact r_zret C rfl (by first | exact Or.inl rfl | exact Or.inr rfl | exact bI_01 _) (Nat.le_of_ble_eq_true rfl) (Nat.le_of_ble_eq_true rfl) ⟨by simp [bI, g_fits, show (1 : Int32) + nI d = nI (1 + d) from nI_add 1 d, c_24], rfl, rfl⟩ dX6_fits_62
  · skip
    refine r_aload_n C dX6_fits_27 rfl rfl ?_
    refine r_get C (j := 1) rfl in_X6 (MA_o w) (by decide) fl_X6_7 rfl rfl dX6_fits_28 ?_
    refine r_iload_n C dX6_fits_31 rfl rfl ?_
    refine r_iconst C (v := 0) dX6_fits_32 rfl ?_
    refine r_cSi C (c_X6_of (a := t) (b := 0)) lk_X6_44 rfl rfl ⟨(Nat.le_of_ble_eq_true rfl), (Nat.le_of_ble_eq_true rfl), (Nat.le_of_ble_eq_true rfl), (Nat.le_of_ble_eq_true rfl), (Nat.le_of_ble_eq_true rfl)⟩ dX6_fits_33 ?_
    refine r_iald C (MA_s w) (vp_in_nI (by omega) (by decide)) dX6_fits_36 ?_
    refine V.st0 (en_of (t := t) (w := 0) (wi := 0) (by omega) (by omega) rfl _) ?_
    refine r_iload C dX6_fits_37 rfl ?_
    refine r_icmp_eq C 57 dX6_fits_39 (by decide) (fun c_39 => ?_) (fun c_39 => ?_)
    · skip
      refine r_iconst C (v := 1) dX6_fits_57 rfl ?_
      refine r_goto C 62 dX6_fits_58 (by decide) ?_
      exact r_zret C rfl (by first | exact Or.inl rfl | exact Or.inr rfl | exact bI_01 _) (Nat.le_of_ble_eq_true rfl) (Nat.le_of_ble_eq_true rfl) ⟨by simp [bI, g_fits, show (1 : Int32) + nI d = nI (1 + d) from nI_add 1 d, c_24, c_39], rfl, rfl⟩ dX6_fits_62
    · skip
      refine r_aload_n C dX6_fits_42 rfl rfl ?_
      refine r_get C (j := 1) rfl in_X6 (MA_o w) (by decide) fl_X6_7 rfl rfl dX6_fits_43 ?_
      refine r_iload_n C dX6_fits_46 rfl rfl ?_
      refine r_iconst C (v := 1) dX6_fits_47 rfl ?_
      refine r_cSi C (c_X6_of (a := t) (b := 1)) lk_X6_44 rfl rfl ⟨(Nat.le_of_ble_eq_true rfl), (Nat.le_of_ble_eq_true rfl), (Nat.le_of_ble_eq_true rfl), (Nat.le_of_ble_eq_true rfl), (Nat.le_of_ble_eq_true rfl)⟩ dX6_fits_48 ?_
      refine r_iald C (MA_s w) (vp_in_nI (by omega) (by decide)) dX6_fits_51 ?_
      refine V.st0 (en_of (t := t) (w := 1) (wi := 1) (by omega) (by omega) rfl _) ?_
      refine r_iload C dX6_fits_52 rfl ?_
      refine r_icmp_ne C 61 dX6_fits_54 (by decide) (fun c_54 => ?_) (fun c_54 => ?_)
      · skip
        refine r_iconst C (v := 0) dX6_fits_61 rfl ?_
        exact r_zret C rfl (by first | exact Or.inl rfl | exact Or.inr rfl | exact bI_01 _) (Nat.le_of_ble_eq_true rfl) (Nat.le_of_ble_eq_true rfl) ⟨by simp [bI, g_fits, show (1 : Int32) + nI d = nI (1 + d) from nI_add 1 d, c_24, c_39, c_54], rfl, rfl⟩ dX6_fits_62
      · skip
        refine r_iconst C (v := 1) dX6_fits_57 rfl ?_
        refine r_goto C 62 dX6_fits_58 (by decide) ?_
        exact r_zret C rfl (by first | exact Or.inl rfl | exact Or.inr rfl | exact bI_01 _) (Nat.le_of_ble_eq_true rfl) (Nat.le_of_ble_eq_true rfl) ⟨by simp [bI, g_fits, show (1 : Int32) + nI d = nI (1 + d) from nI_add 1 d, c_24, c_39, c_54], rfl, rfl⟩ dX6_fits_62

set_option maxHeartbeats 800000 in
set_option maxRecDepth 100000 in
theorem c_X6_refusal {G : ga_} {l : Launch} {h : HP} {sz : Nat} {mo : Nat} {S A : gS} {dg : Int64} {a : Int32} {r : Nat} {d : Nat} {di : Int32}  (w : MA G h mo S A dg) (hd : di = nI d) (hr : r < 3) (hee : d < 2) (hb : nB S) : Mf G l yX6_refusal cX6_refusal 4 (some .int) 2 45 0 0 [.ref mo, .int a, .int (nI r), .int di] h sz (some (.int (g_reason S a (nI r) di))) h sz := by
  subst hd
  refine Mg.ofV [(0, .ref mo), (1, .int a), (2, .int (nI r)), (3, .int (nI d))] (by decide) (Nat.le_of_ble_eq_true rfl) rfl ?_
  intro p e s m args below meth c C
  rcases hb.mv with hm | ⟨q, hm4, hm⟩
  · skip
    refine r_aload_n C dX6_refusal_0 rfl rfl ?_
    refine r_get C (j := 1) rfl in_X6 (MA_o w) (by decide) fl_X6_7 rfl rfl dX6_refusal_1 ?_
    refine r_sipush C (v := 342) dX6_refusal_4 rfl ?_
    refine r_iald C (MA_s w) (vp_in_nI (n := 342) (by decide) (by decide)) dX6_refusal_7 ?_
    refine V.st0 (en_sc1 _) ?_
    refine r_iconst C (v := -1) dX6_refusal_8 rfl ?_
    refine r_icmp_ne C 14 dX6_refusal_9 (by decide) (fun c => absurd hm c) (fun _ => ?_)
    refine r_iconst C (v := 1) dX6_refusal_12 rfl ?_
    exact r_iret C rfl (Nat.le_of_ble_eq_true rfl) (Nat.le_of_ble_eq_true rfl) ⟨by unfold g_reason g_over; rw [hm]; rfl, rfl, rfl⟩ dX6_refusal_13
  · obtain ⟨k, hk28, hk, hk2⟩ := hb.hd hm4
    have hR : g_reason S a (nI r) (nI d) = if (!decide (a < 0) && decide (a < nI k)) then (if g_fits S (g_hand S (nI q) a) (nI r) (nI d) then 0 else 3) else 2 := by
      unfold g_reason g_over g_holds g_held
      rw [hm, hk, if_neg (by simpa using nI_ne1 (show q < 2147483648 by omega))]
    refine r_aload_n C dX6_refusal_0 rfl rfl ?_
    refine r_get C (j := 1) rfl in_X6 (MA_o w) (by decide) fl_X6_7 rfl rfl dX6_refusal_1 ?_
    refine r_sipush C (v := 342) dX6_refusal_4 rfl ?_
    refine r_iald C (MA_s w) (vp_in_nI (n := 342) (by decide) (by decide)) dX6_refusal_7 ?_
    refine V.st0 (en_sc1 _) ?_
    refine r_iconst C (v := -1) dX6_refusal_8 rfl ?_
    refine r_icmp_ne C 14 dX6_refusal_9 (by decide) (fun _ => ?_) (fun c => absurd c (by rw [hm]; exact nI_ne1 (by omega)))
    refine r_iload_n C dX6_refusal_14 rfl rfl ?_
    refine r_iconst C (v := 0) dX6_refusal_15 rfl ?_
    refine r_aload_n C dX6_refusal_16 rfl rfl ?_
    refine r_get C (j := 1) rfl in_X6 (MA_o w) (by decide) fl_X6_7 rfl rfl dX6_refusal_17 ?_
    refine r_sipush C (v := 337) dX6_refusal_20 rfl ?_
    refine r_aload_n C dX6_refusal_23 rfl rfl ?_
    refine r_get C (j := 1) rfl in_X6 (MA_o w) (by decide) fl_X6_7 rfl rfl dX6_refusal_24 ?_
    refine r_sipush C (v := 342) dX6_refusal_27 rfl ?_
    refine r_iald C (MA_s w) (vp_in_nI (n := 342) (by decide) (by decide)) dX6_refusal_30 ?_
    refine V.st0 (en_sc1 _) ?_
    refine V.st0 (hm) ?_
    refine r_iadd C dX6_refusal_31 ?_
    refine V.st0 (nI_add (337) (q)) ?_
    refine r_iald C (MA_s w) (vp_in_nI (by omega) (by decide)) dX6_refusal_32 ?_
    refine V.st0 (en_tal0 (p := q) (by omega) _) ?_
    refine V.st0 (hk) ?_
    refine r_iconst C (v := 1) dX6_refusal_33 rfl ?_
    refine r_isub C dX6_refusal_34 ?_
    refine r_cSi C (c_X6_in) lk_X6_37 rfl rfl ⟨(Nat.le_of_ble_eq_true rfl), (Nat.le_of_ble_eq_true rfl), (Nat.le_of_ble_eq_true rfl), (Nat.le_of_ble_eq_true rfl), (Nat.le_of_ble_eq_true rfl)⟩ dX6_refusal_35 ?_
    rw [m_inh (show k < 2147483648 by omega)]
    refine r_if_ne C 43 dX6_refusal_38 (by decide) (fun c_38 => ?_) (fun c_38 => ?_)
    · have c_38 := bI_t c_38
      obtain ⟨i, hi, rfl⟩ := m_nat (by omega) c_38
      obtain ⟨t, ht, et⟩ := hk2 i hi
      refine r_aload_n C dX6_refusal_43 rfl rfl ?_
      refine r_aload_n C dX6_refusal_44 rfl rfl ?_
      refine r_get C (j := 1) rfl in_X6 (MA_o w) (by decide) fl_X6_7 rfl rfl dX6_refusal_45 ?_
      refine r_aload_n C dX6_refusal_48 rfl rfl ?_
      refine r_get C (j := 1) rfl in_X6 (MA_o w) (by decide) fl_X6_7 rfl rfl dX6_refusal_49 ?_
      refine r_sipush C (v := 342) dX6_refusal_52 rfl ?_
      refine r_iald C (MA_s w) (vp_in_nI (n := 342) (by decide) (by decide)) dX6_refusal_55 ?_
      refine V.st0 (en_sc1 _) ?_
      refine V.st0 (hm) ?_
      refine r_iload_n C dX6_refusal_56 rfl rfl ?_
      refine r_cSi C (c_X6_inHand (a := q) (b := i)) lk_X6_48 rfl rfl ⟨(Nat.le_of_ble_eq_true rfl), (Nat.le_of_ble_eq_true rfl), (Nat.le_of_ble_eq_true rfl), (Nat.le_of_ble_eq_true rfl), (Nat.le_of_ble_eq_true rfl)⟩ dX6_refusal_57 ?_
      refine r_iald C (MA_s w) (vp_in_nI (by omega) (by decide)) dX6_refusal_60 ?_
      refine V.st0 (en_ih (p := q) (i := i) (by omega) (by omega) _) ?_
      refine V.st0 (et) ?_
      refine r_iload_n C dX6_refusal_61 rfl rfl ?_
      refine r_iload_n C dX6_refusal_62 rfl rfl ?_
      refine r_cVi C (c_X6_fits (t := t) (r := r) (d := d) w rfl ht hr hee) lk_X6_76 rfl (MA_o w) rfl rfl ⟨(Nat.le_of_ble_eq_true rfl), (Nat.le_of_ble_eq_true rfl), (Nat.le_of_ble_eq_true rfl), (Nat.le_of_ble_eq_true rfl), (Nat.le_of_ble_eq_true rfl)⟩ dX6_refusal_63 ?_
      refine r_if_eq C 73 dX6_refusal_66 (by decide) (fun c_66 => ?_) (fun c_66 => ?_)
      · have c_66 := bI_f c_66
        refine r_iconst C (v := 3) dX6_refusal_73 rfl ?_
        exact r_iret C rfl (Nat.le_of_ble_eq_true rfl) (Nat.le_of_ble_eq_true rfl) ⟨by rw [hR, c_38, if_pos rfl, show g_hand S (nI q) (nI i) = nI t from et, c_66]; rfl, rfl, rfl⟩ dX6_refusal_74
      · have c_66 := bI_t c_66
        refine r_iconst C (v := 0) dX6_refusal_69 rfl ?_
        refine r_goto C 74 dX6_refusal_70 (by decide) ?_
        exact r_iret C rfl (Nat.le_of_ble_eq_true rfl) (Nat.le_of_ble_eq_true rfl) ⟨by rw [hR, c_38, if_pos rfl, show g_hand S (nI q) (nI i) = nI t from et, c_66]; rfl, rfl, rfl⟩ dX6_refusal_74
    · have c_38 := bI_f c_38
      refine r_iconst C (v := 2) dX6_refusal_41 rfl ?_
      exact r_iret C rfl (Nat.le_of_ble_eq_true rfl) (Nat.le_of_ble_eq_true rfl) ⟨by rw [hR, c_38]; rfl, rfl, rfl⟩ dX6_refusal_42


set_option maxHeartbeats 800000 in
set_option maxRecDepth 100000 in
theorem c_X6_gradesOf {G : ga_} {l : Launch} {h : HP} {sz : Nat} {mo : Nat} {S A : gS} {dg : Int64} {u : Nat}  (w : MA G h mo S A dg)  (hp : u < 4) (hb : nB S) : Mf G l yX6_gradesOf cX6_gradesOf 5 (some .int) 1 21 0 0 [.ref mo, .int (nI u)] h sz (some (.int (g_gh S (nI u)))) h sz := by
  refine Mg.ofV [(0, .ref mo), (1, .int (nI u))] (by decide) (Nat.le_of_ble_eq_true rfl) rfl ?_
  intro p e s m args below meth c C
  obtain ⟨k, hk28, hk, hk2⟩ := hb.hd hp
  have hR : g_gh S (nI u) = l_sum (fun i => g_grades S (g_hand S (nI u) (nI i))) k := by unfold g_gh g_held; rw [hk, nI_clamp (by omega)]
  refine r_iconst C (v := 0) dX6_gradesOf_0 rfl ?_
  refine r_istore_n C dX6_gradesOf_1 rfl (by decide) ?_
  refine r_iconst C (v := 0) dX6_gradesOf_2 rfl ?_
  refine r_istore_n C dX6_gradesOf_3 rfl (by decide) ?_
  refine V.sub [(0, .ref mo), (1, .int (nI u)), (2, .int (l_sum (fun i => g_grades S (g_hand S (nI u) (nI i))) 0)), (3, .int (nI 0))] ⟨rfl, rfl, rfl, rfl, trivial⟩ ?_
  refine down_ (P := fun i => V p l e ⟨1, 0, 0, 21⟩ s m args below meth c G 5 (Qg G below args s 0 0 (fun v1 h1 s1 => v1 = (some (.int (g_gh S (nI u)))) ∧ h1 = h ∧ s1 = sz)) h sz 0 0 4 [(0, .ref mo), (1, .int (nI u)), (2, .int (l_sum (fun i => g_grades S (g_hand S (nI u) (nI i))) i)), (3, .int (nI i))] []) (k) ?_ ?_
  · refine r_iload_n C dX6_gradesOf_4 rfl rfl ?_
    refine r_aload_n C dX6_gradesOf_5 rfl rfl ?_
    refine r_get C (j := 1) rfl in_X6 (MA_o w) (by decide) fl_X6_7 rfl rfl dX6_gradesOf_6 ?_
    refine r_sipush C (v := 337) dX6_gradesOf_9 rfl ?_
    refine r_iload_n C dX6_gradesOf_12 rfl rfl ?_
    refine r_iadd C dX6_gradesOf_13 ?_
    refine V.st0 (nI_add (337) (u)) ?_
    refine r_iald C (MA_s w) (vp_in_nI (by omega) (by decide)) dX6_gradesOf_14 ?_
    refine V.st0 (en_tal0 (p := u) (by omega) _) ?_
    refine V.st0 (hk) ?_
    refine r_icmp_ge C 62 dX6_gradesOf_15 (by decide) (fun _ => ?_) (fun c => absurd (nI_le (Nat.le_refl k) (by omega)) c)
    refine r_iload_n C dX6_gradesOf_62 rfl rfl ?_
    exact r_iret C rfl (Nat.le_of_ble_eq_true rfl) (Nat.le_of_ble_eq_true rfl) ⟨by rw [hR], rfl, rfl⟩ dX6_gradesOf_63
  · intro i h_i ih_i
    refine r_iload_n C dX6_gradesOf_4 rfl rfl ?_
    refine r_aload_n C dX6_gradesOf_5 rfl rfl ?_
    refine r_get C (j := 1) rfl in_X6 (MA_o w) (by decide) fl_X6_7 rfl rfl dX6_gradesOf_6 ?_
    refine r_sipush C (v := 337) dX6_gradesOf_9 rfl ?_
    refine r_iload_n C dX6_gradesOf_12 rfl rfl ?_
    refine r_iadd C dX6_gradesOf_13 ?_
    refine V.st0 (nI_add (337) (u)) ?_
    refine r_iald C (MA_s w) (vp_in_nI (by omega) (by decide)) dX6_gradesOf_14 ?_
    refine V.st0 (en_tal0 (p := u) (by omega) _) ?_
    refine V.st0 (hk) ?_
    refine r_icmp_ge C 62 dX6_gradesOf_15 (by decide) (fun c => absurd c (nI_ge h_i (by omega))) (fun _ => ?_)
    refine r_aload_n C dX6_gradesOf_18 rfl rfl ?_
    refine r_get C (j := 1) rfl in_X6 (MA_o w) (by decide) fl_X6_7 rfl rfl dX6_gradesOf_19 ?_
    refine r_iload_n C dX6_gradesOf_22 rfl rfl ?_
    refine r_iload_n C dX6_gradesOf_23 rfl rfl ?_
    refine r_cSi C (c_X6_inHand (a := u) (b := i)) lk_X6_48 rfl rfl ⟨(Nat.le_of_ble_eq_true rfl), (Nat.le_of_ble_eq_true rfl), (Nat.le_of_ble_eq_true rfl), (Nat.le_of_ble_eq_true rfl), (Nat.le_of_ble_eq_true rfl)⟩ dX6_gradesOf_24 ?_
    refine r_iald C (MA_s w) (vp_in_nI (by omega) (by decide)) dX6_gradesOf_27 ?_
    refine V.st0 (en_ih (p := u) (i := i) (by omega) (by omega) _) ?_
    obtain ⟨t, ht, et⟩ := hk2 i h_i
    refine V.st0 (et) ?_
    refine r_istore C dX6_gradesOf_28 (by decide) ?_
    refine r_iload_n C dX6_gradesOf_30 rfl rfl ?_
    refine r_aload_n C dX6_gradesOf_31 rfl rfl ?_
    refine r_get C (j := 1) rfl in_X6 (MA_o w) (by decide) fl_X6_7 rfl rfl dX6_gradesOf_32 ?_
    refine r_iload C dX6_gradesOf_35 rfl ?_
    refine r_iconst C (v := 0) dX6_gradesOf_37 rfl ?_
    refine r_cSi C (c_X6_of (a := t) (b := 0)) lk_X6_44 rfl rfl ⟨(Nat.le_of_ble_eq_true rfl), (Nat.le_of_ble_eq_true rfl), (Nat.le_of_ble_eq_true rfl), (Nat.le_of_ble_eq_true rfl), (Nat.le_of_ble_eq_true rfl)⟩ dX6_gradesOf_38 ?_
    refine r_iald C (MA_s w) (vp_in_nI (by omega) (by decide)) dX6_gradesOf_41 ?_
    refine V.st0 (en_of (t := t) (w := 0) (wi := 0) (by omega) (by omega) rfl _) ?_
    refine r_aload_n C dX6_gradesOf_42 rfl rfl ?_
    refine r_get C (j := 1) rfl in_X6 (MA_o w) (by decide) fl_X6_7 rfl rfl dX6_gradesOf_43 ?_
    refine r_iload C dX6_gradesOf_46 rfl ?_
    refine r_iconst C (v := 1) dX6_gradesOf_48 rfl ?_
    refine r_cSi C (c_X6_of (a := t) (b := 1)) lk_X6_44 rfl rfl ⟨(Nat.le_of_ble_eq_true rfl), (Nat.le_of_ble_eq_true rfl), (Nat.le_of_ble_eq_true rfl), (Nat.le_of_ble_eq_true rfl), (Nat.le_of_ble_eq_true rfl)⟩ dX6_gradesOf_49 ?_
    refine r_iald C (MA_s w) (vp_in_nI (by omega) (by decide)) dX6_gradesOf_52 ?_
    refine V.st0 (en_of (t := t) (w := 1) (wi := 1) (by omega) (by omega) rfl _) ?_
    refine r_iadd C dX6_gradesOf_53 ?_
    refine r_iadd C dX6_gradesOf_54 ?_
    refine r_istore_n C dX6_gradesOf_55 rfl (by decide) ?_
    refine r_iinc C (v := 1) dX6_gradesOf_56 rfl rfl (by decide) ?_
    refine r_goto C 4 dX6_gradesOf_59 (by decide) ?_
    refine V.sub [(0, .ref mo), (1, .int (nI u)), (2, .int (l_sum (fun i => g_grades S (g_hand S (nI u) (nI i))) (i + 1))), (3, .int (nI (i + 1)))] ⟨rfl, rfl, by rw [← et]; rfl, by rw [← nI_1 i]; rfl, trivial⟩ ?_
    exact ih_i

set_option maxHeartbeats 800000 in
set_option maxRecDepth 100000 in
theorem c_X6_canLay {G : ga_} {l : Launch} {h : HP} {sz : Nat} {mo : Nat} {S A : gS} {dg : Int64} {u : Nat} {r : Nat} {d : Nat} {di : Int32}  (w : MA G h mo S A dg) (hd : di = nI d) (hp : u < 4) (hr : r < 3) (hee : d < 2) (hb : nB S) : Mf G l yX6_canLay cX6_canLay 6 (some .boolean) 2 45 0 0 [.ref mo, .int (nI u), .int (nI r), .int di] h sz (some (.int (bI (g_can S (nI u) (nI r) di)))) h sz := by
  subst hd
  refine Mg.ofV [(0, .ref mo), (1, .int (nI u)), (2, .int (nI r)), (3, .int (nI d))] (by decide) (Nat.le_of_ble_eq_true rfl) rfl ?_
  intro p e s m args below meth c C
  obtain ⟨k, hk28, hk, hk2⟩ := hb.hd hp
  have hR : g_can S (nI u) (nI r) (nI d) = anyB (fun i => g_fits S (g_hand S (nI u) (nI i)) (nI r) (nI d)) k := by unfold g_can g_held; rw [hk, nI_clamp (by omega)]
  refine r_iconst C (v := 0) dX6_canLay_0 rfl ?_
  refine r_istore C dX6_canLay_1 (by decide) ?_
  refine r_iconst C (v := 0) dX6_canLay_3 rfl ?_
  refine r_istore C dX6_canLay_4 (by decide) ?_
  refine V.sub [(0, .ref mo), (1, .int (nI u)), (2, .int (nI r)), (3, .int (nI d)), (4, .int (bI (anyB (fun i => g_fits S (g_hand S (nI u) (nI i)) (nI r) (nI d)) 0))), (5, .int (nI 0))] ⟨rfl, rfl, rfl, rfl, rfl, rfl, trivial⟩ ?_
  refine down_ (P := fun i => V p l e ⟨2, 0, 0, 45⟩ s m args below meth c G 6 (Qg G below args s 0 0 (fun v1 h1 s1 => v1 = (some (.int (bI (g_can S (nI u) (nI r) (nI d))))) ∧ h1 = h ∧ s1 = sz)) h sz 0 0 6 [(0, .ref mo), (1, .int (nI u)), (2, .int (nI r)), (3, .int (nI d)), (4, .int (bI (anyB (fun i => g_fits S (g_hand S (nI u) (nI i)) (nI r) (nI d)) i))), (5, .int (nI i))] []) (k) ?_ ?_
  · refine r_iload C dX6_canLay_6 rfl ?_
    refine r_aload_n C dX6_canLay_8 rfl rfl ?_
    refine r_get C (j := 1) rfl in_X6 (MA_o w) (by decide) fl_X6_7 rfl rfl dX6_canLay_9 ?_
    refine r_sipush C (v := 337) dX6_canLay_12 rfl ?_
    refine r_iload_n C dX6_canLay_15 rfl rfl ?_
    refine r_iadd C dX6_canLay_16 ?_
    refine V.st0 (nI_add (337) (u)) ?_
    refine r_iald C (MA_s w) (vp_in_nI (by omega) (by decide)) dX6_canLay_17 ?_
    refine V.st0 (en_tal0 (p := u) (by omega) _) ?_
    refine V.st0 (hk) ?_
    refine r_icmp_ge C 59 dX6_canLay_18 (by decide) (fun _ => ?_) (fun c => absurd (nI_le (Nat.le_refl k) (by omega)) c)
    refine r_iload C dX6_canLay_59 rfl ?_
    exact r_zret C rfl (by first | exact Or.inl rfl | exact Or.inr rfl | exact bI_01 _) (Nat.le_of_ble_eq_true rfl) (Nat.le_of_ble_eq_true rfl) ⟨by rw [hR], rfl, rfl⟩ dX6_canLay_61
  · intro i h_i ih_i
    obtain ⟨t, ht, et⟩ := hk2 i h_i
    refine r_iload C dX6_canLay_6 rfl ?_
    refine r_aload_n C dX6_canLay_8 rfl rfl ?_
    refine r_get C (j := 1) rfl in_X6 (MA_o w) (by decide) fl_X6_7 rfl rfl dX6_canLay_9 ?_
    refine r_sipush C (v := 337) dX6_canLay_12 rfl ?_
    refine r_iload_n C dX6_canLay_15 rfl rfl ?_
    refine r_iadd C dX6_canLay_16 ?_
    refine V.st0 (nI_add (337) (u)) ?_
    refine r_iald C (MA_s w) (vp_in_nI (by omega) (by decide)) dX6_canLay_17 ?_
    refine V.st0 (en_tal0 (p := u) (by omega) _) ?_
    refine V.st0 (hk) ?_
    refine r_icmp_ge C 59 dX6_canLay_18 (by decide) (fun c => absurd c (nI_ge h_i (by omega))) (fun _ => ?_)
    apply V.cut 51 (bI (anyB (fun i => g_fits S (g_hand S (nI u) (nI i)) (nI r) (nI d)) (i + 1)))
    · intro K_51
      refine r_iload C dX6_canLay_21 rfl ?_
      refine r_if_ne C 46 dX6_canLay_23 (by decide) (fun c_23 => ?_) (fun c_23 => ?_)
      · have c_23 := bI_t c_23
        refine r_iconst C (v := 1) dX6_canLay_46 rfl ?_
        refine r_goto C 51 dX6_canLay_47 (by decide) ?_
        refine V.st0 (show _ = (bI (anyB (fun i => g_fits S (g_hand S (nI u) (nI i)) (nI r) (nI d)) (i + 1))) from by have h2 : (fun i => g_fits S (g_hand S (nI u) (nI i)) (nI r) (nI d)) i = g_fits S (nI t) (nI r) (nI d) := (by show g_fits S (tAt 28 112 (S 1) (nI u) (nI i)) _ _ = _; rw [et]); show _ = bI (anyB (fun i => g_fits S (g_hand S (nI u) (nI i)) (nI r) (nI d)) i || (fun i => g_fits S (g_hand S (nI u) (nI i)) (nI r) (nI d)) i); rw [h2]; simp [c_23, bI]) ?_
        exact K_51
      · have c_23 := bI_f c_23
        refine r_aload_n C dX6_canLay_26 rfl rfl ?_
        refine r_aload_n C dX6_canLay_27 rfl rfl ?_
        refine r_get C (j := 1) rfl in_X6 (MA_o w) (by decide) fl_X6_7 rfl rfl dX6_canLay_28 ?_
        refine r_iload_n C dX6_canLay_31 rfl rfl ?_
        refine r_iload C dX6_canLay_32 rfl ?_
        refine r_cSi C (c_X6_inHand (a := u) (b := i)) lk_X6_48 rfl rfl ⟨(Nat.le_of_ble_eq_true rfl), (Nat.le_of_ble_eq_true rfl), (Nat.le_of_ble_eq_true rfl), (Nat.le_of_ble_eq_true rfl), (Nat.le_of_ble_eq_true rfl)⟩ dX6_canLay_34 ?_
        refine r_iald C (MA_s w) (vp_in_nI (by omega) (by decide)) dX6_canLay_37 ?_
        refine V.st0 (en_ih (p := u) (i := i) (by omega) (by omega) _) ?_
        refine V.st0 (et) ?_
        refine r_iload_n C dX6_canLay_38 rfl rfl ?_
        refine r_iload_n C dX6_canLay_39 rfl rfl ?_
        refine r_cVi C (c_X6_fits (t := t) (r := r) (d := d) w rfl ht hr hee) lk_X6_76 rfl (MA_o w) rfl rfl ⟨(Nat.le_of_ble_eq_true rfl), (Nat.le_of_ble_eq_true rfl), (Nat.le_of_ble_eq_true rfl), (Nat.le_of_ble_eq_true rfl), (Nat.le_of_ble_eq_true rfl)⟩ dX6_canLay_40 ?_
        refine r_if_eq C 50 dX6_canLay_43 (by decide) (fun c_43 => ?_) (fun c_43 => ?_)
        · have c_43 := bI_f c_43
          refine r_iconst C (v := 0) dX6_canLay_50 rfl ?_
          refine V.st0 (show _ = (bI (anyB (fun i => g_fits S (g_hand S (nI u) (nI i)) (nI r) (nI d)) (i + 1))) from by have h2 : (fun i => g_fits S (g_hand S (nI u) (nI i)) (nI r) (nI d)) i = g_fits S (nI t) (nI r) (nI d) := (by show g_fits S (tAt 28 112 (S 1) (nI u) (nI i)) _ _ = _; rw [et]); show _ = bI (anyB (fun i => g_fits S (g_hand S (nI u) (nI i)) (nI r) (nI d)) i || (fun i => g_fits S (g_hand S (nI u) (nI i)) (nI r) (nI d)) i); rw [h2]; simp [c_23, c_43, bI]) ?_
          exact K_51
        · have c_43 := bI_t c_43
          refine r_iconst C (v := 1) dX6_canLay_46 rfl ?_
          refine r_goto C 51 dX6_canLay_47 (by decide) ?_
          refine V.st0 (show _ = (bI (anyB (fun i => g_fits S (g_hand S (nI u) (nI i)) (nI r) (nI d)) (i + 1))) from by have h2 : (fun i => g_fits S (g_hand S (nI u) (nI i)) (nI r) (nI d)) i = g_fits S (nI t) (nI r) (nI d) := (by show g_fits S (tAt 28 112 (S 1) (nI u) (nI i)) _ _ = _; rw [et]); show _ = bI (anyB (fun i => g_fits S (g_hand S (nI u) (nI i)) (nI r) (nI d)) i || (fun i => g_fits S (g_hand S (nI u) (nI i)) (nI r) (nI d)) i); rw [h2]; simp [c_23, c_43, bI]) ?_
          exact K_51
    · skip
      refine r_istore C dX6_canLay_51 (by decide) ?_
      refine r_iinc C (v := 1) dX6_canLay_53 rfl rfl (by decide) ?_
      refine r_goto C 6 dX6_canLay_56 (by decide) ?_
      refine V.sub [(0, .ref mo), (1, .int (nI u)), (2, .int (nI r)), (3, .int (nI d)), (4, .int (bI (anyB (fun i => g_fits S (g_hand S (nI u) (nI i)) (nI r) (nI d)) (i + 1)))), (5, .int (nI (i + 1)))] ⟨rfl, rfl, rfl, rfl, rfl, by rw [← nI_1 i]; rfl, trivial⟩ ?_
      exact ih_i

