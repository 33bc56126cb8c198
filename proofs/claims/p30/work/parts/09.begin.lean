/-! GAME: beginning, becoming another, making one -/
/-- the number of the first tile whose first half is a -/
def tT : Nat → Nat
  | 0 => 0
  | a + 1 => tT a + (7 - a)
def g_mt1 (S : gS) (t a b : Int32) : gS := gP (gP (gP (gP (gP S 0 t 0 a) 0 t 1 b) 0 t 2 0) 0 t 3 (-1)) 0 t 5 (-1)
def g_mtI (S : gS) (a : Nat) : Nat → gS
  | 0 => S
  | k + 1 => g_mt1 (g_mtI S a k) (nI (tT a + k)) (nI a) (nI (a + k))
def g_mtO (S : gS) : Nat → gS
  | 0 => gZ S 0
  | a + 1 => g_mtI (g_mtO S a) a (7 - a)
def g_mr1 (S : gS) (r : Int32) : gS := gP (gP (gP (gP S 3 r 0 0) 3 r 1 (-1)) 3 r 2 (-1)) 3 r 3 (-1)
def g_mr (S : gS) : Nat → gS
  | 0 => S
  | i + 1 => g_mr1 (g_mr S i) (nI i)
def g_dI (S : gS) (p : Int32) : Nat → gS
  | 0 => S
  | i + 1 => g_take (g_dI S p i) p
def g_dO (S : gS) : Nat → gS
  | 0 => S
  | i + 1 => g_dI (g_dO S i) (nI i) 5
theorem tT_le {a : Nat} (h : a ≤ 7) : tT a ≤ 28 := by
  match a, h with
  | 0, _ => decide
  | 1, _ => decide
  | 2, _ => decide
  | 3, _ => decide
  | 4, _ => decide
  | 5, _ => decide
  | 6, _ => decide
  | 7, _ => decide
set_option maxHeartbeats 800000 in
set_option maxRecDepth 100000 in
theorem c_X0_makeTiles {G : ga_} {l : Launch} {h : HP} {sz : Nat} {g : Nat} {S : gS}  (w : GA G h g S)  : Mf G l yX0_makeTiles cX0_makeTiles 4 none 2 43 0 0 [.ref g] h sz none (pG G h g (g_mtO S 7)) sz := by
  refine Mg.ofV [(0, .ref g)] (by decide) (Nat.le_of_ble_eq_true rfl) rfl ?_
  intro p e s m args below meth c C
  refine r_aload_n C dX0_makeTiles_0 rfl rfl ?_
  refine r_get C (j := 0) rfl in_X0 (GA_o w) (by decide) fl_X0_14 rfl rfl dX0_makeTiles_1 ?_
  refine r_cVv C (c_clear0 w) lk_X0_61 rfl (GA_t0 w) rfl rfl ⟨(Nat.le_of_ble_eq_true rfl), (Nat.le_of_ble_eq_true rfl), (Nat.le_of_ble_eq_true rfl), (Nat.le_of_ble_eq_true rfl), (Nat.le_of_ble_eq_true rfl)⟩ dX0_makeTiles_4 ?_
  refine r_iconst C (v := 0) dX0_makeTiles_7 rfl ?_
  refine r_istore_n C dX0_makeTiles_8 rfl (by decide) ?_
  refine r_iconst C (v := 0) dX0_makeTiles_9 rfl ?_
  refine r_istore_n C dX0_makeTiles_10 rfl (by decide) ?_
  refine V.sub [(0, .ref g), (1, .int (nI (tT 0))), (2, .int (nI 0))] ⟨rfl, rfl, rfl, trivial⟩ ?_
  refine down_ (P := fun i => V p l e ⟨2, 0, 0, 43⟩ s m args below meth c G 4 (Qg G below args s 0 0 (fun v1 h1 s1 => v1 = none ∧ h1 = (pG G h g (g_mtO S 7)) ∧ s1 = sz)) (pG G h g (g_mtO S i)) sz 0 0 11 [(0, .ref g), (1, .int (nI (tT i))), (2, .int (nI i))] []) (7) ?_ ?_
  · refine r_iload_n C dX0_makeTiles_11 rfl rfl ?_
    refine r_bipush C (v := 7) dX0_makeTiles_12 rfl ?_
    refine r_icmp_ge C 90 dX0_makeTiles_14 (by decide) (fun _ => ?_) (fun c => absurd (by decide) c)
    exact r_vret C rfl (Nat.le_of_ble_eq_true rfl) (Nat.le_of_ble_eq_true rfl) ⟨rfl, rfl, rfl⟩ dX0_makeTiles_90
  · intro i h_i ih_i
    refine r_iload_n C dX0_makeTiles_11 rfl rfl ?_
    refine r_bipush C (v := 7) dX0_makeTiles_12 rfl ?_
    refine r_icmp_ge C 90 dX0_makeTiles_14 (by decide) (fun c => absurd c (nI_ge (b := 7) h_i (by decide))) (fun _ => ?_)
    refine r_iload_n C dX0_makeTiles_17 rfl rfl ?_
    refine r_istore_n C dX0_makeTiles_18 rfl (by decide) ?_
    refine V.sub [(0, .ref g), (1, .int (nI (tT i + 0))), (2, .int (nI i)), (3, .int (nI (i + 0)))] ⟨rfl, rfl, rfl, rfl, trivial⟩ ?_
    refine down_ (P := fun j => V p l e ⟨2, 0, 0, 43⟩ s m args below meth c G 4 (Qg G below args s 0 0 (fun v1 h1 s1 => v1 = none ∧ h1 = (pG G h g (g_mtO S 7)) ∧ s1 = sz)) (pG G h g (g_mtI (g_mtO S i) i j)) sz 0 0 19 [(0, .ref g), (1, .int (nI (tT i + j))), (2, .int (nI i)), (3, .int (nI (i + j)))] []) (7 - i) ?_ ?_
    · refine r_iload_n C dX0_makeTiles_19 rfl rfl ?_
      refine r_bipush C (v := 7) dX0_makeTiles_20 rfl ?_
      refine r_icmp_ge C 84 dX0_makeTiles_22 (by decide) (fun _ => ?_) (fun c => absurd (tn_le2 (x := 7) (by omega) (by show 7 ≤ i + (7 - i); omega)) c)
      refine r_iinc C (v := 1) dX0_makeTiles_84 rfl rfl (by decide) ?_
      refine r_goto C 11 dX0_makeTiles_87 (by decide) ?_
      refine V.sub [(0, .ref g), (1, .int (nI (tT (i + 1)))), (2, .int (nI (i + 1)))] ⟨rfl, rfl, (by rw [← nI_1 i]; rfl), trivial⟩ ?_
      exact ih_i
    · intro j h_j ih_j
      refine r_iload_n C dX0_makeTiles_19 rfl rfl ?_
      refine r_bipush C (v := 7) dX0_makeTiles_20 rfl ?_
      refine r_icmp_ge C 84 dX0_makeTiles_22 (by decide) (fun c => absurd c (tn_nle (x := 7) (by show i + j < 7; omega))) (fun _ => ?_)
      refine r_aload_n C dX0_makeTiles_25 rfl rfl ?_
      refine r_get C (j := 0) rfl in_X0 (GA_o GA_pG) (by decide) fl_X0_14 rfl rfl dX0_makeTiles_26 ?_
      refine r_iload_n C dX0_makeTiles_29 rfl rfl ?_
      refine r_iconst C (v := 0) dX0_makeTiles_30 rfl ?_
      refine r_iload_n C dX0_makeTiles_31 rfl rfl ?_
      refine r_cVv C (c_put0 GA_pG) lk_X0_77 rfl (GA_t0 GA_pG) rfl rfl ⟨(Nat.le_of_ble_eq_true rfl), (Nat.le_of_ble_eq_true rfl), (Nat.le_of_ble_eq_true rfl), (Nat.le_of_ble_eq_true rfl), (Nat.le_of_ble_eq_true rfl)⟩ dX0_makeTiles_32 ?_
      refine r_aload_n C dX0_makeTiles_35 rfl rfl ?_
      refine r_get C (j := 0) rfl in_X0 (GA_o GA_pG) (by decide) fl_X0_14 rfl rfl dX0_makeTiles_36 ?_
      refine r_iload_n C dX0_makeTiles_39 rfl rfl ?_
      refine r_iconst C (v := 1) dX0_makeTiles_40 rfl ?_
      refine r_iload_n C dX0_makeTiles_41 rfl rfl ?_
      refine r_cVv C (c_put0 GA_pG) lk_X0_77 rfl (GA_t0 GA_pG) rfl rfl ⟨(Nat.le_of_ble_eq_true rfl), (Nat.le_of_ble_eq_true rfl), (Nat.le_of_ble_eq_true rfl), (Nat.le_of_ble_eq_true rfl), (Nat.le_of_ble_eq_true rfl)⟩ dX0_makeTiles_42 ?_
      refine r_aload_n C dX0_makeTiles_45 rfl rfl ?_
      refine r_get C (j := 0) rfl in_X0 (GA_o GA_pG) (by decide) fl_X0_14 rfl rfl dX0_makeTiles_46 ?_
      refine r_iload_n C dX0_makeTiles_49 rfl rfl ?_
      refine r_iconst C (v := 2) dX0_makeTiles_50 rfl ?_
      refine r_iconst C (v := 0) dX0_makeTiles_51 rfl ?_
      refine r_cVv C (c_put0 GA_pG) lk_X0_77 rfl (GA_t0 GA_pG) rfl rfl ⟨(Nat.le_of_ble_eq_true rfl), (Nat.le_of_ble_eq_true rfl), (Nat.le_of_ble_eq_true rfl), (Nat.le_of_ble_eq_true rfl), (Nat.le_of_ble_eq_true rfl)⟩ dX0_makeTiles_52 ?_
      refine r_aload_n C dX0_makeTiles_55 rfl rfl ?_
      refine r_get C (j := 0) rfl in_X0 (GA_o GA_pG) (by decide) fl_X0_14 rfl rfl dX0_makeTiles_56 ?_
      refine r_iload_n C dX0_makeTiles_59 rfl rfl ?_
      refine r_iconst C (v := 3) dX0_makeTiles_60 rfl ?_
      refine r_iconst C (v := -1) dX0_makeTiles_61 rfl ?_
      refine r_cVv C (c_put0 GA_pG) lk_X0_77 rfl (GA_t0 GA_pG) rfl rfl ⟨(Nat.le_of_ble_eq_true rfl), (Nat.le_of_ble_eq_true rfl), (Nat.le_of_ble_eq_true rfl), (Nat.le_of_ble_eq_true rfl), (Nat.le_of_ble_eq_true rfl)⟩ dX0_makeTiles_62 ?_
      refine r_aload_n C dX0_makeTiles_65 rfl rfl ?_
      refine r_get C (j := 0) rfl in_X0 (GA_o GA_pG) (by decide) fl_X0_14 rfl rfl dX0_makeTiles_66 ?_
      refine r_iload_n C dX0_makeTiles_69 rfl rfl ?_
      refine r_iconst C (v := 5) dX0_makeTiles_70 rfl ?_
      refine r_iconst C (v := -1) dX0_makeTiles_71 rfl ?_
      refine r_cVv C (c_put0 GA_pG) lk_X0_77 rfl (GA_t0 GA_pG) rfl rfl ⟨(Nat.le_of_ble_eq_true rfl), (Nat.le_of_ble_eq_true rfl), (Nat.le_of_ble_eq_true rfl), (Nat.le_of_ble_eq_true rfl), (Nat.le_of_ble_eq_true rfl)⟩ dX0_makeTiles_72 ?_
      refine r_iinc C (v := 1) dX0_makeTiles_75 rfl rfl (by decide) ?_
      refine r_iinc C (v := 1) dX0_makeTiles_78 rfl rfl (by decide) ?_
      refine r_goto C 19 dX0_makeTiles_81 (by decide) ?_
      refine V.heap (h2 := (pG G h g (g_mtI (g_mtO S i) i (j + 1)))) (by simp only [pG_pG]; rfl) ?_
      refine V.sub [(0, .ref g), (1, .int (nI (tT i + (j + 1)))), (2, .int (nI i)), (3, .int (nI (i + (j + 1))))] ⟨rfl, by rw [show tT i + (j + 1) = tT i + j + 1 by omega, ← nI_1 (tT i + j)]; rfl, rfl, by rw [show i + (j + 1) = i + j + 1 by omega, ← nI_1 (i + j)]; rfl, trivial⟩ ?_
      exact ih_j

set_option maxHeartbeats 800000 in
set_option maxRecDepth 100000 in
theorem c_X0_makeRows {G : ga_} {l : Launch} {h : HP} {sz : Nat} {g : Nat} {S : gS}  (w : GA G h g S)  : Mf G l yX0_makeRows cX0_makeRows 2 none 1 24 0 0 [.ref g] h sz none (pG G h g (g_mr S 3)) sz := by
  refine Mg.ofV [(0, .ref g)] (by decide) (Nat.le_of_ble_eq_true rfl) rfl ?_
  intro p e s m args below meth c C
  refine r_iconst C (v := 0) dX0_makeRows_0 rfl ?_
  refine r_istore_n C dX0_makeRows_1 rfl (by decide) ?_
  refine V.heap (pG_id w).symm ?_
  refine V.sub [(0, .ref g), (1, .int (nI 0))] ⟨rfl, rfl, trivial⟩ ?_
  refine down_ (P := fun i => V p l e ⟨1, 0, 0, 24⟩ s m args below meth c G 2 (Qg G below args s 0 0 (fun v1 h1 s1 => v1 = none ∧ h1 = (pG G h g (g_mr S 3)) ∧ s1 = sz)) (pG G h g (g_mr S i)) sz 0 0 2 [(0, .ref g), (1, .int (nI i))] []) (3) ?_ ?_
  · refine r_iload_n C dX0_makeRows_2 rfl rfl ?_
    refine r_iconst C (v := 3) dX0_makeRows_3 rfl ?_
    refine r_icmp_ge C 53 dX0_makeRows_4 (by decide) (fun _ => ?_) (fun c => absurd (by decide) c)
    exact r_vret C rfl (Nat.le_of_ble_eq_true rfl) (Nat.le_of_ble_eq_true rfl) ⟨rfl, rfl, rfl⟩ dX0_makeRows_53
  · intro i h_i ih_i
    refine r_iload_n C dX0_makeRows_2 rfl rfl ?_
    refine r_iconst C (v := 3) dX0_makeRows_3 rfl ?_
    refine r_icmp_ge C 53 dX0_makeRows_4 (by decide) (fun c => absurd c (nI_ge (b := 3) h_i (by decide))) (fun _ => ?_)
    refine r_aload_n C dX0_makeRows_7 rfl rfl ?_
    refine r_get C (j := 3) rfl in_X0 (GA_o GA_pG) (by decide) fl_X0_26 rfl rfl dX0_makeRows_8 ?_
    refine r_iload_n C dX0_makeRows_11 rfl rfl ?_
    refine r_iconst C (v := 0) dX0_makeRows_12 rfl ?_
    refine r_iconst C (v := 0) dX0_makeRows_13 rfl ?_
    refine r_cVv C (c_put3 GA_pG) lk_X0_77 rfl (GA_t3 GA_pG) rfl rfl ⟨(Nat.le_of_ble_eq_true rfl), (Nat.le_of_ble_eq_true rfl), (Nat.le_of_ble_eq_true rfl), (Nat.le_of_ble_eq_true rfl), (Nat.le_of_ble_eq_true rfl)⟩ dX0_makeRows_14 ?_
    refine r_aload_n C dX0_makeRows_17 rfl rfl ?_
    refine r_get C (j := 3) rfl in_X0 (GA_o GA_pG) (by decide) fl_X0_26 rfl rfl dX0_makeRows_18 ?_
    refine r_iload_n C dX0_makeRows_21 rfl rfl ?_
    refine r_iconst C (v := 1) dX0_makeRows_22 rfl ?_
    refine r_iconst C (v := -1) dX0_makeRows_23 rfl ?_
    refine r_cVv C (c_put3 GA_pG) lk_X0_77 rfl (GA_t3 GA_pG) rfl rfl ⟨(Nat.le_of_ble_eq_true rfl), (Nat.le_of_ble_eq_true rfl), (Nat.le_of_ble_eq_true rfl), (Nat.le_of_ble_eq_true rfl), (Nat.le_of_ble_eq_true rfl)⟩ dX0_makeRows_24 ?_
    refine r_aload_n C dX0_makeRows_27 rfl rfl ?_
    refine r_get C (j := 3) rfl in_X0 (GA_o GA_pG) (by decide) fl_X0_26 rfl rfl dX0_makeRows_28 ?_
    refine r_iload_n C dX0_makeRows_31 rfl rfl ?_
    refine r_iconst C (v := 2) dX0_makeRows_32 rfl ?_
    refine r_iconst C (v := -1) dX0_makeRows_33 rfl ?_
    refine r_cVv C (c_put3 GA_pG) lk_X0_77 rfl (GA_t3 GA_pG) rfl rfl ⟨(Nat.le_of_ble_eq_true rfl), (Nat.le_of_ble_eq_true rfl), (Nat.le_of_ble_eq_true rfl), (Nat.le_of_ble_eq_true rfl), (Nat.le_of_ble_eq_true rfl)⟩ dX0_makeRows_34 ?_
    refine r_aload_n C dX0_makeRows_37 rfl rfl ?_
    refine r_get C (j := 3) rfl in_X0 (GA_o GA_pG) (by decide) fl_X0_26 rfl rfl dX0_makeRows_38 ?_
    refine r_iload_n C dX0_makeRows_41 rfl rfl ?_
    refine r_iconst C (v := 3) dX0_makeRows_42 rfl ?_
    refine r_iconst C (v := -1) dX0_makeRows_43 rfl ?_
    refine r_cVv C (c_put3 GA_pG) lk_X0_77 rfl (GA_t3 GA_pG) rfl rfl ⟨(Nat.le_of_ble_eq_true rfl), (Nat.le_of_ble_eq_true rfl), (Nat.le_of_ble_eq_true rfl), (Nat.le_of_ble_eq_true rfl), (Nat.le_of_ble_eq_true rfl)⟩ dX0_makeRows_44 ?_
    refine r_iinc C (v := 1) dX0_makeRows_47 rfl rfl (by decide) ?_
    refine r_goto C 2 dX0_makeRows_50 (by decide) ?_
    refine V.heap (h2 := (pG G h g (g_mr S (i + 1)))) (by simp only [pG_pG]; rfl) ?_
    refine V.sub [(0, .ref g), (1, .int (nI (i + 1)))] ⟨rfl, (by rw [← nI_1 i]; rfl), trivial⟩ ?_
    exact ih_i

theorem g_dI_n (S : gS) (p : Int32) (i : Nat) : g_dI S p i 5 0 = S 5 0 := by
  induction i with
  | zero => rfl
  | succ i ih => exact ih
theorem g_dO_n (S : gS) (i : Nat) : g_dO S i 5 0 = S 5 0 := by
  induction i with
  | zero => rfl
  | succ i ih => exact (g_dI_n _ _ 5).trans ih
set_option maxHeartbeats 800000 in
set_option maxRecDepth 100000 in
theorem c_X0_deal {G : ga_} {l : Launch} {h : HP} {sz : Nat} {g : Nat} {S : gS}  (w : GA G h g S)  : Mf G l yX0_deal cX0_deal 3 none 3 66 0 0 [.ref g] h sz none (pG G h g (g_dO S (S 5 0).toNatClampNeg)) sz := by
  refine Mg.ofV [(0, .ref g)] (by decide) (Nat.le_of_ble_eq_true rfl) rfl ?_
  intro p e s m args below meth c C
  refine r_iconst C (v := 0) dX0_deal_0 rfl ?_
  refine r_istore_n C dX0_deal_1 rfl (by decide) ?_
  refine V.heap (pG_id w).symm ?_
  refine V.sub [(0, .ref g), (1, .int (nI 0))] ⟨rfl, rfl, trivial⟩ ?_
  refine down_ (P := fun i => V p l e ⟨3, 0, 0, 66⟩ s m args below meth c G 3 (Qg G below args s 0 0 (fun v1 h1 s1 => v1 = none ∧ h1 = (pG G h g (g_dO S (S 5 0).toNatClampNeg)) ∧ s1 = sz)) (pG G h g (g_dO S i)) sz 0 0 2 [(0, .ref g), (1, .int (nI i))] []) ((S 5 0).toNatClampNeg) ?_ ?_
  · refine r_iload_n C dX0_deal_2 rfl rfl ?_
    refine r_aload_n C dX0_deal_3 rfl rfl ?_
    refine r_get C (j := 5) rfl in_X0 (GA_o GA_pG) (by decide) fl_X0_40 rfl rfl dX0_deal_4 ?_
    refine r_icmp_ge C 35 dX0_deal_7 (by decide) (fun _ => ?_) (fun c => absurd (by rw [g_dO_n]; exact tn_le _) c)
    exact r_vret C rfl (Nat.le_of_ble_eq_true rfl) (Nat.le_of_ble_eq_true rfl) ⟨rfl, rfl, rfl⟩ dX0_deal_35
  · intro i h_i ih_i
    refine r_iload_n C dX0_deal_2 rfl rfl ?_
    refine r_aload_n C dX0_deal_3 rfl rfl ?_
    refine r_get C (j := 5) rfl in_X0 (GA_o GA_pG) (by decide) fl_X0_40 rfl rfl dX0_deal_4 ?_
    refine r_icmp_ge C 35 dX0_deal_7 (by decide) (fun c => absurd c (by rw [g_dO_n]; exact tn_nle h_i)) (fun _ => ?_)
    refine r_iconst C (v := 0) dX0_deal_10 rfl ?_
    refine r_istore_n C dX0_deal_11 rfl (by decide) ?_
    refine V.sub [(0, .ref g), (1, .int (nI i)), (2, .int (nI 0))] ⟨rfl, rfl, rfl, trivial⟩ ?_
    refine down_ (P := fun j => V p l e ⟨3, 0, 0, 66⟩ s m args below meth c G 3 (Qg G below args s 0 0 (fun v1 h1 s1 => v1 = none ∧ h1 = (pG G h g (g_dO S (S 5 0).toNatClampNeg)) ∧ s1 = sz)) (pG G h g (g_dI (g_dO S i) (nI i) j)) sz 0 0 12 [(0, .ref g), (1, .int (nI i)), (2, .int (nI j))] []) (5) ?_ ?_
    · refine r_iload_n C dX0_deal_12 rfl rfl ?_
      refine r_iconst C (v := 5) dX0_deal_13 rfl ?_
      refine r_icmp_ge C 29 dX0_deal_14 (by decide) (fun _ => ?_) (fun c => absurd (by decide) c)
      refine r_iinc C (v := 1) dX0_deal_29 rfl rfl (by decide) ?_
      refine r_goto C 2 dX0_deal_32 (by decide) ?_
      refine V.sub [(0, .ref g), (1, .int (nI (i + 1)))] ⟨rfl, (by rw [← nI_1 i]; rfl), trivial⟩ ?_
      exact ih_i
    · intro j h_j ih_j
      refine r_iload_n C dX0_deal_12 rfl rfl ?_
      refine r_iconst C (v := 5) dX0_deal_13 rfl ?_
      refine r_icmp_ge C 29 dX0_deal_14 (by decide) (fun c => absurd c (nI_ge (b := 5) h_j (by decide))) (fun _ => ?_)
      refine r_aload_n C dX0_deal_17 rfl rfl ?_
      refine r_iload_n C dX0_deal_18 rfl rfl ?_
      refine r_cVi C (c_X0_takeFromStock GA_pG) lk_X0_88 rfl (GA_o GA_pG) rfl rfl ⟨(Nat.le_of_ble_eq_true rfl), (Nat.le_of_ble_eq_true rfl), (Nat.le_of_ble_eq_true rfl), (Nat.le_of_ble_eq_true rfl), (Nat.le_of_ble_eq_true rfl)⟩ dX0_deal_19 ?_
      refine r_pop C dX0_deal_22 rfl ?_
      refine r_iinc C (v := 1) dX0_deal_23 rfl rfl (by decide) ?_
      refine r_goto C 12 dX0_deal_26 (by decide) ?_
      refine V.heap (h2 := (pG G h g (g_dI (g_dO S i) (nI i) (j + 1)))) (by simp only [pG_pG]; rfl) ?_
      refine V.sub [(0, .ref g), (1, .int (nI i)), (2, .int (nI (j + 1)))] ⟨rfl, rfl, (by rw [← nI_1 j]; rfl), trivial⟩ ?_
      exact ih_j

/-- v (a tile's lot and its number, as one) goes to the place p or one ahead -/
def i_ins (v : Int32) : Nat → gS → gS
  | 0, S => gP S 4 0 (nI 0) v
  | p + 1, S => if v < tAt 28 28 (S 4) 0 (nI (p + 1) - 1) then i_ins v p (gP S 4 0 (nI (p + 1)) (tAt 28 28 (S 4) 0 (nI (p + 1) - 1))) else gP S 4 0 (nI (p + 1)) v
set_option maxHeartbeats 800000 in
set_option maxRecDepth 100000 in
theorem c_X0_insertInOrder {G : ga_} {l : Launch} {h : HP} {sz : Nat} {g : Nat} {S : gS} {v : Int32} {t : Nat} (w : GA G h g S) (htt : t < 28) : Mf G l yX0_insertInOrder cX0_insertInOrder 4 none 1 24 0 0 [.ref g, .int v, .int (nI t)] h sz none (pG G h g (i_ins v t S)) sz := by
  refine Mg.ofV [(0, .ref g), (1, .int v), (2, .int (nI t))] (by decide) (Nat.le_of_ble_eq_true rfl) rfl ?_
  intro p e s m args below meth c C

  have loop : ∀ (q : Nat) (S1 : gS), q < 28 → pG G h g (i_ins v q S1) = (pG G h g (i_ins v t S)) → V p l e ⟨1, 0, 0, 24⟩ s m args below meth c G 4 (Qg G below args s 0 0 (fun v1 h1 s1 => v1 = none ∧ h1 = (pG G h g (i_ins v t S)) ∧ s1 = sz)) (pG G h g S1) sz 0 0 2 [(0, .ref g), (1, .int v), (3, .int (nI q))] [] := by
    intro q
    induction q with
    | zero =>
      intro S1 hq hr
      refine r_iload_n C dX0_insertInOrder_2 rfl rfl ?_
      refine r_if_le C 47 dX0_insertInOrder_3 (by decide) (fun _ => ?_) (fun c => absurd (show nI 0 ≤ 0 by decide) c)
      refine r_aload_n C dX0_insertInOrder_47 rfl rfl ?_
      refine r_get C (j := 4) rfl in_X0 (GA_o GA_pG) (by decide) fl_X0_29 rfl rfl dX0_insertInOrder_48 ?_
      refine r_iconst C (v := 0) dX0_insertInOrder_51 rfl ?_
      refine r_iload_n C dX0_insertInOrder_52 rfl rfl ?_
      refine r_iload_n C dX0_insertInOrder_53 rfl rfl ?_
      refine r_cVv C (c_put4 GA_pG) lk_X0_77 rfl (GA_t4 GA_pG) rfl rfl ⟨(Nat.le_of_ble_eq_true rfl), (Nat.le_of_ble_eq_true rfl), (Nat.le_of_ble_eq_true rfl), (Nat.le_of_ble_eq_true rfl), (Nat.le_of_ble_eq_true rfl)⟩ dX0_insertInOrder_54 ?_
      refine V.heap (pG_pG _ _ _ _ _) ?_
      exact r_vret C rfl (Nat.le_of_ble_eq_true rfl) (Nat.le_of_ble_eq_true rfl) ⟨rfl, by rw [← hr]; rfl, rfl⟩ dX0_insertInOrder_57
    | succ q ih =>
      intro S1 hq hr
      refine r_iload_n C dX0_insertInOrder_2 rfl rfl ?_
      refine r_if_le C 47 dX0_insertInOrder_3 (by decide) (fun c => absurd c (nI_nle (by omega) (by omega))) (fun _ => ?_)
      refine r_aload_n C dX0_insertInOrder_6 rfl rfl ?_
      refine r_get C (j := 4) rfl in_X0 (GA_o GA_pG) (by decide) fl_X0_29 rfl rfl dX0_insertInOrder_7 ?_
      refine r_iconst C (v := 0) dX0_insertInOrder_10 rfl ?_
      refine r_iload_n C dX0_insertInOrder_11 rfl rfl ?_
      refine r_iconst C (v := 1) dX0_insertInOrder_12 rfl ?_
      refine r_isub C dX0_insertInOrder_13 ?_
      refine r_cVi C (c_at4 GA_pG) lk_X0_84 rfl (GA_t4 GA_pG) rfl rfl ⟨(Nat.le_of_ble_eq_true rfl), (Nat.le_of_ble_eq_true rfl), (Nat.le_of_ble_eq_true rfl), (Nat.le_of_ble_eq_true rfl), (Nat.le_of_ble_eq_true rfl)⟩ dX0_insertInOrder_14 ?_
      refine r_iload_n C dX0_insertInOrder_17 rfl rfl ?_
      refine r_icmp_le C 47 dX0_insertInOrder_18 (by decide) (fun c_18 => ?_) (fun c_18 => ?_)
      · have e_18 := i32_nlt c_18
        refine r_aload_n C dX0_insertInOrder_47 rfl rfl ?_
        refine r_get C (j := 4) rfl in_X0 (GA_o GA_pG) (by decide) fl_X0_29 rfl rfl dX0_insertInOrder_48 ?_
        refine r_iconst C (v := 0) dX0_insertInOrder_51 rfl ?_
        refine r_iload_n C dX0_insertInOrder_52 rfl rfl ?_
        refine r_iload_n C dX0_insertInOrder_53 rfl rfl ?_
        refine r_cVv C (c_put4 GA_pG) lk_X0_77 rfl (GA_t4 GA_pG) rfl rfl ⟨(Nat.le_of_ble_eq_true rfl), (Nat.le_of_ble_eq_true rfl), (Nat.le_of_ble_eq_true rfl), (Nat.le_of_ble_eq_true rfl), (Nat.le_of_ble_eq_true rfl)⟩ dX0_insertInOrder_54 ?_
        refine V.heap (pG_pG _ _ _ _ _) ?_
        exact r_vret C rfl (Nat.le_of_ble_eq_true rfl) (Nat.le_of_ble_eq_true rfl) ⟨rfl, by rw [← hr]; simp only [i_ins]; rw [if_neg e_18], rfl⟩ dX0_insertInOrder_57
      · have e_18 := i32_lt c_18
        refine r_aload_n C dX0_insertInOrder_21 rfl rfl ?_
        refine r_get C (j := 4) rfl in_X0 (GA_o GA_pG) (by decide) fl_X0_29 rfl rfl dX0_insertInOrder_22 ?_
        refine r_iconst C (v := 0) dX0_insertInOrder_25 rfl ?_
        refine r_iload_n C dX0_insertInOrder_26 rfl rfl ?_
        refine r_aload_n C dX0_insertInOrder_27 rfl rfl ?_
        refine r_get C (j := 4) rfl in_X0 (GA_o GA_pG) (by decide) fl_X0_29 rfl rfl dX0_insertInOrder_28 ?_
        refine r_iconst C (v := 0) dX0_insertInOrder_31 rfl ?_
        refine r_iload_n C dX0_insertInOrder_32 rfl rfl ?_
        refine r_iconst C (v := 1) dX0_insertInOrder_33 rfl ?_
        refine r_isub C dX0_insertInOrder_34 ?_
        refine r_cVi C (c_at4 GA_pG) lk_X0_84 rfl (GA_t4 GA_pG) rfl rfl ⟨(Nat.le_of_ble_eq_true rfl), (Nat.le_of_ble_eq_true rfl), (Nat.le_of_ble_eq_true rfl), (Nat.le_of_ble_eq_true rfl), (Nat.le_of_ble_eq_true rfl)⟩ dX0_insertInOrder_35 ?_
        refine r_cVv C (c_put4 GA_pG) lk_X0_77 rfl (GA_t4 GA_pG) rfl rfl ⟨(Nat.le_of_ble_eq_true rfl), (Nat.le_of_ble_eq_true rfl), (Nat.le_of_ble_eq_true rfl), (Nat.le_of_ble_eq_true rfl), (Nat.le_of_ble_eq_true rfl)⟩ dX0_insertInOrder_38 ?_
        refine V.heap (pG_pG _ _ _ _ _) ?_
        refine r_iinc C (v := -1) dX0_insertInOrder_41 rfl rfl (by decide) ?_
        refine r_goto C 2 dX0_insertInOrder_44 (by decide) ?_
        refine V.sub [(0, .ref g), (1, .int v), (3, .int (nI q))] ⟨rfl, rfl, by rw [show nI (q + 1) + -1 = nI q from pk_m1 q]; rfl, trivial⟩ ?_
        exact ih _ (by omega) (by rw [← hr]; simp only [i_ins]; rw [if_pos e_18])
  refine r_iload_n C dX0_insertInOrder_0 rfl rfl ?_
  refine r_istore_n C dX0_insertInOrder_1 rfl (by decide) ?_
  refine V.heap (pG_id w).symm ?_
  refine V.sub [(0, .ref g), (1, .int v), (3, .int (nI t))] ⟨rfl, rfl, rfl, trivial⟩ ?_
  exact loop t S htt rfl
def i_lot (x : Int32) : Int32 := x * 421 + 1663 - (x * 421 + 1663) / 10000 * 10000
def i_ord1 (t : Nat) (S : gS) : gS := i_ins (i_lot (S 5 6) * 28 + nI t) t (gc S 6 (i_lot (S 5 6)))
def i_ord (S : gS) (x : Int32) : Nat → gS
  | 0 => gc S 6 x
  | t + 1 => i_ord1 t (i_ord S x t)
def i_m28 (v : Int32) : Int32 := v - v / 28 * 28
/-- the lots go out again: the tiles are left -/
def i_mod (S : gS) : Nat → gS
  | 0 => S
  | p + 1 => gP (i_mod S p) 4 0 (nI p) (i_m28 (tAt 28 28 ((i_mod S p) 4) 0 (nI p)))
def s_0 (S : gS) (n : Int32) : gS := gc (gc (gc (gc (gc S 0 n) 1 0) 2 0) 3 0) 4 0
def s_1 (S : gS) (n : Int32) : gS := g_mr (g_mtO (gZ (gZ (s_0 S n) 1) 2) 7) 3
def s_2 (S : gS) (n x : Int32) : gS := i_mod (i_ord (s_1 S n) x 28) 28
def s_3 (S : gS) (n x : Int32) : gS := g_dO (s_2 S n x) ((s_2 S n x) 5 0).toNatClampNeg
set_option maxHeartbeats 800000 in
set_option maxRecDepth 100000 in
theorem c_X0_orderStock {G : ga_} {l : Launch} {h : HP} {sz : Nat} {g : Nat} {S : gS} {x : Int32}  (w : GA G h g S)  : Mf G l yX0_orderStock cX0_orderStock 3 none 2 47 0 0 [.ref g, .int x] h sz none (pG G h g (i_mod (i_ord S x 28) 28)) sz := by
  refine Mg.ofV [(0, .ref g), (1, .int x)] (by decide) (Nat.le_of_ble_eq_true rfl) rfl ?_
  intro p e s m args below meth c C
  refine r_aload_n C dX0_orderStock_0 rfl rfl ?_
  refine r_iload_n C dX0_orderStock_1 rfl rfl ?_
  refine r_put C (j := 11) tyX0 tyX0_ok nmX0 rfl in_X0 (GA_o w) (by decide) fl_X0_58 rfl rfl rfl (by first | rfl | decide) (by first | rfl | decide) (Nat.le_of_ble_eq_true rfl) dX0_orderStock_2 ?_
  refine V.heap (pG_num w 6 _ rfl) ?_
  refine r_iconst C (v := 0) dX0_orderStock_5 rfl ?_
  refine r_istore_n C dX0_orderStock_6 rfl (by decide) ?_
  refine V.sub [(0, .ref g), (2, .int (nI 0))] ⟨rfl, rfl, trivial⟩ ?_
  refine down_ (P := fun i => V p l e ⟨2, 0, 0, 47⟩ s m args below meth c G 3 (Qg G below args s 0 0 (fun v1 h1 s1 => v1 = none ∧ h1 = (pG G h g (i_mod (i_ord S x 28) 28)) ∧ s1 = sz)) (pG G h g (i_ord S x i)) sz 0 0 7 [(0, .ref g), (2, .int (nI i))] []) (28) ?_ ?_
  · refine r_iload_n C dX0_orderStock_7 rfl rfl ?_
    refine r_bipush C (v := 28) dX0_orderStock_8 rfl ?_
    refine r_icmp_ge C 53 dX0_orderStock_10 (by decide) (fun _ => ?_) (fun c => absurd (by decide) c)
    refine r_iconst C (v := 0) dX0_orderStock_53 rfl ?_
    refine r_istore_n C dX0_orderStock_54 rfl (by decide) ?_
    refine V.sub [(0, .ref g), (2, .int (nI 0))] ⟨rfl, rfl, trivial⟩ ?_
    refine down_ (P := fun j => V p l e ⟨2, 0, 0, 47⟩ s m args below meth c G 3 (Qg G below args s 0 0 (fun v1 h1 s1 => v1 = none ∧ h1 = (pG G h g (i_mod (i_ord S x 28) 28)) ∧ s1 = sz)) (pG G h g (i_mod (i_ord S x 28) j)) sz 0 0 55 [(0, .ref g), (2, .int (nI j))] []) (28) ?_ ?_
    · refine r_iload_n C dX0_orderStock_55 rfl rfl ?_
      refine r_bipush C (v := 28) dX0_orderStock_56 rfl ?_
      refine r_icmp_ge C 88 dX0_orderStock_58 (by decide) (fun _ => ?_) (fun c => absurd (by decide) c)
      exact r_vret C rfl (Nat.le_of_ble_eq_true rfl) (Nat.le_of_ble_eq_true rfl) ⟨rfl, rfl, rfl⟩ dX0_orderStock_88
    · intro j h_j ih_j
      refine r_iload_n C dX0_orderStock_55 rfl rfl ?_
      refine r_bipush C (v := 28) dX0_orderStock_56 rfl ?_
      refine r_icmp_ge C 88 dX0_orderStock_58 (by decide) (fun c => absurd c (nI_ge (b := 28) h_j (by decide))) (fun _ => ?_)
      refine r_aload_n C dX0_orderStock_61 rfl rfl ?_
      refine r_get C (j := 4) rfl in_X0 (GA_o GA_pG) (by decide) fl_X0_29 rfl rfl dX0_orderStock_62 ?_
      refine r_iconst C (v := 0) dX0_orderStock_65 rfl ?_
      refine r_iload_n C dX0_orderStock_66 rfl rfl ?_
      refine r_aload_n C dX0_orderStock_67 rfl rfl ?_
      refine r_get C (j := 4) rfl in_X0 (GA_o GA_pG) (by decide) fl_X0_29 rfl rfl dX0_orderStock_68 ?_
      refine r_iconst C (v := 0) dX0_orderStock_71 rfl ?_
      refine r_iload_n C dX0_orderStock_72 rfl rfl ?_
      refine r_cVi C (c_at4 GA_pG) lk_X0_84 rfl (GA_t4 GA_pG) rfl rfl ⟨(Nat.le_of_ble_eq_true rfl), (Nat.le_of_ble_eq_true rfl), (Nat.le_of_ble_eq_true rfl), (Nat.le_of_ble_eq_true rfl), (Nat.le_of_ble_eq_true rfl)⟩ dX0_orderStock_73 ?_
      refine r_bipush C (v := 28) dX0_orderStock_76 rfl ?_
      refine r_irem C dX0_orderStock_78 (by decide) ?_
      refine r_cVv C (c_put4 GA_pG) lk_X0_77 rfl (GA_t4 GA_pG) rfl rfl ⟨(Nat.le_of_ble_eq_true rfl), (Nat.le_of_ble_eq_true rfl), (Nat.le_of_ble_eq_true rfl), (Nat.le_of_ble_eq_true rfl), (Nat.le_of_ble_eq_true rfl)⟩ dX0_orderStock_79 ?_
      refine V.heap (pG_pG _ _ _ _ _) ?_
      refine r_iinc C (v := 1) dX0_orderStock_82 rfl rfl (by decide) ?_
      refine r_goto C 55 dX0_orderStock_85 (by decide) ?_
      refine V.heap (h2 := (pG G h g (i_mod (i_ord S x 28) (j + 1)))) (rfl) ?_
      refine V.sub [(0, .ref g), (2, .int (nI (j + 1)))] ⟨rfl, (by rw [← nI_1 j]; rfl), trivial⟩ ?_
      exact ih_j
  · intro i h_i ih_i
    refine r_iload_n C dX0_orderStock_7 rfl rfl ?_
    refine r_bipush C (v := 28) dX0_orderStock_8 rfl ?_
    refine r_icmp_ge C 53 dX0_orderStock_10 (by decide) (fun c => absurd c (nI_ge (b := 28) h_i (by decide))) (fun _ => ?_)
    refine r_aload_n C dX0_orderStock_13 rfl rfl ?_
    refine r_aload_n C dX0_orderStock_14 rfl rfl ?_
    refine r_get C (j := 11) rfl in_X0 (GA_o GA_pG) (by decide) fl_X0_58 rfl rfl dX0_orderStock_15 ?_
    refine r_sipush C (v := 421) dX0_orderStock_18 rfl ?_
    refine r_imul C dX0_orderStock_21 ?_
    refine r_sipush C (v := 1663) dX0_orderStock_22 rfl ?_
    refine r_iadd C dX0_orderStock_25 ?_
    refine r_sipush C (v := 10000) dX0_orderStock_26 rfl ?_
    refine r_irem C dX0_orderStock_29 (by decide) ?_
    refine r_put C (j := 11) tyX0 tyX0_ok nmX0 rfl in_X0 (GA_o GA_pG) (by decide) fl_X0_58 rfl rfl rfl (by first | rfl | decide) (by first | rfl | decide) (Nat.le_of_ble_eq_true rfl) dX0_orderStock_30 ?_
    refine V.heap (pG_num GA_pG 6 _ rfl) ?_
    refine V.heap (pG_pG _ _ _ _ _) ?_
    refine r_aload_n C dX0_orderStock_33 rfl rfl ?_
    refine r_aload_n C dX0_orderStock_34 rfl rfl ?_
    refine r_get C (j := 11) rfl in_X0 (GA_o GA_pG) (by decide) fl_X0_58 rfl rfl dX0_orderStock_35 ?_
    refine r_bipush C (v := 28) dX0_orderStock_38 rfl ?_
    refine r_imul C dX0_orderStock_40 ?_
    refine r_iload_n C dX0_orderStock_41 rfl rfl ?_
    refine r_iadd C dX0_orderStock_42 ?_
    refine r_iload_n C dX0_orderStock_43 rfl rfl ?_
    refine r_cVv C (c_X0_insertInOrder GA_pG h_i) lk_X0_81 rfl (GA_o GA_pG) rfl rfl ⟨(Nat.le_of_ble_eq_true rfl), (Nat.le_of_ble_eq_true rfl), (Nat.le_of_ble_eq_true rfl), (Nat.le_of_ble_eq_true rfl), (Nat.le_of_ble_eq_true rfl)⟩ dX0_orderStock_44 ?_
    refine V.heap (pG_pG _ _ _ _ _) ?_
    refine r_iinc C (v := 1) dX0_orderStock_47 rfl rfl (by decide) ?_
    refine r_goto C 7 dX0_orderStock_50 (by decide) ?_
    refine V.heap (h2 := (pG G h g (i_ord S x (i + 1)))) (rfl) ?_
    refine V.sub [(0, .ref g), (2, .int (nI (i + 1)))] ⟨rfl, (by rw [← nI_1 i]; rfl), trivial⟩ ?_
    exact ih_i

set_option maxHeartbeats 800000 in
set_option maxRecDepth 100000 in
theorem c_X0_start {G : ga_} {l : Launch} {h : HP} {sz : Nat} {g : Nat} {S : gS} {n x : Int32}  (w : GA G h g S)  : Mf G l yX0_start cX0_start 3 none 4 88 0 0 [.ref g, .int n, .int x] h sz none (pG G h g (s_3 S n x)) sz := by
  refine Mg.ofV [(0, .ref g), (1, .int n), (2, .int x)] (by decide) (Nat.le_of_ble_eq_true rfl) rfl ?_
  intro p e s m args below meth c C
  refine r_aload_n C dX0_start_0 rfl rfl ?_
  refine r_iload_n C dX0_start_1 rfl rfl ?_
  refine r_put C (j := 5) tyX0 tyX0_ok nmX0 rfl in_X0 (GA_o w) (by decide) fl_X0_40 rfl rfl rfl (by first | rfl | decide) (by first | rfl | decide) (Nat.le_of_ble_eq_true rfl) dX0_start_2 ?_
  refine V.heap (pG_num w 0 _ rfl) ?_
  refine r_aload_n C dX0_start_5 rfl rfl ?_
  refine r_iconst C (v := 0) dX0_start_6 rfl ?_
  refine r_put C (j := 6) tyX0 tyX0_ok nmX0 rfl in_X0 (GA_o GA_pG) (by decide) fl_X0_43 rfl rfl rfl (by first | rfl | decide) (by first | rfl | decide) (Nat.le_of_ble_eq_true rfl) dX0_start_7 ?_
  refine V.heap (pG_num GA_pG 1 _ rfl) ?_
  refine V.heap (pG_pG _ _ _ _ _) ?_
  refine r_aload_n C dX0_start_10 rfl rfl ?_
  refine r_iconst C (v := 0) dX0_start_11 rfl ?_
  refine r_put C (j := 7) tyX0 tyX0_ok nmX0 rfl in_X0 (GA_o GA_pG) (by decide) fl_X0_46 rfl rfl rfl (by first | rfl | decide) (by first | rfl | decide) (Nat.le_of_ble_eq_true rfl) dX0_start_12 ?_
  refine V.heap (pG_num GA_pG 2 _ rfl) ?_
  refine V.heap (pG_pG _ _ _ _ _) ?_
  refine r_aload_n C dX0_start_15 rfl rfl ?_
  refine r_iconst C (v := 0) dX0_start_16 rfl ?_
  refine r_put C (j := 8) tyX0 tyX0_ok nmX0 rfl in_X0 (GA_o GA_pG) (by decide) fl_X0_49 rfl rfl rfl (by first | rfl | decide) (by first | rfl | decide) (Nat.le_of_ble_eq_true rfl) dX0_start_17 ?_
  refine V.heap (pG_num GA_pG 3 _ rfl) ?_
  refine V.heap (pG_pG _ _ _ _ _) ?_
  refine r_aload_n C dX0_start_20 rfl rfl ?_
  refine r_iconst C (v := 0) dX0_start_21 rfl ?_
  refine r_put C (j := 9) tyX0 tyX0_ok nmX0 rfl in_X0 (GA_o GA_pG) (by decide) fl_X0_52 rfl rfl rfl (by first | rfl | decide) (by first | rfl | decide) (Nat.le_of_ble_eq_true rfl) dX0_start_22 ?_
  refine V.heap (pG_num GA_pG 4 _ rfl) ?_
  refine V.heap (pG_pG _ _ _ _ _) ?_
  refine r_aload_n C dX0_start_25 rfl rfl ?_
  refine r_get C (j := 1) rfl in_X0 (GA_o GA_pG) (by decide) fl_X0_20 rfl rfl dX0_start_26 ?_
  refine r_cVv C (c_clear1 GA_pG) lk_X0_61 rfl (GA_t1 GA_pG) rfl rfl ⟨(Nat.le_of_ble_eq_true rfl), (Nat.le_of_ble_eq_true rfl), (Nat.le_of_ble_eq_true rfl), (Nat.le_of_ble_eq_true rfl), (Nat.le_of_ble_eq_true rfl)⟩ dX0_start_29 ?_
  refine V.heap (pG_pG _ _ _ _ _) ?_
  refine r_aload_n C dX0_start_32 rfl rfl ?_
  refine r_get C (j := 2) rfl in_X0 (GA_o GA_pG) (by decide) fl_X0_23 rfl rfl dX0_start_33 ?_
  refine r_cVv C (c_clear2 GA_pG) lk_X0_61 rfl (GA_t2 GA_pG) rfl rfl ⟨(Nat.le_of_ble_eq_true rfl), (Nat.le_of_ble_eq_true rfl), (Nat.le_of_ble_eq_true rfl), (Nat.le_of_ble_eq_true rfl), (Nat.le_of_ble_eq_true rfl)⟩ dX0_start_36 ?_
  refine V.heap (pG_pG _ _ _ _ _) ?_
  refine r_aload_n C dX0_start_39 rfl rfl ?_
  refine r_cVv C (c_X0_makeTiles GA_pG) lk_X0_64 rfl (GA_o GA_pG) rfl rfl ⟨(Nat.le_of_ble_eq_true rfl), (Nat.le_of_ble_eq_true rfl), (Nat.le_of_ble_eq_true rfl), (Nat.le_of_ble_eq_true rfl), (Nat.le_of_ble_eq_true rfl)⟩ dX0_start_40 ?_
  refine V.heap (pG_pG _ _ _ _ _) ?_
  refine r_aload_n C dX0_start_43 rfl rfl ?_
  refine r_cVv C (c_X0_makeRows GA_pG) lk_X0_67 rfl (GA_o GA_pG) rfl rfl ⟨(Nat.le_of_ble_eq_true rfl), (Nat.le_of_ble_eq_true rfl), (Nat.le_of_ble_eq_true rfl), (Nat.le_of_ble_eq_true rfl), (Nat.le_of_ble_eq_true rfl)⟩ dX0_start_44 ?_
  refine V.heap (pG_pG _ _ _ _ _) ?_
  refine r_aload_n C dX0_start_47 rfl rfl ?_
  refine r_iload_n C dX0_start_48 rfl rfl ?_
  refine r_cVv C (c_X0_orderStock GA_pG) lk_X0_70 rfl (GA_o GA_pG) rfl rfl ⟨(Nat.le_of_ble_eq_true rfl), (Nat.le_of_ble_eq_true rfl), (Nat.le_of_ble_eq_true rfl), (Nat.le_of_ble_eq_true rfl), (Nat.le_of_ble_eq_true rfl)⟩ dX0_start_49 ?_
  refine V.heap (pG_pG _ _ _ _ _) ?_
  refine r_aload_n C dX0_start_52 rfl rfl ?_
  refine r_cVv C (c_X0_deal GA_pG) lk_X0_74 rfl (GA_o GA_pG) rfl rfl ⟨(Nat.le_of_ble_eq_true rfl), (Nat.le_of_ble_eq_true rfl), (Nat.le_of_ble_eq_true rfl), (Nat.le_of_ble_eq_true rfl), (Nat.le_of_ble_eq_true rfl)⟩ dX0_start_53 ?_
  refine V.heap (pG_pG _ _ _ _ _) ?_
  exact r_vret C rfl (Nat.le_of_ble_eq_true rfl) (Nat.le_of_ble_eq_true rfl) ⟨rfl, by simp only [s_3, s_2, s_1, s_0], rfl⟩ dX0_start_56

