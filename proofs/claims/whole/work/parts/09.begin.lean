/-! GAME: beginning, becoming another, making one -/
/-- the number of the first tile whose first half is a -/
def tT : Nat → Nat
  | 0 => 0
  | a + 1 => tT a + (7 - a)
def g_mt1 (S : gS) (t a b : Int32) : gS := gP (gP (gP (gP (gP S 0 t 0 a) 0 t 1 b) 0 t 2 0) 0 t 3 (-1)) 0 t 5 (-1)
def g_mtI (S : gS) (a : Nat) : Nat → gS
  | 0 => S
  | k + 1 => g_mt1 (g_mtI S a k) (nI (tT a + k)) (nI a) (nI (a + k))
def g_mtO (S : gS) : Nat → gS
  | 0 => gZ S 0
  | a + 1 => g_mtI (g_mtO S a) a (7 - a)
def g_mr1 (S : gS) (r : Int32) : gS := gP (gP (gP (gP S 3 r 0 0) 3 r 1 (-1)) 3 r 2 (-1)) 3 r 3 (-1)
def g_mr (S : gS) : Nat → gS
  | 0 => S
  | i + 1 => g_mr1 (g_mr S i) (nI i)
def g_dI (S : gS) (p : Int32) : Nat → gS
  | 0 => S
  | i + 1 => g_take (g_dI S p i) p
def g_dO (S : gS) : Nat → gS
  | 0 => S
  | i + 1 => g_dI (g_dO S i) (nI i) 5
theorem tT_le {a : Nat} (h : a ≤ 7) : tT a ≤ 28 := by
  match a, h with
  | 0, _ => decide
  | 1, _ => decide
  | 2, _ => decide
  | 3, _ => decide
  | 4, _ => decide
  | 5, _ => decide
  | 6, _ => decide
  | 7, _ => decide
set_option maxHeartbeats 800000 in
set_option maxRecDepth 100000 in
theorem c_X0_makeTiles {G : ga_} {l : Launch} {h : HP} {sz : Nat} {g : Nat} {S : gS}  (w : GA G h g S)  : Mf G l yX0_makeTiles cX0_makeTiles 4 none 2 43 0 0 [.ref g] h sz none (pG G h g (g_mtO S 7)) sz := by
  refine Mg.ofV [(0, .ref g)] (by decide) (Nat.le_of_ble_eq_true rfl) rfl ?_
  intro p e s m args below meth c C
  refine r_aload_n C dX0_makeTiles_0 rfl rfl ?_
  refine r_get C (j := 0) rfl in_X0 (GA_o w) (by decide) fl_X0_14 rfl rfl dX0_makeTiles_1 ?_
  refine r_cVv C (c_clear0 w) lk_X0_61 rfl (GA_t0 w) rfl rfl ⟨(Nat.le_of_ble_eq_true rfl), (Nat.le_of_ble_eq_true rfl), (Nat.le_of_ble_eq_true rfl), (Nat.le_of_ble_eq_true rfl), (Nat.le_of_ble_eq_true rfl)⟩ dX0_makeTiles_4 ?_
  refine r_iconst C (v := 0) dX0_makeTiles_7 rfl ?_
  refine r_istore_n C dX0_makeTiles_8 rfl (by decide) ?_
  refine r_iconst C (v := 0) dX0_makeTiles_9 rfl ?_
  refine r_istore_n C dX0_makeTiles_10 rfl (by decide) ?_
  refine V.sub [(0, .ref g), (1, .int (nI (tT 0))), (2, .int (nI 0))] ⟨rfl, rfl, rfl, trivial⟩ ?_
  refine down_ (P := fun i => V p l e ⟨2, 0, 0, 43⟩ s m args below meth c G 4 (Qg G below args s 0 0 (fun v1 h1 s1 => v1 = none ∧ h1 = (pG G h g (g_mtO S 7)) ∧ s1 = sz)) (pG G h g (g_mtO S i)) sz 0 0 11 [(0, .ref g), (1, .int (nI (tT i))), (2, .int (nI i))] []) (7) ?_ ?_
  · refine r_iload_n C dX0_makeTiles_11 rfl rfl ?_
    refine r_bipush C (v := 7) dX0_makeTiles_12 rfl ?_
    refine r_icmp_ge C 90 dX0_makeTiles_14 (by decide) (fun _ => ?_) (fun c => absurd (by decide) c)
    exact r_vret C rfl (Nat.le_of_ble_eq_true rfl) (Nat.le_of_ble_eq_true rfl) ⟨rfl, rfl, rfl⟩ dX0_makeTiles_90
  · intro i h_i ih_i
    refine r_iload_n C dX0_makeTiles_11 rfl rfl ?_
    refine r_bipush C (v := 7) dX0_makeTiles_12 rfl ?_
    refine r_icmp_ge C 90 dX0_makeTiles_14 (by decide) (fun c => absurd c (nI_ge (b := 7) h_i (by decide))) (fun _ => ?_)
    refine r_iload_n C dX0_makeTiles_17 rfl rfl ?_
    refine r_istore_n C dX0_makeTiles_18 rfl (by decide) ?_
    refine V.sub [(0, .ref g), (1, .int (nI (tT i + 0))), (2, .int (nI i)), (3, .int (nI (i + 0)))] ⟨rfl, rfl, rfl, rfl, trivial⟩ ?_
    refine down_ (P := fun j => V p l e ⟨2, 0, 0, 43⟩ s m args below meth c G 4 (Qg G below args s 0 0 (fun v1 h1 s1 => v1 = none ∧ h1 = (pG G h g (g_mtO S 7)) ∧ s1 = sz)) (pG G h g (g_mtI (g_mtO S i) i j)) sz 0 0 19 [(0, .ref g), (1, .int (nI (tT i + j))), (2, .int (nI i)), (3, .int (nI (i + j)))] []) (7 - i) ?_ ?_
    · refine r_iload_n C dX0_makeTiles_19 rfl rfl ?_
      refine r_bipush C (v := 7) dX0_makeTiles_20 rfl ?_
      refine r_icmp_ge C 84 dX0_makeTiles_22 (by decide) (fun _ => ?_) (fun c => absurd (tn_le2 (x := 7) (by omega) (by show 7 ≤ i + (7 - i); omega)) c)
      refine r_iinc C (v := 1) dX0_makeTiles_84 rfl rfl (by decide) ?_
      refine r_goto C 11 dX0_makeTiles_87 (by decide) ?_
      refine V.sub [(0, .ref g), (1, .int (nI (tT (i + 1)))), (2, .int (nI (i + 1)))] ⟨rfl, rfl, (by rw [← nI_1 i]; rfl), trivial⟩ ?_
      exact ih_i
    · intro j h_j ih_j
      refine r_iload_n C dX0_makeTiles_19 rfl rfl ?_
      refine r_bipush C (v := 7) dX0_makeTiles_20 rfl ?_
      refine r_icmp_ge C 84 dX0_makeTiles_22 (by decide) (fun c => absurd c (tn_nle (x := 7) (by show i + j < 7; omega))) (fun _ => ?_)
      refine r_aload_n C dX0_makeTiles_25 rfl rfl ?_
      refine r_get C (j := 0) rfl in_X0 (GA_o GA_pG) (by decide) fl_X0_14 rfl rfl dX0_makeTiles_26 ?_
      refine r_iload_n C dX0_makeTiles_29 rfl rfl ?_
      refine r_iconst C (v := 0) dX0_makeTiles_30 rfl ?_
      refine r_iload_n C dX0_makeTiles_31 rfl rfl ?_
      refine r_cVv C (c_put0 GA_pG) lk_X0_77 rfl (GA_t0 GA_pG) rfl rfl ⟨(Nat.le_of_ble_eq_true rfl), (Nat.le_of_ble_eq_true rfl), (Nat.le_of_ble_eq_true rfl), (Nat.le_of_ble_eq_true rfl), (Nat.le_of_ble_eq_true rfl)⟩ dX0_makeTiles_32 ?_
      refine r_aload_n C dX0_makeTiles_35 rfl rfl ?_
      refine r_get C (j := 0) rfl in_X0 (GA_o GA_pG) (by decide) fl_X0_14 rfl rfl dX0_makeTiles_36 ?_
      refine r_iload_n C dX0_makeTiles_39 rfl rfl ?_
      refine r_iconst C (v := 1) dX0_makeTiles_40 rfl ?_
      refine r_iload_n C dX0_makeTiles_41 rfl rfl ?_
      refine r_cVv C (c_put0 GA_pG) lk_X0_77 rfl (GA_t0 GA_pG) rfl rfl ⟨(Nat.le_of_ble_eq_true rfl), (Nat.le_of_ble_eq_true rfl), (Nat.le_of_ble_eq_true rfl), (Nat.le_of_ble_eq_true rfl), (Nat.le_of_ble_eq_true rfl)⟩ dX0_makeTiles_42 ?_
      refine r_aload_n C dX0_makeTiles_45 rfl rfl ?_
      refine r_get C (j := 0) rfl in_X0 (GA_o GA_pG) (by decide) fl_X0_14 rfl rfl dX0_makeTiles_46 ?_
      refine r_iload_n C dX0_makeTiles_49 rfl rfl ?_
      refine r_iconst C (v := 2) dX0_makeTiles_50 rfl ?_
      refine r_iconst C (v := 0) dX0_makeTiles_51 rfl ?_
      refine r_cVv C (c_put0 GA_pG) lk_X0_77 rfl (GA_t0 GA_pG) rfl rfl ⟨(Nat.le_of_ble_eq_true rfl), (Nat.le_of_ble_eq_true rfl), (Nat.le_of_ble_eq_true rfl), (Nat.le_of_ble_eq_true rfl), (Nat.le_of_ble_eq_true rfl)⟩ dX0_makeTiles_52 ?_
      refine r_aload_n C dX0_makeTiles_55 rfl rfl ?_
      refine r_get C (j := 0) rfl in_X0 (GA_o GA_pG) (by decide) fl_X0_14 rfl rfl dX0_makeTiles_56 ?_
      refine r_iload_n C dX0_makeTiles_59 rfl rfl ?_
      refine r_iconst C (v := 3) dX0_makeTiles_60 rfl ?_
      refine r_iconst C (v := -1) dX0_makeTiles_61 rfl ?_
      refine r_cVv C (c_put0 GA_pG) lk_X0_77 rfl (GA_t0 GA_pG) rfl rfl ⟨(Nat.le_of_ble_eq_true rfl), (Nat.le_of_ble_eq_true rfl), (Nat.le_of_ble_eq_true rfl), (Nat.le_of_ble_eq_true rfl), (Nat.le_of_ble_eq_true rfl)⟩ dX0_makeTiles_62 ?_
      refine r_aload_n C dX0_makeTiles_65 rfl rfl ?_
      refine r_get C (j := 0) rfl in_X0 (GA_o GA_pG) (by decide) fl_X0_14 rfl rfl dX0_makeTiles_66 ?_
      refine r_iload_n C dX0_makeTiles_69 rfl rfl ?_
      refine r_iconst C (v := 5) dX0_makeTiles_70 rfl ?_
      refine r_iconst C (v := -1) dX0_makeTiles_71 rfl ?_
      refine r_cVv C (c_put0 GA_pG) lk_X0_77 rfl (GA_t0 GA_pG) rfl rfl ⟨(Nat.le_of_ble_eq_true rfl), (Nat.le_of_ble_eq_true rfl), (Nat.le_of_ble_eq_true rfl), (Nat.le_of_ble_eq_true rfl), (Nat.le_of_ble_eq_true rfl)⟩ dX0_makeTiles_72 ?_
      refine r_iinc C (v := 1) dX0_makeTiles_75 rfl rfl (by decide) ?_
      refine r_iinc C (v := 1) dX0_makeTiles_78 rfl rfl (by decide) ?_
      refine r_goto C 19 dX0_makeTiles_81 (by decide) ?_
      refine V.heap (h2 := (pG G h g (g_mtI (g_mtO S i) i (j + 1)))) (by simp only [pG_pG]; rfl) ?_
      refine V.sub [(0, .ref g), (1, .int (nI (tT i + (j + 1)))), (2, .int (nI i)), (3, .int (nI (i + (j + 1))))] ⟨rfl, by rw [show tT i + (j + 1) = tT i + j + 1 by omega, ← nI_1 (tT i + j)]; rfl, rfl, by rw [show i + (j + 1) = i + j + 1 by omega, ← nI_1 (i + j)]; rfl, trivial⟩ ?_
      exact ih_j

set_option maxHeartbeats 800000 in
set_option maxRecDepth 100000 in
theorem c_X0_makeRows {G : ga_} {l : Launch} {h : HP} {sz : Nat} {g : Nat} {S : gS}  (w : GA G h g S)  : Mf G l yX0_makeRows cX0_makeRows 2 none 1 24 0 0 [.ref g] h sz none (pG G h g (g_mr S 3)) sz := by
  refine Mg.ofV [(0, .ref g)] (by decide) (Nat.le_of_ble_eq_true rfl) rfl ?_
  intro p e s m args below meth c C
  refine r_iconst C (v := 0) dX0_makeRows_0 rfl ?_
  refine r_istore_n C dX0_makeRows_1 rfl (by decide) ?_
  refine V.heap (pG_id w).symm ?_
  refine V.sub [(0, .ref g), (1, .int (nI 0))] ⟨rfl, rfl, trivial⟩ ?_
  refine down_ (P := fun i => V p l e ⟨1, 0, 0, 24⟩ s m args below meth c G 2 (Qg G below args s 0 0 (fun v1 h1 s1 => v1 = none ∧ h1 = (pG G h g (g_mr S 3)) ∧ s1 = sz)) (pG G h g (g_mr S i)) sz 0 0 2 [(0, .ref g), (1, .int (nI i))] []) (3) ?_ ?_
  · refine r_iload_n C dX0_makeRows_2 rfl rfl ?_
    refine r_iconst C (v := 3) dX0_makeRows_3 rfl ?_
    refine r_icmp_ge C 53 dX0_makeRows_4 (by decide) (fun _ => ?_) (fun c => absurd (by decide) c)
    exact r_vret C rfl (Nat.le_of_ble_eq_true rfl) (Nat.le_of_ble_eq_true rfl) ⟨rfl, rfl, rfl⟩ dX0_makeRows_53
  · intro i h_i ih_i
    refine r_iload_n C dX0_makeRows_2 rfl rfl ?_
    refine r_iconst C (v := 3) dX0_makeRows_3 rfl ?_
    refine r_icmp_ge C 53 dX0_makeRows_4 (by decide) (fun c => absurd c (nI_ge (b := 3) h_i (by decide))) (fun _ => ?_)
    refine r_aload_n C dX0_makeRows_7 rfl rfl ?_
    refine r_get C (j := 3) rfl in_X0 (GA_o GA_pG) (by decide) fl_X0_26 rfl rfl dX0_makeRows_8 ?_
    refine r_iload_n C dX0_makeRows_11 rfl rfl ?_
    refine r_iconst C (v := 0) dX0_makeRows_12 rfl ?_
    refine r_iconst C (v := 0) dX0_makeRows_13 rfl ?_
    refine r_cVv C (c_put3 GA_pG) lk_X0_77 rfl (GA_t3 GA_pG) rfl rfl ⟨(Nat.le_of_ble_eq_true rfl), (Nat.le_of_ble_eq_true rfl), (Nat.le_of_ble_eq_true rfl), (Nat.le_of_ble_eq_true rfl), (Nat.le_of_ble_eq_true rfl)⟩ dX0_makeRows_14 ?_
    refine r_aload_n C dX0_makeRows_17 rfl rfl ?_
    refine r_get C (j := 3) rfl in_X0 (GA_o GA_pG) (by decide) fl_X0_26 rfl rfl dX0_makeRows_18 ?_
    refine r_iload_n C dX0_makeRows_21 rfl rfl ?_
    refine r_iconst C (v := 1) dX0_makeRows_22 rfl ?_
    refine r_iconst C (v := -1) dX0_makeRows_23 rfl ?_
    refine r_cVv C (c_put3 GA_pG) lk_X0_77 rfl (GA_t3 GA_pG) rfl rfl ⟨(Nat.le_of_ble_eq_true rfl), (Nat.le_of_ble_eq_true rfl), (Nat.le_of_ble_eq_true rfl), (Nat.le_of_ble_eq_true rfl), (Nat.le_of_ble_eq_true rfl)⟩ dX0_makeRows_24 ?_
    refine r_aload_n C dX0_makeRows_27 rfl rfl ?_
    refine r_get C (j := 3) rfl in_X0 (GA_o GA_pG) (by decide) fl_X0_26 rfl rfl dX0_makeRows_28 ?_
    refine r_iload_n C dX0_makeRows_31 rfl rfl ?_
    refine r_iconst C (v := 2) dX0_makeRows_32 rfl ?_
    refine r_iconst C (v := -1) dX0_makeRows_33 rfl ?_
    refine r_cVv C (c_put3 GA_pG) lk_X0_77 rfl (GA_t3 GA_pG) rfl rfl ⟨(Nat.le_of_ble_eq_true rfl), (Nat.le_of_ble_eq_true rfl), (Nat.le_of_ble_eq_true rfl), (Nat.le_of_ble_eq_true rfl), (Nat.le_of_ble_eq_true rfl)⟩ dX0_makeRows_34 ?_
    refine r_aload_n C dX0_makeRows_37 rfl rfl ?_
    refine r_get C (j := 3) rfl in_X0 (GA_o GA_pG) (by decide) fl_X0_26 rfl rfl dX0_makeRows_38 ?_
    refine r_iload_n C dX0_makeRows_41 rfl rfl ?_
    refine r_iconst C (v := 3) dX0_makeRows_42 rfl ?_
    refine r_iconst C (v := -1) dX0_makeRows_43 rfl ?_
    refine r_cVv C (c_put3 GA_pG) lk_X0_77 rfl (GA_t3 GA_pG) rfl rfl ⟨(Nat.le_of_ble_eq_true rfl), (Nat.le_of_ble_eq_true rfl), (Nat.le_of_ble_eq_true rfl), (Nat.le_of_ble_eq_true rfl), (Nat.le_of_ble_eq_true rfl)⟩ dX0_makeRows_44 ?_
    refine r_iinc C (v := 1) dX0_makeRows_47 rfl rfl (by decide) ?_
    refine r_goto C 2 dX0_makeRows_50 (by decide) ?_
    refine V.heap (h2 := (pG G h g (g_mr S (i + 1)))) (by simp only [pG_pG]; rfl) ?_
    refine V.sub [(0, .ref g), (1, .int (nI (i + 1)))] ⟨rfl, (by rw [← nI_1 i]; rfl), trivial⟩ ?_
    exact ih_i

theorem g_dI_n (S : gS) (p : Int32) (i : Nat) : g_dI S p i 5 0 = S 5 0 := by
  induction i with
  | zero => rfl
  | succ i ih => exact ih
theorem g_dO_n (S : gS) (i : Nat) : g_dO S i 5 0 = S 5 0 := by
  induction i with
  | zero => rfl
  | succ i ih => exact (g_dI_n _ _ 5).trans ih
set_option maxHeartbeats 800000 in
set_option maxRecDepth 100000 in
theorem c_X0_deal {G : ga_} {l : Launch} {h : HP} {sz : Nat} {g : Nat} {S : gS}  (w : GA G h g S)  : Mf G l yX0_deal cX0_deal 3 none 3 66 0 0 [.ref g] h sz none (pG G h g (g_dO S (S 5 0).toNatClampNeg)) sz := by
  refine Mg.ofV [(0, .ref g)] (by decide) (Nat.le_of_ble_eq_true rfl) rfl ?_
  intro p e s m args below meth c C
  refine r_iconst C (v := 0) dX0_deal_0 rfl ?_
  refine r_istore_n C dX0_deal_1 rfl (by decide) ?_
  refine V.heap (pG_id w).symm ?_
  refine V.sub [(0, .ref g), (1, .int (nI 0))] ⟨rfl, rfl, trivial⟩ ?_
  refine down_ (P := fun i => V p l e ⟨3, 0, 0, 66⟩ s m args below meth c G 3 (Qg G below args s 0 0 (fun v1 h1 s1 => v1 = none ∧ h1 = (pG G h g (g_dO S (S 5 0).toNatClampNeg)) ∧ s1 = sz)) (pG G h g (g_dO S i)) sz 0 0 2 [(0, .ref g), (1, .int (nI i))] []) ((S 5 0).toNatClampNeg) ?_ ?_
  · refine r_iload_n C dX0_deal_2 rfl rfl ?_
    refine r_aload_n C dX0_deal_3 rfl rfl ?_
    refine r_get C (j := 5) rfl in_X0 (GA_o GA_pG) (by decide) fl_X0_40 rfl rfl dX0_deal_4 ?_
    refine r_icmp_ge C 35 dX0_deal_7 (by decide) (fun _ => ?_) (fun c => absurd (by rw [g_dO_n]; exact tn_le _) c)
    exact r_vret C rfl (Nat.le_of_ble_eq_true rfl) (Nat.le_of_ble_eq_true rfl) ⟨rfl, rfl, rfl⟩ dX0_deal_35
  · intro i h_i ih_i
    refine r_iload_n C dX0_deal_2 rfl rfl ?_
    refine r_aload_n C dX0_deal_3 rfl rfl ?_
    refine r_get C (j := 5) rfl in_X0 (GA_o GA_pG) (by decide) fl_X0_40 rfl rfl dX0_deal_4 ?_
    refine r_icmp_ge C 35 dX0_deal_7 (by decide) (fun c => absurd c (by rw [g_dO_n]; exact tn_nle h_i)) (fun _ => ?_)
    refine r_iconst C (v := 0) dX0_deal_10 rfl ?_
    refine r_istore_n C dX0_deal_11 rfl (by decide) ?_
    refine V.sub [(0, .ref g), (1, .int (nI i)), (2, .int (nI 0))] ⟨rfl, rfl, rfl, trivial⟩ ?_
    refine down_ (P := fun j => V p l e ⟨3, 0, 0, 66⟩ s m args below meth c G 3 (Qg G below args s 0 0 (fun v1 h1 s1 => v1 = none ∧ h1 = (pG G h g (g_dO S (S 5 0).toNatClampNeg)) ∧ s1 = sz)) (pG G h g (g_dI (g_dO S i) (nI i) j)) sz 0 0 12 [(0, .ref g), (1, .int (nI i)), (2, .int (nI j))] []) (5) ?_ ?_
    · refine r_iload_n C dX0_deal_12 rfl rfl ?_
      refine r_iconst C (v := 5) dX0_deal_13 rfl ?_
      refine r_icmp_ge C 29 dX0_deal_14 (by decide) (fun _ => ?_) (fun c => absurd (by decide) c)
      refine r_iinc C (v := 1) dX0_deal_29 rfl rfl (by decide) ?_
      refine r_goto C 2 dX0_deal_32 (by decide) ?_
      refine V.sub [(0, .ref g), (1, .int (nI (i + 1)))] ⟨rfl, (by rw [← nI_1 i]; rfl), trivial⟩ ?_
      exact ih_i
    · intro j h_j ih_j
      refine r_iload_n C dX0_deal_12 rfl rfl ?_
      refine r_iconst C (v := 5) dX0_deal_13 rfl ?_
      refine r_icmp_ge C 29 dX0_deal_14 (by decide) (fun c => absurd c (nI_ge (b := 5) h_j (by decide))) (fun _ => ?_)
      refine r_aload_n C dX0_deal_17 rfl rfl ?_
      refine r_iload_n C dX0_deal_18 rfl rfl ?_
      refine r_cVi C (c_X0_takeFromStock GA_pG) lk_X0_88 rfl (GA_o GA_pG) rfl rfl ⟨(Nat.le_of_ble_eq_true rfl), (Nat.le_of_ble_eq_true rfl), (Nat.le_of_ble_eq_true rfl), (Nat.le_of_ble_eq_true rfl), (Nat.le_of_ble_eq_true rfl)⟩ dX0_deal_19 ?_
      refine r_pop C dX0_deal_22 rfl ?_
      refine r_iinc C (v := 1) dX0_deal_23 rfl rfl (by decide) ?_
      refine r_goto C 12 dX0_deal_26 (by decide) ?_
      refine V.heap (h2 := (pG G h g (g_dI (g_dO S i) (nI i) (j + 1)))) (by simp only [pG_pG]; rfl) ?_
      refine V.sub [(0, .ref g), (1, .int (nI i)), (2, .int (nI (j + 1)))] ⟨rfl, rfl, (by rw [← nI_1 j]; rfl), trivial⟩ ?_
      exact ih_j

/-- the row of lots beside a game -/
def hl_ (G : ga_) (h : HP) (g la : Nat) (f : Nat → Int32) (S : gS) : HP := pG G (up_ h la (aI_ G 28 f)) g S
theorem hl_G {G : ga_} {h : HP} {g la : Nat} {f : Nat → Int32} {S : gS} : GA G (hl_ G h g la f S) g S := GA_pG
theorem hl_a {G : ga_} {h : HP} {g la : Nat} {f : Nat → Int32} {S : gS} (d : la < g ∨ g + 11 ≤ la) : hl_ G h g la f S la = some (aI_ G 28 f) := by unfold hl_; rw [pG_out d, up_s]
theorem hl_t {G : ga_} {h : HP} {g la lt : Nat} {f : Nat → Int32} {S : gS} {e : va_E} (d : lt < g ∨ g + 11 ≤ lt) (n : lt ≠ la) (ht : h lt = some e) : hl_ G h g la f S lt = some e := by unfold hl_; rw [pG_out d, up_n n, ht]
theorem hl_up {G : ga_} {h : HP} {g la : Nat} {f f2 : Nat → Int32} {S : gS} (d : la < g ∨ g + 11 ≤ la) : up_ (hl_ G h g la f S) la (aI_ G 28 f2) = hl_ G h g la f2 S := by
  funext a
  by_cases c : a = la
  · subst c; rw [up_s, hl_a d]
  · rw [up_n c]
    unfold hl_
    by_cases e : g ≤ a ∧ a < g + 11
    · rw [pG_in e.1 e.2, pG_in e.1 e.2]
    · rw [pG_out (by omega), pG_out (by omega), up_n c, up_n c]
theorem hl_pG {G : ga_} {h : HP} {g la : Nat} {f : Nat → Int32} {S S2 : gS} : pG G (hl_ G h g la f S) g S2 = hl_ G h g la f S2 := pG_pG _ _ _ _ _
theorem hl_0 {G : ga_} {h : HP} {g la : Nat} {f : Nat → Int32} {S : gS} (w : GA G h g S) (ha : h la = some (aI_ G 28 f)) : hl_ G h g la f S = h := by unfold hl_; rw [up_id ha, pG_id w]
def i_fin (lot t : Int32) (p : Nat) (f : Nat → Int32) (S : gS) : (Nat → Int32) × gS := (tPut 28 28 f 0 (nI p) lot, gP S 4 0 (nI p) t)
/-- tile t with its lot goes to the place p or one ahead -/
def i_ins (lot t : Int32) : Nat → (Nat → Int32) → gS → (Nat → Int32) × gS
  | 0, f, S => i_fin lot t 0 f S
  | p + 1, f, S => if lot < tAt 28 28 f 0 (nI (p + 1) - 1) then i_ins lot t p (tPut 28 28 f 0 (nI (p + 1)) (tAt 28 28 f 0 (nI (p + 1) - 1))) (gP S 4 0 (nI (p + 1)) (tAt 28 28 (S 4) 0 (nI (p + 1) - 1))) else i_fin lot t (p + 1) f S
set_option maxHeartbeats 800000 in
set_option maxRecDepth 100000 in
theorem c_X0_insertByLot {G : ga_} {l : Launch} {h : HP} {sz : Nat} {g la lt : Nat} {S : gS} {f : Nat → Int32} {t : Nat} (hla : la < g ∨ g + 11 ≤ la) (hlt : lt < g ∨ g + 11 ≤ lt) (hne : lt ≠ la) (ht : h lt = some (ob_ 2 [.int 28, .ref la])) (htt : t < 28) : Mf G l yX0_insertByLot cX0_insertByLot 4 none 1 24 0 0 [.ref g, .int (nI t), .ref lt] (hl_ G h g la f S) sz none (hl_ G h g la (i_ins (S 5 6) (nI t) t f S).1 (i_ins (S 5 6) (nI t) t f S).2) sz := by
  refine Mg.ofV [(0, .ref g), (1, .int (nI t)), (2, .ref lt)] (by decide) (Nat.le_of_ble_eq_true rfl) rfl ?_
  intro p e s m args below meth c C

  have loop : ∀ (q : Nat) (f1 : Nat → Int32) (S1 : gS), q < 28 → hl_ G h g la (i_ins (S1 5 6) (nI t) q f1 S1).1 (i_ins (S1 5 6) (nI t) q f1 S1).2 = (hl_ G h g la (i_ins (S 5 6) (nI t) t f S).1 (i_ins (S 5 6) (nI t) t f S).2) → V p l e ⟨1, 0, 0, 24⟩ s m args below meth c G 4 (Qg G below args s 0 0 (fun v1 h1 s1 => v1 = none ∧ h1 = (hl_ G h g la (i_ins (S 5 6) (nI t) t f S).1 (i_ins (S 5 6) (nI t) t f S).2) ∧ s1 = sz)) (hl_ G h g la f1 S1) sz 0 0 2 [(0, .ref g), (1, .int (nI t)), (2, .ref lt), (3, .int (nI q))] [] := by
    intro q
    induction q with
    | zero =>
      intro f1 S1 hq hr
      refine r_iload_n C dX0_insertByLot_2 rfl rfl ?_
      refine r_if_le C 61 dX0_insertByLot_3 (by decide) (fun _ => ?_) (fun c => absurd (show nI 0 ≤ 0 by decide) c)
      refine r_aload_n C dX0_insertByLot_61 rfl rfl ?_
      refine r_iconst C (v := 0) dX0_insertByLot_62 rfl ?_
      refine r_iload_n C dX0_insertByLot_63 rfl rfl ?_
      refine r_aload_n C dX0_insertByLot_64 rfl rfl ?_
      refine r_get C (j := 11) rfl in_X0 (GA_o hl_G) (by decide) fl_X0_58 rfl rfl dX0_insertByLot_65 ?_
      refine r_cVv C (c_X2_put (hl_t hlt hne ht) (hl_a hla) (by decide)) lk_X0_77 rfl ((hl_t hlt hne ht)) rfl rfl ⟨(Nat.le_of_ble_eq_true rfl), (Nat.le_of_ble_eq_true rfl), (Nat.le_of_ble_eq_true rfl), (Nat.le_of_ble_eq_true rfl), (Nat.le_of_ble_eq_true rfl)⟩ dX0_insertByLot_68 ?_
      refine V.heap (hl_up hla) ?_
      refine r_aload_n C dX0_insertByLot_71 rfl rfl ?_
      refine r_get C (j := 4) rfl in_X0 (GA_o hl_G) (by decide) fl_X0_29 rfl rfl dX0_insertByLot_72 ?_
      refine r_iconst C (v := 0) dX0_insertByLot_75 rfl ?_
      refine r_iload_n C dX0_insertByLot_76 rfl rfl ?_
      refine r_iload_n C dX0_insertByLot_77 rfl rfl ?_
      refine r_cVv C (c_put4 hl_G) lk_X0_77 rfl (GA_t4 hl_G) rfl rfl ⟨(Nat.le_of_ble_eq_true rfl), (Nat.le_of_ble_eq_true rfl), (Nat.le_of_ble_eq_true rfl), (Nat.le_of_ble_eq_true rfl), (Nat.le_of_ble_eq_true rfl)⟩ dX0_insertByLot_78 ?_
      refine V.heap hl_pG ?_
      exact r_vret C rfl (Nat.le_of_ble_eq_true rfl) (Nat.le_of_ble_eq_true rfl) ⟨rfl, by rw [← hr]; rfl, rfl⟩ dX0_insertByLot_81
    | succ q ih =>
      intro f1 S1 hq hr
      refine r_iload_n C dX0_insertByLot_2 rfl rfl ?_
      refine r_if_le C 61 dX0_insertByLot_3 (by decide) (fun c => absurd c (nI_nle (by omega) (by omega))) (fun _ => ?_)
      refine r_aload_n C dX0_insertByLot_6 rfl rfl ?_
      refine r_iconst C (v := 0) dX0_insertByLot_7 rfl ?_
      refine r_iload_n C dX0_insertByLot_8 rfl rfl ?_
      refine r_iconst C (v := 1) dX0_insertByLot_9 rfl ?_
      refine r_isub C dX0_insertByLot_10 ?_
      refine r_cVi C (c_X2_at (hl_t hlt hne ht) (hl_a hla) (by decide)) lk_X0_84 rfl ((hl_t hlt hne ht)) rfl rfl ⟨(Nat.le_of_ble_eq_true rfl), (Nat.le_of_ble_eq_true rfl), (Nat.le_of_ble_eq_true rfl), (Nat.le_of_ble_eq_true rfl), (Nat.le_of_ble_eq_true rfl)⟩ dX0_insertByLot_11 ?_
      refine r_aload_n C dX0_insertByLot_14 rfl rfl ?_
      refine r_get C (j := 11) rfl in_X0 (GA_o hl_G) (by decide) fl_X0_58 rfl rfl dX0_insertByLot_15 ?_
      refine r_icmp_le C 61 dX0_insertByLot_18 (by decide) (fun c_18 => ?_) (fun c_18 => ?_)
      · have e_18 := i32_nlt c_18
        refine r_aload_n C dX0_insertByLot_61 rfl rfl ?_
        refine r_iconst C (v := 0) dX0_insertByLot_62 rfl ?_
        refine r_iload_n C dX0_insertByLot_63 rfl rfl ?_
        refine r_aload_n C dX0_insertByLot_64 rfl rfl ?_
        refine r_get C (j := 11) rfl in_X0 (GA_o hl_G) (by decide) fl_X0_58 rfl rfl dX0_insertByLot_65 ?_
        refine r_cVv C (c_X2_put (hl_t hlt hne ht) (hl_a hla) (by decide)) lk_X0_77 rfl ((hl_t hlt hne ht)) rfl rfl ⟨(Nat.le_of_ble_eq_true rfl), (Nat.le_of_ble_eq_true rfl), (Nat.le_of_ble_eq_true rfl), (Nat.le_of_ble_eq_true rfl), (Nat.le_of_ble_eq_true rfl)⟩ dX0_insertByLot_68 ?_
        refine V.heap (hl_up hla) ?_
        refine r_aload_n C dX0_insertByLot_71 rfl rfl ?_
        refine r_get C (j := 4) rfl in_X0 (GA_o hl_G) (by decide) fl_X0_29 rfl rfl dX0_insertByLot_72 ?_
        refine r_iconst C (v := 0) dX0_insertByLot_75 rfl ?_
        refine r_iload_n C dX0_insertByLot_76 rfl rfl ?_
        refine r_iload_n C dX0_insertByLot_77 rfl rfl ?_
        refine r_cVv C (c_put4 hl_G) lk_X0_77 rfl (GA_t4 hl_G) rfl rfl ⟨(Nat.le_of_ble_eq_true rfl), (Nat.le_of_ble_eq_true rfl), (Nat.le_of_ble_eq_true rfl), (Nat.le_of_ble_eq_true rfl), (Nat.le_of_ble_eq_true rfl)⟩ dX0_insertByLot_78 ?_
        refine V.heap hl_pG ?_
        exact r_vret C rfl (Nat.le_of_ble_eq_true rfl) (Nat.le_of_ble_eq_true rfl) ⟨rfl, by rw [← hr]; simp only [i_ins]; rw [if_neg e_18]; rfl, rfl⟩ dX0_insertByLot_81
      · have e_18 := i32_lt c_18
        refine r_aload_n C dX0_insertByLot_21 rfl rfl ?_
        refine r_iconst C (v := 0) dX0_insertByLot_22 rfl ?_
        refine r_iload_n C dX0_insertByLot_23 rfl rfl ?_
        refine r_aload_n C dX0_insertByLot_24 rfl rfl ?_
        refine r_iconst C (v := 0) dX0_insertByLot_25 rfl ?_
        refine r_iload_n C dX0_insertByLot_26 rfl rfl ?_
        refine r_iconst C (v := 1) dX0_insertByLot_27 rfl ?_
        refine r_isub C dX0_insertByLot_28 ?_
        refine r_cVi C (c_X2_at (hl_t hlt hne ht) (hl_a hla) (by decide)) lk_X0_84 rfl ((hl_t hlt hne ht)) rfl rfl ⟨(Nat.le_of_ble_eq_true rfl), (Nat.le_of_ble_eq_true rfl), (Nat.le_of_ble_eq_true rfl), (Nat.le_of_ble_eq_true rfl), (Nat.le_of_ble_eq_true rfl)⟩ dX0_insertByLot_29 ?_
        refine r_cVv C (c_X2_put (hl_t hlt hne ht) (hl_a hla) (by decide)) lk_X0_77 rfl ((hl_t hlt hne ht)) rfl rfl ⟨(Nat.le_of_ble_eq_true rfl), (Nat.le_of_ble_eq_true rfl), (Nat.le_of_ble_eq_true rfl), (Nat.le_of_ble_eq_true rfl), (Nat.le_of_ble_eq_true rfl)⟩ dX0_insertByLot_32 ?_
        refine V.heap (hl_up hla) ?_
        refine r_aload_n C dX0_insertByLot_35 rfl rfl ?_
        refine r_get C (j := 4) rfl in_X0 (GA_o hl_G) (by decide) fl_X0_29 rfl rfl dX0_insertByLot_36 ?_
        refine r_iconst C (v := 0) dX0_insertByLot_39 rfl ?_
        refine r_iload_n C dX0_insertByLot_40 rfl rfl ?_
        refine r_aload_n C dX0_insertByLot_41 rfl rfl ?_
        refine r_get C (j := 4) rfl in_X0 (GA_o hl_G) (by decide) fl_X0_29 rfl rfl dX0_insertByLot_42 ?_
        refine r_iconst C (v := 0) dX0_insertByLot_45 rfl ?_
        refine r_iload_n C dX0_insertByLot_46 rfl rfl ?_
        refine r_iconst C (v := 1) dX0_insertByLot_47 rfl ?_
        refine r_isub C dX0_insertByLot_48 ?_
        refine r_cVi C (c_at4 hl_G) lk_X0_84 rfl (GA_t4 hl_G) rfl rfl ⟨(Nat.le_of_ble_eq_true rfl), (Nat.le_of_ble_eq_true rfl), (Nat.le_of_ble_eq_true rfl), (Nat.le_of_ble_eq_true rfl), (Nat.le_of_ble_eq_true rfl)⟩ dX0_insertByLot_49 ?_
        refine r_cVv C (c_put4 hl_G) lk_X0_77 rfl (GA_t4 hl_G) rfl rfl ⟨(Nat.le_of_ble_eq_true rfl), (Nat.le_of_ble_eq_true rfl), (Nat.le_of_ble_eq_true rfl), (Nat.le_of_ble_eq_true rfl), (Nat.le_of_ble_eq_true rfl)⟩ dX0_insertByLot_52 ?_
        refine V.heap hl_pG ?_
        refine r_iinc C (v := -1) dX0_insertByLot_55 rfl rfl (by decide) ?_
        refine r_goto C 2 dX0_insertByLot_58 (by decide) ?_
        refine V.sub [(0, .ref g), (1, .int (nI t)), (2, .ref lt), (3, .int (nI q))] ⟨rfl, rfl, rfl, by rw [show nI (q + 1) + -1 = nI q from pk_m1 q]; rfl, trivial⟩ ?_
        exact ih _ _ (by omega) (by rw [← hr]; simp only [i_ins]; rw [if_pos e_18]; rfl)
  refine r_iload_n C dX0_insertByLot_0 rfl rfl ?_
  refine r_istore_n C dX0_insertByLot_1 rfl (by decide) ?_
  refine V.sub [(0, .ref g), (1, .int (nI t)), (2, .ref lt), (3, .int (nI t))] ⟨rfl, rfl, rfl, rfl, trivial⟩ ?_
  exact loop t f S htt rfl
def i_lot (x : Int32) : Int32 := x * 421 + 1663 - (x * 421 + 1663) / 10000 * 10000
def i_ord1 (t : Nat) (q : (Nat → Int32) × gS) : (Nat → Int32) × gS := i_ins (i_lot (q.2 5 6)) (nI t) t q.1 (gc q.2 6 (i_lot (q.2 5 6)))
def i_ord (f : Nat → Int32) (S : gS) (x : Int32) : Nat → (Nat → Int32) × gS
  | 0 => (f, gc S 6 x)
  | t + 1 => i_ord1 t (i_ord f S x t)
set_option maxHeartbeats 800000 in
set_option maxRecDepth 100000 in
theorem c_X0_orderStock {G : ga_} {l : Launch} {h : HP} {sz : Nat} {g la lt : Nat} {S : gS} {f : Nat → Int32} {x : Int32} (hla : la < g ∨ g + 11 ≤ la) (hlt : lt < g ∨ g + 11 ≤ lt) (hne : lt ≠ la) (ht : h lt = some (ob_ 2 [.int 28, .ref la])) : Mf G l yX0_orderStock cX0_orderStock 4 none 2 47 0 0 [.ref g, .int x, .ref lt] (hl_ G h g la f S) sz none (hl_ G h g la (i_ord f S x 28).1 (i_ord f S x 28).2) sz := by
  refine Mg.ofV [(0, .ref g), (1, .int x), (2, .ref lt)] (by decide) (Nat.le_of_ble_eq_true rfl) rfl ?_
  intro p e s m args below meth c C

  refine r_aload_n C dX0_orderStock_0 rfl rfl ?_
  refine r_iload_n C dX0_orderStock_1 rfl rfl ?_
  refine r_put C (j := 11) tyX0 tyX0_ok nmX0 rfl in_X0 (GA_o hl_G) (by decide) fl_X0_58 rfl rfl rfl (by first | rfl | decide) (by first | rfl | decide) (Nat.le_of_ble_eq_true rfl) dX0_orderStock_2 ?_
  refine V.heap (pG_num hl_G 6 _ rfl) ?_
  refine V.heap hl_pG ?_
  refine r_iconst C (v := 0) dX0_orderStock_5 rfl ?_
  refine r_istore_n C dX0_orderStock_6 rfl (by decide) ?_
  refine V.sub [(0, .ref g), (2, .ref lt), (3, .int (nI 0))] ⟨rfl, rfl, rfl, trivial⟩ ?_
  refine down_ (P := fun i => V p l e ⟨2, 0, 0, 47⟩ s m args below meth c G 4 (Qg G below args s 0 0 (fun v1 h1 s1 => v1 = none ∧ h1 = (hl_ G h g la (i_ord f S x 28).1 (i_ord f S x 28).2) ∧ s1 = sz)) (hl_ G h g la (i_ord f S x i).1 (i_ord f S x i).2) sz 0 0 7 [(0, .ref g), (2, .ref lt), (3, .int (nI i))] []) (28) ?_ ?_
  · refine r_iload_n C dX0_orderStock_7 rfl rfl ?_
    refine r_bipush C (v := 28) dX0_orderStock_8 rfl ?_
    refine r_icmp_ge C 45 dX0_orderStock_10 (by decide) (fun _ => ?_) (fun c => absurd (by decide) c)
    exact r_vret C rfl (Nat.le_of_ble_eq_true rfl) (Nat.le_of_ble_eq_true rfl) ⟨rfl, rfl, rfl⟩ dX0_orderStock_45
  · intro i h_i ih_i
    refine r_iload_n C dX0_orderStock_7 rfl rfl ?_
    refine r_bipush C (v := 28) dX0_orderStock_8 rfl ?_
    refine r_icmp_ge C 45 dX0_orderStock_10 (by decide) (fun c => absurd c (nI_ge (b := 28) h_i (by decide))) (fun _ => ?_)
    refine r_aload_n C dX0_orderStock_13 rfl rfl ?_
    refine r_aload_n C dX0_orderStock_14 rfl rfl ?_
    refine r_get C (j := 11) rfl in_X0 (GA_o hl_G) (by decide) fl_X0_58 rfl rfl dX0_orderStock_15 ?_
    refine r_sipush C (v := 421) dX0_orderStock_18 rfl ?_
    refine r_imul C dX0_orderStock_21 ?_
    refine r_sipush C (v := 1663) dX0_orderStock_22 rfl ?_
    refine r_iadd C dX0_orderStock_25 ?_
    refine r_sipush C (v := 10000) dX0_orderStock_26 rfl ?_
    refine r_irem C dX0_orderStock_29 (by decide) ?_
    refine r_put C (j := 11) tyX0 tyX0_ok nmX0 rfl in_X0 (GA_o hl_G) (by decide) fl_X0_58 rfl rfl rfl (by first | rfl | decide) (by first | rfl | decide) (Nat.le_of_ble_eq_true rfl) dX0_orderStock_30 ?_
    refine V.heap (pG_num hl_G 6 _ rfl) ?_
    refine V.heap hl_pG ?_
    refine r_aload_n C dX0_orderStock_33 rfl rfl ?_
    refine r_iload_n C dX0_orderStock_34 rfl rfl ?_
    refine r_aload_n C dX0_orderStock_35 rfl rfl ?_
    refine r_cVv C (c_X0_insertByLot hla hlt hne ht h_i) lk_X0_81 rfl (GA_o hl_G) rfl rfl ⟨(Nat.le_of_ble_eq_true rfl), (Nat.le_of_ble_eq_true rfl), (Nat.le_of_ble_eq_true rfl), (Nat.le_of_ble_eq_true rfl), (Nat.le_of_ble_eq_true rfl)⟩ dX0_orderStock_36 ?_
    refine r_iinc C (v := 1) dX0_orderStock_39 rfl rfl (by decide) ?_
    refine r_goto C 7 dX0_orderStock_42 (by decide) ?_
    refine V.sub [(0, .ref g), (2, .ref lt), (3, .int (nI (i + 1)))] ⟨rfl, rfl, (by rw [← nI_1 i]; rfl), trivial⟩ ?_
    exact ih_i
def s_0 (S : gS) (n : Int32) : gS := gc (gc (gc (gc (gc S 0 n) 1 0) 2 0) 3 0) 4 0
def s_1 (S : gS) (n : Int32) : gS := g_mr (g_mtO (gZ (gZ (s_0 S n) 1) 2) 7) 3
def s_2 (f : Nat → Int32) (S : gS) (n x : Int32) : (Nat → Int32) × gS := i_ord f (s_1 S n) x 28
def s_3 (f : Nat → Int32) (S : gS) (n x : Int32) : (Nat → Int32) × gS := ((s_2 f S n x).1, g_dO (s_2 f S n x).2 ((s_2 f S n x).2 5 0).toNatClampNeg)
set_option maxHeartbeats 800000 in
set_option maxRecDepth 100000 in
theorem c_X0_start {G : ga_} {l : Launch} {h : HP} {sz : Nat} {g la lt : Nat} {S : gS} {f : Nat → Int32} {n x : Int32} (hla : la < g ∨ g + 11 ≤ la) (hlt : lt < g ∨ g + 11 ≤ lt) (hne : lt ≠ la) (ht : h lt = some (ob_ 2 [.int 28, .ref la])) : Mf G l yX0_start cX0_start 4 none 4 88 0 0 [.ref g, .int n, .int x, .ref lt] (hl_ G h g la f S) sz none (hl_ G h g la (s_3 f S n x).1 (s_3 f S n x).2) sz := by
  refine Mg.ofV [(0, .ref g), (1, .int n), (2, .int x), (3, .ref lt)] (by decide) (Nat.le_of_ble_eq_true rfl) rfl ?_
  intro p e s m args below meth c C

  refine r_aload_n C dX0_start_0 rfl rfl ?_
  refine r_iload_n C dX0_start_1 rfl rfl ?_
  refine r_put C (j := 5) tyX0 tyX0_ok nmX0 rfl in_X0 (GA_o hl_G) (by decide) fl_X0_40 rfl rfl rfl (by first | rfl | decide) (by first | rfl | decide) (Nat.le_of_ble_eq_true rfl) dX0_start_2 ?_
  refine V.heap (pG_num hl_G 0 _ rfl) ?_
  refine V.heap hl_pG ?_
  refine r_aload_n C dX0_start_5 rfl rfl ?_
  refine r_iconst C (v := 0) dX0_start_6 rfl ?_
  refine r_put C (j := 6) tyX0 tyX0_ok nmX0 rfl in_X0 (GA_o hl_G) (by decide) fl_X0_43 rfl rfl rfl (by first | rfl | decide) (by first | rfl | decide) (Nat.le_of_ble_eq_true rfl) dX0_start_7 ?_
  refine V.heap (pG_num hl_G 1 _ rfl) ?_
  refine V.heap hl_pG ?_
  refine r_aload_n C dX0_start_10 rfl rfl ?_
  refine r_iconst C (v := 0) dX0_start_11 rfl ?_
  refine r_put C (j := 7) tyX0 tyX0_ok nmX0 rfl in_X0 (GA_o hl_G) (by decide) fl_X0_46 rfl rfl rfl (by first | rfl | decide) (by first | rfl | decide) (Nat.le_of_ble_eq_true rfl) dX0_start_12 ?_
  refine V.heap (pG_num hl_G 2 _ rfl) ?_
  refine V.heap hl_pG ?_
  refine r_aload_n C dX0_start_15 rfl rfl ?_
  refine r_iconst C (v := 0) dX0_start_16 rfl ?_
  refine r_put C (j := 8) tyX0 tyX0_ok nmX0 rfl in_X0 (GA_o hl_G) (by decide) fl_X0_49 rfl rfl rfl (by first | rfl | decide) (by first | rfl | decide) (Nat.le_of_ble_eq_true rfl) dX0_start_17 ?_
  refine V.heap (pG_num hl_G 3 _ rfl) ?_
  refine V.heap hl_pG ?_
  refine r_aload_n C dX0_start_20 rfl rfl ?_
  refine r_iconst C (v := 0) dX0_start_21 rfl ?_
  refine r_put C (j := 9) tyX0 tyX0_ok nmX0 rfl in_X0 (GA_o hl_G) (by decide) fl_X0_52 rfl rfl rfl (by first | rfl | decide) (by first | rfl | decide) (Nat.le_of_ble_eq_true rfl) dX0_start_22 ?_
  refine V.heap (pG_num hl_G 4 _ rfl) ?_
  refine V.heap hl_pG ?_
  refine r_aload_n C dX0_start_25 rfl rfl ?_
  refine r_get C (j := 1) rfl in_X0 (GA_o hl_G) (by decide) fl_X0_20 rfl rfl dX0_start_26 ?_
  refine r_cVv C (c_clear1 hl_G) lk_X0_61 rfl (GA_t1 hl_G) rfl rfl ⟨(Nat.le_of_ble_eq_true rfl), (Nat.le_of_ble_eq_true rfl), (Nat.le_of_ble_eq_true rfl), (Nat.le_of_ble_eq_true rfl), (Nat.le_of_ble_eq_true rfl)⟩ dX0_start_29 ?_
  refine V.heap hl_pG ?_
  refine r_aload_n C dX0_start_32 rfl rfl ?_
  refine r_get C (j := 2) rfl in_X0 (GA_o hl_G) (by decide) fl_X0_23 rfl rfl dX0_start_33 ?_
  refine r_cVv C (c_clear2 hl_G) lk_X0_61 rfl (GA_t2 hl_G) rfl rfl ⟨(Nat.le_of_ble_eq_true rfl), (Nat.le_of_ble_eq_true rfl), (Nat.le_of_ble_eq_true rfl), (Nat.le_of_ble_eq_true rfl), (Nat.le_of_ble_eq_true rfl)⟩ dX0_start_36 ?_
  refine V.heap hl_pG ?_
  refine r_aload_n C dX0_start_39 rfl rfl ?_
  refine r_cVv C (c_X0_makeTiles hl_G) lk_X0_64 rfl (GA_o hl_G) rfl rfl ⟨(Nat.le_of_ble_eq_true rfl), (Nat.le_of_ble_eq_true rfl), (Nat.le_of_ble_eq_true rfl), (Nat.le_of_ble_eq_true rfl), (Nat.le_of_ble_eq_true rfl)⟩ dX0_start_40 ?_
  refine V.heap hl_pG ?_
  refine r_aload_n C dX0_start_43 rfl rfl ?_
  refine r_cVv C (c_X0_makeRows hl_G) lk_X0_67 rfl (GA_o hl_G) rfl rfl ⟨(Nat.le_of_ble_eq_true rfl), (Nat.le_of_ble_eq_true rfl), (Nat.le_of_ble_eq_true rfl), (Nat.le_of_ble_eq_true rfl), (Nat.le_of_ble_eq_true rfl)⟩ dX0_start_44 ?_
  refine V.heap hl_pG ?_
  refine r_aload_n C dX0_start_47 rfl rfl ?_
  refine r_iload_n C dX0_start_48 rfl rfl ?_
  refine r_aload_n C dX0_start_49 rfl rfl ?_
  refine r_cVv C (c_X0_orderStock hla hlt hne ht) lk_X0_70 rfl (GA_o hl_G) rfl rfl ⟨(Nat.le_of_ble_eq_true rfl), (Nat.le_of_ble_eq_true rfl), (Nat.le_of_ble_eq_true rfl), (Nat.le_of_ble_eq_true rfl), (Nat.le_of_ble_eq_true rfl)⟩ dX0_start_50 ?_
  refine r_aload_n C dX0_start_53 rfl rfl ?_
  refine r_cVv C (c_X0_deal hl_G) lk_X0_74 rfl (GA_o hl_G) rfl rfl ⟨(Nat.le_of_ble_eq_true rfl), (Nat.le_of_ble_eq_true rfl), (Nat.le_of_ble_eq_true rfl), (Nat.le_of_ble_eq_true rfl), (Nat.le_of_ble_eq_true rfl)⟩ dX0_start_54 ?_
  refine V.heap hl_pG ?_
  exact r_vret C rfl (Nat.le_of_ble_eq_true rfl) (Nat.le_of_ble_eq_true rfl) ⟨rfl, by simp only [s_3, s_2, s_1, s_0], rfl⟩ dX0_start_57
