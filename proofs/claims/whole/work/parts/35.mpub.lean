/-! THE MODEL'S PUBLIC METHODS -/
theorem en_o {i : Nat} (h : i < 28) (S : gS) : en S (196 + i) = tAt 28 28 (S 4) 0 (nI i) := by have e := en_ord h S; rw [nI_clamp (by omega)] at e; exact e
set_option maxHeartbeats 800000 in
set_option maxRecDepth 100000 in
theorem c_X6_tileOf_t {G : ga_} {l : Launch} {h : HP} {sz : Nat} {mo : Nat} {S A : gS} {dg : Int64} {t : Nat} {v : Nat}  (w : MA G h mo S A dg)  (ht : t < 28) (hw7 : v < 7) (hpl : m_in (nI t) 0 27 = true) (hg : m_in (nI v) 0 6 = true)  : Mf G l yX6_tileOf cX6_tileOf 3 (some .int) 1 22 0 0 [.ref mo, .int (nI t), .int (nI v)] h sz (some (.int (tAt 7 196 (S 0) (nI t) (nI v)))) (pM G h mo (S) (ac A 0 0) (dg)) sz := by
  refine Mg.ofV [(0, .ref mo), (1, .int (nI t)), (2, .int (nI v))] (by decide) (Nat.le_of_ble_eq_true rfl) rfl ?_
  intro p e s m args below meth c C
  refine V.heap (pM_id w).symm ?_
  refine r_aload_n C dX6_tileOf_0 rfl rfl ?_
  refine r_iload_n C dX6_tileOf_1 rfl rfl ?_
  refine r_iconst C (v := 0) dX6_tileOf_2 rfl ?_
  refine r_bipush C (v := 27) dX6_tileOf_3 rfl ?_
  refine r_cSi C (c_X6_in) lk_X6_37 rfl rfl ⟨(Nat.le_of_ble_eq_true rfl), (Nat.le_of_ble_eq_true rfl), (Nat.le_of_ble_eq_true rfl), (Nat.le_of_ble_eq_true rfl), (Nat.le_of_ble_eq_true rfl)⟩ dX6_tileOf_5 ?_
  refine r_if_ne C 15 dX6_tileOf_8 (by decide) (fun _ => ?_) (fun c => absurd c (by rw [hpl]; decide))
  refine r_iload_n C dX6_tileOf_15 rfl rfl ?_
  refine r_iconst C (v := 0) dX6_tileOf_16 rfl ?_
  refine r_bipush C (v := 6) dX6_tileOf_17 rfl ?_
  refine r_cSi C (c_X6_in) lk_X6_37 rfl rfl ⟨(Nat.le_of_ble_eq_true rfl), (Nat.le_of_ble_eq_true rfl), (Nat.le_of_ble_eq_true rfl), (Nat.le_of_ble_eq_true rfl), (Nat.le_of_ble_eq_true rfl)⟩ dX6_tileOf_19 ?_
  refine r_if_eq C 29 dX6_tileOf_22 (by decide) (fun c => absurd c (by rw [hg]; decide)) (fun _ => ?_)
  refine r_iconst C (v := 0) dX6_tileOf_25 rfl ?_
  refine r_goto C 30 dX6_tileOf_26 (by decide) ?_
  refine r_cVi C (c_X6_holds MA_pM) lk_X6_65 rfl (MA_o MA_pM) rfl rfl ⟨(Nat.le_of_ble_eq_true rfl), (Nat.le_of_ble_eq_true rfl), (Nat.le_of_ble_eq_true rfl), (Nat.le_of_ble_eq_true rfl), (Nat.le_of_ble_eq_true rfl)⟩ dX6_tileOf_30 ?_
  refine V.heap (pM_pM _ _ _ _ _ _ _ _) ?_
  refine r_if_eq C 49 dX6_tileOf_33 (by decide) (fun c => absurd c (by decide)) (fun _ => ?_)
  refine r_aload_n C dX6_tileOf_36 rfl rfl ?_
  refine r_get C (j := 1) rfl in_X6 (MA_o MA_pM) (by decide) fl_X6_7 rfl rfl dX6_tileOf_37 ?_
  refine r_iload_n C dX6_tileOf_40 rfl rfl ?_
  refine r_iload_n C dX6_tileOf_41 rfl rfl ?_
  refine r_cSi C (c_X6_of (a := t) (b := v)) lk_X6_44 rfl rfl ⟨(Nat.le_of_ble_eq_true rfl), (Nat.le_of_ble_eq_true rfl), (Nat.le_of_ble_eq_true rfl), (Nat.le_of_ble_eq_true rfl), (Nat.le_of_ble_eq_true rfl)⟩ dX6_tileOf_42 ?_
  refine r_iald C (MA_s MA_pM) (vp_in_nI (by omega) (by decide)) dX6_tileOf_45 ?_
  refine V.st0 (en_of (t := t) (w := v) (wi := nI (v)) (by omega) (by omega) rfl _) ?_
  refine r_goto C 50 dX6_tileOf_46 (by decide) ?_
  exact r_iret C rfl (Nat.le_of_ble_eq_true rfl) (Nat.le_of_ble_eq_true rfl) ⟨rfl, rfl, rfl⟩ dX6_tileOf_50

set_option maxHeartbeats 800000 in
set_option maxRecDepth 100000 in
theorem c_X6_tileOf_f {G : ga_} {l : Launch} {h : HP} {sz : Nat} {mo : Nat} {S A : gS} {dg : Int64} {a : Int32} {b : Int32}  (w : MA G h mo S A dg)  (hpl : m_in a 0 27 = false)  : Mf G l yX6_tileOf cX6_tileOf 3 (some .int) 1 22 0 0 [.ref mo, .int a, .int b] h sz (some (.int (0))) (pM G h mo (S) (ac A 0 1) (dg)) sz := by
  refine Mg.ofV [(0, .ref mo), (1, .int a), (2, .int b)] (by decide) (Nat.le_of_ble_eq_true rfl) rfl ?_
  intro p e s m args below meth c C
  refine V.heap (pM_id w).symm ?_
  refine r_aload_n C dX6_tileOf_0 rfl rfl ?_
  refine r_iload_n C dX6_tileOf_1 rfl rfl ?_
  refine r_iconst C (v := 0) dX6_tileOf_2 rfl ?_
  refine r_bipush C (v := 27) dX6_tileOf_3 rfl ?_
  refine r_cSi C (c_X6_in) lk_X6_37 rfl rfl ⟨(Nat.le_of_ble_eq_true rfl), (Nat.le_of_ble_eq_true rfl), (Nat.le_of_ble_eq_true rfl), (Nat.le_of_ble_eq_true rfl), (Nat.le_of_ble_eq_true rfl)⟩ dX6_tileOf_5 ?_
  refine r_if_ne C 15 dX6_tileOf_8 (by decide) (fun c => absurd (by rw [hpl]; rfl) c) (fun _ => ?_)
  refine r_iconst C (v := 1) dX6_tileOf_11 rfl ?_
  refine r_goto C 30 dX6_tileOf_12 (by decide) ?_
  refine r_cVi C (c_X6_holds MA_pM) lk_X6_65 rfl (MA_o MA_pM) rfl rfl ⟨(Nat.le_of_ble_eq_true rfl), (Nat.le_of_ble_eq_true rfl), (Nat.le_of_ble_eq_true rfl), (Nat.le_of_ble_eq_true rfl), (Nat.le_of_ble_eq_true rfl)⟩ dX6_tileOf_30 ?_
  refine V.heap (pM_pM _ _ _ _ _ _ _ _) ?_
  refine r_if_eq C 49 dX6_tileOf_33 (by decide) (fun _ => ?_) (fun c => absurd (by decide) c)
  refine r_iconst C (v := 0) dX6_tileOf_49 rfl ?_
  exact r_iret C rfl (Nat.le_of_ble_eq_true rfl) (Nat.le_of_ble_eq_true rfl) ⟨rfl, rfl, rfl⟩ dX6_tileOf_50

set_option maxHeartbeats 800000 in
set_option maxRecDepth 100000 in
theorem c_X6_tileOf_n {G : ga_} {l : Launch} {h : HP} {sz : Nat} {mo : Nat} {S A : gS} {dg : Int64} {a : Int32} {b : Int32}  (w : MA G h mo S A dg)  (hpl : m_in a 0 27 = true) (hg : m_in b 0 6 = false)  : Mf G l yX6_tileOf cX6_tileOf 3 (some .int) 1 22 0 0 [.ref mo, .int a, .int b] h sz (some (.int (0))) (pM G h mo (S) (ac A 0 2) (dg)) sz := by
  refine Mg.ofV [(0, .ref mo), (1, .int a), (2, .int b)] (by decide) (Nat.le_of_ble_eq_true rfl) rfl ?_
  intro p e s m args below meth c C
  refine V.heap (pM_id w).symm ?_
  refine r_aload_n C dX6_tileOf_0 rfl rfl ?_
  refine r_iload_n C dX6_tileOf_1 rfl rfl ?_
  refine r_iconst C (v := 0) dX6_tileOf_2 rfl ?_
  refine r_bipush C (v := 27) dX6_tileOf_3 rfl ?_
  refine r_cSi C (c_X6_in) lk_X6_37 rfl rfl ⟨(Nat.le_of_ble_eq_true rfl), (Nat.le_of_ble_eq_true rfl), (Nat.le_of_ble_eq_true rfl), (Nat.le_of_ble_eq_true rfl), (Nat.le_of_ble_eq_true rfl)⟩ dX6_tileOf_5 ?_
  refine r_if_ne C 15 dX6_tileOf_8 (by decide) (fun _ => ?_) (fun c => absurd c (by rw [hpl]; decide))
  refine r_iload_n C dX6_tileOf_15 rfl rfl ?_
  refine r_iconst C (v := 0) dX6_tileOf_16 rfl ?_
  refine r_bipush C (v := 6) dX6_tileOf_17 rfl ?_
  refine r_cSi C (c_X6_in) lk_X6_37 rfl rfl ⟨(Nat.le_of_ble_eq_true rfl), (Nat.le_of_ble_eq_true rfl), (Nat.le_of_ble_eq_true rfl), (Nat.le_of_ble_eq_true rfl), (Nat.le_of_ble_eq_true rfl)⟩ dX6_tileOf_19 ?_
  refine r_if_eq C 29 dX6_tileOf_22 (by decide) (fun _ => ?_) (fun c => absurd (by rw [hg]; rfl) c)
  refine r_iconst C (v := 2) dX6_tileOf_29 rfl ?_
  refine r_cVi C (c_X6_holds MA_pM) lk_X6_65 rfl (MA_o MA_pM) rfl rfl ⟨(Nat.le_of_ble_eq_true rfl), (Nat.le_of_ble_eq_true rfl), (Nat.le_of_ble_eq_true rfl), (Nat.le_of_ble_eq_true rfl), (Nat.le_of_ble_eq_true rfl)⟩ dX6_tileOf_30 ?_
  refine V.heap (pM_pM _ _ _ _ _ _ _ _) ?_
  refine r_if_eq C 49 dX6_tileOf_33 (by decide) (fun _ => ?_) (fun c => absurd (by decide) c)
  refine r_iconst C (v := 0) dX6_tileOf_49 rfl ?_
  exact r_iret C rfl (Nat.le_of_ble_eq_true rfl) (Nat.le_of_ble_eq_true rfl) ⟨rfl, rfl, rfl⟩ dX6_tileOf_50

set_option maxHeartbeats 800000 in
set_option maxRecDepth 100000 in
theorem c_X6_rowOf_t {G : ga_} {l : Launch} {h : HP} {sz : Nat} {mo : Nat} {S A : gS} {dg : Int64} {r : Nat} {v : Nat}  (w : MA G h mo S A dg)  (hr : r < 3) (hw4 : v < 4) (hpl : m_in (nI r) 0 2 = true) (hg : m_in (nI v) 0 3 = true)  : Mf G l yX6_rowOf cX6_rowOf 3 (some .int) 2 42 0 0 [.ref mo, .int (nI r), .int (nI v)] h sz (some (.int (tAt 4 12 (S 3) (nI r) (nI v)))) (pM G h mo (S) (ac A 0 0) (dg)) sz := by
  refine Mg.ofV [(0, .ref mo), (1, .int (nI r)), (2, .int (nI v))] (by decide) (Nat.le_of_ble_eq_true rfl) rfl ?_
  intro p e s m args below meth c C
  refine V.heap (pM_id w).symm ?_
  refine r_aload_n C dX6_rowOf_0 rfl rfl ?_
  refine r_iload_n C dX6_rowOf_1 rfl rfl ?_
  refine r_cSi C (c_X6_isRow) lk_X6_97 rfl rfl ⟨(Nat.le_of_ble_eq_true rfl), (Nat.le_of_ble_eq_true rfl), (Nat.le_of_ble_eq_true rfl), (Nat.le_of_ble_eq_true rfl), (Nat.le_of_ble_eq_true rfl)⟩ dX6_rowOf_2 ?_
  refine r_if_ne C 12 dX6_rowOf_5 (by decide) (fun _ => ?_) (fun c => absurd c (by rw [hpl]; decide))
  refine r_iload_n C dX6_rowOf_12 rfl rfl ?_
  refine r_iconst C (v := 0) dX6_rowOf_13 rfl ?_
  refine r_iconst C (v := 3) dX6_rowOf_14 rfl ?_
  refine r_cSi C (c_X6_in) lk_X6_37 rfl rfl ⟨(Nat.le_of_ble_eq_true rfl), (Nat.le_of_ble_eq_true rfl), (Nat.le_of_ble_eq_true rfl), (Nat.le_of_ble_eq_true rfl), (Nat.le_of_ble_eq_true rfl)⟩ dX6_rowOf_15 ?_
  refine r_if_eq C 25 dX6_rowOf_18 (by decide) (fun c => absurd c (by rw [hg]; decide)) (fun _ => ?_)
  refine r_iconst C (v := 0) dX6_rowOf_21 rfl ?_
  refine r_goto C 26 dX6_rowOf_22 (by decide) ?_
  refine r_cVi C (c_X6_holds MA_pM) lk_X6_65 rfl (MA_o MA_pM) rfl rfl ⟨(Nat.le_of_ble_eq_true rfl), (Nat.le_of_ble_eq_true rfl), (Nat.le_of_ble_eq_true rfl), (Nat.le_of_ble_eq_true rfl), (Nat.le_of_ble_eq_true rfl)⟩ dX6_rowOf_26 ?_
  refine V.heap (pM_pM _ _ _ _ _ _ _ _) ?_
  refine r_if_eq C 45 dX6_rowOf_29 (by decide) (fun c => absurd c (by decide)) (fun _ => ?_)
  refine r_aload_n C dX6_rowOf_32 rfl rfl ?_
  refine r_get C (j := 1) rfl in_X6 (MA_o MA_pM) (by decide) fl_X6_7 rfl rfl dX6_rowOf_33 ?_
  refine r_iload_n C dX6_rowOf_36 rfl rfl ?_
  refine r_iload_n C dX6_rowOf_37 rfl rfl ?_
  refine r_cSi C (c_X6_ofRow (a := r) (b := v)) lk_X6_62 rfl rfl ⟨(Nat.le_of_ble_eq_true rfl), (Nat.le_of_ble_eq_true rfl), (Nat.le_of_ble_eq_true rfl), (Nat.le_of_ble_eq_true rfl), (Nat.le_of_ble_eq_true rfl)⟩ dX6_rowOf_38 ?_
  refine r_iald C (MA_s MA_pM) (vp_in_nI (by omega) (by decide)) dX6_rowOf_41 ?_
  refine V.st0 (en_row (r := r) (w := v) (wi := nI (v)) (by omega) (by omega) rfl _) ?_
  refine r_goto C 46 dX6_rowOf_42 (by decide) ?_
  exact r_iret C rfl (Nat.le_of_ble_eq_true rfl) (Nat.le_of_ble_eq_true rfl) ⟨rfl, rfl, rfl⟩ dX6_rowOf_46

set_option maxHeartbeats 800000 in
set_option maxRecDepth 100000 in
theorem c_X6_rowOf_f {G : ga_} {l : Launch} {h : HP} {sz : Nat} {mo : Nat} {S A : gS} {dg : Int64} {a : Int32} {b : Int32}  (w : MA G h mo S A dg)  (hpl : m_in a 0 2 = false)  : Mf G l yX6_rowOf cX6_rowOf 3 (some .int) 2 42 0 0 [.ref mo, .int a, .int b] h sz (some (.int (0))) (pM G h mo (S) (ac A 0 1) (dg)) sz := by
  refine Mg.ofV [(0, .ref mo), (1, .int a), (2, .int b)] (by decide) (Nat.le_of_ble_eq_true rfl) rfl ?_
  intro p e s m args below meth c C
  refine V.heap (pM_id w).symm ?_
  refine r_aload_n C dX6_rowOf_0 rfl rfl ?_
  refine r_iload_n C dX6_rowOf_1 rfl rfl ?_
  refine r_cSi C (c_X6_isRow) lk_X6_97 rfl rfl ⟨(Nat.le_of_ble_eq_true rfl), (Nat.le_of_ble_eq_true rfl), (Nat.le_of_ble_eq_true rfl), (Nat.le_of_ble_eq_true rfl), (Nat.le_of_ble_eq_true rfl)⟩ dX6_rowOf_2 ?_
  refine r_if_ne C 12 dX6_rowOf_5 (by decide) (fun c => absurd (by rw [hpl]; rfl) c) (fun _ => ?_)
  refine r_iconst C (v := 1) dX6_rowOf_8 rfl ?_
  refine r_goto C 26 dX6_rowOf_9 (by decide) ?_
  refine r_cVi C (c_X6_holds MA_pM) lk_X6_65 rfl (MA_o MA_pM) rfl rfl ⟨(Nat.le_of_ble_eq_true rfl), (Nat.le_of_ble_eq_true rfl), (Nat.le_of_ble_eq_true rfl), (Nat.le_of_ble_eq_true rfl), (Nat.le_of_ble_eq_true rfl)⟩ dX6_rowOf_26 ?_
  refine V.heap (pM_pM _ _ _ _ _ _ _ _) ?_
  refine r_if_eq C 45 dX6_rowOf_29 (by decide) (fun _ => ?_) (fun c => absurd (by decide) c)
  refine r_iconst C (v := 0) dX6_rowOf_45 rfl ?_
  exact r_iret C rfl (Nat.le_of_ble_eq_true rfl) (Nat.le_of_ble_eq_true rfl) ⟨rfl, rfl, rfl⟩ dX6_rowOf_46

set_option maxHeartbeats 800000 in
set_option maxRecDepth 100000 in
theorem c_X6_rowOf_n {G : ga_} {l : Launch} {h : HP} {sz : Nat} {mo : Nat} {S A : gS} {dg : Int64} {a : Int32} {b : Int32}  (w : MA G h mo S A dg)  (hpl : m_in a 0 2 = true) (hg : m_in b 0 3 = false)  : Mf G l yX6_rowOf cX6_rowOf 3 (some .int) 2 42 0 0 [.ref mo, .int a, .int b] h sz (some (.int (0))) (pM G h mo (S) (ac A 0 2) (dg)) sz := by
  refine Mg.ofV [(0, .ref mo), (1, .int a), (2, .int b)] (by decide) (Nat.le_of_ble_eq_true rfl) rfl ?_
  intro p e s m args below meth c C
  refine V.heap (pM_id w).symm ?_
  refine r_aload_n C dX6_rowOf_0 rfl rfl ?_
  refine r_iload_n C dX6_rowOf_1 rfl rfl ?_
  refine r_cSi C (c_X6_isRow) lk_X6_97 rfl rfl ⟨(Nat.le_of_ble_eq_true rfl), (Nat.le_of_ble_eq_true rfl), (Nat.le_of_ble_eq_true rfl), (Nat.le_of_ble_eq_true rfl), (Nat.le_of_ble_eq_true rfl)⟩ dX6_rowOf_2 ?_
  refine r_if_ne C 12 dX6_rowOf_5 (by decide) (fun _ => ?_) (fun c => absurd c (by rw [hpl]; decide))
  refine r_iload_n C dX6_rowOf_12 rfl rfl ?_
  refine r_iconst C (v := 0) dX6_rowOf_13 rfl ?_
  refine r_iconst C (v := 3) dX6_rowOf_14 rfl ?_
  refine r_cSi C (c_X6_in) lk_X6_37 rfl rfl ⟨(Nat.le_of_ble_eq_true rfl), (Nat.le_of_ble_eq_true rfl), (Nat.le_of_ble_eq_true rfl), (Nat.le_of_ble_eq_true rfl), (Nat.le_of_ble_eq_true rfl)⟩ dX6_rowOf_15 ?_
  refine r_if_eq C 25 dX6_rowOf_18 (by decide) (fun _ => ?_) (fun c => absurd (by rw [hg]; rfl) c)
  refine r_iconst C (v := 2) dX6_rowOf_25 rfl ?_
  refine r_cVi C (c_X6_holds MA_pM) lk_X6_65 rfl (MA_o MA_pM) rfl rfl ⟨(Nat.le_of_ble_eq_true rfl), (Nat.le_of_ble_eq_true rfl), (Nat.le_of_ble_eq_true rfl), (Nat.le_of_ble_eq_true rfl), (Nat.le_of_ble_eq_true rfl)⟩ dX6_rowOf_26 ?_
  refine V.heap (pM_pM _ _ _ _ _ _ _ _) ?_
  refine r_if_eq C 45 dX6_rowOf_29 (by decide) (fun _ => ?_) (fun c => absurd (by decide) c)
  refine r_iconst C (v := 0) dX6_rowOf_45 rfl ?_
  exact r_iret C rfl (Nat.le_of_ble_eq_true rfl) (Nat.le_of_ble_eq_true rfl) ⟨rfl, rfl, rfl⟩ dX6_rowOf_46

set_option maxHeartbeats 800000 in
set_option maxRecDepth 100000 in
theorem c_X6_playerOf_t {G : ga_} {l : Launch} {h : HP} {sz : Nat} {mo : Nat} {S A : gS} {dg : Int64} {u : Nat} {v : Int32}  (w : MA G h mo S A dg)  (hp : u < 4) (hb : nB S) (hv : okN v 7 = true) (hpl : m_in (nI u) 0 (S 5 0 - 1) = true) (hg : m_in v 0 6 = true)  : Mf G l yX6_playerOf cX6_playerOf 3 (some .int) 5 115 0 0 [.ref mo, .int (nI u), .int v] h sz (some (.int (g_prop S (nI u) v))) (pM G h mo (S) (ac A 0 0) (dg)) sz := by
  refine Mg.ofV [(0, .ref mo), (1, .int (nI u)), (2, .int v)] (by decide) (Nat.le_of_ble_eq_true rfl) rfl ?_
  intro p e s m args below meth c C
  refine V.heap (pM_id w).symm ?_
  refine r_aload_n C dX6_playerOf_0 rfl rfl ?_
  refine r_aload_n C dX6_playerOf_1 rfl rfl ?_
  refine r_iload_n C dX6_playerOf_2 rfl rfl ?_
  refine r_cVi C (c_X6_isPlayer MA_pM) lk_X6_152 rfl (MA_o MA_pM) rfl rfl ⟨(Nat.le_of_ble_eq_true rfl), (Nat.le_of_ble_eq_true rfl), (Nat.le_of_ble_eq_true rfl), (Nat.le_of_ble_eq_true rfl), (Nat.le_of_ble_eq_true rfl)⟩ dX6_playerOf_3 ?_
  refine r_if_ne C 13 dX6_playerOf_6 (by decide) (fun _ => ?_) (fun c => absurd c (by rw [hpl]; decide))
  refine r_iload_n C dX6_playerOf_13 rfl rfl ?_
  refine r_iconst C (v := 0) dX6_playerOf_14 rfl ?_
  refine r_bipush C (v := 6) dX6_playerOf_15 rfl ?_
  refine r_cSi C (c_X6_in) lk_X6_37 rfl rfl ⟨(Nat.le_of_ble_eq_true rfl), (Nat.le_of_ble_eq_true rfl), (Nat.le_of_ble_eq_true rfl), (Nat.le_of_ble_eq_true rfl), (Nat.le_of_ble_eq_true rfl)⟩ dX6_playerOf_17 ?_
  refine r_if_eq C 27 dX6_playerOf_20 (by decide) (fun c => absurd c (by rw [hg]; decide)) (fun _ => ?_)
  refine r_iconst C (v := 0) dX6_playerOf_23 rfl ?_
  refine r_goto C 28 dX6_playerOf_24 (by decide) ?_
  refine r_cVi C (c_X6_holds MA_pM) lk_X6_65 rfl (MA_o MA_pM) rfl rfl ⟨(Nat.le_of_ble_eq_true rfl), (Nat.le_of_ble_eq_true rfl), (Nat.le_of_ble_eq_true rfl), (Nat.le_of_ble_eq_true rfl), (Nat.le_of_ble_eq_true rfl)⟩ dX6_playerOf_28 ?_
  refine V.heap (pM_pM _ _ _ _ _ _ _ _) ?_
  refine r_if_eq C 43 dX6_playerOf_31 (by decide) (fun c => absurd c (by decide)) (fun _ => ?_)
  refine r_aload_n C dX6_playerOf_34 rfl rfl ?_
  refine r_iload_n C dX6_playerOf_35 rfl rfl ?_
  refine r_iload_n C dX6_playerOf_36 rfl rfl ?_
  refine r_cVi C (c_X6_ofPlayer (u := u) MA_pM hp hb hv) lk_X6_164 rfl (MA_o MA_pM) rfl rfl ⟨(Nat.le_of_ble_eq_true rfl), (Nat.le_of_ble_eq_true rfl), (Nat.le_of_ble_eq_true rfl), (Nat.le_of_ble_eq_true rfl), (Nat.le_of_ble_eq_true rfl)⟩ dX6_playerOf_37 ?_
  refine r_goto C 44 dX6_playerOf_40 (by decide) ?_
  exact r_iret C rfl (Nat.le_of_ble_eq_true rfl) (Nat.le_of_ble_eq_true rfl) ⟨rfl, rfl, rfl⟩ dX6_playerOf_44

set_option maxHeartbeats 800000 in
set_option maxRecDepth 100000 in
theorem c_X6_playerOf_f {G : ga_} {l : Launch} {h : HP} {sz : Nat} {mo : Nat} {S A : gS} {dg : Int64} {a : Int32} {b : Int32}  (w : MA G h mo S A dg)  (hpl : m_in a 0 (S 5 0 - 1) = false)  : Mf G l yX6_playerOf cX6_playerOf 3 (some .int) 5 115 0 0 [.ref mo, .int a, .int b] h sz (some (.int (0))) (pM G h mo (S) (ac A 0 1) (dg)) sz := by
  refine Mg.ofV [(0, .ref mo), (1, .int a), (2, .int b)] (by decide) (Nat.le_of_ble_eq_true rfl) rfl ?_
  intro p e s m args below meth c C
  refine V.heap (pM_id w).symm ?_
  refine r_aload_n C dX6_playerOf_0 rfl rfl ?_
  refine r_aload_n C dX6_playerOf_1 rfl rfl ?_
  refine r_iload_n C dX6_playerOf_2 rfl rfl ?_
  refine r_cVi C (c_X6_isPlayer MA_pM) lk_X6_152 rfl (MA_o MA_pM) rfl rfl ⟨(Nat.le_of_ble_eq_true rfl), (Nat.le_of_ble_eq_true rfl), (Nat.le_of_ble_eq_true rfl), (Nat.le_of_ble_eq_true rfl), (Nat.le_of_ble_eq_true rfl)⟩ dX6_playerOf_3 ?_
  refine r_if_ne C 13 dX6_playerOf_6 (by decide) (fun c => absurd (by rw [hpl]; rfl) c) (fun _ => ?_)
  refine r_iconst C (v := 1) dX6_playerOf_9 rfl ?_
  refine r_goto C 28 dX6_playerOf_10 (by decide) ?_
  refine r_cVi C (c_X6_holds MA_pM) lk_X6_65 rfl (MA_o MA_pM) rfl rfl ⟨(Nat.le_of_ble_eq_true rfl), (Nat.le_of_ble_eq_true rfl), (Nat.le_of_ble_eq_true rfl), (Nat.le_of_ble_eq_true rfl), (Nat.le_of_ble_eq_true rfl)⟩ dX6_playerOf_28 ?_
  refine V.heap (pM_pM _ _ _ _ _ _ _ _) ?_
  refine r_if_eq C 43 dX6_playerOf_31 (by decide) (fun _ => ?_) (fun c => absurd (by decide) c)
  refine r_iconst C (v := 0) dX6_playerOf_43 rfl ?_
  exact r_iret C rfl (Nat.le_of_ble_eq_true rfl) (Nat.le_of_ble_eq_true rfl) ⟨rfl, rfl, rfl⟩ dX6_playerOf_44

set_option maxHeartbeats 800000 in
set_option maxRecDepth 100000 in
theorem c_X6_playerOf_n {G : ga_} {l : Launch} {h : HP} {sz : Nat} {mo : Nat} {S A : gS} {dg : Int64} {a : Int32} {b : Int32}  (w : MA G h mo S A dg)  (hpl : m_in a 0 (S 5 0 - 1) = true) (hg : m_in b 0 6 = false)  : Mf G l yX6_playerOf cX6_playerOf 3 (some .int) 5 115 0 0 [.ref mo, .int a, .int b] h sz (some (.int (0))) (pM G h mo (S) (ac A 0 2) (dg)) sz := by
  refine Mg.ofV [(0, .ref mo), (1, .int a), (2, .int b)] (by decide) (Nat.le_of_ble_eq_true rfl) rfl ?_
  intro p e s m args below meth c C
  refine V.heap (pM_id w).symm ?_
  refine r_aload_n C dX6_playerOf_0 rfl rfl ?_
  refine r_aload_n C dX6_playerOf_1 rfl rfl ?_
  refine r_iload_n C dX6_playerOf_2 rfl rfl ?_
  refine r_cVi C (c_X6_isPlayer MA_pM) lk_X6_152 rfl (MA_o MA_pM) rfl rfl ⟨(Nat.le_of_ble_eq_true rfl), (Nat.le_of_ble_eq_true rfl), (Nat.le_of_ble_eq_true rfl), (Nat.le_of_ble_eq_true rfl), (Nat.le_of_ble_eq_true rfl)⟩ dX6_playerOf_3 ?_
  refine r_if_ne C 13 dX6_playerOf_6 (by decide) (fun _ => ?_) (fun c => absurd c (by rw [hpl]; decide))
  refine r_iload_n C dX6_playerOf_13 rfl rfl ?_
  refine r_iconst C (v := 0) dX6_playerOf_14 rfl ?_
  refine r_bipush C (v := 6) dX6_playerOf_15 rfl ?_
  refine r_cSi C (c_X6_in) lk_X6_37 rfl rfl ⟨(Nat.le_of_ble_eq_true rfl), (Nat.le_of_ble_eq_true rfl), (Nat.le_of_ble_eq_true rfl), (Nat.le_of_ble_eq_true rfl), (Nat.le_of_ble_eq_true rfl)⟩ dX6_playerOf_17 ?_
  refine r_if_eq C 27 dX6_playerOf_20 (by decide) (fun _ => ?_) (fun c => absurd (by rw [hg]; rfl) c)
  refine r_iconst C (v := 2) dX6_playerOf_27 rfl ?_
  refine r_cVi C (c_X6_holds MA_pM) lk_X6_65 rfl (MA_o MA_pM) rfl rfl ⟨(Nat.le_of_ble_eq_true rfl), (Nat.le_of_ble_eq_true rfl), (Nat.le_of_ble_eq_true rfl), (Nat.le_of_ble_eq_true rfl), (Nat.le_of_ble_eq_true rfl)⟩ dX6_playerOf_28 ?_
  refine V.heap (pM_pM _ _ _ _ _ _ _ _) ?_
  refine r_if_eq C 43 dX6_playerOf_31 (by decide) (fun _ => ?_) (fun c => absurd (by decide) c)
  refine r_iconst C (v := 0) dX6_playerOf_43 rfl ?_
  exact r_iret C rfl (Nat.le_of_ble_eq_true rfl) (Nat.le_of_ble_eq_true rfl) ⟨rfl, rfl, rfl⟩ dX6_playerOf_44

set_option maxHeartbeats 800000 in
set_option maxRecDepth 100000 in
theorem c_X6_hand_t {G : ga_} {l : Launch} {h : HP} {sz : Nat} {mo : Nat} {S A : gS} {dg : Int64} {u : Nat} {b : Int32} {k : Nat}  (w : MA G h mo S A dg)  (hp : u < 4) (hk : tAt 4 16 (S 2) (nI u) 0 = nI k) (hk28 : k ≤ 28) (hpl : m_in (nI u) 0 (S 5 0 - 1) = true) (hb0 : ¬ b < 0) : Mf G l yX6_hand cX6_hand 3 (some .int) 2 43 0 0 [.ref mo, .int (nI u), .int b] h sz (some (.int (if b < g_held S (nI u) then g_hand S (nI u) b else -1))) (pM G h mo (S) (ac A 0 0) (dg)) sz := by
  refine Mg.ofV [(0, .ref mo), (1, .int (nI u)), (2, .int b)] (by decide) (Nat.le_of_ble_eq_true rfl) rfl ?_
  intro p e s m args below meth c C
  refine V.heap (pM_id w).symm ?_
  refine r_aload_n C dX6_hand_0 rfl rfl ?_
  refine r_aload_n C dX6_hand_1 rfl rfl ?_
  refine r_iload_n C dX6_hand_2 rfl rfl ?_
  refine r_cVi C (c_X6_isPlayer MA_pM) lk_X6_152 rfl (MA_o MA_pM) rfl rfl ⟨(Nat.le_of_ble_eq_true rfl), (Nat.le_of_ble_eq_true rfl), (Nat.le_of_ble_eq_true rfl), (Nat.le_of_ble_eq_true rfl), (Nat.le_of_ble_eq_true rfl)⟩ dX6_hand_3 ?_
  refine r_if_ne C 13 dX6_hand_6 (by decide) (fun _ => ?_) (fun c => absurd c (by rw [hpl]; decide))
  refine r_iload_n C dX6_hand_13 rfl rfl ?_
  refine r_if_ge C 21 dX6_hand_14 (by decide) (fun _ => ?_) (fun c => absurd (Int32.not_lt.mp hb0) c)
  refine r_iconst C (v := 0) dX6_hand_21 rfl ?_
  refine r_cVi C (c_X6_holds MA_pM) lk_X6_65 rfl (MA_o MA_pM) rfl rfl ⟨(Nat.le_of_ble_eq_true rfl), (Nat.le_of_ble_eq_true rfl), (Nat.le_of_ble_eq_true rfl), (Nat.le_of_ble_eq_true rfl), (Nat.le_of_ble_eq_true rfl)⟩ dX6_hand_22 ?_
  refine V.heap (pM_pM _ _ _ _ _ _ _ _) ?_
  refine r_if_ne C 30 dX6_hand_25 (by decide) (fun _ => ?_) (fun c => absurd c (by decide))
  refine r_iload_n C dX6_hand_30 rfl rfl ?_
  refine r_aload_n C dX6_hand_31 rfl rfl ?_
  refine r_get C (j := 1) rfl in_X6 (MA_o MA_pM) (by decide) fl_X6_7 rfl rfl dX6_hand_32 ?_
  refine r_sipush C (v := 337) dX6_hand_35 rfl ?_
  refine r_iload_n C dX6_hand_38 rfl rfl ?_
  refine r_iadd C dX6_hand_39 ?_
  refine V.st0 (nI_add (337) (u)) ?_
  refine r_iald C (MA_s MA_pM) (vp_in_nI (by omega) (by decide)) dX6_hand_40 ?_
  refine V.st0 (en_tal0 (p := u) (by omega) _) ?_
  refine V.st0 (hk) ?_
  refine r_icmp_ge C 57 dX6_hand_41 (by decide) (fun c_41 => ?_) (fun c_41 => ?_)
  · have e_41 := i32_nlt c_41
    refine r_iconst C (v := -1) dX6_hand_57 rfl ?_
    exact r_iret C rfl (Nat.le_of_ble_eq_true rfl) (Nat.le_of_ble_eq_true rfl) ⟨by rw [if_neg (show ¬ b < g_held S (nI u) by rw [show g_held S (nI u) = nI k from hk]; exact e_41)], rfl, rfl⟩ dX6_hand_58
  · have e_41 := i32_lt c_41
    refine r_aload_n C dX6_hand_44 rfl rfl ?_
    refine r_get C (j := 1) rfl in_X6 (MA_o MA_pM) (by decide) fl_X6_7 rfl rfl dX6_hand_45 ?_
    refine r_iload_n C dX6_hand_48 rfl rfl ?_
    refine r_iload_n C dX6_hand_49 rfl rfl ?_
    have hlt : b.toNatClampNeg < k := (nI_ltI (tn_lt b) (by omega)).mp (by rw [← clI hb0]; exact e_41)
    refine V.st0 (clI hb0) ?_
    refine r_cSi C (c_X6_inHand (a := u) (b := b.toNatClampNeg)) lk_X6_48 rfl rfl ⟨(Nat.le_of_ble_eq_true rfl), (Nat.le_of_ble_eq_true rfl), (Nat.le_of_ble_eq_true rfl), (Nat.le_of_ble_eq_true rfl), (Nat.le_of_ble_eq_true rfl)⟩ dX6_hand_50 ?_
    refine r_iald C (MA_s MA_pM) (vp_in_nI (by omega) (by decide)) dX6_hand_53 ?_
    refine V.st0 (en_ih (p := u) (i := b.toNatClampNeg) (by omega) (by omega) _) ?_
    refine r_goto C 58 dX6_hand_54 (by decide) ?_
    exact r_iret C rfl (Nat.le_of_ble_eq_true rfl) (Nat.le_of_ble_eq_true rfl) ⟨by rw [if_pos (show b < g_held S (nI u) by rw [show g_held S (nI u) = nI k from hk]; exact e_41), ← clI hb0]; rfl, rfl, rfl⟩ dX6_hand_58

set_option maxHeartbeats 800000 in
set_option maxRecDepth 100000 in
theorem c_X6_hand_f {G : ga_} {l : Launch} {h : HP} {sz : Nat} {mo : Nat} {S A : gS} {dg : Int64} {a : Int32} {b : Int32}  (w : MA G h mo S A dg)  (hpl : m_in a 0 (S 5 0 - 1) = false)  : Mf G l yX6_hand cX6_hand 3 (some .int) 2 43 0 0 [.ref mo, .int a, .int b] h sz (some (.int (0))) (pM G h mo (S) (ac A 0 1) (dg)) sz := by
  refine Mg.ofV [(0, .ref mo), (1, .int a), (2, .int b)] (by decide) (Nat.le_of_ble_eq_true rfl) rfl ?_
  intro p e s m args below meth c C
  refine V.heap (pM_id w).symm ?_
  refine r_aload_n C dX6_hand_0 rfl rfl ?_
  refine r_aload_n C dX6_hand_1 rfl rfl ?_
  refine r_iload_n C dX6_hand_2 rfl rfl ?_
  refine r_cVi C (c_X6_isPlayer MA_pM) lk_X6_152 rfl (MA_o MA_pM) rfl rfl ⟨(Nat.le_of_ble_eq_true rfl), (Nat.le_of_ble_eq_true rfl), (Nat.le_of_ble_eq_true rfl), (Nat.le_of_ble_eq_true rfl), (Nat.le_of_ble_eq_true rfl)⟩ dX6_hand_3 ?_
  refine r_if_ne C 13 dX6_hand_6 (by decide) (fun c => absurd (by rw [hpl]; rfl) c) (fun _ => ?_)
  refine r_iconst C (v := 1) dX6_hand_9 rfl ?_
  refine r_goto C 22 dX6_hand_10 (by decide) ?_
  refine r_cVi C (c_X6_holds MA_pM) lk_X6_65 rfl (MA_o MA_pM) rfl rfl ⟨(Nat.le_of_ble_eq_true rfl), (Nat.le_of_ble_eq_true rfl), (Nat.le_of_ble_eq_true rfl), (Nat.le_of_ble_eq_true rfl), (Nat.le_of_ble_eq_true rfl)⟩ dX6_hand_22 ?_
  refine V.heap (pM_pM _ _ _ _ _ _ _ _) ?_
  refine r_if_ne C 30 dX6_hand_25 (by decide) (fun c => absurd (by decide) c) (fun _ => ?_)
  refine r_iconst C (v := 0) dX6_hand_28 rfl ?_
  exact r_iret C rfl (Nat.le_of_ble_eq_true rfl) (Nat.le_of_ble_eq_true rfl) ⟨rfl, rfl, rfl⟩ dX6_hand_29

set_option maxHeartbeats 800000 in
set_option maxRecDepth 100000 in
theorem c_X6_hand_n {G : ga_} {l : Launch} {h : HP} {sz : Nat} {mo : Nat} {S A : gS} {dg : Int64} {a : Int32} {b : Int32}  (w : MA G h mo S A dg)  (hpl : m_in a 0 (S 5 0 - 1) = true) (hb0 : b < 0) : Mf G l yX6_hand cX6_hand 3 (some .int) 2 43 0 0 [.ref mo, .int a, .int b] h sz (some (.int (0))) (pM G h mo (S) (ac A 0 2) (dg)) sz := by
  refine Mg.ofV [(0, .ref mo), (1, .int a), (2, .int b)] (by decide) (Nat.le_of_ble_eq_true rfl) rfl ?_
  intro p e s m args below meth c C
  refine V.heap (pM_id w).symm ?_
  refine r_aload_n C dX6_hand_0 rfl rfl ?_
  refine r_aload_n C dX6_hand_1 rfl rfl ?_
  refine r_iload_n C dX6_hand_2 rfl rfl ?_
  refine r_cVi C (c_X6_isPlayer MA_pM) lk_X6_152 rfl (MA_o MA_pM) rfl rfl ⟨(Nat.le_of_ble_eq_true rfl), (Nat.le_of_ble_eq_true rfl), (Nat.le_of_ble_eq_true rfl), (Nat.le_of_ble_eq_true rfl), (Nat.le_of_ble_eq_true rfl)⟩ dX6_hand_3 ?_
  refine r_if_ne C 13 dX6_hand_6 (by decide) (fun _ => ?_) (fun c => absurd c (by rw [hpl]; decide))
  refine r_iload_n C dX6_hand_13 rfl rfl ?_
  refine r_if_ge C 21 dX6_hand_14 (by decide) (fun c => absurd c (Int32.not_le.mpr hb0)) (fun _ => ?_)
  refine r_iconst C (v := 2) dX6_hand_17 rfl ?_
  refine r_goto C 22 dX6_hand_18 (by decide) ?_
  refine r_cVi C (c_X6_holds MA_pM) lk_X6_65 rfl (MA_o MA_pM) rfl rfl ⟨(Nat.le_of_ble_eq_true rfl), (Nat.le_of_ble_eq_true rfl), (Nat.le_of_ble_eq_true rfl), (Nat.le_of_ble_eq_true rfl), (Nat.le_of_ble_eq_true rfl)⟩ dX6_hand_22 ?_
  refine V.heap (pM_pM _ _ _ _ _ _ _ _) ?_
  refine r_if_ne C 30 dX6_hand_25 (by decide) (fun c => absurd (by decide) c) (fun _ => ?_)
  refine r_iconst C (v := 0) dX6_hand_28 rfl ?_
  exact r_iret C rfl (Nat.le_of_ble_eq_true rfl) (Nat.le_of_ble_eq_true rfl) ⟨rfl, rfl, rfl⟩ dX6_hand_29

set_option maxHeartbeats 800000 in
set_option maxRecDepth 100000 in
theorem c_X6_stock_t {G : ga_} {l : Launch} {h : HP} {sz : Nat} {mo : Nat} {S A : gS} {dg : Int64} {b : Int32} {k : Nat}  (w : MA G h mo S A dg)  (hk : S 5 2 = nI k) (hk28 : k ≤ 28) (hb0 : ¬ b < 0) : Mf G l yX6_stock cX6_stock 2 (some .int) 1 21 0 0 [.ref mo, .int b] h sz (some (.int (if b < g_stock S then g_stile S b else -1))) (pM G h mo (S) (ac A 0 0) (dg)) sz := by
  refine Mg.ofV [(0, .ref mo), (1, .int b)] (by decide) (Nat.le_of_ble_eq_true rfl) rfl ?_
  intro p e s m args below meth c C
  refine V.heap (pM_id w).symm ?_
  refine r_aload_n C dX6_stock_0 rfl rfl ?_
  refine r_iload_n C dX6_stock_1 rfl rfl ?_
  refine r_if_ge C 9 dX6_stock_2 (by decide) (fun _ => ?_) (fun c => absurd (Int32.not_lt.mp hb0) c)
  refine r_iconst C (v := 0) dX6_stock_9 rfl ?_
  refine r_cVi C (c_X6_holds MA_pM) lk_X6_65 rfl (MA_o MA_pM) rfl rfl ⟨(Nat.le_of_ble_eq_true rfl), (Nat.le_of_ble_eq_true rfl), (Nat.le_of_ble_eq_true rfl), (Nat.le_of_ble_eq_true rfl), (Nat.le_of_ble_eq_true rfl)⟩ dX6_stock_10 ?_
  refine V.heap (pM_pM _ _ _ _ _ _ _ _) ?_
  refine r_if_ne C 18 dX6_stock_13 (by decide) (fun _ => ?_) (fun c => absurd c (by decide))
  refine r_iload_n C dX6_stock_18 rfl rfl ?_
  refine r_aload_n C dX6_stock_19 rfl rfl ?_
  refine r_cVi C (c_X6_inStock MA_pM) lk_X6_72 rfl (MA_o MA_pM) rfl rfl ⟨(Nat.le_of_ble_eq_true rfl), (Nat.le_of_ble_eq_true rfl), (Nat.le_of_ble_eq_true rfl), (Nat.le_of_ble_eq_true rfl), (Nat.le_of_ble_eq_true rfl)⟩ dX6_stock_20 ?_
  refine r_icmp_ge C 48 dX6_stock_23 (by decide) (fun c_23 => ?_) (fun c_23 => ?_)
  · have e_23 := i32_nlt c_23
    refine r_iconst C (v := -1) dX6_stock_48 rfl ?_
    exact r_iret C rfl (Nat.le_of_ble_eq_true rfl) (Nat.le_of_ble_eq_true rfl) ⟨by rw [if_neg e_23], rfl, rfl⟩ dX6_stock_49
  · have e_23 := i32_lt c_23
    refine r_aload_n C dX6_stock_26 rfl rfl ?_
    refine r_get C (j := 1) rfl in_X6 (MA_o MA_pM) (by decide) fl_X6_7 rfl rfl dX6_stock_27 ?_
    refine r_sipush C (v := 196) dX6_stock_30 rfl ?_
    refine r_aload_n C dX6_stock_33 rfl rfl ?_
    refine r_get C (j := 1) rfl in_X6 (MA_o MA_pM) (by decide) fl_X6_7 rfl rfl dX6_stock_34 ?_
    refine r_sipush C (v := 224) dX6_stock_37 rfl ?_
    refine r_iald C (MA_s MA_pM) (vp_in_nI (n := 224) (by decide) (by decide)) dX6_stock_40 ?_
    refine V.st0 (en_sc2 _) ?_
    refine V.st0 (hk) ?_
    refine r_iadd C dX6_stock_41 ?_
    refine V.st0 (nI_add (196) (k)) ?_
    refine r_iload_n C dX6_stock_42 rfl rfl ?_
    have hlt : k + b.toNatClampNeg < 28 := by
      have q : b < nI (28 - k) := (show nI (28 - k) = g_stock S from (by unfold g_stock; rw [hk]; exact (pk_sub (a := 28) hk28).symm)) ▸ e_23
      have q2 : nI b.toNatClampNeg < nI (28 - k) := by rw [← clI hb0]; exact q
      have := (nI_ltI (tn_lt b) (by omega)).mp q2
      omega
    refine V.st0 (clI hb0) ?_
    refine r_iadd C dX6_stock_43 ?_
    refine V.st0 (nI_add ((196 + k)) (b.toNatClampNeg)) ?_
    refine r_iald C (MA_s MA_pM) (vp_in_nI (by omega) (by decide)) dX6_stock_44 ?_
    refine V.st0 (en_cl (by omega)) ?_
    refine r_goto C 49 dX6_stock_45 (by decide) ?_
    exact r_iret C rfl (Nat.le_of_ble_eq_true rfl) (Nat.le_of_ble_eq_true rfl) ⟨by rw [if_pos e_23]; unfold g_stile; rw [hk, Nat.add_assoc, en_o hlt, ← nI_add, ← clI hb0], rfl, rfl⟩ dX6_stock_49

set_option maxHeartbeats 800000 in
set_option maxRecDepth 100000 in
theorem c_X6_stock_f {G : ga_} {l : Launch} {h : HP} {sz : Nat} {mo : Nat} {S A : gS} {dg : Int64} {b : Int32}  (w : MA G h mo S A dg)  (hb0 : b < 0) : Mf G l yX6_stock cX6_stock 2 (some .int) 1 21 0 0 [.ref mo, .int b] h sz (some (.int (0))) (pM G h mo (S) (ac A 0 1) (dg)) sz := by
  refine Mg.ofV [(0, .ref mo), (1, .int b)] (by decide) (Nat.le_of_ble_eq_true rfl) rfl ?_
  intro p e s m args below meth c C
  refine V.heap (pM_id w).symm ?_
  refine r_aload_n C dX6_stock_0 rfl rfl ?_
  refine r_iload_n C dX6_stock_1 rfl rfl ?_
  refine r_if_ge C 9 dX6_stock_2 (by decide) (fun c => absurd c (Int32.not_le.mpr hb0)) (fun _ => ?_)
  refine r_iconst C (v := 1) dX6_stock_5 rfl ?_
  refine r_goto C 10 dX6_stock_6 (by decide) ?_
  refine r_cVi C (c_X6_holds MA_pM) lk_X6_65 rfl (MA_o MA_pM) rfl rfl ⟨(Nat.le_of_ble_eq_true rfl), (Nat.le_of_ble_eq_true rfl), (Nat.le_of_ble_eq_true rfl), (Nat.le_of_ble_eq_true rfl), (Nat.le_of_ble_eq_true rfl)⟩ dX6_stock_10 ?_
  refine V.heap (pM_pM _ _ _ _ _ _ _ _) ?_
  refine r_if_ne C 18 dX6_stock_13 (by decide) (fun c => absurd (by decide) c) (fun _ => ?_)
  refine r_iconst C (v := 0) dX6_stock_16 rfl ?_
  exact r_iret C rfl (Nat.le_of_ble_eq_true rfl) (Nat.le_of_ble_eq_true rfl) ⟨rfl, rfl, rfl⟩ dX6_stock_17

set_option maxHeartbeats 800000 in
set_option maxRecDepth 100000 in
theorem c_X6_count_t {G : ga_} {l : Launch} {h : HP} {sz : Nat} {mo : Nat} {S A : gS} {dg : Int64} {v : Int32}  (w : MA G h mo S A dg)  (hb : nB S) (hv : okN v 12 = true) (hg : m_in v 0 11 = true)  : Mf G l yX6_count cX6_count 2 (some .int) 7 161 0 0 [.ref mo, .int v] h sz (some (.int (g_num S v (A 6 1)))) (pM G h mo (S) (ac A 0 0) (dg)) sz := by
  refine Mg.ofV [(0, .ref mo), (1, .int v)] (by decide) (Nat.le_of_ble_eq_true rfl) rfl ?_
  intro p e s m args below meth c C
  refine V.heap (pM_id w).symm ?_
  refine r_aload_n C dX6_count_0 rfl rfl ?_
  refine r_iload_n C dX6_count_1 rfl rfl ?_
  refine r_iconst C (v := 0) dX6_count_2 rfl ?_
  refine r_bipush C (v := 11) dX6_count_3 rfl ?_
  refine r_cSi C (c_X6_in) lk_X6_37 rfl rfl ⟨(Nat.le_of_ble_eq_true rfl), (Nat.le_of_ble_eq_true rfl), (Nat.le_of_ble_eq_true rfl), (Nat.le_of_ble_eq_true rfl), (Nat.le_of_ble_eq_true rfl)⟩ dX6_count_5 ?_
  refine r_if_eq C 15 dX6_count_8 (by decide) (fun c => absurd c (by rw [hg]; decide)) (fun _ => ?_)
  refine r_iconst C (v := 0) dX6_count_11 rfl ?_
  refine r_goto C 16 dX6_count_12 (by decide) ?_
  refine r_cVi C (c_X6_holds MA_pM) lk_X6_65 rfl (MA_o MA_pM) rfl rfl ⟨(Nat.le_of_ble_eq_true rfl), (Nat.le_of_ble_eq_true rfl), (Nat.le_of_ble_eq_true rfl), (Nat.le_of_ble_eq_true rfl), (Nat.le_of_ble_eq_true rfl)⟩ dX6_count_16 ?_
  refine V.heap (pM_pM _ _ _ _ _ _ _ _) ?_
  refine r_if_eq C 30 dX6_count_19 (by decide) (fun c => absurd c (by decide)) (fun _ => ?_)
  refine r_aload_n C dX6_count_22 rfl rfl ?_
  refine r_iload_n C dX6_count_23 rfl rfl ?_
  refine r_cVi C (c_X6_counted MA_pM hb hv) lk_X6_173 rfl (MA_o MA_pM) rfl rfl ⟨(Nat.le_of_ble_eq_true rfl), (Nat.le_of_ble_eq_true rfl), (Nat.le_of_ble_eq_true rfl), (Nat.le_of_ble_eq_true rfl), (Nat.le_of_ble_eq_true rfl)⟩ dX6_count_24 ?_
  refine r_goto C 31 dX6_count_27 (by decide) ?_
  exact r_iret C rfl (Nat.le_of_ble_eq_true rfl) (Nat.le_of_ble_eq_true rfl) ⟨rfl, rfl, rfl⟩ dX6_count_31

set_option maxHeartbeats 800000 in
set_option maxRecDepth 100000 in
theorem c_X6_count_f {G : ga_} {l : Launch} {h : HP} {sz : Nat} {mo : Nat} {S A : gS} {dg : Int64} {v : Int32}  (w : MA G h mo S A dg)  (hg : m_in v 0 11 = false)  : Mf G l yX6_count cX6_count 2 (some .int) 7 161 0 0 [.ref mo, .int v] h sz (some (.int (0))) (pM G h mo (S) (ac A 0 1) (dg)) sz := by
  refine Mg.ofV [(0, .ref mo), (1, .int v)] (by decide) (Nat.le_of_ble_eq_true rfl) rfl ?_
  intro p e s m args below meth c C
  refine V.heap (pM_id w).symm ?_
  refine r_aload_n C dX6_count_0 rfl rfl ?_
  refine r_iload_n C dX6_count_1 rfl rfl ?_
  refine r_iconst C (v := 0) dX6_count_2 rfl ?_
  refine r_bipush C (v := 11) dX6_count_3 rfl ?_
  refine r_cSi C (c_X6_in) lk_X6_37 rfl rfl ⟨(Nat.le_of_ble_eq_true rfl), (Nat.le_of_ble_eq_true rfl), (Nat.le_of_ble_eq_true rfl), (Nat.le_of_ble_eq_true rfl), (Nat.le_of_ble_eq_true rfl)⟩ dX6_count_5 ?_
  refine r_if_eq C 15 dX6_count_8 (by decide) (fun _ => ?_) (fun c => absurd (by rw [hg]; rfl) c)
  refine r_iconst C (v := 1) dX6_count_15 rfl ?_
  refine r_cVi C (c_X6_holds MA_pM) lk_X6_65 rfl (MA_o MA_pM) rfl rfl ⟨(Nat.le_of_ble_eq_true rfl), (Nat.le_of_ble_eq_true rfl), (Nat.le_of_ble_eq_true rfl), (Nat.le_of_ble_eq_true rfl), (Nat.le_of_ble_eq_true rfl)⟩ dX6_count_16 ?_
  refine V.heap (pM_pM _ _ _ _ _ _ _ _) ?_
  refine r_if_eq C 30 dX6_count_19 (by decide) (fun _ => ?_) (fun c => absurd (by decide) c)
  refine r_iconst C (v := 0) dX6_count_30 rfl ?_
  exact r_iret C rfl (Nat.le_of_ble_eq_true rfl) (Nat.le_of_ble_eq_true rfl) ⟨rfl, rfl, rfl⟩ dX6_count_31

set_option maxHeartbeats 800000 in
set_option maxRecDepth 100000 in
theorem c_X6_setting {G : ga_} {l : Launch} {h : HP} {sz : Nat} {mo : Nat} {S A : gS} {dg : Int64}  (w : MA G h mo S A dg)   : Mf G l yX6_setting cX6_setting 1 (some .int) 0 0 0 0 [.ref mo] h sz (some (.int (S 5 7))) (pM G h mo (S) (ac A 0 0) (dg)) sz := by
  refine Mg.ofV [(0, .ref mo)] (by decide) (Nat.le_of_ble_eq_true rfl) rfl ?_
  intro p e s m args below meth c C
  refine V.heap (pM_id w).symm ?_
  refine r_aload_n C dX6_setting_0 rfl rfl ?_
  refine r_iconst C (v := 0) dX6_setting_1 rfl ?_
  refine r_put C (j := 0) tyX6 tyX6_ok nmX6 rfl in_X6 (MA_o MA_pM) (by decide) fl_X6_33 rfl rfl rfl (by first | rfl | decide) (by first | rfl | decide) (Nat.le_of_ble_eq_true rfl) dX6_setting_2 ?_
  refine V.heap (qM_f 0 (nI (0)) rfl) ?_
  refine r_aload_n C dX6_setting_5 rfl rfl ?_
  refine r_get C (j := 1) rfl in_X6 (MA_o MA_pM) (by decide) fl_X6_7 rfl rfl dX6_setting_6 ?_
  refine r_sipush C (v := 359) dX6_setting_9 rfl ?_
  refine r_iald C (MA_s MA_pM) (vp_in_nI (n := 359) (by decide) (by decide)) dX6_setting_12 ?_
  refine V.st0 (en_sc7 _) ?_
  exact r_iret C rfl (Nat.le_of_ble_eq_true rfl) (Nat.le_of_ble_eq_true rfl) ⟨rfl, rfl, rfl⟩ dX6_setting_13

set_option maxHeartbeats 800000 in
set_option maxRecDepth 100000 in
theorem c_X6_whyNot_t {G : ga_} {l : Launch} {h : HP} {sz : Nat} {mo : Nat} {S A : gS} {dg : Int64} {a : Int32} {r : Nat} {d : Nat}  (w : MA G h mo S A dg)  (hr : r < 3) (hde : d < 2) (hb : nB S) (hpl : m_in (nI r) 0 2 = true) (hg : m_in (nI d) 0 1 = true)  : Mf G l yX6_whyNot cX6_whyNot 4 (some .int) 3 68 0 0 [.ref mo, .int a, .int (nI r), .int (nI d)] h sz (some (.int (g_reason S a (nI r) (nI d)))) (pM G h mo (S) (ac A 0 0) (dg)) sz := by
  refine Mg.ofV [(0, .ref mo), (1, .int a), (2, .int (nI r)), (3, .int (nI d))] (by decide) (Nat.le_of_ble_eq_true rfl) rfl ?_
  intro p e s m args below meth c C
  refine V.heap (pM_id w).symm ?_
  refine r_aload_n C dX6_whyNot_0 rfl rfl ?_
  refine r_iload_n C dX6_whyNot_1 rfl rfl ?_
  refine r_cSi C (c_X6_isRow) lk_X6_97 rfl rfl ⟨(Nat.le_of_ble_eq_true rfl), (Nat.le_of_ble_eq_true rfl), (Nat.le_of_ble_eq_true rfl), (Nat.le_of_ble_eq_true rfl), (Nat.le_of_ble_eq_true rfl)⟩ dX6_whyNot_2 ?_
  refine r_if_ne C 12 dX6_whyNot_5 (by decide) (fun _ => ?_) (fun c => absurd c (by rw [hpl]; decide))
  refine r_iload_n C dX6_whyNot_12 rfl rfl ?_
  refine r_iconst C (v := 0) dX6_whyNot_13 rfl ?_
  refine r_iconst C (v := 1) dX6_whyNot_14 rfl ?_
  refine r_cSi C (c_X6_in) lk_X6_37 rfl rfl ⟨(Nat.le_of_ble_eq_true rfl), (Nat.le_of_ble_eq_true rfl), (Nat.le_of_ble_eq_true rfl), (Nat.le_of_ble_eq_true rfl), (Nat.le_of_ble_eq_true rfl)⟩ dX6_whyNot_15 ?_
  refine r_if_eq C 25 dX6_whyNot_18 (by decide) (fun c => absurd c (by rw [hg]; decide)) (fun _ => ?_)
  refine r_iconst C (v := 0) dX6_whyNot_21 rfl ?_
  refine r_goto C 26 dX6_whyNot_22 (by decide) ?_
  refine r_cVi C (c_X6_holds MA_pM) lk_X6_65 rfl (MA_o MA_pM) rfl rfl ⟨(Nat.le_of_ble_eq_true rfl), (Nat.le_of_ble_eq_true rfl), (Nat.le_of_ble_eq_true rfl), (Nat.le_of_ble_eq_true rfl), (Nat.le_of_ble_eq_true rfl)⟩ dX6_whyNot_26 ?_
  refine V.heap (pM_pM _ _ _ _ _ _ _ _) ?_
  refine r_if_eq C 42 dX6_whyNot_29 (by decide) (fun c => absurd c (by decide)) (fun _ => ?_)
  refine r_aload_n C dX6_whyNot_32 rfl rfl ?_
  refine r_iload_n C dX6_whyNot_33 rfl rfl ?_
  refine r_iload_n C dX6_whyNot_34 rfl rfl ?_
  refine r_iload_n C dX6_whyNot_35 rfl rfl ?_
  refine r_cVi C (c_X6_refusal (r := r) (d := d) MA_pM rfl hr hde hb) lk_X6_82 rfl (MA_o MA_pM) rfl rfl ⟨(Nat.le_of_ble_eq_true rfl), (Nat.le_of_ble_eq_true rfl), (Nat.le_of_ble_eq_true rfl), (Nat.le_of_ble_eq_true rfl), (Nat.le_of_ble_eq_true rfl)⟩ dX6_whyNot_36 ?_
  refine r_goto C 43 dX6_whyNot_39 (by decide) ?_
  exact r_iret C rfl (Nat.le_of_ble_eq_true rfl) (Nat.le_of_ble_eq_true rfl) ⟨rfl, rfl, rfl⟩ dX6_whyNot_43

set_option maxHeartbeats 800000 in
set_option maxRecDepth 100000 in
theorem c_X6_whyNot_f {G : ga_} {l : Launch} {h : HP} {sz : Nat} {mo : Nat} {S A : gS} {dg : Int64} {a : Int32} {b : Int32} {d : Int32}  (w : MA G h mo S A dg)  (hpl : m_in b 0 2 = false)  : Mf G l yX6_whyNot cX6_whyNot 4 (some .int) 3 68 0 0 [.ref mo, .int a, .int b, .int d] h sz (some (.int (0))) (pM G h mo (S) (ac A 0 1) (dg)) sz := by
  refine Mg.ofV [(0, .ref mo), (1, .int a), (2, .int b), (3, .int d)] (by decide) (Nat.le_of_ble_eq_true rfl) rfl ?_
  intro p e s m args below meth c C
  refine V.heap (pM_id w).symm ?_
  refine r_aload_n C dX6_whyNot_0 rfl rfl ?_
  refine r_iload_n C dX6_whyNot_1 rfl rfl ?_
  refine r_cSi C (c_X6_isRow) lk_X6_97 rfl rfl ⟨(Nat.le_of_ble_eq_true rfl), (Nat.le_of_ble_eq_true rfl), (Nat.le_of_ble_eq_true rfl), (Nat.le_of_ble_eq_true rfl), (Nat.le_of_ble_eq_true rfl)⟩ dX6_whyNot_2 ?_
  refine r_if_ne C 12 dX6_whyNot_5 (by decide) (fun c => absurd (by rw [hpl]; rfl) c) (fun _ => ?_)
  refine r_iconst C (v := 1) dX6_whyNot_8 rfl ?_
  refine r_goto C 26 dX6_whyNot_9 (by decide) ?_
  refine r_cVi C (c_X6_holds MA_pM) lk_X6_65 rfl (MA_o MA_pM) rfl rfl ⟨(Nat.le_of_ble_eq_true rfl), (Nat.le_of_ble_eq_true rfl), (Nat.le_of_ble_eq_true rfl), (Nat.le_of_ble_eq_true rfl), (Nat.le_of_ble_eq_true rfl)⟩ dX6_whyNot_26 ?_
  refine V.heap (pM_pM _ _ _ _ _ _ _ _) ?_
  refine r_if_eq C 42 dX6_whyNot_29 (by decide) (fun _ => ?_) (fun c => absurd (by decide) c)
  refine r_iconst C (v := 0) dX6_whyNot_42 rfl ?_
  exact r_iret C rfl (Nat.le_of_ble_eq_true rfl) (Nat.le_of_ble_eq_true rfl) ⟨rfl, rfl, rfl⟩ dX6_whyNot_43

set_option maxHeartbeats 800000 in
set_option maxRecDepth 100000 in
theorem c_X6_whyNot_n {G : ga_} {l : Launch} {h : HP} {sz : Nat} {mo : Nat} {S A : gS} {dg : Int64} {a : Int32} {b : Int32} {d : Int32}  (w : MA G h mo S A dg)  (hpl : m_in b 0 2 = true) (hg : m_in d 0 1 = false)  : Mf G l yX6_whyNot cX6_whyNot 4 (some .int) 3 68 0 0 [.ref mo, .int a, .int b, .int d] h sz (some (.int (0))) (pM G h mo (S) (ac A 0 2) (dg)) sz := by
  refine Mg.ofV [(0, .ref mo), (1, .int a), (2, .int b), (3, .int d)] (by decide) (Nat.le_of_ble_eq_true rfl) rfl ?_
  intro p e s m args below meth c C
  refine V.heap (pM_id w).symm ?_
  refine r_aload_n C dX6_whyNot_0 rfl rfl ?_
  refine r_iload_n C dX6_whyNot_1 rfl rfl ?_
  refine r_cSi C (c_X6_isRow) lk_X6_97 rfl rfl ⟨(Nat.le_of_ble_eq_true rfl), (Nat.le_of_ble_eq_true rfl), (Nat.le_of_ble_eq_true rfl), (Nat.le_of_ble_eq_true rfl), (Nat.le_of_ble_eq_true rfl)⟩ dX6_whyNot_2 ?_
  refine r_if_ne C 12 dX6_whyNot_5 (by decide) (fun _ => ?_) (fun c => absurd c (by rw [hpl]; decide))
  refine r_iload_n C dX6_whyNot_12 rfl rfl ?_
  refine r_iconst C (v := 0) dX6_whyNot_13 rfl ?_
  refine r_iconst C (v := 1) dX6_whyNot_14 rfl ?_
  refine r_cSi C (c_X6_in) lk_X6_37 rfl rfl ⟨(Nat.le_of_ble_eq_true rfl), (Nat.le_of_ble_eq_true rfl), (Nat.le_of_ble_eq_true rfl), (Nat.le_of_ble_eq_true rfl), (Nat.le_of_ble_eq_true rfl)⟩ dX6_whyNot_15 ?_
  refine r_if_eq C 25 dX6_whyNot_18 (by decide) (fun _ => ?_) (fun c => absurd (by rw [hg]; rfl) c)
  refine r_iconst C (v := 2) dX6_whyNot_25 rfl ?_
  refine r_cVi C (c_X6_holds MA_pM) lk_X6_65 rfl (MA_o MA_pM) rfl rfl ⟨(Nat.le_of_ble_eq_true rfl), (Nat.le_of_ble_eq_true rfl), (Nat.le_of_ble_eq_true rfl), (Nat.le_of_ble_eq_true rfl), (Nat.le_of_ble_eq_true rfl)⟩ dX6_whyNot_26 ?_
  refine V.heap (pM_pM _ _ _ _ _ _ _ _) ?_
  refine r_if_eq C 42 dX6_whyNot_29 (by decide) (fun _ => ?_) (fun c => absurd (by decide) c)
  refine r_iconst C (v := 0) dX6_whyNot_42 rfl ?_
  exact r_iret C rfl (Nat.le_of_ble_eq_true rfl) (Nat.le_of_ble_eq_true rfl) ⟨rfl, rfl, rfl⟩ dX6_whyNot_43

set_option maxHeartbeats 800000 in
set_option maxRecDepth 100000 in
theorem c_X6_advice {G : ga_} {l : Launch} {h : HP} {sz : Nat} {mo : Nat} {S A : gS} {dg : Int64}  (w : MA G h mo S A dg)  (hb : nB S) : Mf G l yX6_advice cX6_advice 1 (some .int) 4 94 0 0 [.ref mo] h sz (some (.int (m_adv S))) (pM G h mo (S) (ac A 0 0) (dg)) sz := by
  refine Mg.ofV [(0, .ref mo)] (by decide) (Nat.le_of_ble_eq_true rfl) rfl ?_
  intro p e s m args below meth c C
  refine V.heap (pM_id w).symm ?_
  refine r_aload_n C dX6_advice_0 rfl rfl ?_
  refine r_iconst C (v := 0) dX6_advice_1 rfl ?_
  refine r_put C (j := 0) tyX6 tyX6_ok nmX6 rfl in_X6 (MA_o MA_pM) (by decide) fl_X6_33 rfl rfl rfl (by first | rfl | decide) (by first | rfl | decide) (Nat.le_of_ble_eq_true rfl) dX6_advice_2 ?_
  refine V.heap (qM_f 0 (nI (0)) rfl) ?_
  refine r_aload_n C dX6_advice_5 rfl rfl ?_
  refine r_cVi C (c_X6_advised MA_pM hb) lk_X6_194 rfl (MA_o MA_pM) rfl rfl ⟨(Nat.le_of_ble_eq_true rfl), (Nat.le_of_ble_eq_true rfl), (Nat.le_of_ble_eq_true rfl), (Nat.le_of_ble_eq_true rfl), (Nat.le_of_ble_eq_true rfl)⟩ dX6_advice_6 ?_
  exact r_iret C rfl (Nat.le_of_ble_eq_true rfl) (Nat.le_of_ble_eq_true rfl) ⟨rfl, rfl, rfl⟩ dX6_advice_9

set_option maxHeartbeats 800000 in
set_option maxRecDepth 100000 in
theorem c_X6_commonest {G : ga_} {l : Launch} {h : HP} {sz : Nat} {mo : Nat} {S A : gS} {dg : Int64}  (w : MA G h mo S A dg)   : Mf G l yX6_commonest cX6_commonest 1 (some .int) 3 66 0 0 [.ref mo] h sz (some (.int (g_cl S 6))) (pM G h mo (S) (ac A 0 0) (dg)) sz := by
  refine Mg.ofV [(0, .ref mo)] (by decide) (Nat.le_of_ble_eq_true rfl) rfl ?_
  intro p e s m args below meth c C
  refine V.heap (pM_id w).symm ?_
  refine r_aload_n C dX6_commonest_0 rfl rfl ?_
  refine r_iconst C (v := 0) dX6_commonest_1 rfl ?_
  refine r_put C (j := 0) tyX6 tyX6_ok nmX6 rfl in_X6 (MA_o MA_pM) (by decide) fl_X6_33 rfl rfl rfl (by first | rfl | decide) (by first | rfl | decide) (Nat.le_of_ble_eq_true rfl) dX6_commonest_2 ?_
  refine V.heap (qM_f 0 (nI (0)) rfl) ?_
  refine r_aload_n C dX6_commonest_5 rfl rfl ?_
  refine r_cVi C (c_X6_commonestGrade MA_pM) lk_X6_200 rfl (MA_o MA_pM) rfl rfl ⟨(Nat.le_of_ble_eq_true rfl), (Nat.le_of_ble_eq_true rfl), (Nat.le_of_ble_eq_true rfl), (Nat.le_of_ble_eq_true rfl), (Nat.le_of_ble_eq_true rfl)⟩ dX6_commonest_6 ?_
  exact r_iret C rfl (Nat.le_of_ble_eq_true rfl) (Nat.le_of_ble_eq_true rfl) ⟨rfl, rfl, rfl⟩ dX6_commonest_9

set_option maxHeartbeats 800000 in
set_option maxRecDepth 100000 in
theorem c_X6_rustShare {G : ga_} {l : Launch} {h : HP} {sz : Nat} {mo : Nat} {S A : gS} {dg : Int64}  (w : MA G h mo S A dg)  (hb : nB S) (hz : vf_n64 (FP.ddiv (FP.i2d (g_tal S 1)) 4640114991075164160)) : Mf G l yX6_rustShare cX6_rustShare 1 (some .double) 2 41 0 0 [.ref mo] h sz (some (.double (FP.ddiv (FP.i2d (g_tal S 1)) 4640114991075164160))) (pM G h mo (S) (ac A 0 0) (dg)) sz := by
  refine Mg.ofV [(0, .ref mo)] (by decide) (Nat.le_of_ble_eq_true rfl) rfl ?_
  intro p e s m args below meth c C
  refine V.heap (pM_id w).symm ?_
  refine r_aload_n C dX6_rustShare_0 rfl rfl ?_
  refine r_iconst C (v := 0) dX6_rustShare_1 rfl ?_
  refine r_put C (j := 0) tyX6 tyX6_ok nmX6 rfl in_X6 (MA_o MA_pM) (by decide) fl_X6_33 rfl rfl rfl (by first | rfl | decide) (by first | rfl | decide) (Nat.le_of_ble_eq_true rfl) dX6_rustShare_2 ?_
  refine V.heap (qM_f 0 (nI (0)) rfl) ?_
  refine r_aload_n C dX6_rustShare_5 rfl rfl ?_
  refine r_cVd C (c_X6_share MA_pM hb hz) lk_X6_205 rfl (MA_o MA_pM) rfl rfl ⟨(Nat.le_of_ble_eq_true rfl), (Nat.le_of_ble_eq_true rfl), (Nat.le_of_ble_eq_true rfl), (Nat.le_of_ble_eq_true rfl), (Nat.le_of_ble_eq_true rfl)⟩ dX6_rustShare_6 ?_
  exact r_dret C rfl (Nat.le_of_ble_eq_true rfl) (Nat.le_of_ble_eq_true rfl) ⟨rfl, rfl, rfl⟩ dX6_rustShare_9

set_option maxHeartbeats 800000 in
set_option maxRecDepth 100000 in
theorem c_X6_lay_t {G : ga_} {l : Launch} {h : HP} {sz : Nat} {mo : Nat} {S A : gS} {dg : Int64} {a : Int32} {r : Nat} {d : Nat} {n z : Nat}  (w : MA G h mo S A dg)  (hz : A 6 1 = nI z) (hz6 : z ≤ 6) (hok : gOk n S) (hr : r < 3) (hde : d < 2) (hpl : m_in (nI r) 0 2 = true) (hg : m_in (nI d) 0 1 = true)  : Mf G l yX6_lay cX6_lay 4 (some .int) 4 94 0 0 [.ref mo, .int a, .int (nI r), .int (nI d)] h sz (some (.int (g_layA S a (nI r) (nI d)))) (pM G h mo (g_lay S a (nI r) (nI d)) ((ac (gu (ac A 0 0) 1 (m_sv (A 1) (en S) z)) 1 (nI (m_z z)))) (dg)) sz := by
  refine Mg.ofV [(0, .ref mo), (1, .int a), (2, .int (nI r)), (3, .int (nI d))] (by decide) (Nat.le_of_ble_eq_true rfl) rfl ?_
  intro p e s m args below meth c C
  refine V.heap (pM_id w).symm ?_
  refine r_aload_n C dX6_lay_0 rfl rfl ?_
  refine r_iload_n C dX6_lay_1 rfl rfl ?_
  refine r_cSi C (c_X6_isRow) lk_X6_97 rfl rfl ⟨(Nat.le_of_ble_eq_true rfl), (Nat.le_of_ble_eq_true rfl), (Nat.le_of_ble_eq_true rfl), (Nat.le_of_ble_eq_true rfl), (Nat.le_of_ble_eq_true rfl)⟩ dX6_lay_2 ?_
  refine r_if_ne C 12 dX6_lay_5 (by decide) (fun _ => ?_) (fun c => absurd c (by rw [hpl]; decide))
  refine r_iload_n C dX6_lay_12 rfl rfl ?_
  refine r_iconst C (v := 0) dX6_lay_13 rfl ?_
  refine r_iconst C (v := 1) dX6_lay_14 rfl ?_
  refine r_cSi C (c_X6_in) lk_X6_37 rfl rfl ⟨(Nat.le_of_ble_eq_true rfl), (Nat.le_of_ble_eq_true rfl), (Nat.le_of_ble_eq_true rfl), (Nat.le_of_ble_eq_true rfl), (Nat.le_of_ble_eq_true rfl)⟩ dX6_lay_15 ?_
  refine r_if_eq C 25 dX6_lay_18 (by decide) (fun c => absurd c (by rw [hg]; decide)) (fun _ => ?_)
  refine r_iconst C (v := 0) dX6_lay_21 rfl ?_
  refine r_goto C 26 dX6_lay_22 (by decide) ?_
  refine r_cVi C (c_X6_holds MA_pM) lk_X6_65 rfl (MA_o MA_pM) rfl rfl ⟨(Nat.le_of_ble_eq_true rfl), (Nat.le_of_ble_eq_true rfl), (Nat.le_of_ble_eq_true rfl), (Nat.le_of_ble_eq_true rfl), (Nat.le_of_ble_eq_true rfl)⟩ dX6_lay_26 ?_
  refine V.heap (pM_pM _ _ _ _ _ _ _ _) ?_
  refine r_if_ne C 34 dX6_lay_29 (by decide) (fun _ => ?_) (fun c => absurd c (by decide))
  refine r_aload_n C dX6_lay_34 rfl rfl ?_
  refine r_cVv C (c_X6_save (z := z) MA_pM hz hz6) lk_X6_69 rfl (MA_o MA_pM) rfl rfl ⟨(Nat.le_of_ble_eq_true rfl), (Nat.le_of_ble_eq_true rfl), (Nat.le_of_ble_eq_true rfl), (Nat.le_of_ble_eq_true rfl), (Nat.le_of_ble_eq_true rfl)⟩ dX6_lay_35 ?_
  refine V.heap (pM_pM _ _ _ _ _ _ _ _) ?_
  refine r_aload_n C dX6_lay_38 rfl rfl ?_
  refine r_iload_n C dX6_lay_39 rfl rfl ?_
  refine r_iload_n C dX6_lay_40 rfl rfl ?_
  refine r_iload_n C dX6_lay_41 rfl rfl ?_
  refine r_cVi C (c_X6_lays (r := r) (d := d) MA_pM hok hr hde) lk_X6_100 rfl (MA_o MA_pM) rfl rfl ⟨(Nat.le_of_ble_eq_true rfl), (Nat.le_of_ble_eq_true rfl), (Nat.le_of_ble_eq_true rfl), (Nat.le_of_ble_eq_true rfl), (Nat.le_of_ble_eq_true rfl)⟩ dX6_lay_42 ?_
  refine V.heap (pM_pM _ _ _ _ _ _ _ _) ?_
  exact r_iret C rfl (Nat.le_of_ble_eq_true rfl) (Nat.le_of_ble_eq_true rfl) ⟨rfl, rfl, rfl⟩ dX6_lay_45

set_option maxHeartbeats 800000 in
set_option maxRecDepth 100000 in
theorem c_X6_lay_f {G : ga_} {l : Launch} {h : HP} {sz : Nat} {mo : Nat} {S A : gS} {dg : Int64} {a : Int32} {b : Int32} {d : Int32}  (w : MA G h mo S A dg)  (hpl : m_in b 0 2 = false)  : Mf G l yX6_lay cX6_lay 4 (some .int) 4 94 0 0 [.ref mo, .int a, .int b, .int d] h sz (some (.int (0))) (pM G h mo (S) (ac A 0 1) (dg)) sz := by
  refine Mg.ofV [(0, .ref mo), (1, .int a), (2, .int b), (3, .int d)] (by decide) (Nat.le_of_ble_eq_true rfl) rfl ?_
  intro p e s m args below meth c C
  refine V.heap (pM_id w).symm ?_
  refine r_aload_n C dX6_lay_0 rfl rfl ?_
  refine r_iload_n C dX6_lay_1 rfl rfl ?_
  refine r_cSi C (c_X6_isRow) lk_X6_97 rfl rfl ⟨(Nat.le_of_ble_eq_true rfl), (Nat.le_of_ble_eq_true rfl), (Nat.le_of_ble_eq_true rfl), (Nat.le_of_ble_eq_true rfl), (Nat.le_of_ble_eq_true rfl)⟩ dX6_lay_2 ?_
  refine r_if_ne C 12 dX6_lay_5 (by decide) (fun c => absurd (by rw [hpl]; rfl) c) (fun _ => ?_)
  refine r_iconst C (v := 1) dX6_lay_8 rfl ?_
  refine r_goto C 26 dX6_lay_9 (by decide) ?_
  refine r_cVi C (c_X6_holds MA_pM) lk_X6_65 rfl (MA_o MA_pM) rfl rfl ⟨(Nat.le_of_ble_eq_true rfl), (Nat.le_of_ble_eq_true rfl), (Nat.le_of_ble_eq_true rfl), (Nat.le_of_ble_eq_true rfl), (Nat.le_of_ble_eq_true rfl)⟩ dX6_lay_26 ?_
  refine V.heap (pM_pM _ _ _ _ _ _ _ _) ?_
  refine r_if_ne C 34 dX6_lay_29 (by decide) (fun c => absurd (by decide) c) (fun _ => ?_)
  refine r_iconst C (v := 0) dX6_lay_32 rfl ?_
  exact r_iret C rfl (Nat.le_of_ble_eq_true rfl) (Nat.le_of_ble_eq_true rfl) ⟨rfl, rfl, rfl⟩ dX6_lay_33

set_option maxHeartbeats 800000 in
set_option maxRecDepth 100000 in
theorem c_X6_lay_n {G : ga_} {l : Launch} {h : HP} {sz : Nat} {mo : Nat} {S A : gS} {dg : Int64} {a : Int32} {b : Int32} {d : Int32}  (w : MA G h mo S A dg)  (hpl : m_in b 0 2 = true) (hg : m_in d 0 1 = false)  : Mf G l yX6_lay cX6_lay 4 (some .int) 4 94 0 0 [.ref mo, .int a, .int b, .int d] h sz (some (.int (0))) (pM G h mo (S) (ac A 0 2) (dg)) sz := by
  refine Mg.ofV [(0, .ref mo), (1, .int a), (2, .int b), (3, .int d)] (by decide) (Nat.le_of_ble_eq_true rfl) rfl ?_
  intro p e s m args below meth c C
  refine V.heap (pM_id w).symm ?_
  refine r_aload_n C dX6_lay_0 rfl rfl ?_
  refine r_iload_n C dX6_lay_1 rfl rfl ?_
  refine r_cSi C (c_X6_isRow) lk_X6_97 rfl rfl ⟨(Nat.le_of_ble_eq_true rfl), (Nat.le_of_ble_eq_true rfl), (Nat.le_of_ble_eq_true rfl), (Nat.le_of_ble_eq_true rfl), (Nat.le_of_ble_eq_true rfl)⟩ dX6_lay_2 ?_
  refine r_if_ne C 12 dX6_lay_5 (by decide) (fun _ => ?_) (fun c => absurd c (by rw [hpl]; decide))
  refine r_iload_n C dX6_lay_12 rfl rfl ?_
  refine r_iconst C (v := 0) dX6_lay_13 rfl ?_
  refine r_iconst C (v := 1) dX6_lay_14 rfl ?_
  refine r_cSi C (c_X6_in) lk_X6_37 rfl rfl ⟨(Nat.le_of_ble_eq_true rfl), (Nat.le_of_ble_eq_true rfl), (Nat.le_of_ble_eq_true rfl), (Nat.le_of_ble_eq_true rfl), (Nat.le_of_ble_eq_true rfl)⟩ dX6_lay_15 ?_
  refine r_if_eq C 25 dX6_lay_18 (by decide) (fun _ => ?_) (fun c => absurd (by rw [hg]; rfl) c)
  refine r_iconst C (v := 2) dX6_lay_25 rfl ?_
  refine r_cVi C (c_X6_holds MA_pM) lk_X6_65 rfl (MA_o MA_pM) rfl rfl ⟨(Nat.le_of_ble_eq_true rfl), (Nat.le_of_ble_eq_true rfl), (Nat.le_of_ble_eq_true rfl), (Nat.le_of_ble_eq_true rfl), (Nat.le_of_ble_eq_true rfl)⟩ dX6_lay_26 ?_
  refine V.heap (pM_pM _ _ _ _ _ _ _ _) ?_
  refine r_if_ne C 34 dX6_lay_29 (by decide) (fun c => absurd (by decide) c) (fun _ => ?_)
  refine r_iconst C (v := 0) dX6_lay_32 rfl ?_
  exact r_iret C rfl (Nat.le_of_ble_eq_true rfl) (Nat.le_of_ble_eq_true rfl) ⟨rfl, rfl, rfl⟩ dX6_lay_33

set_option maxHeartbeats 800000 in
set_option maxRecDepth 100000 in
theorem c_X6_draw {G : ga_} {l : Launch} {h : HP} {sz : Nat} {mo : Nat} {S A : gS} {dg : Int64} {n z : Nat}  (w : MA G h mo S A dg)  (hz : A 6 1 = nI z) (hz6 : z ≤ 6) (hok : gOk n S) : Mf G l yX6_draw cX6_draw 1 (some .int) 4 90 0 0 [.ref mo] h sz (some (.int (g_drawA S))) (pM G h mo (g_draw S) ((ac (gu (ac A 0 0) 1 (m_sv (A 1) (en S) z)) 1 (nI (m_z z)))) (dg)) sz := by
  refine Mg.ofV [(0, .ref mo)] (by decide) (Nat.le_of_ble_eq_true rfl) rfl ?_
  intro p e s m args below meth c C
  refine V.heap (pM_id w).symm ?_
  refine r_aload_n C dX6_draw_0 rfl rfl ?_
  refine r_iconst C (v := 0) dX6_draw_1 rfl ?_
  refine r_put C (j := 0) tyX6 tyX6_ok nmX6 rfl in_X6 (MA_o MA_pM) (by decide) fl_X6_33 rfl rfl rfl (by first | rfl | decide) (by first | rfl | decide) (Nat.le_of_ble_eq_true rfl) dX6_draw_2 ?_
  refine V.heap (qM_f 0 (nI (0)) rfl) ?_
  refine r_aload_n C dX6_draw_5 rfl rfl ?_
  refine r_cVv C (c_X6_save (z := z) MA_pM hz hz6) lk_X6_69 rfl (MA_o MA_pM) rfl rfl ⟨(Nat.le_of_ble_eq_true rfl), (Nat.le_of_ble_eq_true rfl), (Nat.le_of_ble_eq_true rfl), (Nat.le_of_ble_eq_true rfl), (Nat.le_of_ble_eq_true rfl)⟩ dX6_draw_6 ?_
  refine V.heap (pM_pM _ _ _ _ _ _ _ _) ?_
  refine r_aload_n C dX6_draw_9 rfl rfl ?_
  refine r_cVi C (c_X6_draws MA_pM hok) lk_X6_103 rfl (MA_o MA_pM) rfl rfl ⟨(Nat.le_of_ble_eq_true rfl), (Nat.le_of_ble_eq_true rfl), (Nat.le_of_ble_eq_true rfl), (Nat.le_of_ble_eq_true rfl), (Nat.le_of_ble_eq_true rfl)⟩ dX6_draw_10 ?_
  refine V.heap (pM_pM _ _ _ _ _ _ _ _) ?_
  exact r_iret C rfl (Nat.le_of_ble_eq_true rfl) (Nat.le_of_ble_eq_true rfl) ⟨rfl, rfl, rfl⟩ dX6_draw_13

set_option maxHeartbeats 800000 in
set_option maxRecDepth 100000 in
theorem c_X6_pass {G : ga_} {l : Launch} {h : HP} {sz : Nat} {mo : Nat} {S A : gS} {dg : Int64} {n z : Nat}  (w : MA G h mo S A dg)  (hz : A 6 1 = nI z) (hz6 : z ≤ 6) (hok : gOk n S) : Mf G l yX6_pass cX6_pass 1 (some .int) 4 88 0 0 [.ref mo] h sz (some (.int (g_passA S))) (pM G h mo (g_pass S) ((ac (gu (ac A 0 0) 1 (m_sv (A 1) (en S) z)) 1 (nI (m_z z)))) (dg)) sz := by
  refine Mg.ofV [(0, .ref mo)] (by decide) (Nat.le_of_ble_eq_true rfl) rfl ?_
  intro p e s m args below meth c C
  refine V.heap (pM_id w).symm ?_
  refine r_aload_n C dX6_pass_0 rfl rfl ?_
  refine r_iconst C (v := 0) dX6_pass_1 rfl ?_
  refine r_put C (j := 0) tyX6 tyX6_ok nmX6 rfl in_X6 (MA_o MA_pM) (by decide) fl_X6_33 rfl rfl rfl (by first | rfl | decide) (by first | rfl | decide) (Nat.le_of_ble_eq_true rfl) dX6_pass_2 ?_
  refine V.heap (qM_f 0 (nI (0)) rfl) ?_
  refine r_aload_n C dX6_pass_5 rfl rfl ?_
  refine r_cVv C (c_X6_save (z := z) MA_pM hz hz6) lk_X6_69 rfl (MA_o MA_pM) rfl rfl ⟨(Nat.le_of_ble_eq_true rfl), (Nat.le_of_ble_eq_true rfl), (Nat.le_of_ble_eq_true rfl), (Nat.le_of_ble_eq_true rfl), (Nat.le_of_ble_eq_true rfl)⟩ dX6_pass_6 ?_
  refine V.heap (pM_pM _ _ _ _ _ _ _ _) ?_
  refine r_aload_n C dX6_pass_9 rfl rfl ?_
  refine r_cVi C (c_X6_passes MA_pM hok) lk_X6_106 rfl (MA_o MA_pM) rfl rfl ⟨(Nat.le_of_ble_eq_true rfl), (Nat.le_of_ble_eq_true rfl), (Nat.le_of_ble_eq_true rfl), (Nat.le_of_ble_eq_true rfl), (Nat.le_of_ble_eq_true rfl)⟩ dX6_pass_10 ?_
  refine V.heap (pM_pM _ _ _ _ _ _ _ _) ?_
  exact r_iret C rfl (Nat.le_of_ble_eq_true rfl) (Nat.le_of_ble_eq_true rfl) ⟨rfl, rfl, rfl⟩ dX6_pass_13

set_option maxHeartbeats 800000 in
set_option maxRecDepth 100000 in
theorem c_X6_set_t {G : ga_} {l : Launch} {h : HP} {sz : Nat} {mo : Nat} {S A : gS} {dg : Int64} {a : Int32} {z : Nat}  (w : MA G h mo S A dg)  (hz : A 6 1 = nI z) (hz6 : z ≤ 6) (hg : m_in a 1 9 = true)  : Mf G l yX6_set cX6_set 3 (some .int) 1 22 0 0 [.ref mo, .int a] h sz (some (.int (S 5 7))) (pM G h mo (gc S 7 a) ((ac (gu (ac A 0 0) 1 (m_sv (A 1) (en S) z)) 1 (nI (m_z z)))) (dg)) sz := by
  refine Mg.ofV [(0, .ref mo), (1, .int a)] (by decide) (Nat.le_of_ble_eq_true rfl) rfl ?_
  intro p e s m args below meth c C
  refine V.heap (pM_id w).symm ?_
  refine r_aload_n C dX6_set_0 rfl rfl ?_
  refine r_iload_n C dX6_set_1 rfl rfl ?_
  refine r_iconst C (v := 1) dX6_set_2 rfl ?_
  refine r_bipush C (v := 9) dX6_set_3 rfl ?_
  refine r_cSi C (c_X6_in) lk_X6_37 rfl rfl ⟨(Nat.le_of_ble_eq_true rfl), (Nat.le_of_ble_eq_true rfl), (Nat.le_of_ble_eq_true rfl), (Nat.le_of_ble_eq_true rfl), (Nat.le_of_ble_eq_true rfl)⟩ dX6_set_5 ?_
  refine r_if_eq C 15 dX6_set_8 (by decide) (fun c => absurd c (by rw [hg]; decide)) (fun _ => ?_)
  refine r_iconst C (v := 0) dX6_set_11 rfl ?_
  refine r_goto C 16 dX6_set_12 (by decide) ?_
  refine r_cVi C (c_X6_holds MA_pM) lk_X6_65 rfl (MA_o MA_pM) rfl rfl ⟨(Nat.le_of_ble_eq_true rfl), (Nat.le_of_ble_eq_true rfl), (Nat.le_of_ble_eq_true rfl), (Nat.le_of_ble_eq_true rfl), (Nat.le_of_ble_eq_true rfl)⟩ dX6_set_16 ?_
  refine V.heap (pM_pM _ _ _ _ _ _ _ _) ?_
  refine r_if_ne C 24 dX6_set_19 (by decide) (fun _ => ?_) (fun c => absurd c (by decide))
  refine r_aload_n C dX6_set_24 rfl rfl ?_
  refine r_cVv C (c_X6_save (z := z) MA_pM hz hz6) lk_X6_69 rfl (MA_o MA_pM) rfl rfl ⟨(Nat.le_of_ble_eq_true rfl), (Nat.le_of_ble_eq_true rfl), (Nat.le_of_ble_eq_true rfl), (Nat.le_of_ble_eq_true rfl), (Nat.le_of_ble_eq_true rfl)⟩ dX6_set_25 ?_
  refine V.heap (pM_pM _ _ _ _ _ _ _ _) ?_
  refine r_aload_n C dX6_set_28 rfl rfl ?_
  refine r_get C (j := 1) rfl in_X6 (MA_o MA_pM) (by decide) fl_X6_7 rfl rfl dX6_set_29 ?_
  refine r_sipush C (v := 359) dX6_set_32 rfl ?_
  refine r_iald C (MA_s MA_pM) (vp_in_nI (n := 359) (by decide) (by decide)) dX6_set_35 ?_
  refine V.st0 (en_sc7 _) ?_
  refine r_istore_n C dX6_set_36 rfl (by decide) ?_
  refine r_aload_n C dX6_set_37 rfl rfl ?_
  refine r_get C (j := 1) rfl in_X6 (MA_o MA_pM) (by decide) fl_X6_7 rfl rfl dX6_set_38 ?_
  refine r_sipush C (v := 359) dX6_set_41 rfl ?_
  refine r_iload_n C dX6_set_44 rfl rfl ?_
  refine r_iast C (MA_s MA_pM) (vp_in_nI (n := 359) (by decide) (by decide)) dX6_set_45 ?_
  refine V.heap (qM_sc7 _) ?_
  refine r_iload_n C dX6_set_46 rfl rfl ?_
  exact r_iret C rfl (Nat.le_of_ble_eq_true rfl) (Nat.le_of_ble_eq_true rfl) ⟨rfl, rfl, rfl⟩ dX6_set_47

set_option maxHeartbeats 800000 in
set_option maxRecDepth 100000 in
theorem c_X6_set_f {G : ga_} {l : Launch} {h : HP} {sz : Nat} {mo : Nat} {S A : gS} {dg : Int64} {a : Int32}  (w : MA G h mo S A dg)  (hg : m_in a 1 9 = false)  : Mf G l yX6_set cX6_set 3 (some .int) 1 22 0 0 [.ref mo, .int a] h sz (some (.int (0))) (pM G h mo (S) (ac A 0 1) (dg)) sz := by
  refine Mg.ofV [(0, .ref mo), (1, .int a)] (by decide) (Nat.le_of_ble_eq_true rfl) rfl ?_
  intro p e s m args below meth c C
  refine V.heap (pM_id w).symm ?_
  refine r_aload_n C dX6_set_0 rfl rfl ?_
  refine r_iload_n C dX6_set_1 rfl rfl ?_
  refine r_iconst C (v := 1) dX6_set_2 rfl ?_
  refine r_bipush C (v := 9) dX6_set_3 rfl ?_
  refine r_cSi C (c_X6_in) lk_X6_37 rfl rfl ⟨(Nat.le_of_ble_eq_true rfl), (Nat.le_of_ble_eq_true rfl), (Nat.le_of_ble_eq_true rfl), (Nat.le_of_ble_eq_true rfl), (Nat.le_of_ble_eq_true rfl)⟩ dX6_set_5 ?_
  refine r_if_eq C 15 dX6_set_8 (by decide) (fun _ => ?_) (fun c => absurd (by rw [hg]; rfl) c)
  refine r_iconst C (v := 1) dX6_set_15 rfl ?_
  refine r_cVi C (c_X6_holds MA_pM) lk_X6_65 rfl (MA_o MA_pM) rfl rfl ⟨(Nat.le_of_ble_eq_true rfl), (Nat.le_of_ble_eq_true rfl), (Nat.le_of_ble_eq_true rfl), (Nat.le_of_ble_eq_true rfl), (Nat.le_of_ble_eq_true rfl)⟩ dX6_set_16 ?_
  refine V.heap (pM_pM _ _ _ _ _ _ _ _) ?_
  refine r_if_ne C 24 dX6_set_19 (by decide) (fun c => absurd (by decide) c) (fun _ => ?_)
  refine r_iconst C (v := 0) dX6_set_22 rfl ?_
  exact r_iret C rfl (Nat.le_of_ble_eq_true rfl) (Nat.le_of_ble_eq_true rfl) ⟨rfl, rfl, rfl⟩ dX6_set_23

set_option maxHeartbeats 800000 in
set_option maxRecDepth 100000 in
theorem c_X6_oil_o {G : ga_} {l : Launch} {h : HP} {sz : Nat} {mo : Nat} {S A : gS} {dg : Int64} {a : Int32} {z : Nat}  (w : MA G h mo S A dg)  (hz : A 6 1 = nI z) (hz6 : z ≤ 6) (hm : S 5 1 = -1) : Mf G l yX6_oil cX6_oil 5 (some .int) 1 22 0 0 [.ref mo, .int a] h sz (some (.int (-1))) (pM G h mo (S) ((ac (gu (ac A 0 0) 1 (m_sv (A 1) (en S) z)) 1 (nI (m_z z)))) (dg)) sz := by
  refine Mg.ofV [(0, .ref mo), (1, .int a)] (by decide) (Nat.le_of_ble_eq_true rfl) rfl ?_
  intro p e s m args below meth c C
  refine V.heap (pM_id w).symm ?_
  refine r_aload_n C dX6_oil_0 rfl rfl ?_
  refine r_get C (j := 1) rfl in_X6 (MA_o MA_pM) (by decide) fl_X6_7 rfl rfl dX6_oil_1 ?_
  refine r_sipush C (v := 342) dX6_oil_4 rfl ?_
  refine r_iald C (MA_s MA_pM) (vp_in_nI (n := 342) (by decide) (by decide)) dX6_oil_7 ?_
  refine V.st0 (en_sc1 _) ?_
  refine r_iconst C (v := -1) dX6_oil_8 rfl ?_
  refine r_icmp_eq C 39 dX6_oil_9 (by decide) (fun _ => ?_) (fun c => absurd hm c)
  refine r_iconst C (v := 1) dX6_oil_39 rfl ?_
  refine r_goto C 44 dX6_oil_40 (by decide) ?_
  refine r_istore_n C dX6_oil_44 rfl (by decide) ?_
  refine r_aload_n C dX6_oil_45 rfl rfl ?_
  refine r_iload_n C dX6_oil_46 rfl rfl ?_
  refine r_if_eq C 54 dX6_oil_47 (by decide) (fun c => absurd c (by decide)) (fun _ => ?_)
  refine r_iconst C (v := 0) dX6_oil_50 rfl ?_
  refine r_goto C 55 dX6_oil_51 (by decide) ?_
  refine r_cVi C (c_X6_holds MA_pM) lk_X6_65 rfl (MA_o MA_pM) rfl rfl ⟨(Nat.le_of_ble_eq_true rfl), (Nat.le_of_ble_eq_true rfl), (Nat.le_of_ble_eq_true rfl), (Nat.le_of_ble_eq_true rfl), (Nat.le_of_ble_eq_true rfl)⟩ dX6_oil_55 ?_
  refine V.heap (pM_pM _ _ _ _ _ _ _ _) ?_
  refine r_if_ne C 63 dX6_oil_58 (by decide) (fun _ => ?_) (fun c => absurd c (by decide))
  refine r_aload_n C dX6_oil_63 rfl rfl ?_
  refine r_cVv C (c_X6_save (z := z) MA_pM hz hz6) lk_X6_69 rfl (MA_o MA_pM) rfl rfl ⟨(Nat.le_of_ble_eq_true rfl), (Nat.le_of_ble_eq_true rfl), (Nat.le_of_ble_eq_true rfl), (Nat.le_of_ble_eq_true rfl), (Nat.le_of_ble_eq_true rfl)⟩ dX6_oil_64 ?_
  refine V.heap (pM_pM _ _ _ _ _ _ _ _) ?_
  refine r_aload_n C dX6_oil_67 rfl rfl ?_
  refine r_get C (j := 1) rfl in_X6 (MA_o MA_pM) (by decide) fl_X6_7 rfl rfl dX6_oil_68 ?_
  refine r_sipush C (v := 342) dX6_oil_71 rfl ?_
  refine r_iald C (MA_s MA_pM) (vp_in_nI (n := 342) (by decide) (by decide)) dX6_oil_74 ?_
  refine V.st0 (en_sc1 _) ?_
  refine r_iconst C (v := -1) dX6_oil_75 rfl ?_
  refine r_icmp_ne C 81 dX6_oil_76 (by decide) (fun c => absurd hm c) (fun _ => ?_)
  refine r_iconst C (v := -1) dX6_oil_79 rfl ?_
  exact r_iret C rfl (Nat.le_of_ble_eq_true rfl) (Nat.le_of_ble_eq_true rfl) ⟨rfl, rfl, rfl⟩ dX6_oil_80

set_option maxHeartbeats 800000 in
set_option maxRecDepth 100000 in
theorem c_X6_oil_t {G : ga_} {l : Launch} {h : HP} {sz : Nat} {mo : Nat} {S A : gS} {dg : Int64} {i : Nat} {z q k t : Nat}  (w : MA G h mo S A dg)  (hz : A 6 1 = nI z) (hz6 : z ≤ 6) (hm : S 5 1 = nI q) (hq : q < 4) (hk : tAt 4 16 (S 2) (nI q) 0 = nI k) (hk28 : k ≤ 28) (hi : i < k) (ht : t < 28) (et : tAt 28 112 (S 1) (nI q) (nI i) = nI t) : Mf G l yX6_oil cX6_oil 5 (some .int) 1 22 0 0 [.ref mo, .int (nI i)] h sz (some (.int (g_oilA S (nI i)))) (pM G h mo (g_oil S (nI i)) ((ac (gu (ac A 0 0) 1 (m_sv (A 1) (en S) z)) 1 (nI (m_z z)))) (dg)) sz := by
  refine Mg.ofV [(0, .ref mo), (1, .int (nI i))] (by decide) (Nat.le_of_ble_eq_true rfl) rfl ?_
  intro p e s m args below meth c C
  refine V.heap (pM_id w).symm ?_
  have hin : m_in (nI i) 0 (nI k - 1) = true := by rw [m_inh (by omega), decide_eq_false (nI_pos (by omega)), decide_eq_true (nI_lt hi (by omega))]; rfl
  have hov : ¬ g_over S = true := by unfold g_over; rw [hm, decide_eq_false (nI_ne1 (by omega))]; decide
  refine r_aload_n C dX6_oil_0 rfl rfl ?_
  refine r_get C (j := 1) rfl in_X6 (MA_o MA_pM) (by decide) fl_X6_7 rfl rfl dX6_oil_1 ?_
  refine r_sipush C (v := 342) dX6_oil_4 rfl ?_
  refine r_iald C (MA_s MA_pM) (vp_in_nI (n := 342) (by decide) (by decide)) dX6_oil_7 ?_
  refine V.st0 (en_sc1 _) ?_
  refine V.st0 (hm) ?_
  refine r_iconst C (v := -1) dX6_oil_8 rfl ?_
  refine r_icmp_eq C 39 dX6_oil_9 (by decide) (fun c => absurd c (nI_ne1 (by omega))) (fun _ => ?_)
  refine r_iload_n C dX6_oil_12 rfl rfl ?_
  refine r_iconst C (v := 0) dX6_oil_13 rfl ?_
  refine r_aload_n C dX6_oil_14 rfl rfl ?_
  refine r_get C (j := 1) rfl in_X6 (MA_o MA_pM) (by decide) fl_X6_7 rfl rfl dX6_oil_15 ?_
  refine r_sipush C (v := 337) dX6_oil_18 rfl ?_
  refine r_aload_n C dX6_oil_21 rfl rfl ?_
  refine r_get C (j := 1) rfl in_X6 (MA_o MA_pM) (by decide) fl_X6_7 rfl rfl dX6_oil_22 ?_
  refine r_sipush C (v := 342) dX6_oil_25 rfl ?_
  refine r_iald C (MA_s MA_pM) (vp_in_nI (n := 342) (by decide) (by decide)) dX6_oil_28 ?_
  refine V.st0 (en_sc1 _) ?_
  refine V.st0 (hm) ?_
  refine r_iadd C dX6_oil_29 ?_
  refine V.st0 (nI_add (337) (q)) ?_
  refine r_iald C (MA_s MA_pM) (vp_in_nI (by omega) (by decide)) dX6_oil_30 ?_
  refine V.st0 (en_tal0 (p := q) (by omega) _) ?_
  refine V.st0 (hk) ?_
  refine r_iconst C (v := 1) dX6_oil_31 rfl ?_
  refine r_isub C dX6_oil_32 ?_
  refine r_cSi C (c_X6_in) lk_X6_37 rfl rfl ⟨(Nat.le_of_ble_eq_true rfl), (Nat.le_of_ble_eq_true rfl), (Nat.le_of_ble_eq_true rfl), (Nat.le_of_ble_eq_true rfl), (Nat.le_of_ble_eq_true rfl)⟩ dX6_oil_33 ?_
  refine r_if_eq C 43 dX6_oil_36 (by decide) (fun c => absurd c (by rw [hin]; decide)) (fun _ => ?_)
  refine r_iconst C (v := 1) dX6_oil_39 rfl ?_
  refine r_goto C 44 dX6_oil_40 (by decide) ?_
  refine r_istore_n C dX6_oil_44 rfl (by decide) ?_
  refine r_aload_n C dX6_oil_45 rfl rfl ?_
  refine r_iload_n C dX6_oil_46 rfl rfl ?_
  refine r_if_eq C 54 dX6_oil_47 (by decide) (fun c => absurd c (by decide)) (fun _ => ?_)
  refine r_iconst C (v := 0) dX6_oil_50 rfl ?_
  refine r_goto C 55 dX6_oil_51 (by decide) ?_
  refine r_cVi C (c_X6_holds MA_pM) lk_X6_65 rfl (MA_o MA_pM) rfl rfl ⟨(Nat.le_of_ble_eq_true rfl), (Nat.le_of_ble_eq_true rfl), (Nat.le_of_ble_eq_true rfl), (Nat.le_of_ble_eq_true rfl), (Nat.le_of_ble_eq_true rfl)⟩ dX6_oil_55 ?_
  refine V.heap (pM_pM _ _ _ _ _ _ _ _) ?_
  refine r_if_ne C 63 dX6_oil_58 (by decide) (fun _ => ?_) (fun c => absurd c (by decide))
  refine r_aload_n C dX6_oil_63 rfl rfl ?_
  refine r_cVv C (c_X6_save (z := z) MA_pM hz hz6) lk_X6_69 rfl (MA_o MA_pM) rfl rfl ⟨(Nat.le_of_ble_eq_true rfl), (Nat.le_of_ble_eq_true rfl), (Nat.le_of_ble_eq_true rfl), (Nat.le_of_ble_eq_true rfl), (Nat.le_of_ble_eq_true rfl)⟩ dX6_oil_64 ?_
  refine V.heap (pM_pM _ _ _ _ _ _ _ _) ?_
  refine r_aload_n C dX6_oil_67 rfl rfl ?_
  refine r_get C (j := 1) rfl in_X6 (MA_o MA_pM) (by decide) fl_X6_7 rfl rfl dX6_oil_68 ?_
  refine r_sipush C (v := 342) dX6_oil_71 rfl ?_
  refine r_iald C (MA_s MA_pM) (vp_in_nI (n := 342) (by decide) (by decide)) dX6_oil_74 ?_
  refine V.st0 (en_sc1 _) ?_
  refine V.st0 (hm) ?_
  refine r_iconst C (v := -1) dX6_oil_75 rfl ?_
  refine r_icmp_ne C 81 dX6_oil_76 (by decide) (fun _ => ?_) (fun c => absurd c (nI_ne1 (by omega)))
  refine r_aload_n C dX6_oil_81 rfl rfl ?_
  refine r_get C (j := 1) rfl in_X6 (MA_o MA_pM) (by decide) fl_X6_7 rfl rfl dX6_oil_82 ?_
  refine r_aload_n C dX6_oil_85 rfl rfl ?_
  refine r_get C (j := 1) rfl in_X6 (MA_o MA_pM) (by decide) fl_X6_7 rfl rfl dX6_oil_86 ?_
  refine r_sipush C (v := 342) dX6_oil_89 rfl ?_
  refine r_iald C (MA_s MA_pM) (vp_in_nI (n := 342) (by decide) (by decide)) dX6_oil_92 ?_
  refine V.st0 (en_sc1 _) ?_
  refine V.st0 (hm) ?_
  refine r_iload_n C dX6_oil_93 rfl rfl ?_
  refine r_cSi C (c_X6_inHand (a := q) (b := i)) lk_X6_48 rfl rfl ⟨(Nat.le_of_ble_eq_true rfl), (Nat.le_of_ble_eq_true rfl), (Nat.le_of_ble_eq_true rfl), (Nat.le_of_ble_eq_true rfl), (Nat.le_of_ble_eq_true rfl)⟩ dX6_oil_94 ?_
  refine r_iald C (MA_s MA_pM) (vp_in_nI (by omega) (by decide)) dX6_oil_97 ?_
  refine V.st0 (en_ih (p := q) (i := i) (by omega) (by omega) _) ?_
  refine V.st0 (et) ?_
  refine r_iconst C (v := 4) dX6_oil_98 rfl ?_
  refine r_cSi C (c_X6_of (a := t) (b := 4)) lk_X6_44 rfl rfl ⟨(Nat.le_of_ble_eq_true rfl), (Nat.le_of_ble_eq_true rfl), (Nat.le_of_ble_eq_true rfl), (Nat.le_of_ble_eq_true rfl), (Nat.le_of_ble_eq_true rfl)⟩ dX6_oil_99 ?_
  refine r_istore_n C dX6_oil_102 rfl (by decide) ?_
  refine r_aload_n C dX6_oil_103 rfl rfl ?_
  refine r_get C (j := 1) rfl in_X6 (MA_o MA_pM) (by decide) fl_X6_7 rfl rfl dX6_oil_104 ?_
  refine r_iload_n C dX6_oil_107 rfl rfl ?_
  refine r_iald C (MA_s MA_pM) (vp_in_nI (by omega) (by decide)) dX6_oil_108 ?_
  refine V.st0 (en_of (t := t) (w := 4) (wi := 4) (by omega) (by omega) rfl _) ?_
  refine r_istore C dX6_oil_109 (by decide) ?_
  refine r_aload_n C dX6_oil_111 rfl rfl ?_
  refine r_get C (j := 1) rfl in_X6 (MA_o MA_pM) (by decide) fl_X6_7 rfl rfl dX6_oil_112 ?_
  refine r_iload_n C dX6_oil_115 rfl rfl ?_
  refine r_iconst C (v := 0) dX6_oil_116 rfl ?_
  refine r_iast C (MA_s MA_pM) (vp_in_nI (by omega) (by decide)) dX6_oil_117 ?_
  refine V.heap (qP_of (t := t) (w := 4) (wi := 4) (by omega) (by omega) rfl) ?_
  refine r_iload C dX6_oil_118 rfl ?_
  exact r_iret C rfl (Nat.le_of_ble_eq_true rfl) (Nat.le_of_ble_eq_true rfl) ⟨by unfold g_oilA; rw [if_neg hov, hm, show g_hand S (nI q) (nI i) = nI t from et], congrArg (fun X => pM G h mo X (ac (gu (ac A 0 0) 1 (m_sv (A 1) (en S) z)) 1 (nI (m_z z))) dg) (by unfold g_oil; rw [if_neg hov, hm, show g_hand S (nI q) (nI i) = nI t from et]), rfl⟩ dX6_oil_120

set_option maxHeartbeats 800000 in
set_option maxRecDepth 100000 in
theorem c_X6_oil_f {G : ga_} {l : Launch} {h : HP} {sz : Nat} {mo : Nat} {S A : gS} {dg : Int64} {a : Int32} {q k : Nat}  (w : MA G h mo S A dg)  (hm : S 5 1 = nI q) (hq : q < 4) (hk : tAt 4 16 (S 2) (nI q) 0 = nI k) (hin : m_in a 0 (nI k - 1) = false)  : Mf G l yX6_oil cX6_oil 5 (some .int) 1 22 0 0 [.ref mo, .int a] h sz (some (.int (0))) (pM G h mo (S) (ac A 0 1) (dg)) sz := by
  refine Mg.ofV [(0, .ref mo), (1, .int a)] (by decide) (Nat.le_of_ble_eq_true rfl) rfl ?_
  intro p e s m args below meth c C
  refine V.heap (pM_id w).symm ?_
  refine r_aload_n C dX6_oil_0 rfl rfl ?_
  refine r_get C (j := 1) rfl in_X6 (MA_o MA_pM) (by decide) fl_X6_7 rfl rfl dX6_oil_1 ?_
  refine r_sipush C (v := 342) dX6_oil_4 rfl ?_
  refine r_iald C (MA_s MA_pM) (vp_in_nI (n := 342) (by decide) (by decide)) dX6_oil_7 ?_
  refine V.st0 (en_sc1 _) ?_
  refine V.st0 (hm) ?_
  refine r_iconst C (v := -1) dX6_oil_8 rfl ?_
  refine r_icmp_eq C 39 dX6_oil_9 (by decide) (fun c => absurd c (nI_ne1 (by omega))) (fun _ => ?_)
  refine r_iload_n C dX6_oil_12 rfl rfl ?_
  refine r_iconst C (v := 0) dX6_oil_13 rfl ?_
  refine r_aload_n C dX6_oil_14 rfl rfl ?_
  refine r_get C (j := 1) rfl in_X6 (MA_o MA_pM) (by decide) fl_X6_7 rfl rfl dX6_oil_15 ?_
  refine r_sipush C (v := 337) dX6_oil_18 rfl ?_
  refine r_aload_n C dX6_oil_21 rfl rfl ?_
  refine r_get C (j := 1) rfl in_X6 (MA_o MA_pM) (by decide) fl_X6_7 rfl rfl dX6_oil_22 ?_
  refine r_sipush C (v := 342) dX6_oil_25 rfl ?_
  refine r_iald C (MA_s MA_pM) (vp_in_nI (n := 342) (by decide) (by decide)) dX6_oil_28 ?_
  refine V.st0 (en_sc1 _) ?_
  refine V.st0 (hm) ?_
  refine r_iadd C dX6_oil_29 ?_
  refine V.st0 (nI_add (337) (q)) ?_
  refine r_iald C (MA_s MA_pM) (vp_in_nI (by omega) (by decide)) dX6_oil_30 ?_
  refine V.st0 (en_tal0 (p := q) (by omega) _) ?_
  refine V.st0 (hk) ?_
  refine r_iconst C (v := 1) dX6_oil_31 rfl ?_
  refine r_isub C dX6_oil_32 ?_
  refine r_cSi C (c_X6_in) lk_X6_37 rfl rfl ⟨(Nat.le_of_ble_eq_true rfl), (Nat.le_of_ble_eq_true rfl), (Nat.le_of_ble_eq_true rfl), (Nat.le_of_ble_eq_true rfl), (Nat.le_of_ble_eq_true rfl)⟩ dX6_oil_33 ?_
  refine r_if_eq C 43 dX6_oil_36 (by decide) (fun _ => ?_) (fun c => absurd (by rw [hin]; rfl) c)
  refine r_iconst C (v := 0) dX6_oil_43 rfl ?_
  refine r_istore_n C dX6_oil_44 rfl (by decide) ?_
  refine r_aload_n C dX6_oil_45 rfl rfl ?_
  refine r_iload_n C dX6_oil_46 rfl rfl ?_
  refine r_if_eq C 54 dX6_oil_47 (by decide) (fun _ => ?_) (fun c => absurd (by decide) c)
  refine r_iconst C (v := 1) dX6_oil_54 rfl ?_
  refine r_cVi C (c_X6_holds MA_pM) lk_X6_65 rfl (MA_o MA_pM) rfl rfl ⟨(Nat.le_of_ble_eq_true rfl), (Nat.le_of_ble_eq_true rfl), (Nat.le_of_ble_eq_true rfl), (Nat.le_of_ble_eq_true rfl), (Nat.le_of_ble_eq_true rfl)⟩ dX6_oil_55 ?_
  refine V.heap (pM_pM _ _ _ _ _ _ _ _) ?_
  refine r_if_ne C 63 dX6_oil_58 (by decide) (fun c => absurd (by decide) c) (fun _ => ?_)
  refine r_iconst C (v := 0) dX6_oil_61 rfl ?_
  exact r_iret C rfl (Nat.le_of_ble_eq_true rfl) (Nat.le_of_ble_eq_true rfl) ⟨rfl, rfl, rfl⟩ dX6_oil_62

set_option maxHeartbeats 800000 in
set_option maxRecDepth 100000 in
theorem c_X6_append_t {G : ga_} {l : Launch} {h : HP} {sz : Nat} {mo : Nat} {S A : gS} {dg : Int64} {a : Int32} {n : Nat}  (w : MA G h mo S A dg)  (hn : A 6 3 = nI n) (hn60 : n < 60) (hg : m_in a 33 126 = true)  : Mf G l yX6_append cX6_append 2 (some .int) 1 22 0 0 [.ref mo, .int a] h sz (some (.int (nI (n + 1)))) (pM G h mo (S) (ac (gu (ac A 0 0) 3 (upd (A 3) n a)) 3 (nI (n + 1))) (dg)) sz := by
  refine Mg.ofV [(0, .ref mo), (1, .int a)] (by decide) (Nat.le_of_ble_eq_true rfl) rfl ?_
  intro p e s m args below meth c C
  refine V.heap (pM_id w).symm ?_
  refine r_aload_n C dX6_append_0 rfl rfl ?_
  refine r_iload_n C dX6_append_1 rfl rfl ?_
  refine r_bipush C (v := 33) dX6_append_2 rfl ?_
  refine r_bipush C (v := 126) dX6_append_4 rfl ?_
  refine r_cSi C (c_X6_in) lk_X6_37 rfl rfl ⟨(Nat.le_of_ble_eq_true rfl), (Nat.le_of_ble_eq_true rfl), (Nat.le_of_ble_eq_true rfl), (Nat.le_of_ble_eq_true rfl), (Nat.le_of_ble_eq_true rfl)⟩ dX6_append_6 ?_
  refine r_if_ne C 16 dX6_append_9 (by decide) (fun _ => ?_) (fun c => absurd c (by rw [hg]; decide))
  refine r_aload_n C dX6_append_16 rfl rfl ?_
  refine r_get C (j := 7) rfl in_X6 (MA_o MA_pM) (by decide) fl_X6_109 rfl rfl dX6_append_17 ?_
  refine V.st0 (hn) ?_
  refine r_bipush C (v := 60) dX6_append_20 rfl ?_
  refine r_icmp_ne C 29 dX6_append_22 (by decide) (fun _ => ?_) (fun c => absurd c (fun e => by have := nI_inj (b := 60) (by omega) (by decide) e; omega))
  refine r_iconst C (v := 0) dX6_append_29 rfl ?_
  refine r_cVi C (c_X6_holds MA_pM) lk_X6_65 rfl (MA_o MA_pM) rfl rfl ⟨(Nat.le_of_ble_eq_true rfl), (Nat.le_of_ble_eq_true rfl), (Nat.le_of_ble_eq_true rfl), (Nat.le_of_ble_eq_true rfl), (Nat.le_of_ble_eq_true rfl)⟩ dX6_append_30 ?_
  refine V.heap (pM_pM _ _ _ _ _ _ _ _) ?_
  refine r_if_ne C 38 dX6_append_33 (by decide) (fun _ => ?_) (fun c => absurd c (by decide))
  refine r_aload_n C dX6_append_38 rfl rfl ?_
  refine r_get C (j := 6) rfl in_X6 (MA_o MA_pM) (by decide) fl_X6_19 rfl rfl dX6_append_39 ?_
  refine r_aload_n C dX6_append_42 rfl rfl ?_
  refine r_get C (j := 7) rfl in_X6 (MA_o MA_pM) (by decide) fl_X6_109 rfl rfl dX6_append_43 ?_
  refine V.st0 (hn) ?_
  refine r_iload_n C dX6_append_46 rfl rfl ?_
  refine r_iast C (MA_3 MA_pM) (vp_in_nI (by omega) (by decide)) dX6_append_47 ?_
  refine V.heap (qM_a3 (by omega)) ?_
  refine r_aload_n C dX6_append_48 rfl rfl ?_
  refine r_dup C dX6_append_49 rfl ?_
  refine r_get C (j := 7) rfl in_X6 (MA_o MA_pM) (by decide) fl_X6_109 rfl rfl dX6_append_50 ?_
  refine V.st0 (hn) ?_
  refine r_iconst C (v := 1) dX6_append_53 rfl ?_
  refine r_iadd C dX6_append_54 ?_
  refine V.st0 (nI_add (n) (1)) ?_
  refine r_put C (j := 7) tyX6 tyX6_ok nmX6 rfl in_X6 (MA_o MA_pM) (by decide) fl_X6_109 rfl rfl rfl (by first | rfl | decide) (by first | rfl | decide) (Nat.le_of_ble_eq_true rfl) dX6_append_55 ?_
  refine V.heap (qM_f 3 (nI ((n + 1))) rfl) ?_
  refine r_aload_n C dX6_append_58 rfl rfl ?_
  refine r_get C (j := 7) rfl in_X6 (MA_o MA_pM) (by decide) fl_X6_109 rfl rfl dX6_append_59 ?_
  exact r_iret C rfl (Nat.le_of_ble_eq_true rfl) (Nat.le_of_ble_eq_true rfl) ⟨rfl, rfl, rfl⟩ dX6_append_62

set_option maxHeartbeats 800000 in
set_option maxRecDepth 100000 in
theorem c_X6_append_f {G : ga_} {l : Launch} {h : HP} {sz : Nat} {mo : Nat} {S A : gS} {dg : Int64} {a : Int32}  (w : MA G h mo S A dg)  (hg : m_in a 33 126 = false)  : Mf G l yX6_append cX6_append 2 (some .int) 1 22 0 0 [.ref mo, .int a] h sz (some (.int (0))) (pM G h mo (S) (ac A 0 1) (dg)) sz := by
  refine Mg.ofV [(0, .ref mo), (1, .int a)] (by decide) (Nat.le_of_ble_eq_true rfl) rfl ?_
  intro p e s m args below meth c C
  refine V.heap (pM_id w).symm ?_
  refine r_aload_n C dX6_append_0 rfl rfl ?_
  refine r_iload_n C dX6_append_1 rfl rfl ?_
  refine r_bipush C (v := 33) dX6_append_2 rfl ?_
  refine r_bipush C (v := 126) dX6_append_4 rfl ?_
  refine r_cSi C (c_X6_in) lk_X6_37 rfl rfl ⟨(Nat.le_of_ble_eq_true rfl), (Nat.le_of_ble_eq_true rfl), (Nat.le_of_ble_eq_true rfl), (Nat.le_of_ble_eq_true rfl), (Nat.le_of_ble_eq_true rfl)⟩ dX6_append_6 ?_
  refine r_if_ne C 16 dX6_append_9 (by decide) (fun c => absurd (by rw [hg]; rfl) c) (fun _ => ?_)
  refine r_iconst C (v := 1) dX6_append_12 rfl ?_
  refine r_goto C 30 dX6_append_13 (by decide) ?_
  refine r_cVi C (c_X6_holds MA_pM) lk_X6_65 rfl (MA_o MA_pM) rfl rfl ⟨(Nat.le_of_ble_eq_true rfl), (Nat.le_of_ble_eq_true rfl), (Nat.le_of_ble_eq_true rfl), (Nat.le_of_ble_eq_true rfl), (Nat.le_of_ble_eq_true rfl)⟩ dX6_append_30 ?_
  refine V.heap (pM_pM _ _ _ _ _ _ _ _) ?_
  refine r_if_ne C 38 dX6_append_33 (by decide) (fun c => absurd (by decide) c) (fun _ => ?_)
  refine r_iconst C (v := 0) dX6_append_36 rfl ?_
  exact r_iret C rfl (Nat.le_of_ble_eq_true rfl) (Nat.le_of_ble_eq_true rfl) ⟨rfl, rfl, rfl⟩ dX6_append_37

set_option maxHeartbeats 800000 in
set_option maxRecDepth 100000 in
theorem c_X6_append_n {G : ga_} {l : Launch} {h : HP} {sz : Nat} {mo : Nat} {S A : gS} {dg : Int64} {a : Int32}  (w : MA G h mo S A dg)  (hn : A 6 3 = 60) (hg : m_in a 33 126 = true)  : Mf G l yX6_append cX6_append 2 (some .int) 1 22 0 0 [.ref mo, .int a] h sz (some (.int (0))) (pM G h mo (S) (ac A 0 2) (dg)) sz := by
  refine Mg.ofV [(0, .ref mo), (1, .int a)] (by decide) (Nat.le_of_ble_eq_true rfl) rfl ?_
  intro p e s m args below meth c C
  refine V.heap (pM_id w).symm ?_
  refine r_aload_n C dX6_append_0 rfl rfl ?_
  refine r_iload_n C dX6_append_1 rfl rfl ?_
  refine r_bipush C (v := 33) dX6_append_2 rfl ?_
  refine r_bipush C (v := 126) dX6_append_4 rfl ?_
  refine r_cSi C (c_X6_in) lk_X6_37 rfl rfl ⟨(Nat.le_of_ble_eq_true rfl), (Nat.le_of_ble_eq_true rfl), (Nat.le_of_ble_eq_true rfl), (Nat.le_of_ble_eq_true rfl), (Nat.le_of_ble_eq_true rfl)⟩ dX6_append_6 ?_
  refine r_if_ne C 16 dX6_append_9 (by decide) (fun _ => ?_) (fun c => absurd c (by rw [hg]; decide))
  refine r_aload_n C dX6_append_16 rfl rfl ?_
  refine r_get C (j := 7) rfl in_X6 (MA_o MA_pM) (by decide) fl_X6_109 rfl rfl dX6_append_17 ?_
  refine r_bipush C (v := 60) dX6_append_20 rfl ?_
  refine r_icmp_ne C 29 dX6_append_22 (by decide) (fun c => absurd hn c) (fun _ => ?_)
  refine r_iconst C (v := 2) dX6_append_25 rfl ?_
  refine r_goto C 30 dX6_append_26 (by decide) ?_
  refine r_cVi C (c_X6_holds MA_pM) lk_X6_65 rfl (MA_o MA_pM) rfl rfl ⟨(Nat.le_of_ble_eq_true rfl), (Nat.le_of_ble_eq_true rfl), (Nat.le_of_ble_eq_true rfl), (Nat.le_of_ble_eq_true rfl), (Nat.le_of_ble_eq_true rfl)⟩ dX6_append_30 ?_
  refine V.heap (pM_pM _ _ _ _ _ _ _ _) ?_
  refine r_if_ne C 38 dX6_append_33 (by decide) (fun c => absurd (by decide) c) (fun _ => ?_)
  refine r_iconst C (v := 0) dX6_append_36 rfl ?_
  exact r_iret C rfl (Nat.le_of_ble_eq_true rfl) (Nat.le_of_ble_eq_true rfl) ⟨rfl, rfl, rfl⟩ dX6_append_37

set_option maxHeartbeats 800000 in
set_option maxRecDepth 100000 in
theorem c_X6_clearBuffer {G : ga_} {l : Launch} {h : HP} {sz : Nat} {mo : Nat} {S A : gS} {dg : Int64}  (w : MA G h mo S A dg)   : Mf G l yX6_clearBuffer cX6_clearBuffer 2 (some .int) 0 0 0 0 [.ref mo] h sz (some (.int (A 6 3))) (pM G h mo (S) (ac (ac A 0 0) 3 0) (dg)) sz := by
  refine Mg.ofV [(0, .ref mo)] (by decide) (Nat.le_of_ble_eq_true rfl) rfl ?_
  intro p e s m args below meth c C
  refine V.heap (pM_id w).symm ?_
  refine r_aload_n C dX6_clearBuffer_0 rfl rfl ?_
  refine r_iconst C (v := 0) dX6_clearBuffer_1 rfl ?_
  refine r_put C (j := 0) tyX6 tyX6_ok nmX6 rfl in_X6 (MA_o MA_pM) (by decide) fl_X6_33 rfl rfl rfl (by first | rfl | decide) (by first | rfl | decide) (Nat.le_of_ble_eq_true rfl) dX6_clearBuffer_2 ?_
  refine V.heap (qM_f 0 (nI (0)) rfl) ?_
  refine r_aload_n C dX6_clearBuffer_5 rfl rfl ?_
  refine r_get C (j := 7) rfl in_X6 (MA_o MA_pM) (by decide) fl_X6_109 rfl rfl dX6_clearBuffer_6 ?_
  refine r_istore_n C dX6_clearBuffer_9 rfl (by decide) ?_
  refine r_aload_n C dX6_clearBuffer_10 rfl rfl ?_
  refine r_iconst C (v := 0) dX6_clearBuffer_11 rfl ?_
  refine r_put C (j := 7) tyX6 tyX6_ok nmX6 rfl in_X6 (MA_o MA_pM) (by decide) fl_X6_109 rfl rfl rfl (by first | rfl | decide) (by first | rfl | decide) (Nat.le_of_ble_eq_true rfl) dX6_clearBuffer_12 ?_
  refine V.heap (qM_f 3 (nI (0)) rfl) ?_
  refine r_iload_n C dX6_clearBuffer_15 rfl rfl ?_
  exact r_iret C rfl (Nat.le_of_ble_eq_true rfl) (Nat.le_of_ble_eq_true rfl) ⟨rfl, rfl, rfl⟩ dX6_clearBuffer_16

theorem eg_S {f : Nat → Int32} {n : Nat} {S : gS} : ∀ k c t, (e_go f n false k c S t).2.1 = S := by
  intro k
  induction k with
  | zero => intro c t; rfl
  | succ k ih =>
    intro c t
    have e : ∀ q, e_S S q false = S := fun q => by unfold e_S; rw [Bool.and_false]; rfl
    rw [e_go]
    split
    · split
      · exact e _
      · rw [e]; exact ih _ _
    · exact e _
set_option maxHeartbeats 800000 in
set_option maxRecDepth 100000 in
theorem c_X6_firstError {G : ga_} {l : Launch} {h : HP} {sz : Nat} {mo : Nat} {S A : gS} {dg : Int64} {t : tT_} {n : Nat}  (w : MA G h mo S (tA A t) dg)  (hn : A 6 3 = nI n) (hn60 : n ≤ 60)  : Mf G l yX6_firstError cX6_firstError 2 (some .int) 6 139 0 0 [.ref mo] h sz (some (.int (if (e_go (A 3) n false (n + 1) 0 S (0, false, t.2.2)).2.2.2.1 = true then nI (e_go (A 3) n false (n + 1) 0 S (0, false, t.2.2)).2.2.1 else nI n))) (pM G h mo (S) (tA (ac A 0 0) (e_go (A 3) n false (n + 1) 0 S (0, false, t.2.2)).2.2) (dg)) sz := by
  refine Mg.ofV [(0, .ref mo)] (by decide) (Nat.le_of_ble_eq_true rfl) rfl ?_
  intro p e s m args below meth c C
  refine V.heap (pM_id w).symm ?_
  refine r_aload_n C dX6_firstError_0 rfl rfl ?_
  refine r_iconst C (v := 0) dX6_firstError_1 rfl ?_
  refine r_put C (j := 0) tyX6 tyX6_ok nmX6 rfl in_X6 (MA_o MA_pM) (by decide) fl_X6_33 rfl rfl rfl (by first | rfl | decide) (by first | rfl | decide) (Nat.le_of_ble_eq_true rfl) dX6_firstError_2 ?_
  refine V.heap (qM_f 0 (nI (0)) rfl) ?_
  refine V.heap (congrArg (fun X => pM G h mo S X dg) (tA_ac (by decide))) ?_
  refine r_aload_n C dX6_firstError_5 rfl rfl ?_
  refine r_iconst C (v := 0) dX6_firstError_6 rfl ?_
  refine r_cVi C (c_X6_goesThrough (dn := false) (t := t) (n := n) (nn := 0) MA_pM hn hn60 (fun q => absurd q (by decide))) lk_X6_145 rfl (MA_o MA_pM) rfl rfl ⟨(Nat.le_of_ble_eq_true rfl), (Nat.le_of_ble_eq_true rfl), (Nat.le_of_ble_eq_true rfl), (Nat.le_of_ble_eq_true rfl), (Nat.le_of_ble_eq_true rfl)⟩ dX6_firstError_7 ?_
  refine V.heap (pM_pM _ _ _ _ _ _ _ _) ?_
  refine V.heap (congrArg (fun X => pM G h mo X (tA (ac A 0 0) (e_go (A 3) n false (n + 1) 0 S (0, false, t.2.2)).2.2) dg) (eg_S _ _ _)) ?_
  refine r_istore_n C dX6_firstError_10 rfl (by decide) ?_
  refine r_aload_n C dX6_firstError_11 rfl rfl ?_
  refine r_get C (j := 11) rfl in_X6 (MA_o MA_pM) (by decide) fl_X6_115 rfl rfl dX6_firstError_12 ?_
  refine V.st0 ((show _ = bI (e_go (A 3) n false (n + 1) 0 S (0, false, t.2.2)).2.2.2.1 from rfl)) ?_
  refine r_if_eq C 25 dX6_firstError_15 (by decide) (fun c_15 => ?_) (fun c_15 => ?_)
  · have c_15 := bI_f c_15
    refine r_aload_n C dX6_firstError_25 rfl rfl ?_
    refine r_get C (j := 7) rfl in_X6 (MA_o MA_pM) (by decide) fl_X6_109 rfl rfl dX6_firstError_26 ?_
    refine V.st0 (hn) ?_
    exact r_iret C rfl (Nat.le_of_ble_eq_true rfl) (Nat.le_of_ble_eq_true rfl) ⟨by rw [c_15]; rfl, rfl, rfl⟩ dX6_firstError_29
  · have c_15 := bI_t c_15
    refine r_aload_n C dX6_firstError_18 rfl rfl ?_
    refine r_get C (j := 10) rfl in_X6 (MA_o MA_pM) (by decide) fl_X6_112 rfl rfl dX6_firstError_19 ?_
    refine V.st0 ((show _ = nI (e_go (A 3) n false (n + 1) 0 S (0, false, t.2.2)).2.2.1 from rfl)) ?_
    refine r_goto C 29 dX6_firstError_22 (by decide) ?_
    exact r_iret C rfl (Nat.le_of_ble_eq_true rfl) (Nat.le_of_ble_eq_true rfl) ⟨by rw [c_15]; rfl, rfl, rfl⟩ dX6_firstError_29

set_option maxHeartbeats 800000 in
set_option maxRecDepth 100000 in
theorem c_X6_run_f {G : ga_} {l : Launch} {h : HP} {sz : Nat} {mo : Nat} {S A : gS} {dg : Int64} {t : tT_} {n : Nat}  (w : MA G h mo S (tA A t) dg)  (hn : A 6 3 = nI n) (hn60 : n ≤ 60) (hw : (e_go (A 3) n false (n + 1) 0 S (0, false, t.2.2)).2.2.2.1 = true) : Mf G l yX6_run cX6_run 2 (some .int) 6 139 0 0 [.ref mo] h sz (some (.int (0))) (pM G h mo (S) (tA (ac A 0 1) (e_go (A 3) n false (n + 1) 0 S (0, false, t.2.2)).2.2) (dg)) sz := by
  refine Mg.ofV [(0, .ref mo)] (by decide) (Nat.le_of_ble_eq_true rfl) rfl ?_
  intro p e s m args below meth c C
  refine V.heap (pM_id w).symm ?_
  refine r_aload_n C dX6_run_0 rfl rfl ?_
  refine r_iconst C (v := 0) dX6_run_1 rfl ?_
  refine r_cVi C (c_X6_goesThrough (dn := false) (t := t) (n := n) (nn := 0) MA_pM hn hn60 (fun q => absurd q (by decide))) lk_X6_145 rfl (MA_o MA_pM) rfl rfl ⟨(Nat.le_of_ble_eq_true rfl), (Nat.le_of_ble_eq_true rfl), (Nat.le_of_ble_eq_true rfl), (Nat.le_of_ble_eq_true rfl), (Nat.le_of_ble_eq_true rfl)⟩ dX6_run_2 ?_
  refine V.heap (pM_pM _ _ _ _ _ _ _ _) ?_
  refine V.heap (congrArg (fun X => pM G h mo X (tA A (e_go (A 3) n false (n + 1) 0 S (0, false, t.2.2)).2.2) dg) (eg_S _ _ _)) ?_
  refine r_istore_n C dX6_run_5 rfl (by decide) ?_
  refine r_aload_n C dX6_run_6 rfl rfl ?_
  refine r_aload_n C dX6_run_7 rfl rfl ?_
  refine r_get C (j := 11) rfl in_X6 (MA_o MA_pM) (by decide) fl_X6_115 rfl rfl dX6_run_8 ?_
  refine V.st0 ((show _ = bI (e_go (A 3) n false (n + 1) 0 S (0, false, t.2.2)).2.2.2.1 from rfl)) ?_
  refine r_if_eq C 18 dX6_run_11 (by decide) (fun c => absurd c (by rw [hw]; decide)) (fun _ => ?_)
  refine r_iconst C (v := 1) dX6_run_14 rfl ?_
  refine r_goto C 19 dX6_run_15 (by decide) ?_
  refine r_cVi C (c_X6_holds MA_pM) lk_X6_65 rfl (MA_o MA_pM) rfl rfl ⟨(Nat.le_of_ble_eq_true rfl), (Nat.le_of_ble_eq_true rfl), (Nat.le_of_ble_eq_true rfl), (Nat.le_of_ble_eq_true rfl), (Nat.le_of_ble_eq_true rfl)⟩ dX6_run_19 ?_
  refine V.heap (pM_pM _ _ _ _ _ _ _ _) ?_
  refine r_if_ne C 27 dX6_run_22 (by decide) (fun c => absurd (by decide) c) (fun _ => ?_)
  refine r_iconst C (v := 0) dX6_run_25 rfl ?_
  exact r_iret C rfl (Nat.le_of_ble_eq_true rfl) (Nat.le_of_ble_eq_true rfl) ⟨rfl, congrArg (fun X => pM G h mo S X dg) (tA_ac (by decide)), rfl⟩ dX6_run_26

set_option maxHeartbeats 800000 in
set_option maxRecDepth 100000 in
theorem c_X6_run_t {G : ga_} {l : Launch} {h : HP} {sz : Nat} {mo : Nat} {S A : gS} {dg : Int64} {t : tT_} {n : Nat} {z nn : Nat}  (w : MA G h mo S (tA A t) dg)  (hn : A 6 3 = nI n) (hn60 : n ≤ 60) (hz : A 6 1 = nI z) (hz6 : z ≤ 6) (hok : gOk nn S) (hw : (e_go (A 3) n false (n + 1) 0 S (0, false, t.2.2)).2.2.2.1 = false) : Mf G l yX6_run cX6_run 2 (some .int) 6 139 0 0 [.ref mo] h sz (some (.int ((e_go (A 3) n true (n + 1) 0 S (0, false, (e_go (A 3) n false (n + 1) 0 S (0, false, t.2.2)).2.2.2.2)).1))) (pM G h mo ((e_go (A 3) n true (n + 1) 0 S (0, false, (e_go (A 3) n false (n + 1) 0 S (0, false, t.2.2)).2.2.2.2)).2.1) (tA (ac (ac (gu (ac A 0 0) 1 (m_sv (A 1) (en S) z)) 1 (nI (m_z z))) 3 0) (e_go (A 3) n true (n + 1) 0 S (0, false, (e_go (A 3) n false (n + 1) 0 S (0, false, t.2.2)).2.2.2.2)).2.2) (dg)) sz := by
  refine Mg.ofV [(0, .ref mo)] (by decide) (Nat.le_of_ble_eq_true rfl) rfl ?_
  intro p e s m args below meth c C
  refine V.heap (pM_id w).symm ?_
  refine r_aload_n C dX6_run_0 rfl rfl ?_
  refine r_iconst C (v := 0) dX6_run_1 rfl ?_
  refine r_cVi C (c_X6_goesThrough (dn := false) (t := t) (n := n) (nn := 0) MA_pM hn hn60 (fun q => absurd q (by decide))) lk_X6_145 rfl (MA_o MA_pM) rfl rfl ⟨(Nat.le_of_ble_eq_true rfl), (Nat.le_of_ble_eq_true rfl), (Nat.le_of_ble_eq_true rfl), (Nat.le_of_ble_eq_true rfl), (Nat.le_of_ble_eq_true rfl)⟩ dX6_run_2 ?_
  refine V.heap (pM_pM _ _ _ _ _ _ _ _) ?_
  refine V.heap (congrArg (fun X => pM G h mo X (tA A (e_go (A 3) n false (n + 1) 0 S (0, false, t.2.2)).2.2) dg) (eg_S _ _ _)) ?_
  refine r_istore_n C dX6_run_5 rfl (by decide) ?_
  refine r_aload_n C dX6_run_6 rfl rfl ?_
  refine r_aload_n C dX6_run_7 rfl rfl ?_
  refine r_get C (j := 11) rfl in_X6 (MA_o MA_pM) (by decide) fl_X6_115 rfl rfl dX6_run_8 ?_
  refine V.st0 ((show _ = bI (e_go (A 3) n false (n + 1) 0 S (0, false, t.2.2)).2.2.2.1 from rfl)) ?_
  refine r_if_eq C 18 dX6_run_11 (by decide) (fun _ => ?_) (fun c => absurd (by rw [hw]; rfl) c)
  refine r_iconst C (v := 0) dX6_run_18 rfl ?_
  refine r_cVi C (c_X6_holds MA_pM) lk_X6_65 rfl (MA_o MA_pM) rfl rfl ⟨(Nat.le_of_ble_eq_true rfl), (Nat.le_of_ble_eq_true rfl), (Nat.le_of_ble_eq_true rfl), (Nat.le_of_ble_eq_true rfl), (Nat.le_of_ble_eq_true rfl)⟩ dX6_run_19 ?_
  refine V.heap (pM_pM _ _ _ _ _ _ _ _) ?_
  refine V.heap (congrArg (fun X => pM G h mo S X dg) (tA_ac (by decide))) ?_
  refine r_if_ne C 27 dX6_run_22 (by decide) (fun _ => ?_) (fun c => absurd c (by decide))
  refine r_aload_n C dX6_run_27 rfl rfl ?_
  refine r_cVv C (c_X6_save (z := z) MA_pM hz hz6) lk_X6_69 rfl (MA_o MA_pM) rfl rfl ⟨(Nat.le_of_ble_eq_true rfl), (Nat.le_of_ble_eq_true rfl), (Nat.le_of_ble_eq_true rfl), (Nat.le_of_ble_eq_true rfl), (Nat.le_of_ble_eq_true rfl)⟩ dX6_run_28 ?_
  refine V.heap (pM_pM _ _ _ _ _ _ _ _) ?_
  refine V.heap (h2 := pM G h mo S (tA (ac (gu (ac A 0 0) 1 (m_sv (A 1) (en S) z)) 1 (nI (m_z z))) (e_go (A 3) n false (n + 1) 0 S (0, false, t.2.2)).2.2) dg) (congrArg (fun X => pM G h mo S X dg) (by rw [tA_gu (by decide), tA_ac (by decide)]; rfl)) ?_
  refine r_aload_n C dX6_run_31 rfl rfl ?_
  refine r_iconst C (v := 1) dX6_run_32 rfl ?_
  refine r_cVi C (c_X6_goesThrough (A := (ac (gu (ac A 0 0) 1 (m_sv (A 1) (en S) z)) 1 (nI (m_z z)))) (dn := true) (t := (e_go (A 3) n false (n + 1) 0 S (0, false, t.2.2)).2.2) (n := n) (nn := nn) MA_pM hn hn60 (fun _ => hok)) lk_X6_145 rfl (MA_o MA_pM) rfl rfl ⟨(Nat.le_of_ble_eq_true rfl), (Nat.le_of_ble_eq_true rfl), (Nat.le_of_ble_eq_true rfl), (Nat.le_of_ble_eq_true rfl), (Nat.le_of_ble_eq_true rfl)⟩ dX6_run_33 ?_
  refine V.heap (pM_pM _ _ _ _ _ _ _ _) ?_
  refine r_istore_n C dX6_run_36 rfl (by decide) ?_
  refine r_aload_n C dX6_run_37 rfl rfl ?_
  refine r_iconst C (v := 0) dX6_run_38 rfl ?_
  refine r_put C (j := 7) tyX6 tyX6_ok nmX6 rfl in_X6 (MA_o MA_pM) (by decide) fl_X6_109 rfl rfl rfl (by first | rfl | decide) (by first | rfl | decide) (Nat.le_of_ble_eq_true rfl) dX6_run_39 ?_
  refine V.heap (qM_f 3 (nI (0)) rfl) ?_
  refine V.heap (congrArg (fun X => pM G h mo (e_go (A 3) n true (n + 1) 0 S (0, false, (e_go (A 3) n false (n + 1) 0 S (0, false, t.2.2)).2.2.2.2)).2.1 X dg) (tA_ac (by decide))) ?_
  refine r_iload_n C dX6_run_42 rfl rfl ?_
  exact r_iret C rfl (Nat.le_of_ble_eq_true rfl) (Nat.le_of_ble_eq_true rfl) ⟨rfl, rfl, rfl⟩ dX6_run_43

