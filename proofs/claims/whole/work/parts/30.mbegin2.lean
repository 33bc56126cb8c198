/-! THE MODEL BEGINS, 2 -/
theorem tl_raw (S : gS) : ∀ k, ∀ j, j ≠ 0 → (m_tl S k) j = S j := by
  intro k
  induction k with
  | zero => intro j _; rfl
  | succ k ih =>
    intro j hj
    show (if k / 7 ≤ k % 7 then m_t1 (m_tl S k) (nI (m_tc k)) (nI (k / 7)) (nI (k % 7)) else m_tl S k) j = S j
    split
    · unfold m_t1
      rw [gP_n hj, gP_n hj, gP_n hj, gP_n hj, gP_n hj, gP_n hj, gP_n hj, ih j hj]
    · exact ih j hj
theorem b1_2 (f : Nat → Int32) (S : gS) (u : Nat) (x : Int32) {p : Nat} (hp : p < 4) : (m_b1 f S u x) 2 (p * 4) = 0 := by
  unfold m_b1
  rw [(zz_raw _ 4 (by decide)).2, if_pos (by omega)]
theorem b1_5 (f : Nat → Int32) (S : gS) (u : Nat) (x : Int32) : (m_b1 f S u x) 5 2 = 0 := by
  unfold m_b1
  rw [(zz_raw _ 4 (by decide)).1 5 (by decide)]
  rfl
theorem b1_4 (f : Nat → Int32) (S : gS) (u : Nat) (x : Int32) : (m_b1 f S u x) 4 = (m_or (m_la x f 28) (gc (m_tl S 49) 6 (m_lt x 28)) 28) 4 := by
  unfold m_b1
  rw [(zz_raw _ 4 (by decide)).1 4 (by decide), gc_n (by decide), gc_n (by decide), gc_n (by decide), gc_n (by decide)]
  unfold m_sh
  rw [gc_n (by decide)]
theorem b1_o (f : Nat → Int32) (S : gS) (u : Nat) (x : Int32) (hS : ∀ i, i < 28 → ∃ t, t < 28 ∧ S 4 i = nI t) {i : Nat} (hi : i < 28) : ∃ t, t < 28 ∧ (m_b1 f S u x) 4 i = nI t := by
  rw [b1_4]
  rcases (or_raw (m_la x f 28) (gc (m_tl S 49) 6 (m_lt x 28)) 28 (by decide)).2 i hi with ⟨q, hq, e⟩ | e
  · exact ⟨q, hq, e⟩
  · rw [e, gc_n (by decide), tl_raw S 49 4 (by decide)]
    exact hS i hi
set_option maxHeartbeats 800000 in
set_option maxRecDepth 100000 in
theorem c_X6_begins {G : ga_} {l : Launch} {h : HP} {sz : Nat} {mo : Nat} {S A : gS} {dg : Int64} {u : Nat} {x : Int32}  (w : MA G h mo S A dg)  (hu : u ≤ 4) (hS4 : ∀ i, i < 28 → ∃ t, t < 28 ∧ S 4 i = nI t) : Mf G l yX6_begins cX6_begins 5 none 2 43 0 0 [.ref mo, .int (nI u), .int x] h sz none (pM G h mo (m_bg (A 5) S u x) (gu A 5 (m_la x (A 5) 28)) (dg)) sz := by
  refine Mg.ofV [(0, .ref mo), (1, .int (nI u)), (2, .int x)] (by decide) (Nat.le_of_ble_eq_true rfl) rfl ?_
  intro p e s m args below meth c C
  refine V.heap (pM_id w).symm ?_
  refine r_aload_n C dX6_begins_0 rfl rfl ?_
  refine r_cVv C (c_X6_laysTiles MA_pM) lk_X6_51 rfl (MA_o MA_pM) rfl rfl ⟨(Nat.le_of_ble_eq_true rfl), (Nat.le_of_ble_eq_true rfl), (Nat.le_of_ble_eq_true rfl), (Nat.le_of_ble_eq_true rfl), (Nat.le_of_ble_eq_true rfl)⟩ dX6_begins_1 ?_
  refine V.heap (pM_pM _ _ _ _ _ _ _ _) ?_
  refine r_aload_n C dX6_begins_4 rfl rfl ?_
  refine r_iload_n C dX6_begins_5 rfl rfl ?_
  refine r_cVv C (c_X6_shuffles MA_pM) lk_X6_54 rfl (MA_o MA_pM) rfl rfl ⟨(Nat.le_of_ble_eq_true rfl), (Nat.le_of_ble_eq_true rfl), (Nat.le_of_ble_eq_true rfl), (Nat.le_of_ble_eq_true rfl), (Nat.le_of_ble_eq_true rfl)⟩ dX6_begins_6 ?_
  refine V.heap (pM_pM _ _ _ _ _ _ _ _) ?_
  refine r_aload_n C dX6_begins_9 rfl rfl ?_
  refine r_get C (j := 1) rfl in_X6 (MA_o MA_pM) (by decide) fl_X6_7 rfl rfl dX6_begins_10 ?_
  refine r_sipush C (v := 341) dX6_begins_13 rfl ?_
  refine r_iload_n C dX6_begins_16 rfl rfl ?_
  refine r_iast C (MA_s MA_pM) (vp_in_nI (n := 341) (by decide) (by decide)) dX6_begins_17 ?_
  refine V.heap (qM_sc0 _) ?_
  refine r_aload_n C dX6_begins_18 rfl rfl ?_
  refine r_get C (j := 1) rfl in_X6 (MA_o MA_pM) (by decide) fl_X6_7 rfl rfl dX6_begins_19 ?_
  refine r_sipush C (v := 342) dX6_begins_22 rfl ?_
  refine r_iconst C (v := 0) dX6_begins_25 rfl ?_
  refine r_iast C (MA_s MA_pM) (vp_in_nI (n := 342) (by decide) (by decide)) dX6_begins_26 ?_
  refine V.heap (qM_sc1 _) ?_
  refine r_aload_n C dX6_begins_27 rfl rfl ?_
  refine r_get C (j := 1) rfl in_X6 (MA_o MA_pM) (by decide) fl_X6_7 rfl rfl dX6_begins_28 ?_
  refine r_sipush C (v := 344) dX6_begins_31 rfl ?_
  refine r_iconst C (v := 0) dX6_begins_34 rfl ?_
  refine r_iast C (MA_s MA_pM) (vp_in_nI (n := 344) (by decide) (by decide)) dX6_begins_35 ?_
  refine V.heap (qM_sc4 _) ?_
  refine r_aload_n C dX6_begins_36 rfl rfl ?_
  refine r_get C (j := 1) rfl in_X6 (MA_o MA_pM) (by decide) fl_X6_7 rfl rfl dX6_begins_37 ?_
  refine r_sipush C (v := 345) dX6_begins_40 rfl ?_
  refine r_iconst C (v := 0) dX6_begins_43 rfl ?_
  refine r_iast C (MA_s MA_pM) (vp_in_nI (n := 345) (by decide) (by decide)) dX6_begins_44 ?_
  refine V.heap (qM_sc3 _) ?_
  refine r_iconst C (v := 0) dX6_begins_45 rfl ?_
  refine r_istore_n C dX6_begins_46 rfl (by decide) ?_
  refine V.heap (h2 := pM G h mo (m_zz (gc (gc (gc (gc (m_sh (A 5) (m_tl S 49) x) 0 (nI u)) 1 0) 4 0) 3 0) 0) (gu A 5 (m_la x (A 5) 28)) dg) rfl ?_
  refine V.sub [(0, .ref mo), (1, .int (nI u)), (2, .int x), (3, .int (nI 0))] ⟨rfl, rfl, rfl, rfl, trivial⟩ ?_
  refine down_ (P := fun i => V p l e ⟨2, 0, 0, 43⟩ s m args below meth c G 5 (Qg G below args s 0 0 (fun v1 h1 s1 => v1 = none ∧ h1 = (pM G h mo (m_bg (A 5) S u x) (gu A 5 (m_la x (A 5) 28)) (dg)) ∧ s1 = sz)) (pM G h mo (m_zz (gc (gc (gc (gc (m_sh (A 5) (m_tl S 49) x) 0 (nI u)) 1 0) 4 0) 3 0) i) (gu A 5 (m_la x (A 5) 28)) dg) sz 0 0 47 [(0, .ref mo), (1, .int (nI u)), (2, .int x), (3, .int (nI i))] []) (4) ?_ ?_
  · refine r_iload_n C dX6_begins_47 rfl rfl ?_
    refine r_iconst C (v := 4) dX6_begins_48 rfl ?_
    refine r_icmp_ge C 102 dX6_begins_49 (by decide) (fun _ => ?_) (fun c => absurd (by decide) c)
    refine r_iconst C (v := 0) dX6_begins_102 rfl ?_
    refine r_istore_n C dX6_begins_103 rfl (by decide) ?_
    refine V.heap (h2 := pM G h mo (m_dl (m_b1 (A 5) S u x) 0) (gu A 5 (m_la x (A 5) 28)) dg) rfl ?_
    refine V.sub [(0, .ref mo), (1, .int (nI u)), (2, .int x), (3, .int (nI 0))] ⟨rfl, rfl, rfl, rfl, trivial⟩ ?_
    refine down_ (P := fun i => V p l e ⟨2, 0, 0, 43⟩ s m args below meth c G 5 (Qg G below args s 0 0 (fun v1 h1 s1 => v1 = none ∧ h1 = (pM G h mo (m_bg (A 5) S u x) (gu A 5 (m_la x (A 5) 28)) (dg)) ∧ s1 = sz)) (pM G h mo (m_dl (m_b1 (A 5) S u x) i) (gu A 5 (m_la x (A 5) 28)) dg) sz 0 0 104 [(0, .ref mo), (1, .int (nI u)), (2, .int x), (3, .int (nI i))] []) ((5 * u)) ?_ ?_
    · refine r_iload_n C dX6_begins_104 rfl rfl ?_
      refine r_iconst C (v := 5) dX6_begins_105 rfl ?_
      refine r_iload_n C dX6_begins_106 rfl rfl ?_
      refine r_imul C dX6_begins_107 ?_
      refine V.st0 (nI_mul (5) (u)) ?_
      refine r_icmp_ge C 126 dX6_begins_108 (by decide) (fun _ => ?_) (fun c => absurd (nI_le (Nat.le_refl _) (by omega)) c)
      refine r_iconst C (v := 0) dX6_begins_126 rfl ?_
      refine r_istore_n C dX6_begins_127 rfl (by decide) ?_
      refine V.heap (h2 := pM G h mo (g_mr (m_dl (m_b1 (A 5) S u x) (5 * u)) 0) (gu A 5 (m_la x (A 5) 28)) dg) rfl ?_
      refine V.sub [(0, .ref mo), (1, .int (nI u)), (2, .int x), (3, .int (nI 0))] ⟨rfl, rfl, rfl, rfl, trivial⟩ ?_
      refine down_ (P := fun i => V p l e ⟨2, 0, 0, 43⟩ s m args below meth c G 5 (Qg G below args s 0 0 (fun v1 h1 s1 => v1 = none ∧ h1 = (pM G h mo (m_bg (A 5) S u x) (gu A 5 (m_la x (A 5) 28)) (dg)) ∧ s1 = sz)) (pM G h mo (g_mr (m_dl (m_b1 (A 5) S u x) (5 * u)) i) (gu A 5 (m_la x (A 5) 28)) dg) sz 0 0 128 [(0, .ref mo), (1, .int (nI u)), (2, .int x), (3, .int (nI i))] []) (3) ?_ ?_
      · refine r_iload_n C dX6_begins_128 rfl rfl ?_
        refine r_iconst C (v := 3) dX6_begins_129 rfl ?_
        refine r_icmp_ge C 183 dX6_begins_130 (by decide) (fun _ => ?_) (fun c => absurd (by decide) c)
        exact r_vret C rfl (Nat.le_of_ble_eq_true rfl) (Nat.le_of_ble_eq_true rfl) ⟨rfl, rfl, rfl⟩ dX6_begins_183
      · intro i h_i ih_i
        refine r_iload_n C dX6_begins_128 rfl rfl ?_
        refine r_iconst C (v := 3) dX6_begins_129 rfl ?_
        refine r_icmp_ge C 183 dX6_begins_130 (by decide) (fun c => absurd c (nI_ge (b := 3) h_i (by decide))) (fun _ => ?_)
        refine r_aload_n C dX6_begins_133 rfl rfl ?_
        refine r_get C (j := 1) rfl in_X6 (MA_o MA_pM) (by decide) fl_X6_7 rfl rfl dX6_begins_134 ?_
        refine r_iload_n C dX6_begins_137 rfl rfl ?_
        refine r_iconst C (v := 0) dX6_begins_138 rfl ?_
        refine r_cSi C (c_X6_ofRow (a := i) (b := 0)) lk_X6_62 rfl rfl ⟨(Nat.le_of_ble_eq_true rfl), (Nat.le_of_ble_eq_true rfl), (Nat.le_of_ble_eq_true rfl), (Nat.le_of_ble_eq_true rfl), (Nat.le_of_ble_eq_true rfl)⟩ dX6_begins_139 ?_
        refine r_iconst C (v := 0) dX6_begins_142 rfl ?_
        refine r_iast C (MA_s MA_pM) (vp_in_nI (by omega) (by decide)) dX6_begins_143 ?_
        refine V.heap (qP_row (r := i) (w := 0) (wi := 0) (by omega) (by omega) rfl) ?_
        refine r_aload_n C dX6_begins_144 rfl rfl ?_
        refine r_get C (j := 1) rfl in_X6 (MA_o MA_pM) (by decide) fl_X6_7 rfl rfl dX6_begins_145 ?_
        refine r_iload_n C dX6_begins_148 rfl rfl ?_
        refine r_iconst C (v := 1) dX6_begins_149 rfl ?_
        refine r_cSi C (c_X6_ofRow (a := i) (b := 1)) lk_X6_62 rfl rfl ⟨(Nat.le_of_ble_eq_true rfl), (Nat.le_of_ble_eq_true rfl), (Nat.le_of_ble_eq_true rfl), (Nat.le_of_ble_eq_true rfl), (Nat.le_of_ble_eq_true rfl)⟩ dX6_begins_150 ?_
        refine r_iconst C (v := -1) dX6_begins_153 rfl ?_
        refine r_iast C (MA_s MA_pM) (vp_in_nI (by omega) (by decide)) dX6_begins_154 ?_
        refine V.heap (qP_row (r := i) (w := 1) (wi := 1) (by omega) (by omega) rfl) ?_
        refine r_aload_n C dX6_begins_155 rfl rfl ?_
        refine r_get C (j := 1) rfl in_X6 (MA_o MA_pM) (by decide) fl_X6_7 rfl rfl dX6_begins_156 ?_
        refine r_iload_n C dX6_begins_159 rfl rfl ?_
        refine r_iconst C (v := 2) dX6_begins_160 rfl ?_
        refine r_cSi C (c_X6_ofRow (a := i) (b := 2)) lk_X6_62 rfl rfl ⟨(Nat.le_of_ble_eq_true rfl), (Nat.le_of_ble_eq_true rfl), (Nat.le_of_ble_eq_true rfl), (Nat.le_of_ble_eq_true rfl), (Nat.le_of_ble_eq_true rfl)⟩ dX6_begins_161 ?_
        refine r_iconst C (v := -1) dX6_begins_164 rfl ?_
        refine r_iast C (MA_s MA_pM) (vp_in_nI (by omega) (by decide)) dX6_begins_165 ?_
        refine V.heap (qP_row (r := i) (w := 2) (wi := 2) (by omega) (by omega) rfl) ?_
        refine r_aload_n C dX6_begins_166 rfl rfl ?_
        refine r_get C (j := 1) rfl in_X6 (MA_o MA_pM) (by decide) fl_X6_7 rfl rfl dX6_begins_167 ?_
        refine r_iload_n C dX6_begins_170 rfl rfl ?_
        refine r_iconst C (v := 3) dX6_begins_171 rfl ?_
        refine r_cSi C (c_X6_ofRow (a := i) (b := 3)) lk_X6_62 rfl rfl ⟨(Nat.le_of_ble_eq_true rfl), (Nat.le_of_ble_eq_true rfl), (Nat.le_of_ble_eq_true rfl), (Nat.le_of_ble_eq_true rfl), (Nat.le_of_ble_eq_true rfl)⟩ dX6_begins_172 ?_
        refine r_iconst C (v := -1) dX6_begins_175 rfl ?_
        refine r_iast C (MA_s MA_pM) (vp_in_nI (by omega) (by decide)) dX6_begins_176 ?_
        refine V.heap (qP_row (r := i) (w := 3) (wi := 3) (by omega) (by omega) rfl) ?_
        refine r_iinc C (v := 1) dX6_begins_177 rfl rfl (by decide) ?_
        refine r_goto C 128 dX6_begins_180 (by decide) ?_
        refine V.heap (h2 := (pM G h mo (g_mr (m_dl (m_b1 (A 5) S u x) (5 * u)) (i + 1)) (gu A 5 (m_la x (A 5) 28)) dg)) (rfl) ?_
        refine V.sub [(0, .ref mo), (1, .int (nI u)), (2, .int x), (3, .int (nI (i + 1)))] ⟨rfl, rfl, rfl, (by rw [← nI_1 i]; rfl), trivial⟩ ?_
        exact ih_i
    · intro i h_i ih_i
      obtain ⟨d1, d2, -, d3⟩ := dl_raw (m_b1 (A 5) S u x) (fun p hp => b1_2 _ _ _ _ hp) (b1_5 _ _ _ _) i (by omega)
      obtain ⟨t, ht, et⟩ := b1_o (A 5) S u x hS4 (i := i) (by omega)
      obtain ⟨a, ha, hh⟩ : ∃ a, a < 28 ∧ tAt 4 16 ((m_dl (m_b1 (A 5) S u x) i) 2) (nI (i / 5)) 0 = nI a := ⟨_, by split <;> (try split) <;> omega, (at2 (w := 0) (by omega) (by decide)).trans (d3 (i / 5) (by omega))⟩
      refine r_iload_n C dX6_begins_104 rfl rfl ?_
      refine r_iconst C (v := 5) dX6_begins_105 rfl ?_
      refine r_iload_n C dX6_begins_106 rfl rfl ?_
      refine r_imul C dX6_begins_107 ?_
      refine V.st0 (nI_mul (5) (u)) ?_
      refine r_icmp_ge C 126 dX6_begins_108 (by decide) (fun c => absurd c (nI_ge h_i (by omega))) (fun _ => ?_)
      refine r_aload_n C dX6_begins_111 rfl rfl ?_
      refine r_iload_n C dX6_begins_112 rfl rfl ?_
      refine r_iconst C (v := 5) dX6_begins_113 rfl ?_
      refine r_idiv C dX6_begins_114 (by decide) ?_
      refine V.st0 (dv5 i (by omega)) ?_
      refine r_cVi C (c_X6_takes (u := i / 5) (k := i) (t := t) (a := a) MA_pM (by omega) d2 (by omega) ht ((at4 (by omega)).trans ((congrFun d1 i).trans et)) hh ha) lk_X6_58 rfl (MA_o MA_pM) rfl rfl ⟨(Nat.le_of_ble_eq_true rfl), (Nat.le_of_ble_eq_true rfl), (Nat.le_of_ble_eq_true rfl), (Nat.le_of_ble_eq_true rfl), (Nat.le_of_ble_eq_true rfl)⟩ dX6_begins_115 ?_
      refine V.heap (pM_pM _ _ _ _ _ _ _ _) ?_
      refine r_istore C dX6_begins_118 (by decide) ?_
      refine r_iinc C (v := 1) dX6_begins_120 rfl rfl (by decide) ?_
      refine r_goto C 104 dX6_begins_123 (by decide) ?_
      refine V.heap (h2 := (pM G h mo (m_dl (m_b1 (A 5) S u x) (i + 1)) (gu A 5 (m_la x (A 5) 28)) dg)) (rfl) ?_
      refine V.sub [(0, .ref mo), (1, .int (nI u)), (2, .int x), (3, .int (nI (i + 1)))] ⟨rfl, rfl, rfl, (by rw [← nI_1 i]; rfl), trivial⟩ ?_
      exact ih_i
  · intro i h_i ih_i
    refine r_iload_n C dX6_begins_47 rfl rfl ?_
    refine r_iconst C (v := 4) dX6_begins_48 rfl ?_
    refine r_icmp_ge C 102 dX6_begins_49 (by decide) (fun c => absurd c (nI_ge (b := 4) h_i (by decide))) (fun _ => ?_)
    refine r_aload_n C dX6_begins_52 rfl rfl ?_
    refine r_get C (j := 1) rfl in_X6 (MA_o MA_pM) (by decide) fl_X6_7 rfl rfl dX6_begins_53 ?_
    refine r_sipush C (v := 337) dX6_begins_56 rfl ?_
    refine r_iload_n C dX6_begins_59 rfl rfl ?_
    refine r_iadd C dX6_begins_60 ?_
    refine V.st0 (nI_add (337) (i)) ?_
    refine r_iconst C (v := 0) dX6_begins_61 rfl ?_
    refine r_iast C (MA_s MA_pM) (vp_in_nI (by omega) (by decide)) dX6_begins_62 ?_
    refine V.heap (qP_tal0 (p := i) (by omega)) ?_
    refine r_aload_n C dX6_begins_63 rfl rfl ?_
    refine r_get C (j := 1) rfl in_X6 (MA_o MA_pM) (by decide) fl_X6_7 rfl rfl dX6_begins_64 ?_
    refine r_sipush C (v := 346) dX6_begins_67 rfl ?_
    refine r_iload_n C dX6_begins_70 rfl rfl ?_
    refine r_iadd C dX6_begins_71 ?_
    refine V.st0 (nI_add (346) (i)) ?_
    refine r_iconst C (v := 0) dX6_begins_72 rfl ?_
    refine r_iast C (MA_s MA_pM) (vp_in_nI (by omega) (by decide)) dX6_begins_73 ?_
    refine V.heap (qP_tal1 (p := i) (by omega)) ?_
    refine r_aload_n C dX6_begins_74 rfl rfl ?_
    refine r_get C (j := 1) rfl in_X6 (MA_o MA_pM) (by decide) fl_X6_7 rfl rfl dX6_begins_75 ?_
    refine r_sipush C (v := 350) dX6_begins_78 rfl ?_
    refine r_iload_n C dX6_begins_81 rfl rfl ?_
    refine r_iadd C dX6_begins_82 ?_
    refine V.st0 (nI_add (350) (i)) ?_
    refine r_iconst C (v := 0) dX6_begins_83 rfl ?_
    refine r_iast C (MA_s MA_pM) (vp_in_nI (by omega) (by decide)) dX6_begins_84 ?_
    refine V.heap (qP_tal2 (p := i) (by omega)) ?_
    refine r_aload_n C dX6_begins_85 rfl rfl ?_
    refine r_get C (j := 1) rfl in_X6 (MA_o MA_pM) (by decide) fl_X6_7 rfl rfl dX6_begins_86 ?_
    refine r_sipush C (v := 354) dX6_begins_89 rfl ?_
    refine r_iload_n C dX6_begins_92 rfl rfl ?_
    refine r_iadd C dX6_begins_93 ?_
    refine V.st0 (nI_add (354) (i)) ?_
    refine r_iconst C (v := 0) dX6_begins_94 rfl ?_
    refine r_iast C (MA_s MA_pM) (vp_in_nI (by omega) (by decide)) dX6_begins_95 ?_
    refine V.heap (qP_tal3 (p := i) (by omega)) ?_
    refine r_iinc C (v := 1) dX6_begins_96 rfl rfl (by decide) ?_
    refine r_goto C 47 dX6_begins_99 (by decide) ?_
    refine V.heap (h2 := (pM G h mo (m_zz (gc (gc (gc (gc (m_sh (A 5) (m_tl S 49) x) 0 (nI u)) 1 0) 4 0) 3 0) (i + 1)) (gu A 5 (m_la x (A 5) 28)) dg)) (rfl) ?_
    refine V.sub [(0, .ref mo), (1, .int (nI u)), (2, .int x), (3, .int (nI (i + 1)))] ⟨rfl, rfl, rfl, (by rw [← nI_1 i]; rfl), trivial⟩ ?_
    exact ih_i

set_option maxHeartbeats 800000 in
set_option maxRecDepth 100000 in
theorem c_X6_begin_t {G : ga_} {l : Launch} {h : HP} {sz : Nat} {mo : Nat} {S A : gS} {dg : Int64} {u : Nat} {x : Int32} {z : Nat}  (w : MA G h mo S A dg)  (hu2 : 2 ≤ u) (hu : u ≤ 4) (hx : m_in x 0 9999 = true) (hz : A 6 1 = nI z) (hz6 : z ≤ 6) (hS4 : ∀ i, i < 28 → ∃ t, t < 28 ∧ S 4 i = nI t) : Mf G l yX6_begin cX6_begin 3 (some .int) 3 67 0 0 [.ref mo, .int (nI u), .int x] h sz (some (.int (g_stock (m_bg (A 5) S u x)))) (pM G h mo (m_bg (A 5) S u x) (gu (ac (gu (ac A 0 0) 1 (m_sv (A 1) (en S) z)) 1 (nI (m_z z))) 5 (m_la x (A 5) 28)) (dg)) sz := by
  refine Mg.ofV [(0, .ref mo), (1, .int (nI u)), (2, .int x)] (by decide) (Nat.le_of_ble_eq_true rfl) rfl ?_
  intro p e s m args below meth c C
  refine V.heap (pM_id w).symm ?_
  have hin : m_in (nI u) 2 4 = true := (by decide : ∀ u, u ≤ 4 → 2 ≤ u → m_in (nI u) 2 4 = true) u hu hu2
  refine r_aload_n C dX6_begin_0 rfl rfl ?_
  refine r_iload_n C dX6_begin_1 rfl rfl ?_
  refine r_iconst C (v := 2) dX6_begin_2 rfl ?_
  refine r_iconst C (v := 4) dX6_begin_3 rfl ?_
  refine r_cSi C (c_X6_in) lk_X6_37 rfl rfl ⟨(Nat.le_of_ble_eq_true rfl), (Nat.le_of_ble_eq_true rfl), (Nat.le_of_ble_eq_true rfl), (Nat.le_of_ble_eq_true rfl), (Nat.le_of_ble_eq_true rfl)⟩ dX6_begin_4 ?_
  refine r_if_eq C 25 dX6_begin_7 (by decide) (fun c => absurd c (by rw [hin]; decide)) (fun _ => ?_)
  refine r_iload_n C dX6_begin_10 rfl rfl ?_
  refine r_iconst C (v := 0) dX6_begin_11 rfl ?_
  refine r_sipush C (v := 9999) dX6_begin_12 rfl ?_
  refine r_cSi C (c_X6_in) lk_X6_37 rfl rfl ⟨(Nat.le_of_ble_eq_true rfl), (Nat.le_of_ble_eq_true rfl), (Nat.le_of_ble_eq_true rfl), (Nat.le_of_ble_eq_true rfl), (Nat.le_of_ble_eq_true rfl)⟩ dX6_begin_15 ?_
  refine r_if_eq C 25 dX6_begin_18 (by decide) (fun c => absurd c (by rw [hx]; decide)) (fun _ => ?_)
  refine r_iconst C (v := 0) dX6_begin_21 rfl ?_
  refine r_goto C 26 dX6_begin_22 (by decide) ?_
  refine r_cVi C (c_X6_holds MA_pM) lk_X6_65 rfl (MA_o MA_pM) rfl rfl ⟨(Nat.le_of_ble_eq_true rfl), (Nat.le_of_ble_eq_true rfl), (Nat.le_of_ble_eq_true rfl), (Nat.le_of_ble_eq_true rfl), (Nat.le_of_ble_eq_true rfl)⟩ dX6_begin_26 ?_
  refine V.heap (pM_pM _ _ _ _ _ _ _ _) ?_
  refine r_if_ne C 34 dX6_begin_29 (by decide) (fun _ => ?_) (fun c => absurd c (by decide))
  refine r_aload_n C dX6_begin_34 rfl rfl ?_
  refine r_cVv C (c_X6_save (z := z) MA_pM hz hz6) lk_X6_69 rfl (MA_o MA_pM) rfl rfl ⟨(Nat.le_of_ble_eq_true rfl), (Nat.le_of_ble_eq_true rfl), (Nat.le_of_ble_eq_true rfl), (Nat.le_of_ble_eq_true rfl), (Nat.le_of_ble_eq_true rfl)⟩ dX6_begin_35 ?_
  refine V.heap (pM_pM _ _ _ _ _ _ _ _) ?_
  refine r_aload_n C dX6_begin_38 rfl rfl ?_
  refine r_iload_n C dX6_begin_39 rfl rfl ?_
  refine r_iload_n C dX6_begin_40 rfl rfl ?_
  refine r_cVv C (c_X6_begins (u := u) MA_pM hu hS4) lk_X6_29 rfl (MA_o MA_pM) rfl rfl ⟨(Nat.le_of_ble_eq_true rfl), (Nat.le_of_ble_eq_true rfl), (Nat.le_of_ble_eq_true rfl), (Nat.le_of_ble_eq_true rfl), (Nat.le_of_ble_eq_true rfl)⟩ dX6_begin_41 ?_
  refine V.heap (pM_pM _ _ _ _ _ _ _ _) ?_
  refine r_aload_n C dX6_begin_44 rfl rfl ?_
  refine r_cVi C (c_X6_inStock MA_pM) lk_X6_72 rfl (MA_o MA_pM) rfl rfl ⟨(Nat.le_of_ble_eq_true rfl), (Nat.le_of_ble_eq_true rfl), (Nat.le_of_ble_eq_true rfl), (Nat.le_of_ble_eq_true rfl), (Nat.le_of_ble_eq_true rfl)⟩ dX6_begin_45 ?_
  exact r_iret C rfl (Nat.le_of_ble_eq_true rfl) (Nat.le_of_ble_eq_true rfl) ⟨rfl, rfl, rfl⟩ dX6_begin_48

set_option maxHeartbeats 800000 in
set_option maxRecDepth 100000 in
theorem c_X6_begin_f {G : ga_} {l : Launch} {h : HP} {sz : Nat} {mo : Nat} {S A : gS} {dg : Int64} {a : Int32} {b : Int32}  (w : MA G h mo S A dg)  (hf : (m_in a 2 4 && m_in b 0 9999) = false) : Mf G l yX6_begin cX6_begin 3 (some .int) 3 67 0 0 [.ref mo, .int a, .int b] h sz (some (.int (0))) (pM G h mo (S) (ac A 0 1) (dg)) sz := by
  refine Mg.ofV [(0, .ref mo), (1, .int a), (2, .int b)] (by decide) (Nat.le_of_ble_eq_true rfl) rfl ?_
  intro p e s m args below meth c C
  refine V.heap (pM_id w).symm ?_
  by_cases hin : m_in a 2 4 = true
  · have hx2 : m_in b 0 9999 = false := by rw [hin, Bool.true_and] at hf; exact hf
    refine r_aload_n C dX6_begin_0 rfl rfl ?_
    refine r_iload_n C dX6_begin_1 rfl rfl ?_
    refine r_iconst C (v := 2) dX6_begin_2 rfl ?_
    refine r_iconst C (v := 4) dX6_begin_3 rfl ?_
    refine r_cSi C (c_X6_in) lk_X6_37 rfl rfl ⟨(Nat.le_of_ble_eq_true rfl), (Nat.le_of_ble_eq_true rfl), (Nat.le_of_ble_eq_true rfl), (Nat.le_of_ble_eq_true rfl), (Nat.le_of_ble_eq_true rfl)⟩ dX6_begin_4 ?_
    refine r_if_eq C 25 dX6_begin_7 (by decide) (fun c => absurd c (by rw [hin]; decide)) (fun _ => ?_)
    refine r_iload_n C dX6_begin_10 rfl rfl ?_
    refine r_iconst C (v := 0) dX6_begin_11 rfl ?_
    refine r_sipush C (v := 9999) dX6_begin_12 rfl ?_
    refine r_cSi C (c_X6_in) lk_X6_37 rfl rfl ⟨(Nat.le_of_ble_eq_true rfl), (Nat.le_of_ble_eq_true rfl), (Nat.le_of_ble_eq_true rfl), (Nat.le_of_ble_eq_true rfl), (Nat.le_of_ble_eq_true rfl)⟩ dX6_begin_15 ?_
    refine r_if_eq C 25 dX6_begin_18 (by decide) (fun _ => ?_) (fun c => absurd (by rw [hx2]; rfl) c)
    refine r_iconst C (v := 1) dX6_begin_25 rfl ?_
    refine r_cVi C (c_X6_holds MA_pM) lk_X6_65 rfl (MA_o MA_pM) rfl rfl ⟨(Nat.le_of_ble_eq_true rfl), (Nat.le_of_ble_eq_true rfl), (Nat.le_of_ble_eq_true rfl), (Nat.le_of_ble_eq_true rfl), (Nat.le_of_ble_eq_true rfl)⟩ dX6_begin_26 ?_
    refine V.heap (pM_pM _ _ _ _ _ _ _ _) ?_
    refine r_if_ne C 34 dX6_begin_29 (by decide) (fun c => absurd (by decide) c) (fun _ => ?_)
    refine r_iconst C (v := 0) dX6_begin_32 rfl ?_
    exact r_iret C rfl (Nat.le_of_ble_eq_true rfl) (Nat.le_of_ble_eq_true rfl) ⟨rfl, rfl, rfl⟩ dX6_begin_33
  · replace hin : m_in a 2 4 = false := by simpa using hin
    refine r_aload_n C dX6_begin_0 rfl rfl ?_
    refine r_iload_n C dX6_begin_1 rfl rfl ?_
    refine r_iconst C (v := 2) dX6_begin_2 rfl ?_
    refine r_iconst C (v := 4) dX6_begin_3 rfl ?_
    refine r_cSi C (c_X6_in) lk_X6_37 rfl rfl ⟨(Nat.le_of_ble_eq_true rfl), (Nat.le_of_ble_eq_true rfl), (Nat.le_of_ble_eq_true rfl), (Nat.le_of_ble_eq_true rfl), (Nat.le_of_ble_eq_true rfl)⟩ dX6_begin_4 ?_
    refine r_if_eq C 25 dX6_begin_7 (by decide) (fun _ => ?_) (fun c => absurd (by rw [hin]; rfl) c)
    refine r_iconst C (v := 1) dX6_begin_25 rfl ?_
    refine r_cVi C (c_X6_holds MA_pM) lk_X6_65 rfl (MA_o MA_pM) rfl rfl ⟨(Nat.le_of_ble_eq_true rfl), (Nat.le_of_ble_eq_true rfl), (Nat.le_of_ble_eq_true rfl), (Nat.le_of_ble_eq_true rfl), (Nat.le_of_ble_eq_true rfl)⟩ dX6_begin_26 ?_
    refine V.heap (pM_pM _ _ _ _ _ _ _ _) ?_
    refine r_if_ne C 34 dX6_begin_29 (by decide) (fun c => absurd (by decide) c) (fun _ => ?_)
    refine r_iconst C (v := 0) dX6_begin_32 rfl ?_
    exact r_iret C rfl (Nat.le_of_ble_eq_true rfl) (Nat.le_of_ble_eq_true rfl) ⟨rfl, rfl, rfl⟩ dX6_begin_33

theorem en_zero : en (gc gS0 7 0) = fun _ => 0 := by
  funext a
  unfold en
  split
  · show gc gS0 7 0 (sc_ a) (ix_ a) = 0
    unfold gc gu gS0
    by_cases c : sc_ a = 5
    · rw [if_pos c]
      show (if ix_ a = 7 then (0 : Int32) else if 5 = 5 ∧ ix_ a = 7 then 3 else 0) = 0
      by_cases d : ix_ a = 7
      · rw [if_pos d]
      · rw [if_neg d, if_neg (fun q => d q.2)]
    · rw [if_neg c, if_neg (fun q => c q.1)]
  · rfl
theorem gS0_3 : gc (gc gS0 7 0) 7 3 = gS0 := by
  rw [gc_gc]
  funext j k
  unfold gc gu gS0
  by_cases c : j = 5
  · subst c
    rw [if_pos rfl]
    by_cases d : k = 7
    · subst d; rfl
    · rw [if_neg d]
  · rw [if_neg c]
set_option maxHeartbeats 800000 in
set_option maxRecDepth 100000 in
theorem c_X6_init {G : ga_} {l : Launch} {h : HP} {mo : Nat} (hM : h mo = some (ob_ 6 [.int 0, .null, .null, .int 0, .null, .int 0, .null, .int 0, .null, .null, .int 0, .int 0, .int 0, .int 0, .int 0, .int 0, .long 0])) : Mf G l yX6_init cX6_init 1 none 3 67 6 10604 [.ref mo] h (mo + 1) none (pM G h mo (m_bg (fun _ => 0) gS0 2 1) (gu (fun _ _ => 0) 5 (m_la 1 (fun _ => 0) 28)) 0) (mo + 7) := by
  refine Mg.ofV [(0, .ref mo)] (by decide) (Nat.le_of_ble_eq_true rfl) rfl ?_
  intro p e s m args below meth c C
  refine r_aload_n C dX6_init_0 rfl rfl ?_
  refine r_objInit C jl_X6_1 oi_inst oi_code (Nat.le_of_ble_eq_true rfl) (Nat.le_of_ble_eq_true rfl) dX6_init_1 ?_
  refine r_aload_n C dX6_init_4 rfl rfl ?_
  refine r_sipush C (v := 372) dX6_init_5 rfl ?_
  refine r_newaI C ac_int (by decide) rfl (Nat.le_of_ble_eq_true rfl) (Nat.le_of_ble_eq_true rfl) (Nat.le_of_ble_eq_true rfl) dX6_init_8 ?_
  refine r_putF C (j := 1) tyX6 tyX6_ok nmX6 rfl in_X6 ((show _ = some (ob_ 6 [.int 0, .null, .null, .int 0, .null, .int 0, .null, .int 0, .null, .null, .int 0, .int 0, .int 0, .int 0, .int 0, .int 0, .long 0]) by simp [up_, hM, Nat.add_assoc])) (by decide) fl_X6_7 rfl rfl rfl rfl rfl (by first | rfl | decide) (by first | rfl | decide) (Nat.le_of_ble_eq_true rfl) dX6_init_10 ?_
  refine r_aload_n C dX6_init_13 rfl rfl ?_
  refine r_sipush C (v := 2232) dX6_init_14 rfl ?_
  refine r_newaI C ac_int (by decide) rfl (Nat.le_of_ble_eq_true rfl) (Nat.le_of_ble_eq_true rfl) (Nat.le_of_ble_eq_true rfl) dX6_init_17 ?_
  refine r_putF C (j := 2) tyX6 tyX6_ok nmX6 rfl in_X6 ((show _ = some (ob_ 6 [.int 0, .ref (mo + 1), .null, .int 0, .null, .int 0, .null, .int 0, .null, .null, .int 0, .int 0, .int 0, .int 0, .int 0, .int 0, .long 0]) by simp [up_, hM, Nat.add_assoc])) (by decide) fl_X6_13 rfl rfl rfl rfl rfl (by first | rfl | decide) (by first | rfl | decide) (Nat.le_of_ble_eq_true rfl) dX6_init_19 ?_
  refine r_aload_n C dX6_init_22 rfl rfl ?_
  refine r_sipush C (v := 744) dX6_init_23 rfl ?_
  refine r_newaI C ac_int (by decide) rfl (Nat.le_of_ble_eq_true rfl) (Nat.le_of_ble_eq_true rfl) (Nat.le_of_ble_eq_true rfl) dX6_init_26 ?_
  refine r_putF C (j := 4) tyX6 tyX6_ok nmX6 rfl in_X6 ((show _ = some (ob_ 6 [.int 0, .ref (mo + 1), .ref (mo + 2), .int 0, .null, .int 0, .null, .int 0, .null, .null, .int 0, .int 0, .int 0, .int 0, .int 0, .int 0, .long 0]) by simp [up_, hM, Nat.add_assoc])) (by decide) fl_X6_16 rfl rfl rfl rfl rfl (by first | rfl | decide) (by first | rfl | decide) (Nat.le_of_ble_eq_true rfl) dX6_init_28 ?_
  refine r_aload_n C dX6_init_31 rfl rfl ?_
  refine r_bipush C (v := 60) dX6_init_32 rfl ?_
  refine r_newaI C ac_int (by decide) rfl (Nat.le_of_ble_eq_true rfl) (Nat.le_of_ble_eq_true rfl) (Nat.le_of_ble_eq_true rfl) dX6_init_34 ?_
  refine r_putF C (j := 6) tyX6 tyX6_ok nmX6 rfl in_X6 ((show _ = some (ob_ 6 [.int 0, .ref (mo + 1), .ref (mo + 2), .int 0, .ref (mo + 3), .int 0, .null, .int 0, .null, .null, .int 0, .int 0, .int 0, .int 0, .int 0, .int 0, .long 0]) by simp [up_, hM, Nat.add_assoc])) (by decide) fl_X6_19 rfl rfl rfl rfl rfl (by first | rfl | decide) (by first | rfl | decide) (Nat.le_of_ble_eq_true rfl) dX6_init_36 ?_
  refine r_aload_n C dX6_init_39 rfl rfl ?_
  refine r_sipush C (v := 7168) dX6_init_40 rfl ?_
  refine r_newaZ C ac_boolean (by decide) rfl (Nat.le_of_ble_eq_true rfl) (Nat.le_of_ble_eq_true rfl) (Nat.le_of_ble_eq_true rfl) dX6_init_43 ?_
  refine r_putF C (j := 8) tyX6 tyX6_ok nmX6 rfl in_X6 ((show _ = some (ob_ 6 [.int 0, .ref (mo + 1), .ref (mo + 2), .int 0, .ref (mo + 3), .int 0, .ref (mo + 4), .int 0, .null, .null, .int 0, .int 0, .int 0, .int 0, .int 0, .int 0, .long 0]) by simp [up_, hM, Nat.add_assoc])) (by decide) fl_X6_22 rfl rfl rfl rfl rfl (by first | rfl | decide) (by first | rfl | decide) (Nat.le_of_ble_eq_true rfl) dX6_init_45 ?_
  refine r_aload_n C dX6_init_48 rfl rfl ?_
  refine r_bipush C (v := 28) dX6_init_49 rfl ?_
  refine r_newaI C ac_int (by decide) rfl (Nat.le_of_ble_eq_true rfl) (Nat.le_of_ble_eq_true rfl) (Nat.le_of_ble_eq_true rfl) dX6_init_51 ?_
  refine r_putF C (j := 9) tyX6 tyX6_ok nmX6 rfl in_X6 ((show _ = some (ob_ 6 [.int 0, .ref (mo + 1), .ref (mo + 2), .int 0, .ref (mo + 3), .int 0, .ref (mo + 4), .int 0, .ref (mo + 5), .null, .int 0, .int 0, .int 0, .int 0, .int 0, .int 0, .long 0]) by simp [up_, hM, Nat.add_assoc])) (by decide) fl_X6_26 rfl rfl rfl rfl rfl (by first | rfl | decide) (by first | rfl | decide) (Nat.le_of_ble_eq_true rfl) dX6_init_53 ?_
  refine V.heap (h2 := pM G h mo (gc gS0 7 0) (fun _ _ => 0) 0) (pM_eq ?_ (fun a ha => ?_)) ?_
  · intro j hj
    rcases (show j = 0 ∨ j = 1 ∨ j = 2 ∨ j = 3 ∨ j = 4 ∨ j = 5 ∨ j = 6 by omega) with rfl | rfl | rfl | rfl | rfl | rfl | rfl
    · simp [up_, Nat.add_assoc, mC]
    · rw [show mC G mo (gc gS0 7 0) (fun _ _ => 0) 0 1 = aI_ G 372 (fun _ => 0) from congrArg (aI_ G 372) en_zero]
      simp [up_, Nat.add_assoc]
    · simp [up_, Nat.add_assoc, mC]
    · simp [up_, Nat.add_assoc, mC]
    · simp [up_, Nat.add_assoc, mC]
    · simp [up_, Nat.add_assoc, mC]
    · simp [up_, Nat.add_assoc, mC]
  · rw [up_n (by omega), up_n (by omega), up_n (by omega), up_n (by omega), up_n (by omega), up_n (by omega), up_n (by omega), up_n (by omega), up_n (by omega), up_n (by omega), up_n (by omega), up_n (by omega)]
  refine r_aload_n C dX6_init_56 rfl rfl ?_
  refine r_get C (j := 1) rfl in_X6 (MA_o MA_pM) (by decide) fl_X6_7 rfl rfl dX6_init_57 ?_
  refine r_sipush C (v := 359) dX6_init_60 rfl ?_
  refine r_iconst C (v := 3) dX6_init_63 rfl ?_
  refine r_iast C (MA_s MA_pM) (vp_in_nI (n := 359) (by decide) (by decide)) dX6_init_64 ?_
  refine V.heap (qM_sc7 _) ?_
  refine V.heap (h2 := pM G h mo gS0 (fun _ _ => 0) 0) (congrArg (fun X => pM G h mo X (fun _ _ => 0) 0) gS0_3) ?_
  refine r_aload_n C dX6_init_65 rfl rfl ?_
  refine r_iconst C (v := 2) dX6_init_66 rfl ?_
  refine r_iconst C (v := 1) dX6_init_67 rfl ?_
  refine r_cVv C (c_X6_begins (S := gS0) (A := fun _ _ => 0) (u := 2) (x := 1) MA_pM (by decide) (fun i _ => ⟨0, by decide, rfl⟩)) lk_X6_29 rfl (MA_o MA_pM) rfl rfl ⟨(Nat.le_of_ble_eq_true rfl), (Nat.le_of_ble_eq_true rfl), (Nat.le_of_ble_eq_true rfl), (Nat.le_of_ble_eq_true rfl), (Nat.le_of_ble_eq_true rfl)⟩ dX6_init_68 ?_
  refine V.heap (pM_pM _ _ _ _ _ _ _ _) ?_
  exact r_vret C rfl (Nat.le_of_ble_eq_true rfl) (Nat.le_of_ble_eq_true rfl) ⟨rfl, rfl, rfl⟩ dX6_init_71
