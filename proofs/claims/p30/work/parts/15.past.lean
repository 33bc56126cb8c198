/-! PAST at pa: the object, its row of states st, next, size -/
def PA (G : ga_) (h : HP) (pa : Nat) (st : Nat → Option Nat) (nx z : Int32) : Prop := h pa = some (ob_ 1 [.ref (pa + 1), .int nx, .int z]) ∧ h (pa + 1) = some (aG_ G 6 st)
def pP (G : ga_) (h : HP) (pa : Nat) (st : Nat → Option Nat) (nx z : Int32) : HP := up_ (up_ h pa (ob_ 1 [.ref (pa + 1), .int nx, .int z])) (pa + 1) (aG_ G 6 st)
theorem PA_pP {G : ga_} {h : HP} {pa : Nat} {st : Nat → Option Nat} {nx z : Int32} : PA G (pP G h pa st nx z) pa st nx z := by
  refine ⟨?_, ?_⟩ <;> simp [pP, up_]
theorem pP_out {G : ga_} {h : HP} {pa a : Nat} {st : Nat → Option Nat} {nx z : Int32} (ha : a < pa ∨ pa + 2 ≤ a) : pP G h pa st nx z a = h a := by
  unfold pP; rw [up_n (by omega), up_n (by omega)]
theorem pP_eq {G : ga_} {h H : HP} {pa : Nat} {st : Nat → Option Nat} {nx z : Int32} (w : PA G H pa st nx z) (ho : ∀ a, (a < pa ∨ pa + 2 ≤ a) → H a = h a) : H = pP G h pa st nx z := by
  obtain ⟨w0, w1⟩ := w
  funext a
  by_cases c0 : a = pa
  · subst c0; rw [w0]; simp [pP, up_]
  · by_cases c1 : a = pa + 1
    · subst c1; rw [w1]; simp [pP, up_]
    · rw [ho a (by omega), pP_out (by omega)]
theorem pP_id {G : ga_} {h : HP} {pa : Nat} {st : Nat → Option Nat} {nx z : Int32} (w : PA G h pa st nx z) : pP G h pa st nx z = h := (pP_eq w (fun _ _ => rfl)).symm
theorem pP_n {G : ga_} {h : HP} {pa : Nat} {st : Nat → Option Nat} {nx z nx2 z2 : Int32} : up_ (pP G h pa st nx z) pa (ob_ 1 [.ref (pa + 1), .int nx2, .int z2]) = pP G h pa st nx2 z2 :=
  pP_eq ⟨by simp [up_], by simp [pP, up_]⟩ (fun a ha => by rw [up_n (by omega), pP_out ha])
theorem pP_s {G : ga_} {h : HP} {pa : Nat} {st st2 : Nat → Option Nat} {nx z : Int32} : up_ (pP G h pa st nx z) (pa + 1) (aG_ G 6 st2) = pP G h pa st2 nx z :=
  pP_eq ⟨by simp [pP, up_], by simp [up_]⟩ (fun a ha => by rw [up_n (by omega), pP_out ha])
theorem pP_G {G : ga_} {h : HP} {pa q : Nat} {st : Nat → Option Nat} {nx z : Int32} {S : gS} (d : q + 11 ≤ pa ∨ pa + 2 ≤ q) : pG G (pP G h pa st nx z) q S = pP G (pG G h q S) pa st nx z :=
  pP_eq ⟨by rw [pG_out (by omega)]; exact PA_pP.1, by rw [pG_out (by omega)]; exact PA_pP.2⟩ (fun a ha => by
    by_cases c : q ≤ a ∧ a < q + 11
    · rw [pG_in c.1 c.2, pG_in c.1 c.2]
    · rw [pG_out (by omega), pG_out (by omega), pP_out ha])
theorem pP_blank {G : ga_} {h : HP} {pa q : Nat} {st : Nat → Option Nat} {nx z : Int32} {S : gS} {e : va_E} (d : q + 11 ≤ pa ∨ pa + 2 ≤ q) : pG G (up_ (pP G h pa st nx z) q e) q S = pP G (pG G h q S) pa st nx z := by
  rw [← pP_G d]
  funext a
  by_cases c : q ≤ a ∧ a < q + 11
  · rw [pG_in c.1 c.2, pG_in c.1 c.2]
  · rw [pG_out (by omega), pG_out (by omega), up_n (by omega)]
theorem GA_P {G : ga_} {h : HP} {pa g : Nat} {st : Nat → Option Nat} {nx z : Int32} {S : gS} (w : GA G h g S) (d : g + 11 ≤ pa ∨ pa + 2 ≤ g) : GA G (pP G h pa st nx z) g S := fun j hj => by rw [pP_out (by omega)]; exact w j hj
/-- where the next state is saved: in an old game or in one made now -/
def p_at (G : ga_) (h : HP) (st : Nat → Option Nat) (nx sz q s2 : Nat) (Sq : gS) : Prop := (st nx = some q ∧ GA G h q Sq ∧ s2 = sz) ∨ (st nx = none ∧ q = sz ∧ Sq = gS0 ∧ s2 = sz + 11)
def p_nx (nx : Nat) : Nat := if nx + 1 < 6 then nx + 1 else 0
def p_z (z : Nat) : Nat := if z + 1 < 6 then z + 1 else 6
theorem p_nxI {nx : Nat} (h : nx < 6) : (nI nx + 1 < nI 6 → nI nx + 1 = nI (p_nx nx)) ∧ (¬ nI nx + 1 < nI 6 → 0 = nI (p_nx nx)) := by
  rw [nI_1, nI_ltI (by omega) (by decide)]
  unfold p_nx
  constructor
  · intro c; rw [if_pos c]
  · intro c; rw [if_neg c]; rfl
theorem p_zI {z : Nat} (h : z ≤ 6) : (if nI 6 < nI z + 1 then nI 6 else nI z + 1) = nI (p_z z) := by
  rw [nI_1]
  unfold p_z
  by_cases c : z + 1 < 6
  · rw [if_pos c, if_neg (by rw [nI_ltI (by decide) (by omega)]; omega)]
  · rw [if_neg c]
    by_cases c2 : 6 < z + 1
    · rw [if_pos ((nI_ltI (by decide) (by omega)).mpr c2)]
    · rw [if_neg (by rw [nI_ltI (by decide) (by omega)]; omega), show z + 1 = 6 by omega]
set_option maxHeartbeats 800000 in
set_option maxRecDepth 100000 in
theorem c_X1_remember {G : ga_} {l : Launch} {h : HP} {sz : Nat} {pa g nx z q s2 : Nat} {st : Nat → Option Nat} {S Sq : gS} (w : PA G h pa st (nI nx) (nI z)) (wg : GA G h g S) (hnx : nx < 6) (hz : z ≤ 6) (hat : p_at G h st nx sz q s2 Sq) (d1 : g + 11 ≤ pa ∨ pa + 2 ≤ g) (d2 : q + 11 ≤ pa ∨ pa + 2 ≤ q) (d3 : q + 11 ≤ g ∨ g + 11 ≤ q) : Mf G l yX1_remember cX1_remember 3 none 3 72 11 387 [.ref pa, .ref g] h sz none (pP G (pG G h q (g_bec Sq S)) pa (va_up st nx (some q)) (nI (p_nx nx)) (nI (p_z z))) s2 := by
  refine Mg.ofV [(0, .ref pa), (1, .ref g)] (by decide) (Nat.le_of_ble_eq_true rfl) rfl ?_
  intro p e s m args below meth c C

  refine V.heap (pP_id w).symm ?_
  have M52 : ∀ (k0 n0 : Nat), k0 ≤ 11 → n0 ≤ 387 → V p l e ⟨3, 11, 387, 72⟩ s m args below meth c G 3 (Qg G below args s 11 387 (fun v1 h1 s1 => v1 = none ∧ h1 = (pP G (pG G h q (g_bec Sq S)) pa (va_up st nx (some q)) (nI (p_nx nx)) (nI (p_z z))) ∧ s1 = s2)) (pP G (pG G h q Sq) pa (va_up st nx (some q)) (nI nx) (nI z)) s2 k0 n0 52 [(0, .ref pa), (1, .ref g), (2, .ref q)] [] := by
    intro k0 n0 hk0 hn0
    have d3s : g + 11 ≤ q ∨ q + 11 ≤ g := by omega
    refine r_aload_n C dX1_remember_52 rfl rfl ?_
    refine r_aload_n C dX1_remember_53 rfl rfl ?_
    refine r_cVv C (c_X0_become (GA_P GA_pG d2) (GA_P (GA_other wg d3s) d1) (by omega)) lk_X1_22 rfl (GA_o (GA_P GA_pG d2)) rfl rfl ⟨(Nat.le_of_ble_eq_true rfl), (Nat.le_of_ble_eq_true rfl), (by show k0 + 0 ≤ 11; omega), (by show n0 + 0 ≤ 387; omega), (Nat.le_of_ble_eq_true rfl)⟩ dX1_remember_54 ?_
    rw [pP_G d2, pG_pG]
    refine r_aload_n C dX1_remember_57 rfl rfl ?_
    refine r_aload_n C dX1_remember_58 rfl rfl ?_
    refine r_get C (j := 1) rfl in_X1 (PA_pP.1) (by decide) fl_X1_17 rfl rfl dX1_remember_59 ?_
    refine r_iconst C (v := 1) dX1_remember_62 rfl ?_
    refine r_iadd C dX1_remember_63 ?_
    refine r_aload_n C dX1_remember_64 rfl rfl ?_
    refine r_get C (j := 0) rfl in_X1 (PA_pP.1) (by decide) fl_X1_11 rfl rfl dX1_remember_65 ?_
    refine r_alenG C (PA_pP.2) dX1_remember_68 ?_
    refine r_icmp_ge C 81 dX1_remember_69 (by decide) (fun c_69 => ?_) (fun c_69 => ?_)
    · have e_69 := i32_nlt c_69
      refine r_iconst C (v := 0) dX1_remember_81 rfl ?_
      refine V.stack (st2 := [.int (nI (p_nx nx)), .ref pa]) (by rw [← (p_nxI hnx).2 e_69]) ?_
      refine r_put C (j := 1) tyX1 tyX1_ok nmX1 rfl in_X1 (PA_pP.1) (by decide) fl_X1_17 rfl rfl rfl (by first | rfl | decide) (by first | rfl | decide) (Nat.le_of_ble_eq_true rfl) dX1_remember_82 ?_
      refine V.heap pP_n ?_
      refine r_aload_n C dX1_remember_85 rfl rfl ?_
      refine r_aload_n C dX1_remember_86 rfl rfl ?_
      refine r_get C (j := 2) rfl in_X1 (PA_pP.1) (by decide) fl_X1_26 rfl rfl dX1_remember_87 ?_
      refine r_iconst C (v := 1) dX1_remember_90 rfl ?_
      refine r_iadd C dX1_remember_91 ?_
      refine r_aload_n C dX1_remember_92 rfl rfl ?_
      refine r_get C (j := 0) rfl in_X1 (PA_pP.1) (by decide) fl_X1_11 rfl rfl dX1_remember_93 ?_
      refine r_alenG C (PA_pP.2) dX1_remember_96 ?_
      refine r_mmin C jl_X1_29 mn_st ma_ii mn_code (Nat.le_of_ble_eq_true rfl) (Nat.le_of_ble_eq_true rfl) (by show k0 + 0 ≤ 11; omega) (by show n0 + 0 ≤ 387; omega) dX1_remember_97 ?_
      rw [p_zI hz]
      refine r_put C (j := 2) tyX1 tyX1_ok nmX1 rfl in_X1 (PA_pP.1) (by decide) fl_X1_26 rfl rfl rfl (by first | rfl | decide) (by first | rfl | decide) (Nat.le_of_ble_eq_true rfl) dX1_remember_100 ?_
      refine V.heap pP_n ?_
      exact r_vret C rfl (by show k0 + 0 ≤ 11; omega) (by show n0 + 0 ≤ 387; omega) ⟨rfl, rfl, rfl⟩ dX1_remember_103
    · have e_69 := i32_lt c_69
      refine r_aload_n C dX1_remember_72 rfl rfl ?_
      refine r_get C (j := 1) rfl in_X1 (PA_pP.1) (by decide) fl_X1_17 rfl rfl dX1_remember_73 ?_
      refine r_iconst C (v := 1) dX1_remember_76 rfl ?_
      refine r_iadd C dX1_remember_77 ?_
      refine r_goto C 82 dX1_remember_78 (by decide) ?_
      refine V.stack (st2 := [.int (nI (p_nx nx)), .ref pa]) (by rw [← (p_nxI hnx).1 e_69]) ?_
      refine r_put C (j := 1) tyX1 tyX1_ok nmX1 rfl in_X1 (PA_pP.1) (by decide) fl_X1_17 rfl rfl rfl (by first | rfl | decide) (by first | rfl | decide) (Nat.le_of_ble_eq_true rfl) dX1_remember_82 ?_
      refine V.heap pP_n ?_
      refine r_aload_n C dX1_remember_85 rfl rfl ?_
      refine r_aload_n C dX1_remember_86 rfl rfl ?_
      refine r_get C (j := 2) rfl in_X1 (PA_pP.1) (by decide) fl_X1_26 rfl rfl dX1_remember_87 ?_
      refine r_iconst C (v := 1) dX1_remember_90 rfl ?_
      refine r_iadd C dX1_remember_91 ?_
      refine r_aload_n C dX1_remember_92 rfl rfl ?_
      refine r_get C (j := 0) rfl in_X1 (PA_pP.1) (by decide) fl_X1_11 rfl rfl dX1_remember_93 ?_
      refine r_alenG C (PA_pP.2) dX1_remember_96 ?_
      refine r_mmin C jl_X1_29 mn_st ma_ii mn_code (Nat.le_of_ble_eq_true rfl) (Nat.le_of_ble_eq_true rfl) (by show k0 + 0 ≤ 11; omega) (by show n0 + 0 ≤ 387; omega) dX1_remember_97 ?_
      rw [p_zI hz]
      refine r_put C (j := 2) tyX1 tyX1_ok nmX1 rfl in_X1 (PA_pP.1) (by decide) fl_X1_26 rfl rfl rfl (by first | rfl | decide) (by first | rfl | decide) (Nat.le_of_ble_eq_true rfl) dX1_remember_100 ?_
      refine V.heap pP_n ?_
      exact r_vret C rfl (by show k0 + 0 ≤ 11; omega) (by show n0 + 0 ≤ 387; omega) ⟨rfl, rfl, rfl⟩ dX1_remember_103
  refine r_aload_n C dX1_remember_0 rfl rfl ?_
  refine r_get C (j := 1) rfl in_X1 (PA_pP.1) (by decide) fl_X1_17 rfl rfl dX1_remember_1 ?_
  refine r_if_lt C 19 dX1_remember_4 (by decide) (fun c => absurd c (nI_pos (by omega))) (fun _ => ?_)
  refine r_aload_n C dX1_remember_7 rfl rfl ?_
  refine r_get C (j := 1) rfl in_X1 (PA_pP.1) (by decide) fl_X1_17 rfl rfl dX1_remember_8 ?_
  refine r_aload_n C dX1_remember_11 rfl rfl ?_
  refine r_get C (j := 0) rfl in_X1 (PA_pP.1) (by decide) fl_X1_11 rfl rfl dX1_remember_12 ?_
  refine r_alenG C (PA_pP.2) dX1_remember_15 ?_
  refine r_icmp_lt C 20 dX1_remember_16 (by decide) (fun _ => ?_) (fun c => absurd (show nI nx < nI 6 from nI_lt hnx (by decide)) c)
  refine r_aload_n C dX1_remember_20 rfl rfl ?_
  refine r_get C (j := 0) rfl in_X1 (PA_pP.1) (by decide) fl_X1_11 rfl rfl dX1_remember_21 ?_
  refine r_aload_n C dX1_remember_24 rfl rfl ?_
  refine r_get C (j := 1) rfl in_X1 (PA_pP.1) (by decide) fl_X1_17 rfl rfl dX1_remember_25 ?_
  refine r_aald C (PA_pP.2) (vp_in_nI hnx (by decide)) dX1_remember_28 ?_
  rw [nI_clamp (by omega)]
  rcases hat with ⟨hst, wq, rfl⟩ | ⟨hst, rfl, rfl, rfl⟩
  · rw [hst]
    refine r_astore_n C dX1_remember_29 rfl (by decide) ?_
    refine r_aload_n C dX1_remember_30 rfl rfl ?_
    refine r_ifnonnull C 52 dX1_remember_31 (by decide) ?_
    refine V.heap (h2 := (pP G (pG G h q Sq) pa (va_up st nx (some q)) (nI nx) (nI z))) (by rw [pG_id wq, show va_up st nx (some q) = st by funext a; by_cases c : a = nx <;> simp [va_up, c, hst]]) ?_
    refine V.sub [(0, .ref pa), (1, .ref g), (2, .ref q)] ⟨rfl, rfl, rfl, trivial⟩ ?_
    exact M52 0 0 (by omega) (by omega)
  · rw [hst]
    refine r_astore_nN C dX1_remember_29 rfl (by decide) ?_
    refine r_aload_nN C dX1_remember_30 rfl rfl ?_
    refine r_ifnonnullN C dX1_remember_31 ?_
    refine r_new C (ci := 0) (fs := [.null, .null, .null, .null, .null, .int 0, .int 0, .int 0, .int 0, .int 0, .int 0, .int 0, .int 0]) tyX0 tyX0_ok rfl in_X0 cl_X1_9 iz_X0 ii_X0 (fun j hj => by rcases (show j = 0 ∨ j = 1 ∨ j = 2 ∨ j = 3 ∨ j = 4 ∨ j = 5 ∨ j = 6 ∨ j = 7 ∨ j = 8 ∨ j = 9 ∨ j = 10 ∨ j = 11 ∨ j = 12 by omega) with rfl | rfl | rfl | rfl | rfl | rfl | rfl | rfl | rfl | rfl | rfl | rfl | rfl <;> rfl) (Nat.le_of_ble_eq_true rfl) (Nat.le_of_ble_eq_true rfl) dX1_remember_34 ?_
    refine r_dup C dX1_remember_37 rfl ?_
    refine r_cNv C (c_X0_init (g := q) (up_s _ _ _)) lk_X1_21 rfl rfl ⟨(Nat.le_of_ble_eq_true rfl), (Nat.le_of_ble_eq_true rfl), (Nat.le_of_ble_eq_true rfl), (Nat.le_of_ble_eq_true rfl), (Nat.le_of_ble_eq_true rfl)⟩ dX1_remember_38 ?_
    rw [pP_blank d2]
    refine r_astore_n C dX1_remember_41 rfl (by decide) ?_
    refine r_aload_n C dX1_remember_42 rfl rfl ?_
    refine r_get C (j := 0) rfl in_X1 (PA_pP.1) (by decide) fl_X1_11 rfl rfl dX1_remember_43 ?_
    refine r_aload_n C dX1_remember_46 rfl rfl ?_
    refine r_get C (j := 1) rfl in_X1 (PA_pP.1) (by decide) fl_X1_17 rfl rfl dX1_remember_47 ?_
    refine r_aload_n C dX1_remember_50 rfl rfl ?_
    refine r_aast C (PA_pP.2) (GA_o (GA_P GA_pG d2)) (vp_in_nI hnx (by decide)) dX1_remember_51 ?_
    refine V.heap pP_s ?_
    rw [nI_clamp (by omega)]
    refine V.sub [(0, .ref pa), (1, .ref g), (2, .ref q)] ⟨rfl, rfl, rfl, trivial⟩ ?_
    exact M52 (0 + 1 + 10) (0 + 13 + 374) (by decide) (by decide)
def p_last (nx : Nat) : Nat := if 0 < nx then nx - 1 else 5
theorem p_lastI {nx : Nat} (h : nx < 6) : (0 < nI nx → nI nx - 1 = nI (p_last nx)) ∧ (nI nx ≤ 0 → nI 6 - 1 = nI (p_last nx)) := by
  unfold p_last
  constructor
  · intro c
    have q : 0 < nx := by
      rcases Nat.eq_zero_or_pos nx with e | e
      · rw [e] at c; exact absurd c (by decide)
      · exact e
    rw [if_pos q]
    exact pk_sub (b := 1) q
  · intro c
    have q : ¬ 0 < nx := fun q => absurd c (nI_nle q (by omega))
    rw [if_neg q]
    exact nI_pred 5
theorem p_last_lt {nx : Nat} (h : nx < 6) : p_last nx < 6 := by unfold p_last; split <;> omega
set_option maxHeartbeats 800000 in
set_option maxRecDepth 100000 in
theorem c_X1_restore {G : ga_} {l : Launch} {h : HP} {sz : Nat} {pa g nx z q : Nat} {st : Nat → Option Nat} {S Sq : gS} (w : PA G h pa st (nI nx) (nI (z + 1))) (wg : GA G h g S) (hnx : nx < 6) (hz : z < 6) (hst : st (p_last nx) = some q) (wq : GA G h q Sq) (d1 : g + 11 ≤ pa ∨ pa + 2 ≤ g) (d2 : q + 11 ≤ pa ∨ pa + 2 ≤ q) (d3 : q + 11 ≤ g ∨ g + 11 ≤ q) : Mf G l yX1_restore cX1_restore 3 none 3 72 0 0 [.ref pa, .ref g] h sz none (pP G (pG G h g (g_bec S Sq)) pa st (nI (p_last nx)) (nI z)) sz := by
  refine Mg.ofV [(0, .ref pa), (1, .ref g)] (by decide) (Nat.le_of_ble_eq_true rfl) rfl ?_
  intro p e s m args below meth c C

  refine V.heap (pP_id w).symm ?_
  have M23 : V p l e ⟨3, 0, 0, 72⟩ s m args below meth c G 3 (Qg G below args s 0 0 (fun v1 h1 s1 => v1 = none ∧ h1 = (pP G (pG G h g (g_bec S Sq)) pa st (nI (p_last nx)) (nI z)) ∧ s1 = sz)) (pP G h pa st (nI nx) (nI (z + 1))) sz 0 0 23 [(0, .ref pa), (1, .ref g)] [.int (nI (p_last nx))] := by
    refine r_istore_n C dX1_restore_23 rfl (by decide) ?_
    refine r_aload_n C dX1_restore_24 rfl rfl ?_
    refine r_get C (j := 2) rfl in_X1 (PA_pP.1) (by decide) fl_X1_26 rfl rfl dX1_restore_25 ?_
    refine r_if_le C 48 dX1_restore_28 (by decide) (fun c => absurd c (nI_nle (by omega) (by omega))) (fun _ => ?_)
    refine r_iload_n C dX1_restore_31 rfl rfl ?_
    refine r_if_lt C 48 dX1_restore_32 (by decide) (fun c => absurd c (nI_pos (by have := p_last_lt hnx; omega))) (fun _ => ?_)
    refine r_iload_n C dX1_restore_35 rfl rfl ?_
    refine r_aload_n C dX1_restore_36 rfl rfl ?_
    refine r_get C (j := 0) rfl in_X1 (PA_pP.1) (by decide) fl_X1_11 rfl rfl dX1_restore_37 ?_
    refine r_alenG C (PA_pP.2) dX1_restore_40 ?_
    refine r_icmp_ge C 48 dX1_restore_41 (by decide) (fun c => absurd c (nI_ge (b := 6) (p_last_lt hnx) (by decide))) (fun _ => ?_)
    refine r_aload_n C dX1_restore_44 rfl rfl ?_
    refine r_ifnonnull C 49 dX1_restore_45 (by decide) ?_
    refine r_aload_n C dX1_restore_49 rfl rfl ?_
    refine r_aload_n C dX1_restore_50 rfl rfl ?_
    refine r_get C (j := 0) rfl in_X1 (PA_pP.1) (by decide) fl_X1_11 rfl rfl dX1_restore_51 ?_
    refine r_iload_n C dX1_restore_54 rfl rfl ?_
    refine r_aald C (PA_pP.2) (vp_in_nI (p_last_lt hnx) (by decide)) dX1_restore_55 ?_
    rw [nI_clamp (by have := p_last_lt hnx; omega), hst]
    refine r_cVv C (c_X0_become (GA_P wg d1) (GA_P wq d2) (by omega)) lk_X1_22 rfl (GA_o (GA_P wg d1)) rfl rfl ⟨(Nat.le_of_ble_eq_true rfl), (Nat.le_of_ble_eq_true rfl), (Nat.le_of_ble_eq_true rfl), (Nat.le_of_ble_eq_true rfl), (Nat.le_of_ble_eq_true rfl)⟩ dX1_restore_56 ?_
    rw [pP_G d1]
    refine r_aload_n C dX1_restore_59 rfl rfl ?_
    refine r_iload_n C dX1_restore_60 rfl rfl ?_
    refine r_put C (j := 1) tyX1 tyX1_ok nmX1 rfl in_X1 (PA_pP.1) (by decide) fl_X1_17 rfl rfl rfl (by first | rfl | decide) (by first | rfl | decide) (Nat.le_of_ble_eq_true rfl) dX1_restore_61 ?_
    refine V.heap pP_n ?_
    refine r_aload_n C dX1_restore_64 rfl rfl ?_
    refine r_dup C dX1_restore_65 rfl ?_
    refine r_get C (j := 2) rfl in_X1 (PA_pP.1) (by decide) fl_X1_26 rfl rfl dX1_restore_66 ?_
    refine r_iconst C (v := 1) dX1_restore_69 rfl ?_
    refine r_isub C dX1_restore_70 ?_
    refine r_put C (j := 2) tyX1 tyX1_ok nmX1 rfl in_X1 (PA_pP.1) (by decide) fl_X1_26 rfl rfl rfl (by first | rfl | decide) (by first | rfl | decide) (Nat.le_of_ble_eq_true rfl) dX1_restore_71 ?_
    refine V.heap pP_n ?_
    exact r_vret C rfl (Nat.le_of_ble_eq_true rfl) (Nat.le_of_ble_eq_true rfl) ⟨rfl, by rw [show nI (z + 1) - 1 = nI z from nI_pred z], rfl⟩ dX1_restore_74
  refine r_aload_n C dX1_restore_0 rfl rfl ?_
  refine r_get C (j := 1) rfl in_X1 (PA_pP.1) (by decide) fl_X1_17 rfl rfl dX1_restore_1 ?_
  refine r_if_le C 16 dX1_restore_4 (by decide) (fun c_4 => ?_) (fun c_4 => ?_)
  · have e_4 := i32_nlt c_4
    refine r_aload_n C dX1_restore_16 rfl rfl ?_
    refine r_get C (j := 0) rfl in_X1 (PA_pP.1) (by decide) fl_X1_11 rfl rfl dX1_restore_17 ?_
    refine r_alenG C (PA_pP.2) dX1_restore_20 ?_
    refine r_iconst C (v := 1) dX1_restore_21 rfl ?_
    refine r_isub C dX1_restore_22 ?_
    refine V.stack (st2 := [.int (nI (p_last nx))]) (by rw [← (p_lastI hnx).2 c_4]) ?_
    exact M23
  · have e_4 := i32_lt c_4
    refine r_aload_n C dX1_restore_7 rfl rfl ?_
    refine r_get C (j := 1) rfl in_X1 (PA_pP.1) (by decide) fl_X1_17 rfl rfl dX1_restore_8 ?_
    refine r_iconst C (v := 1) dX1_restore_11 rfl ?_
    refine r_isub C dX1_restore_12 ?_
    refine r_goto C 23 dX1_restore_13 (by decide) ?_
    refine V.stack (st2 := [.int (nI (p_last nx))]) (by rw [← (p_lastI hnx).1 e_4]) ?_
    exact M23
set_option maxHeartbeats 800000 in
set_option maxRecDepth 100000 in
theorem c_X1_init {G : ga_} {l : Launch} {h : HP} {pa : Nat} (hT : h pa = some (ob_ 1 [.null, .int 0, .int 0])) : Mf G l yX1_init cX1_init 1 none 1 13 1 6 [.ref pa] h (pa + 1) none (pP G h pa (fun _ => none) 0 0) (pa + 2) := by
  refine Mg.ofV [(0, .ref pa)] (by decide) (Nat.le_of_ble_eq_true rfl) rfl ?_
  intro p e s m args below meth c C

  refine r_aload_n C dX1_init_0 rfl rfl ?_
  refine r_objInit C jl_X1_3 oi_inst oi_code (Nat.le_of_ble_eq_true rfl) (Nat.le_of_ble_eq_true rfl) dX1_init_1 ?_
  refine r_aload_n C dX1_init_4 rfl rfl ?_
  refine r_bipush C (v := 6) dX1_init_5 rfl ?_
  refine r_newG C cl_X1_9 (by decide) rfl (Nat.le_of_ble_eq_true rfl) (Nat.le_of_ble_eq_true rfl) (Nat.le_of_ble_eq_true rfl) dX1_init_7 ?_
  refine r_putF C (j := 0) tyX1 tyX1_ok nmX1 rfl in_X1 ((show _ = some (ob_ 1 [.null, .int 0, .int 0]) by simp [up_, hT, Nat.add_assoc])) (by decide) fl_X1_11 rfl rfl rfl rfl rfl (by first | rfl | decide) (by first | rfl | decide) (Nat.le_of_ble_eq_true rfl) dX1_init_10 ?_
  refine r_vret C rfl (Nat.le_of_ble_eq_true rfl) (Nat.le_of_ble_eq_true rfl) ⟨rfl, ?_, rfl⟩ dX1_init_13
  refine pP_eq ⟨?_, ?_⟩ (fun a ha => ?_)
  · simp [up_, Nat.add_assoc]
  · simp [up_, Nat.add_assoc]
  · rw [up_n (by omega), up_n (by omega)]
set_option maxHeartbeats 800000 in
set_option maxRecDepth 100000 in
theorem c_X3_init {G : ga_} {l : Launch} {h : HP} {tx : Nat} (hT : h tx = some (ob_ 3 [.null, .int 0])) : Mf G l yX3_init cX3_init 1 none 1 13 1 60 [.ref tx] h (tx + 1) none (pX G h tx (fun _ => 0) 0) (tx + 2) := by
  refine Mg.ofV [(0, .ref tx)] (by decide) (Nat.le_of_ble_eq_true rfl) rfl ?_
  intro p e s m args below meth c C

  refine r_aload_n C dX3_init_0 rfl rfl ?_
  refine r_objInit C jl_X3_3 oi_inst oi_code (Nat.le_of_ble_eq_true rfl) (Nat.le_of_ble_eq_true rfl) dX3_init_1 ?_
  refine r_aload_n C dX3_init_4 rfl rfl ?_
  refine r_bipush C (v := 60) dX3_init_5 rfl ?_
  refine r_newaC C ac_char (by decide) rfl (Nat.le_of_ble_eq_true rfl) (Nat.le_of_ble_eq_true rfl) (Nat.le_of_ble_eq_true rfl) dX3_init_7 ?_
  refine r_putF C (j := 0) tyX3 tyX3_ok nmX3 rfl in_X3 ((show _ = some (ob_ 3 [.null, .int 0]) by simp [up_, hT, Nat.add_assoc])) (by decide) fl_X3_9 rfl rfl rfl rfl rfl (by first | rfl | decide) (by first | rfl | decide) (Nat.le_of_ble_eq_true rfl) dX3_init_9 ?_
  refine r_vret C rfl (Nat.le_of_ble_eq_true rfl) (Nat.le_of_ble_eq_true rfl) ⟨rfl, ?_, rfl⟩ dX3_init_12
  refine pX_eq ⟨?_, ?_⟩ (fun a ha => ?_)
  · simp [up_, Nat.add_assoc]
  · simp [up_, Nat.add_assoc]
  · rw [up_n (by omega), up_n (by omega)]
