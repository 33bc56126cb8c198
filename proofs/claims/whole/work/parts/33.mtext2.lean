/-! THE MODEL READS A WHOLE TURN -/
def r_le (f : Nat → Int32) (n : Nat) (t : tT_) : Int32 := if (nx_ f n t.1 t.2.1 108 108 || (nx_ f n t.1 t.2.1 100 100 || nx_ f n t.1 t.2.1 112 112)) = true then f t.1 else 0
def r_1 (f : Nat → Int32) (n : Nat) (t : tT_) : tT_ := (t.1 + (if decide (r_le f n t = 0) = true then 0 else 1), decide (r_le f n t = 0), r_le f n t, t.2.2.2.1, t.2.2.2.2.1, t.2.2.2.2.2)
def w_p (t : tT_) (v : Nat) : tT_ := (v, t.2.1, t.2.2.1, t.2.2.2.1, t.2.2.2.2.1, t.2.2.2.2.2)
def w_pl (t : tT_) (v : Int32) : tT_ := (t.1, t.2.1, t.2.2.1, v, t.2.2.2.2.1, t.2.2.2.2.2)
def w_ro (t : tT_) (v : Int32) : tT_ := (t.1, t.2.1, t.2.2.1, t.2.2.2.1, v, t.2.2.2.2.2)
def w_en (t : tT_) (v : Int32) : tT_ := (t.1, t.2.1, t.2.2.1, t.2.2.2.1, t.2.2.2.2.1, v)
def r_2 (f : Nat → Int32) (n : Nat) (t : tT_) : tT_ := w_pl (s_T f n t 48 57) (s_c f n t.1 - 48)
def r_mo (f : Nat → Int32) (n : Nat) (t : tT_) : Bool := nx_ f n t.1 t.2.1 48 57 && (decide (0 < t.2.2.2.1) && decide (10 * t.2.2.2.1 + f t.1 - 48 < 28))
def r_3 (f : Nat → Int32) (n : Nat) (t : tT_) : tT_ := if r_mo f n t = true then w_p (w_pl t (10 * t.2.2.2.1 + f t.1 - 48)) (t.1 + 1) else t
def r_4 (f : Nat → Int32) (n : Nat) (t : tT_) : tT_ := w_ro (s_T f n t 97 99) (s_c f n t.1 - 97)
def r_y (f : Nat → Int32) (n : Nat) (t : tT_) : Bool := nx_ f n t.1 t.2.1 60 60
def r_5 (f : Nat → Int32) (n : Nat) (t : tT_) : tT_ := w_en (if r_y f n t = true then s_T f n t 60 60 else s_T f n t 62 62) (bI (!r_y f n t))
def r_T (f : Nat → Int32) (n : Nat) (t : tT_) : tT_ := if (r_1 f n t).2.2.1 = 108 then r_5 f n (r_4 f n (r_3 f n (r_2 f n (r_1 f n t)))) else r_1 f n t
theorem r1_le {f : Nat → Int32} {n : Nat} {t : tT_} (hp : t.1 ≤ n) : (r_1 f n t).1 ≤ n := by
  show t.1 + (if decide (r_le f n t = 0) = true then 0 else 1) ≤ n
  by_cases c : r_le f n t = 0
  · rw [decide_eq_true c, if_pos rfl]; exact hp
  · rw [decide_eq_false c, if_neg (by decide)]
    unfold r_le at c
    by_cases d : (nx_ f n t.1 t.2.1 108 108 || (nx_ f n t.1 t.2.1 100 100 || nx_ f n t.1 t.2.1 112 112)) = true
    · rw [Bool.or_eq_true, Bool.or_eq_true] at d
      rcases d with d | d | d
      · exact nx_lt d
      · exact nx_lt d
      · exact nx_lt d
    · rw [if_neg d] at c; exact absurd rfl c
theorem r3_le {f : Nat → Int32} {n : Nat} {t : tT_} (hp : t.1 ≤ n) : (r_3 f n t).1 ≤ n := by
  unfold r_3
  by_cases c : r_mo f n t = true
  · rw [if_pos c]
    unfold r_mo at c
    rw [Bool.and_eq_true] at c
    exact nx_lt c.1
  · rw [if_neg c]; exact hp
theorem sT_le {f : Nat → Int32} {n : Nat} {t : tT_} {lo hi : Int32} (h0 : m_in 0 lo hi = false) (hp : t.1 ≤ n) : (s_T f n t lo hi).1 ≤ n := sp_le h0 hp
theorem r5_le {f : Nat → Int32} {n : Nat} {t : tT_} (hp : t.1 ≤ n) : (r_5 f n t).1 ≤ n := by
  show (if r_y f n t = true then s_T f n t 60 60 else s_T f n t 62 62).1 ≤ n
  split
  · exact sT_le (by decide) hp
  · exact sT_le (by decide) hp
theorem rT_le {f : Nat → Int32} {n : Nat} {t : tT_} (hp : t.1 ≤ n) : (r_T f n t).1 ≤ n := by
  unfold r_T
  split
  · exact r5_le (sT_le (t := r_3 f n (r_2 f n (r_1 f n t))) (by decide) (r3_le (sT_le (t := r_1 f n t) (by decide) (r1_le hp))))
  · exact r1_le hp
set_option maxHeartbeats 800000 in
set_option maxRecDepth 100000 in
theorem c_X6_readTurn {G : ga_} {l : Launch} {h : HP} {sz : Nat} {mo : Nat} {S A : gS} {dg : Int64} {t : tT_} {n : Nat}  (w : MA G h mo S (tA A t) dg)  (hn : A 6 3 = nI n) (hn60 : n ≤ 60) (hp : t.1 ≤ n) (hw : t.2.1 = false)  : Mf G l yX6_readTurn cX6_readTurn 3 none 2 45 0 0 [.ref mo] h sz none (pM G h mo (S) (tA A (r_T (A 3) n t)) (dg)) sz := by
  refine Mg.ofV [(0, .ref mo)] (by decide) (Nat.le_of_ble_eq_true rfl) rfl ?_
  intro p e s m args below meth c C
  refine V.heap (pM_id w).symm ?_
  refine r_aload_n C dX6_readTurn_0 rfl rfl ?_
  apply V.cut 47 ((r_le (A 3) n t))
  · intro K_47
    refine r_aload_n C dX6_readTurn_1 rfl rfl ?_
    refine r_bipush C (v := 108) dX6_readTurn_2 rfl ?_
    refine r_bipush C (v := 108) dX6_readTurn_4 rfl ?_
    refine r_cVi C (c_X6_isNext (t := t) (n := n) MA_pM hn hn60 hp) lk_X6_119 rfl (MA_o MA_pM) rfl rfl ⟨(Nat.le_of_ble_eq_true rfl), (Nat.le_of_ble_eq_true rfl), (Nat.le_of_ble_eq_true rfl), (Nat.le_of_ble_eq_true rfl), (Nat.le_of_ble_eq_true rfl)⟩ dX6_readTurn_6 ?_
    refine r_if_ne C 34 dX6_readTurn_9 (by decide) (fun c_9 => ?_) (fun c_9 => ?_)
    · have c_9 := bI_t c_9
      have hlt := nx_lt c_9
      refine r_aload_n C dX6_readTurn_34 rfl rfl ?_
      refine r_get C (j := 6) rfl in_X6 (MA_o MA_pM) (by decide) fl_X6_19 rfl rfl dX6_readTurn_35 ?_
      refine r_aload_n C dX6_readTurn_38 rfl rfl ?_
      refine r_get C (j := 10) rfl in_X6 (MA_o MA_pM) (by decide) fl_X6_112 rfl rfl dX6_readTurn_39 ?_
      refine V.st0 ((show _ = nI t.1 from rfl)) ?_
      refine r_iald C (MA_3 MA_pM) (vp_in_nI (by omega) (by decide)) dX6_readTurn_42 ?_
      refine V.st0 (cl_f (by omega)) ?_
      refine r_goto C 47 dX6_readTurn_43 (by decide) ?_
      refine V.st0 (show _ = ((r_le (A 3) n t)) from by unfold r_le; rw [c_9]; rfl) ?_
      exact K_47
    · have c_9 := bI_f c_9
      refine r_aload_n C dX6_readTurn_12 rfl rfl ?_
      refine r_bipush C (v := 100) dX6_readTurn_13 rfl ?_
      refine r_bipush C (v := 100) dX6_readTurn_15 rfl ?_
      refine r_cVi C (c_X6_isNext (t := t) (n := n) MA_pM hn hn60 hp) lk_X6_119 rfl (MA_o MA_pM) rfl rfl ⟨(Nat.le_of_ble_eq_true rfl), (Nat.le_of_ble_eq_true rfl), (Nat.le_of_ble_eq_true rfl), (Nat.le_of_ble_eq_true rfl), (Nat.le_of_ble_eq_true rfl)⟩ dX6_readTurn_17 ?_
      refine r_if_ne C 34 dX6_readTurn_20 (by decide) (fun c_20 => ?_) (fun c_20 => ?_)
      · have c_20 := bI_t c_20
        have hlt := nx_lt c_20
        refine r_aload_n C dX6_readTurn_34 rfl rfl ?_
        refine r_get C (j := 6) rfl in_X6 (MA_o MA_pM) (by decide) fl_X6_19 rfl rfl dX6_readTurn_35 ?_
        refine r_aload_n C dX6_readTurn_38 rfl rfl ?_
        refine r_get C (j := 10) rfl in_X6 (MA_o MA_pM) (by decide) fl_X6_112 rfl rfl dX6_readTurn_39 ?_
        refine V.st0 ((show _ = nI t.1 from rfl)) ?_
        refine r_iald C (MA_3 MA_pM) (vp_in_nI (by omega) (by decide)) dX6_readTurn_42 ?_
        refine V.st0 (cl_f (by omega)) ?_
        refine r_goto C 47 dX6_readTurn_43 (by decide) ?_
        refine V.st0 (show _ = ((r_le (A 3) n t)) from by unfold r_le; rw [c_9, c_20]; rfl) ?_
        exact K_47
      · have c_20 := bI_f c_20
        refine r_aload_n C dX6_readTurn_23 rfl rfl ?_
        refine r_bipush C (v := 112) dX6_readTurn_24 rfl ?_
        refine r_bipush C (v := 112) dX6_readTurn_26 rfl ?_
        refine r_cVi C (c_X6_isNext (t := t) (n := n) MA_pM hn hn60 hp) lk_X6_119 rfl (MA_o MA_pM) rfl rfl ⟨(Nat.le_of_ble_eq_true rfl), (Nat.le_of_ble_eq_true rfl), (Nat.le_of_ble_eq_true rfl), (Nat.le_of_ble_eq_true rfl), (Nat.le_of_ble_eq_true rfl)⟩ dX6_readTurn_28 ?_
        refine r_if_eq C 46 dX6_readTurn_31 (by decide) (fun c_31 => ?_) (fun c_31 => ?_)
        · have c_31 := bI_f c_31
          refine r_iconst C (v := 0) dX6_readTurn_46 rfl ?_
          refine V.st0 (show _ = ((r_le (A 3) n t)) from by unfold r_le; rw [c_9, c_20, c_31]; rfl) ?_
          exact K_47
        · have c_31 := bI_t c_31
          have hlt := nx_lt c_31
          refine r_aload_n C dX6_readTurn_34 rfl rfl ?_
          refine r_get C (j := 6) rfl in_X6 (MA_o MA_pM) (by decide) fl_X6_19 rfl rfl dX6_readTurn_35 ?_
          refine r_aload_n C dX6_readTurn_38 rfl rfl ?_
          refine r_get C (j := 10) rfl in_X6 (MA_o MA_pM) (by decide) fl_X6_112 rfl rfl dX6_readTurn_39 ?_
          refine V.st0 ((show _ = nI t.1 from rfl)) ?_
          refine r_iald C (MA_3 MA_pM) (vp_in_nI (by omega) (by decide)) dX6_readTurn_42 ?_
          refine V.st0 (cl_f (by omega)) ?_
          refine r_goto C 47 dX6_readTurn_43 (by decide) ?_
          refine V.st0 (show _ = ((r_le (A 3) n t)) from by unfold r_le; rw [c_9, c_20, c_31]; rfl) ?_
          exact K_47
  · skip
    refine r_put C (j := 12) tyX6 tyX6_ok nmX6 rfl in_X6 (MA_o MA_pM) (by decide) fl_X6_123 rfl rfl rfl (by first | rfl | decide) (by first | rfl | decide) (Nat.le_of_ble_eq_true rfl) dX6_readTurn_47 ?_
    refine V.heap (qM_f 6 _ rfl) ?_
    refine V.heap (congrArg (fun X => pM G h mo S X dg) tA_6) ?_
    refine r_aload_n C dX6_readTurn_50 rfl rfl ?_
    apply V.cut 70 (bI (decide ((r_le (A 3) n t) = 0)))
    · intro K_70
      refine r_aload_n C dX6_readTurn_51 rfl rfl ?_
      refine r_get C (j := 11) rfl in_X6 (MA_o MA_pM) (by decide) fl_X6_115 rfl rfl dX6_readTurn_52 ?_
      refine V.st0 ((show _ = bI t.2.1 from rfl)) ?_
      refine r_if_ne C 65 dX6_readTurn_55 (by decide) (fun c => absurd (by rw [hw]; rfl) c) (fun _ => ?_)
      refine r_aload_n C dX6_readTurn_58 rfl rfl ?_
      refine r_get C (j := 12) rfl in_X6 (MA_o MA_pM) (by decide) fl_X6_123 rfl rfl dX6_readTurn_59 ?_
      refine V.st0 ((show _ = (r_le (A 3) n t) from rfl)) ?_
      refine r_if_ne C 69 dX6_readTurn_62 (by decide) (fun c_62 => ?_) (fun c_62 => ?_)
      · skip
        refine r_iconst C (v := 0) dX6_readTurn_69 rfl ?_
        refine V.st0 (show _ = (bI (decide ((r_le (A 3) n t) = 0))) from by rw [decide_eq_false c_62]; rfl) ?_
        exact K_70
      · skip
        refine r_iconst C (v := 1) dX6_readTurn_65 rfl ?_
        refine r_goto C 70 dX6_readTurn_66 (by decide) ?_
        refine V.st0 (show _ = (bI (decide ((r_le (A 3) n t) = 0))) from by rw [decide_eq_true c_62]; rfl) ?_
        exact K_70
    · skip
      refine r_put C (j := 11) tyX6 tyX6_ok nmX6 rfl in_X6 (MA_o MA_pM) (by decide) fl_X6_115 rfl rfl rfl (nar_b _).1 (nar_b _).2 (Nat.le_of_ble_eq_true rfl) dX6_readTurn_70 ?_
      refine V.heap (qM_f 5 _ rfl) ?_
      refine V.heap (congrArg (fun X => pM G h mo S X dg) tA_5) ?_
      refine r_aload_n C dX6_readTurn_73 rfl rfl ?_
      refine r_dup C dX6_readTurn_74 rfl ?_
      refine r_get C (j := 10) rfl in_X6 (MA_o MA_pM) (by decide) fl_X6_112 rfl rfl dX6_readTurn_75 ?_
      refine V.st0 ((show _ = nI t.1 from rfl)) ?_
      apply V.cut 90 (nI (if decide ((r_le (A 3) n t) = 0) = true then 0 else 1))
      · intro K_90
        refine r_aload_n C dX6_readTurn_78 rfl rfl ?_
        refine r_get C (j := 11) rfl in_X6 (MA_o MA_pM) (by decide) fl_X6_115 rfl rfl dX6_readTurn_79 ?_
        refine V.st0 ((show _ = bI (decide ((r_le (A 3) n t) = 0)) from rfl)) ?_
        refine r_if_eq C 89 dX6_readTurn_82 (by decide) (fun c_82 => ?_) (fun c_82 => ?_)
        · have c_82 := bI_f c_82
          refine r_iconst C (v := 1) dX6_readTurn_89 rfl ?_
          refine V.st0 (show _ = (nI (if decide ((r_le (A 3) n t) = 0) = true then 0 else 1)) from by rw [c_82]; rfl) ?_
          exact K_90
        · have c_82 := bI_t c_82
          refine r_iconst C (v := 0) dX6_readTurn_85 rfl ?_
          refine r_goto C 90 dX6_readTurn_86 (by decide) ?_
          refine V.st0 (show _ = (nI (if decide ((r_le (A 3) n t) = 0) = true then 0 else 1)) from by rw [c_82]; rfl) ?_
          exact K_90
      · skip
        refine r_iadd C dX6_readTurn_90 ?_
        refine V.st0 (nI_add (t.1) ((if decide ((r_le (A 3) n t) = 0) = true then 0 else 1))) ?_
        refine r_put C (j := 10) tyX6 tyX6_ok nmX6 rfl in_X6 (MA_o MA_pM) (by decide) fl_X6_112 rfl rfl rfl (by first | rfl | decide) (by first | rfl | decide) (Nat.le_of_ble_eq_true rfl) dX6_readTurn_91 ?_
        refine V.heap (qM_f 4 (nI ((t.1 + (if decide ((r_le (A 3) n t) = 0) = true then 0 else 1)))) rfl) ?_
        refine V.heap (congrArg (fun X => pM G h mo S X dg) tA_4) ?_
        refine V.heap (h2 := pM G h mo S (tA A (r_1 (A 3) n t)) dg) rfl ?_
        refine r_aload_n C dX6_readTurn_94 rfl rfl ?_
        refine r_get C (j := 12) rfl in_X6 (MA_o MA_pM) (by decide) fl_X6_123 rfl rfl dX6_readTurn_95 ?_
        refine V.st0 ((show _ = (r_1 (A 3) n t).2.2.1 from rfl)) ?_
        refine r_bipush C (v := 108) dX6_readTurn_98 rfl ?_
        refine r_icmp_ne C 256 dX6_readTurn_100 (by decide) (fun c_100 => ?_) (fun c_100 => ?_)
        · skip
          exact r_vret C rfl (Nat.le_of_ble_eq_true rfl) (Nat.le_of_ble_eq_true rfl) ⟨rfl, congrArg (fun X => pM G h mo S X dg) (by unfold r_T; rw [if_neg c_100]), rfl⟩ dX6_readTurn_256
        · skip
          have h1 : (r_1 (A 3) n t).1 ≤ n := r1_le hp
          refine r_aload_n C dX6_readTurn_103 rfl rfl ?_
          refine r_aload_n C dX6_readTurn_104 rfl rfl ?_
          refine r_bipush C (v := 48) dX6_readTurn_105 rfl ?_
          refine r_bipush C (v := 57) dX6_readTurn_107 rfl ?_
          refine r_cVi C (c_X6_sign (t := (r_1 (A 3) n t)) (n := n) MA_pM hn hn60 h1) lk_X6_126 rfl (MA_o MA_pM) rfl rfl ⟨(Nat.le_of_ble_eq_true rfl), (Nat.le_of_ble_eq_true rfl), (Nat.le_of_ble_eq_true rfl), (Nat.le_of_ble_eq_true rfl), (Nat.le_of_ble_eq_true rfl)⟩ dX6_readTurn_109 ?_
          refine V.heap (pM_pM _ _ _ _ _ _ _ _) ?_
          refine r_bipush C (v := 48) dX6_readTurn_112 rfl ?_
          refine r_isub C dX6_readTurn_114 ?_
          refine r_put C (j := 13) tyX6 tyX6_ok nmX6 rfl in_X6 (MA_o MA_pM) (by decide) fl_X6_129 rfl rfl rfl (by first | rfl | decide) (by first | rfl | decide) (Nat.le_of_ble_eq_true rfl) dX6_readTurn_115 ?_
          refine V.heap (qM_f 7 _ rfl) ?_
          refine V.heap (congrArg (fun X => pM G h mo S X dg) tA_7) ?_
          refine V.heap (h2 := pM G h mo S (tA A (r_2 (A 3) n (r_1 (A 3) n t))) dg) rfl ?_
          have h2 : (r_2 (A 3) n (r_1 (A 3) n t)).1 ≤ n := sT_le (t := (r_1 (A 3) n t)) (by decide) h1
          have h3 : (r_3 (A 3) n (r_2 (A 3) n (r_1 (A 3) n t))).1 ≤ n := r3_le h2
          have h4 : (r_4 (A 3) n (r_3 (A 3) n (r_2 (A 3) n (r_1 (A 3) n t)))).1 ≤ n := sT_le (t := (r_3 (A 3) n (r_2 (A 3) n (r_1 (A 3) n t)))) (by decide) h3
          have K195 : V p l e ⟨2, 0, 0, 45⟩ s m args below meth c G 3 (Qg G below args s 0 0 (fun v1 h1 s1 => v1 = none ∧ h1 = (pM G h mo (S) (tA A (r_T (A 3) n t)) (dg)) ∧ s1 = sz)) (pM G h mo S (tA A (r_3 (A 3) n (r_2 (A 3) n (r_1 (A 3) n t)))) dg) sz 0 0 195 [(0, .ref mo)] [] := by
            refine r_aload_n C dX6_readTurn_195 rfl rfl ?_
            refine r_aload_n C dX6_readTurn_196 rfl rfl ?_
            refine r_bipush C (v := 97) dX6_readTurn_197 rfl ?_
            refine r_bipush C (v := 99) dX6_readTurn_199 rfl ?_
            refine r_cVi C (c_X6_sign (t := (r_3 (A 3) n (r_2 (A 3) n (r_1 (A 3) n t)))) (n := n) MA_pM hn hn60 h3) lk_X6_126 rfl (MA_o MA_pM) rfl rfl ⟨(Nat.le_of_ble_eq_true rfl), (Nat.le_of_ble_eq_true rfl), (Nat.le_of_ble_eq_true rfl), (Nat.le_of_ble_eq_true rfl), (Nat.le_of_ble_eq_true rfl)⟩ dX6_readTurn_201 ?_
            refine V.heap (pM_pM _ _ _ _ _ _ _ _) ?_
            refine r_bipush C (v := 97) dX6_readTurn_204 rfl ?_
            refine r_isub C dX6_readTurn_206 ?_
            refine r_put C (j := 14) tyX6 tyX6_ok nmX6 rfl in_X6 (MA_o MA_pM) (by decide) fl_X6_132 rfl rfl rfl (by first | rfl | decide) (by first | rfl | decide) (Nat.le_of_ble_eq_true rfl) dX6_readTurn_207 ?_
            refine V.heap (qM_f 8 _ rfl) ?_
            refine V.heap (congrArg (fun X => pM G h mo S X dg) tA_8) ?_
            refine V.heap (h2 := pM G h mo S (tA A (r_4 (A 3) n (r_3 (A 3) n (r_2 (A 3) n (r_1 (A 3) n t))))) dg) rfl ?_
            apply V.cut 226 (bI (!r_y (A 3) n (r_4 (A 3) n (r_3 (A 3) n (r_2 (A 3) n (r_1 (A 3) n t))))))
            · intro K_226
              refine r_aload_n C dX6_readTurn_210 rfl rfl ?_
              refine r_bipush C (v := 60) dX6_readTurn_211 rfl ?_
              refine r_bipush C (v := 60) dX6_readTurn_213 rfl ?_
              refine r_cVi C (c_X6_isNext (t := (r_4 (A 3) n (r_3 (A 3) n (r_2 (A 3) n (r_1 (A 3) n t))))) (n := n) MA_pM hn hn60 h4) lk_X6_119 rfl (MA_o MA_pM) rfl rfl ⟨(Nat.le_of_ble_eq_true rfl), (Nat.le_of_ble_eq_true rfl), (Nat.le_of_ble_eq_true rfl), (Nat.le_of_ble_eq_true rfl), (Nat.le_of_ble_eq_true rfl)⟩ dX6_readTurn_215 ?_
              refine r_if_eq C 225 dX6_readTurn_218 (by decide) (fun c_218 => ?_) (fun c_218 => ?_)
              · have c_218 := bI_f c_218
                refine r_iconst C (v := 1) dX6_readTurn_225 rfl ?_
                refine V.st0 (show _ = (bI (!r_y (A 3) n (r_4 (A 3) n (r_3 (A 3) n (r_2 (A 3) n (r_1 (A 3) n t)))))) from by unfold r_y; rw [c_218]; rfl) ?_
                exact K_226
              · have c_218 := bI_t c_218
                refine r_iconst C (v := 0) dX6_readTurn_221 rfl ?_
                refine r_goto C 226 dX6_readTurn_222 (by decide) ?_
                refine V.st0 (show _ = (bI (!r_y (A 3) n (r_4 (A 3) n (r_3 (A 3) n (r_2 (A 3) n (r_1 (A 3) n t)))))) from by unfold r_y; rw [c_218]; rfl) ?_
                exact K_226
            · skip
              refine r_istore_n C dX6_readTurn_226 rfl (by decide) ?_
              refine r_iload_n C dX6_readTurn_227 rfl rfl ?_
              refine r_if_ne C 242 dX6_readTurn_228 (by decide) (fun c_228 => ?_) (fun c_228 => ?_)
              · have c_228 := bI_t c_228
                refine r_aload_n C dX6_readTurn_242 rfl rfl ?_
                refine r_bipush C (v := 62) dX6_readTurn_243 rfl ?_
                refine r_bipush C (v := 62) dX6_readTurn_245 rfl ?_
                refine r_cVi C (c_X6_sign (t := (r_4 (A 3) n (r_3 (A 3) n (r_2 (A 3) n (r_1 (A 3) n t))))) (n := n) MA_pM hn hn60 h4) lk_X6_126 rfl (MA_o MA_pM) rfl rfl ⟨(Nat.le_of_ble_eq_true rfl), (Nat.le_of_ble_eq_true rfl), (Nat.le_of_ble_eq_true rfl), (Nat.le_of_ble_eq_true rfl), (Nat.le_of_ble_eq_true rfl)⟩ dX6_readTurn_247 ?_
                refine V.heap (pM_pM _ _ _ _ _ _ _ _) ?_
                refine r_istore_n C dX6_readTurn_250 rfl (by decide) ?_
                refine r_aload_n C dX6_readTurn_251 rfl rfl ?_
                refine r_iload_n C dX6_readTurn_252 rfl rfl ?_
                refine r_put C (j := 15) tyX6 tyX6_ok nmX6 rfl in_X6 (MA_o MA_pM) (by decide) fl_X6_135 rfl rfl rfl (by first | rfl | decide) (by first | rfl | decide) (Nat.le_of_ble_eq_true rfl) dX6_readTurn_253 ?_
                refine V.heap (qM_f 9 _ rfl) ?_
                refine V.heap (congrArg (fun X => pM G h mo S X dg) tA_9) ?_
                exact r_vret C rfl (Nat.le_of_ble_eq_true rfl) (Nat.le_of_ble_eq_true rfl) ⟨rfl, congrArg (fun X => pM G h mo S X dg) (by rw [Bool.not_eq_true'] at c_228; unfold r_T; rw [if_pos c_100]; unfold r_5; rw [c_228]; rfl), rfl⟩ dX6_readTurn_256
              · have c_228 := bI_f c_228
                refine r_aload_n C dX6_readTurn_231 rfl rfl ?_
                refine r_bipush C (v := 60) dX6_readTurn_232 rfl ?_
                refine r_bipush C (v := 60) dX6_readTurn_234 rfl ?_
                refine r_cVi C (c_X6_sign (t := (r_4 (A 3) n (r_3 (A 3) n (r_2 (A 3) n (r_1 (A 3) n t))))) (n := n) MA_pM hn hn60 h4) lk_X6_126 rfl (MA_o MA_pM) rfl rfl ⟨(Nat.le_of_ble_eq_true rfl), (Nat.le_of_ble_eq_true rfl), (Nat.le_of_ble_eq_true rfl), (Nat.le_of_ble_eq_true rfl), (Nat.le_of_ble_eq_true rfl)⟩ dX6_readTurn_236 ?_
                refine V.heap (pM_pM _ _ _ _ _ _ _ _) ?_
                refine r_goto C 250 dX6_readTurn_239 (by decide) ?_
                refine r_istore_n C dX6_readTurn_250 rfl (by decide) ?_
                refine r_aload_n C dX6_readTurn_251 rfl rfl ?_
                refine r_iload_n C dX6_readTurn_252 rfl rfl ?_
                refine r_put C (j := 15) tyX6 tyX6_ok nmX6 rfl in_X6 (MA_o MA_pM) (by decide) fl_X6_135 rfl rfl rfl (by first | rfl | decide) (by first | rfl | decide) (Nat.le_of_ble_eq_true rfl) dX6_readTurn_253 ?_
                refine V.heap (qM_f 9 _ rfl) ?_
                refine V.heap (congrArg (fun X => pM G h mo S X dg) tA_9) ?_
                exact r_vret C rfl (Nat.le_of_ble_eq_true rfl) (Nat.le_of_ble_eq_true rfl) ⟨rfl, congrArg (fun X => pM G h mo S X dg) (by rw [Bool.not_eq_false'] at c_228; unfold r_T; rw [if_pos c_100]; unfold r_5; rw [c_228]; rfl), rfl⟩ dX6_readTurn_256
          refine r_aload_n C dX6_readTurn_118 rfl rfl ?_
          refine r_bipush C (v := 48) dX6_readTurn_119 rfl ?_
          refine r_bipush C (v := 57) dX6_readTurn_121 rfl ?_
          refine r_cVi C (c_X6_isNext (t := (r_2 (A 3) n (r_1 (A 3) n t))) (n := n) MA_pM hn hn60 h2) lk_X6_119 rfl (MA_o MA_pM) rfl rfl ⟨(Nat.le_of_ble_eq_true rfl), (Nat.le_of_ble_eq_true rfl), (Nat.le_of_ble_eq_true rfl), (Nat.le_of_ble_eq_true rfl), (Nat.le_of_ble_eq_true rfl)⟩ dX6_readTurn_123 ?_
          refine r_if_eq C 195 dX6_readTurn_126 (by decide) (fun c_126 => ?_) (fun c_126 => ?_)
          · have c_126 := bI_f c_126
            refine V.heap (congrArg (fun X => pM G h mo S (tA A X) dg) (Eq.symm (show (r_3 (A 3) n (r_2 (A 3) n (r_1 (A 3) n t))) = _ from by unfold r_3 r_mo; rw [c_126]; rfl))) ?_
            refine V.sub [(0, .ref mo)] ⟨rfl, trivial⟩ ?_
            exact K195
          · have c_126 := bI_t c_126
            have hlt := nx_lt c_126
            refine r_aload_n C dX6_readTurn_129 rfl rfl ?_
            refine r_get C (j := 13) rfl in_X6 (MA_o MA_pM) (by decide) fl_X6_129 rfl rfl dX6_readTurn_130 ?_
            refine V.st0 ((show _ = (r_2 (A 3) n (r_1 (A 3) n t)).2.2.2.1 from rfl)) ?_
            refine r_if_le C 195 dX6_readTurn_133 (by decide) (fun c_133 => ?_) (fun c_133 => ?_)
            · have e_133 := i32_nlt c_133
              refine V.heap (congrArg (fun X => pM G h mo S (tA A X) dg) (Eq.symm (show (r_3 (A 3) n (r_2 (A 3) n (r_1 (A 3) n t))) = _ from by unfold r_3 r_mo; rw [c_126, decide_eq_false (show ¬ 0 < (r_2 (A 3) n (r_1 (A 3) n t)).2.2.2.1 from e_133)]; rfl))) ?_
              refine V.sub [(0, .ref mo)] ⟨rfl, trivial⟩ ?_
              exact K195
            · have e_133 := i32_lt c_133
              refine r_bipush C (v := 10) dX6_readTurn_136 rfl ?_
              refine r_aload_n C dX6_readTurn_138 rfl rfl ?_
              refine r_get C (j := 13) rfl in_X6 (MA_o MA_pM) (by decide) fl_X6_129 rfl rfl dX6_readTurn_139 ?_
              refine V.st0 ((show _ = (r_2 (A 3) n (r_1 (A 3) n t)).2.2.2.1 from rfl)) ?_
              refine r_imul C dX6_readTurn_142 ?_
              refine r_aload_n C dX6_readTurn_143 rfl rfl ?_
              refine r_get C (j := 6) rfl in_X6 (MA_o MA_pM) (by decide) fl_X6_19 rfl rfl dX6_readTurn_144 ?_
              refine r_aload_n C dX6_readTurn_147 rfl rfl ?_
              refine r_get C (j := 10) rfl in_X6 (MA_o MA_pM) (by decide) fl_X6_112 rfl rfl dX6_readTurn_148 ?_
              refine V.st0 ((show _ = nI (r_2 (A 3) n (r_1 (A 3) n t)).1 from rfl)) ?_
              refine r_iald C (MA_3 MA_pM) (vp_in_nI (by omega) (by decide)) dX6_readTurn_151 ?_
              refine V.st0 (cl_f (by omega)) ?_
              refine r_iadd C dX6_readTurn_152 ?_
              refine r_bipush C (v := 48) dX6_readTurn_153 rfl ?_
              refine r_isub C dX6_readTurn_155 ?_
              refine r_bipush C (v := 28) dX6_readTurn_156 rfl ?_
              refine r_icmp_ge C 195 dX6_readTurn_158 (by decide) (fun c_158 => ?_) (fun c_158 => ?_)
              · have e_158 := i32_nlt c_158
                refine V.heap (congrArg (fun X => pM G h mo S (tA A X) dg) (Eq.symm (show (r_3 (A 3) n (r_2 (A 3) n (r_1 (A 3) n t))) = _ from by unfold r_3 r_mo; rw [c_126, decide_eq_true (show 0 < (r_2 (A 3) n (r_1 (A 3) n t)).2.2.2.1 from e_133), decide_eq_false (show ¬ 10 * (r_2 (A 3) n (r_1 (A 3) n t)).2.2.2.1 + (A 3) (r_2 (A 3) n (r_1 (A 3) n t)).1 - 48 < 28 from e_158)]; rfl))) ?_
                refine V.sub [(0, .ref mo)] ⟨rfl, trivial⟩ ?_
                exact K195
              · have e_158 := i32_lt c_158
                refine r_aload_n C dX6_readTurn_161 rfl rfl ?_
                refine r_bipush C (v := 10) dX6_readTurn_162 rfl ?_
                refine r_aload_n C dX6_readTurn_164 rfl rfl ?_
                refine r_get C (j := 13) rfl in_X6 (MA_o MA_pM) (by decide) fl_X6_129 rfl rfl dX6_readTurn_165 ?_
                refine V.st0 ((show _ = (r_2 (A 3) n (r_1 (A 3) n t)).2.2.2.1 from rfl)) ?_
                refine r_imul C dX6_readTurn_168 ?_
                refine r_aload_n C dX6_readTurn_169 rfl rfl ?_
                refine r_get C (j := 6) rfl in_X6 (MA_o MA_pM) (by decide) fl_X6_19 rfl rfl dX6_readTurn_170 ?_
                refine r_aload_n C dX6_readTurn_173 rfl rfl ?_
                refine r_get C (j := 10) rfl in_X6 (MA_o MA_pM) (by decide) fl_X6_112 rfl rfl dX6_readTurn_174 ?_
                refine V.st0 ((show _ = nI (r_2 (A 3) n (r_1 (A 3) n t)).1 from rfl)) ?_
                refine r_iald C (MA_3 MA_pM) (vp_in_nI (by omega) (by decide)) dX6_readTurn_177 ?_
                refine V.st0 (cl_f (by omega)) ?_
                refine r_iadd C dX6_readTurn_178 ?_
                refine r_bipush C (v := 48) dX6_readTurn_179 rfl ?_
                refine r_isub C dX6_readTurn_181 ?_
                refine r_put C (j := 13) tyX6 tyX6_ok nmX6 rfl in_X6 (MA_o MA_pM) (by decide) fl_X6_129 rfl rfl rfl (by first | rfl | decide) (by first | rfl | decide) (Nat.le_of_ble_eq_true rfl) dX6_readTurn_182 ?_
                refine V.heap (qM_f 7 _ rfl) ?_
                refine V.heap (congrArg (fun X => pM G h mo S X dg) tA_7) ?_
                refine r_aload_n C dX6_readTurn_185 rfl rfl ?_
                refine r_dup C dX6_readTurn_186 rfl ?_
                refine r_get C (j := 10) rfl in_X6 (MA_o MA_pM) (by decide) fl_X6_112 rfl rfl dX6_readTurn_187 ?_
                refine V.st0 ((show _ = nI (r_2 (A 3) n (r_1 (A 3) n t)).1 from rfl)) ?_
                refine r_iconst C (v := 1) dX6_readTurn_190 rfl ?_
                refine r_iadd C dX6_readTurn_191 ?_
                refine V.st0 (nI_add ((r_2 (A 3) n (r_1 (A 3) n t)).1) (1)) ?_
                refine r_put C (j := 10) tyX6 tyX6_ok nmX6 rfl in_X6 (MA_o MA_pM) (by decide) fl_X6_112 rfl rfl rfl (by first | rfl | decide) (by first | rfl | decide) (Nat.le_of_ble_eq_true rfl) dX6_readTurn_192 ?_
                refine V.heap (qM_f 4 (nI (((r_2 (A 3) n (r_1 (A 3) n t)).1 + 1))) rfl) ?_
                refine V.heap (congrArg (fun X => pM G h mo S X dg) tA_4) ?_
                refine V.heap (congrArg (fun X => pM G h mo S (tA A X) dg) (Eq.symm (show (r_3 (A 3) n (r_2 (A 3) n (r_1 (A 3) n t))) = _ from by unfold r_3 r_mo; rw [c_126, decide_eq_true (show 0 < (r_2 (A 3) n (r_1 (A 3) n t)).2.2.2.1 from e_133), decide_eq_true (show 10 * (r_2 (A 3) n (r_1 (A 3) n t)).2.2.2.1 + (A 3) (r_2 (A 3) n (r_1 (A 3) n t)).1 - 48 < 28 from e_158)]; rfl))) ?_
                refine V.sub [(0, .ref mo)] ⟨rfl, trivial⟩ ?_
                exact K195

