/-! THE MODEL'S TURNS -/
section MT
variable {n : Nat} {S : gS} {P K W Q T F : Nat} {H R L : Nat → Nat} {gr : Nat → Nat → Nat} {ag : Nat → Nat}
theorem gO.end1 (o : gO n S P K W Q T F H R L gr ag) : gO n (g_end0 S) P K W Q (T + 1) F H R L gr ag := by
  obtain ⟨k0, k1, k2, k3, k4, k5, k6⟩ := o.n5
  exact ⟨⟨k0, k1, k2, by show S 5 3 + 1 = nI (T + 1); rw [k3, nI_1], k4, k5, k6⟩, o.2⟩
theorem isov_z {X : gS} (o2 : gO n (g_end0 X) P K W Q T F H R L gr ag) {q : Nat} (hq : q < 4) (hm : (g_end0 X) 5 1 = nI q) (h0 : nI (H q) = 0) : gc (g_end0 X) 1 (-1) = g_end X := by
  obtain ⟨h1, h2⟩ := isov_0 o2 hq hm h0
  unfold g_end
  rw [h1, if_pos rfl, h2]
theorem isov_end {X : gS} (o2 : gO n (g_end0 X) P K W Q T F H R L gr ag) {q : Nat} (hq : q < P) (hm : (g_end0 X) 5 1 = nI q) (h0 : ¬ nI (H q) = 0) : gc (g_age (g_end0 X) (nI q) (H q)) 1 (if Q = P then -1 else if q + 1 < P then nI (q + 1) else 0) = g_end X := by
  have hP : P ≤ 4 := o2.n5.1.2.1
  obtain ⟨h1, h2⟩ := isov_1 o2 (by omega) hm h0
  unfold g_end
  rw [h1, h2]
  by_cases c : Q = P
  · rw [if_pos c, decide_eq_true c, if_pos rfl]
  · rw [if_neg c, decide_eq_false c, if_neg (show ¬ (false = true) by decide)]
    obtain ⟨L2, gr2, ag2, o3, -⟩ := o2.age hq (H q) (Nat.le_refl _)
    rw [g_next_is o3 hq (by rw [(age_1 (nI q) (H q)).2.1]; exact hm) hP]
end MT
set_option maxHeartbeats 800000 in
set_option maxRecDepth 100000 in
theorem c_X6_rusts {G : ga_} {l : Launch} {h : HP} {sz : Nat} {mo : Nat} {S A : gS} {dg : Int64} {t : Nat} {u : Nat}  (w : MA G h mo S A dg)  (ht : t < 28) (hp : u < 4) : Mf G l yX6_rusts cX6_rusts 4 none 1 21 0 0 [.ref mo, .int (nI t), .int (nI u)] h sz none (pM G h mo (g_rust S (nI t) (nI u)) (A) (dg)) sz := by
  refine Mg.ofV [(0, .ref mo), (1, .int (nI t)), (2, .int (nI u))] (by decide) (Nat.le_of_ble_eq_true rfl) rfl ?_
  intro p e s m args below meth c C
  refine V.heap (pM_id w).symm ?_
  refine r_aload_n C dX6_rusts_0 rfl rfl ?_
  refine r_get C (j := 1) rfl in_X6 (MA_o MA_pM) (by decide) fl_X6_7 rfl rfl dX6_rusts_1 ?_
  refine r_iload_n C dX6_rusts_4 rfl rfl ?_
  refine r_iconst C (v := 1) dX6_rusts_5 rfl ?_
  refine r_cSi C (c_X6_of (a := t) (b := 1)) lk_X6_44 rfl rfl ⟨(Nat.le_of_ble_eq_true rfl), (Nat.le_of_ble_eq_true rfl), (Nat.le_of_ble_eq_true rfl), (Nat.le_of_ble_eq_true rfl), (Nat.le_of_ble_eq_true rfl)⟩ dX6_rusts_6 ?_
  refine r_iald C (MA_s MA_pM) (vp_in_nI (by omega) (by decide)) dX6_rusts_9 ?_
  refine V.st0 (en_of (t := t) (w := 1) (wi := 1) (by omega) (by omega) rfl _) ?_
  refine r_aload_n C dX6_rusts_10 rfl rfl ?_
  refine r_get C (j := 1) rfl in_X6 (MA_o MA_pM) (by decide) fl_X6_7 rfl rfl dX6_rusts_11 ?_
  refine r_iload_n C dX6_rusts_14 rfl rfl ?_
  refine r_iconst C (v := 0) dX6_rusts_15 rfl ?_
  refine r_cSi C (c_X6_of (a := t) (b := 0)) lk_X6_44 rfl rfl ⟨(Nat.le_of_ble_eq_true rfl), (Nat.le_of_ble_eq_true rfl), (Nat.le_of_ble_eq_true rfl), (Nat.le_of_ble_eq_true rfl), (Nat.le_of_ble_eq_true rfl)⟩ dX6_rusts_16 ?_
  refine r_iald C (MA_s MA_pM) (vp_in_nI (by omega) (by decide)) dX6_rusts_19 ?_
  refine V.st0 (en_of (t := t) (w := 0) (wi := 0) (by omega) (by omega) rfl _) ?_
  refine r_icmp_le C 27 dX6_rusts_20 (by decide) (fun c_20 => ?_) (fun c_20 => ?_)
  · have e_20 := i32_nlt c_20
    refine r_iconst C (v := 0) dX6_rusts_27 rfl ?_
    refine r_istore_n C dX6_rusts_28 rfl (by decide) ?_
    refine r_aload_n C dX6_rusts_29 rfl rfl ?_
    refine r_get C (j := 1) rfl in_X6 (MA_o MA_pM) (by decide) fl_X6_7 rfl rfl dX6_rusts_30 ?_
    refine r_iload_n C dX6_rusts_33 rfl rfl ?_
    refine r_iload_n C dX6_rusts_34 rfl rfl ?_
    refine r_cSi C (c_X6_of (a := t) (b := 0)) lk_X6_44 rfl rfl ⟨(Nat.le_of_ble_eq_true rfl), (Nat.le_of_ble_eq_true rfl), (Nat.le_of_ble_eq_true rfl), (Nat.le_of_ble_eq_true rfl), (Nat.le_of_ble_eq_true rfl)⟩ dX6_rusts_35 ?_
    refine r_iald C (MA_s MA_pM) (vp_in_nI (by omega) (by decide)) dX6_rusts_38 ?_
    refine V.st0 (en_of (t := t) (w := 0) (wi := 0) (by omega) (by omega) rfl _) ?_
    refine r_if_le C 85 dX6_rusts_39 (by decide) (fun c_39 => ?_) (fun c_39 => ?_)
    · have e_39 := i32_nlt c_39
      exact r_vret C rfl (Nat.le_of_ble_eq_true rfl) (Nat.le_of_ble_eq_true rfl) ⟨rfl, congrArg (fun X => pM G h mo X A dg) (by unfold g_rust g_rustH; simp [c_20, e_20, c_39, e_39]), rfl⟩ dX6_rusts_85
    · have e_39 := i32_lt c_39
      refine r_aload_n C dX6_rusts_42 rfl rfl ?_
      refine r_get C (j := 1) rfl in_X6 (MA_o MA_pM) (by decide) fl_X6_7 rfl rfl dX6_rusts_43 ?_
      refine r_iload_n C dX6_rusts_46 rfl rfl ?_
      refine r_iload_n C dX6_rusts_47 rfl rfl ?_
      refine r_cSi C (c_X6_of (a := t) (b := 0)) lk_X6_44 rfl rfl ⟨(Nat.le_of_ble_eq_true rfl), (Nat.le_of_ble_eq_true rfl), (Nat.le_of_ble_eq_true rfl), (Nat.le_of_ble_eq_true rfl), (Nat.le_of_ble_eq_true rfl)⟩ dX6_rusts_48 ?_
      refine r_dup2 C dX6_rusts_51 rfl rfl ?_
      refine r_iald C (MA_s MA_pM) (vp_in_nI (by omega) (by decide)) dX6_rusts_52 ?_
      refine V.st0 (en_of (t := t) (w := 0) (wi := 0) (by omega) (by omega) rfl _) ?_
      refine r_iconst C (v := 1) dX6_rusts_53 rfl ?_
      refine r_isub C dX6_rusts_54 ?_
      refine r_iast C (MA_s MA_pM) (vp_in_nI (by omega) (by decide)) dX6_rusts_55 ?_
      refine V.heap (qD_of (t := t) (w := 0) (wi := 0) (by omega) (by omega) rfl) ?_
      refine r_aload_n C dX6_rusts_56 rfl rfl ?_
      refine r_get C (j := 1) rfl in_X6 (MA_o MA_pM) (by decide) fl_X6_7 rfl rfl dX6_rusts_57 ?_
      refine r_iload_n C dX6_rusts_60 rfl rfl ?_
      refine r_bipush C (v := 6) dX6_rusts_61 rfl ?_
      refine r_cSi C (c_X6_of (a := t) (b := 6)) lk_X6_44 rfl rfl ⟨(Nat.le_of_ble_eq_true rfl), (Nat.le_of_ble_eq_true rfl), (Nat.le_of_ble_eq_true rfl), (Nat.le_of_ble_eq_true rfl), (Nat.le_of_ble_eq_true rfl)⟩ dX6_rusts_63 ?_
      refine r_dup2 C dX6_rusts_66 rfl rfl ?_
      refine r_iald C (MA_s MA_pM) (vp_in_nI (by omega) (by decide)) dX6_rusts_67 ?_
      refine V.st0 (en_of (t := t) (w := 6) (wi := 6) (by omega) (by omega) rfl _) ?_
      refine r_iconst C (v := 1) dX6_rusts_68 rfl ?_
      refine r_iadd C dX6_rusts_69 ?_
      refine r_iast C (MA_s MA_pM) (vp_in_nI (by omega) (by decide)) dX6_rusts_70 ?_
      refine V.heap (qI_of (t := t) (w := 6) (wi := 6) (by omega) (by omega) rfl) ?_
      refine r_aload_n C dX6_rusts_71 rfl rfl ?_
      refine r_get C (j := 1) rfl in_X6 (MA_o MA_pM) (by decide) fl_X6_7 rfl rfl dX6_rusts_72 ?_
      refine r_sipush C (v := 346) dX6_rusts_75 rfl ?_
      refine r_iload_n C dX6_rusts_78 rfl rfl ?_
      refine r_iadd C dX6_rusts_79 ?_
      refine V.st0 (nI_add (346) (u)) ?_
      refine r_dup2 C dX6_rusts_80 rfl rfl ?_
      refine r_iald C (MA_s MA_pM) (vp_in_nI (by omega) (by decide)) dX6_rusts_81 ?_
      refine V.st0 (en_tal1 (p := u) (by omega) _) ?_
      refine r_iconst C (v := 1) dX6_rusts_82 rfl ?_
      refine r_iadd C dX6_rusts_83 ?_
      refine r_iast C (MA_s MA_pM) (vp_in_nI (by omega) (by decide)) dX6_rusts_84 ?_
      refine V.heap (qI_tal1 (p := u) (by omega)) ?_
      exact r_vret C rfl (Nat.le_of_ble_eq_true rfl) (Nat.le_of_ble_eq_true rfl) ⟨rfl, congrArg (fun X => pM G h mo X A dg) (by unfold g_rust g_rustH; simp [c_20, e_20, c_39, e_39]), rfl⟩ dX6_rusts_85
  · have e_20 := i32_lt c_20
    refine r_iconst C (v := 1) dX6_rusts_23 rfl ?_
    refine r_goto C 28 dX6_rusts_24 (by decide) ?_
    refine r_istore_n C dX6_rusts_28 rfl (by decide) ?_
    refine r_aload_n C dX6_rusts_29 rfl rfl ?_
    refine r_get C (j := 1) rfl in_X6 (MA_o MA_pM) (by decide) fl_X6_7 rfl rfl dX6_rusts_30 ?_
    refine r_iload_n C dX6_rusts_33 rfl rfl ?_
    refine r_iload_n C dX6_rusts_34 rfl rfl ?_
    refine r_cSi C (c_X6_of (a := t) (b := 1)) lk_X6_44 rfl rfl ⟨(Nat.le_of_ble_eq_true rfl), (Nat.le_of_ble_eq_true rfl), (Nat.le_of_ble_eq_true rfl), (Nat.le_of_ble_eq_true rfl), (Nat.le_of_ble_eq_true rfl)⟩ dX6_rusts_35 ?_
    refine r_iald C (MA_s MA_pM) (vp_in_nI (by omega) (by decide)) dX6_rusts_38 ?_
    refine V.st0 (en_of (t := t) (w := 1) (wi := 1) (by omega) (by omega) rfl _) ?_
    refine r_if_le C 85 dX6_rusts_39 (by decide) (fun c_39 => ?_) (fun c_39 => ?_)
    · have e_39 := i32_nlt c_39
      exact r_vret C rfl (Nat.le_of_ble_eq_true rfl) (Nat.le_of_ble_eq_true rfl) ⟨rfl, congrArg (fun X => pM G h mo X A dg) (by unfold g_rust g_rustH; simp [c_20, e_20, c_39, e_39]), rfl⟩ dX6_rusts_85
    · have e_39 := i32_lt c_39
      refine r_aload_n C dX6_rusts_42 rfl rfl ?_
      refine r_get C (j := 1) rfl in_X6 (MA_o MA_pM) (by decide) fl_X6_7 rfl rfl dX6_rusts_43 ?_
      refine r_iload_n C dX6_rusts_46 rfl rfl ?_
      refine r_iload_n C dX6_rusts_47 rfl rfl ?_
      refine r_cSi C (c_X6_of (a := t) (b := 1)) lk_X6_44 rfl rfl ⟨(Nat.le_of_ble_eq_true rfl), (Nat.le_of_ble_eq_true rfl), (Nat.le_of_ble_eq_true rfl), (Nat.le_of_ble_eq_true rfl), (Nat.le_of_ble_eq_true rfl)⟩ dX6_rusts_48 ?_
      refine r_dup2 C dX6_rusts_51 rfl rfl ?_
      refine r_iald C (MA_s MA_pM) (vp_in_nI (by omega) (by decide)) dX6_rusts_52 ?_
      refine V.st0 (en_of (t := t) (w := 1) (wi := 1) (by omega) (by omega) rfl _) ?_
      refine r_iconst C (v := 1) dX6_rusts_53 rfl ?_
      refine r_isub C dX6_rusts_54 ?_
      refine r_iast C (MA_s MA_pM) (vp_in_nI (by omega) (by decide)) dX6_rusts_55 ?_
      refine V.heap (qD_of (t := t) (w := 1) (wi := 1) (by omega) (by omega) rfl) ?_
      refine r_aload_n C dX6_rusts_56 rfl rfl ?_
      refine r_get C (j := 1) rfl in_X6 (MA_o MA_pM) (by decide) fl_X6_7 rfl rfl dX6_rusts_57 ?_
      refine r_iload_n C dX6_rusts_60 rfl rfl ?_
      refine r_bipush C (v := 6) dX6_rusts_61 rfl ?_
      refine r_cSi C (c_X6_of (a := t) (b := 6)) lk_X6_44 rfl rfl ⟨(Nat.le_of_ble_eq_true rfl), (Nat.le_of_ble_eq_true rfl), (Nat.le_of_ble_eq_true rfl), (Nat.le_of_ble_eq_true rfl), (Nat.le_of_ble_eq_true rfl)⟩ dX6_rusts_63 ?_
      refine r_dup2 C dX6_rusts_66 rfl rfl ?_
      refine r_iald C (MA_s MA_pM) (vp_in_nI (by omega) (by decide)) dX6_rusts_67 ?_
      refine V.st0 (en_of (t := t) (w := 6) (wi := 6) (by omega) (by omega) rfl _) ?_
      refine r_iconst C (v := 1) dX6_rusts_68 rfl ?_
      refine r_iadd C dX6_rusts_69 ?_
      refine r_iast C (MA_s MA_pM) (vp_in_nI (by omega) (by decide)) dX6_rusts_70 ?_
      refine V.heap (qI_of (t := t) (w := 6) (wi := 6) (by omega) (by omega) rfl) ?_
      refine r_aload_n C dX6_rusts_71 rfl rfl ?_
      refine r_get C (j := 1) rfl in_X6 (MA_o MA_pM) (by decide) fl_X6_7 rfl rfl dX6_rusts_72 ?_
      refine r_sipush C (v := 346) dX6_rusts_75 rfl ?_
      refine r_iload_n C dX6_rusts_78 rfl rfl ?_
      refine r_iadd C dX6_rusts_79 ?_
      refine V.st0 (nI_add (346) (u)) ?_
      refine r_dup2 C dX6_rusts_80 rfl rfl ?_
      refine r_iald C (MA_s MA_pM) (vp_in_nI (by omega) (by decide)) dX6_rusts_81 ?_
      refine V.st0 (en_tal1 (p := u) (by omega) _) ?_
      refine r_iconst C (v := 1) dX6_rusts_82 rfl ?_
      refine r_iadd C dX6_rusts_83 ?_
      refine r_iast C (MA_s MA_pM) (vp_in_nI (by omega) (by decide)) dX6_rusts_84 ?_
      refine V.heap (qI_tal1 (p := u) (by omega)) ?_
      exact r_vret C rfl (Nat.le_of_ble_eq_true rfl) (Nat.le_of_ble_eq_true rfl) ⟨rfl, congrArg (fun X => pM G h mo X A dg) (by unfold g_rust g_rustH; simp [c_20, e_20, c_39, e_39]), rfl⟩ dX6_rusts_85

set_option maxHeartbeats 800000 in
set_option maxRecDepth 100000 in
theorem c_X6_takes {G : ga_} {l : Launch} {h : HP} {sz : Nat} {mo : Nat} {S A : gS} {dg : Int64} {u : Nat} {k t a : Nat}  (w : MA G h mo S A dg)  (hp : u < 4) (hK : S 5 2 = nI k) (hk : k < 28) (ht : t < 28) (et : tAt 28 28 (S 4) 0 (nI k) = nI t) (hh : tAt 4 16 (S 2) (nI u) 0 = nI a) (ha : a < 28) : Mf G l yX6_takes cX6_takes 3 (some .int) 1 21 0 0 [.ref mo, .int (nI u)] h sz (some (.int (g_takeT S (nI u)))) (pM G h mo (g_take S (nI u)) (A) (dg)) sz := by
  refine Mg.ofV [(0, .ref mo), (1, .int (nI u))] (by decide) (Nat.le_of_ble_eq_true rfl) rfl ?_
  intro p e s m args below meth c C
  refine V.heap (pM_id w).symm ?_
  have hT : g_takeT S (nI u) = nI t := by unfold g_takeT; rw [hK]; exact et
  have hH : g_held (g_take3 S (nI u)) (nI u) = nI a := hh
  refine r_aload_n C dX6_takes_0 rfl rfl ?_
  refine r_get C (j := 1) rfl in_X6 (MA_o MA_pM) (by decide) fl_X6_7 rfl rfl dX6_takes_1 ?_
  refine r_sipush C (v := 196) dX6_takes_4 rfl ?_
  refine r_aload_n C dX6_takes_7 rfl rfl ?_
  refine r_get C (j := 1) rfl in_X6 (MA_o MA_pM) (by decide) fl_X6_7 rfl rfl dX6_takes_8 ?_
  refine r_sipush C (v := 224) dX6_takes_11 rfl ?_
  refine r_iald C (MA_s MA_pM) (vp_in_nI (n := 224) (by decide) (by decide)) dX6_takes_14 ?_
  refine V.st0 (en_sc2 _) ?_
  refine V.st0 (hK) ?_
  refine r_iadd C dX6_takes_15 ?_
  refine V.st0 (nI_add (196) (k)) ?_
  refine r_iald C (MA_s MA_pM) (vp_in_nI (by omega) (by decide)) dX6_takes_16 ?_
  refine V.st0 (en_ord (i := k) (by omega) _) ?_
  refine V.st0 (et) ?_
  refine r_istore_n C dX6_takes_17 rfl (by decide) ?_
  refine r_aload_n C dX6_takes_18 rfl rfl ?_
  refine r_get C (j := 1) rfl in_X6 (MA_o MA_pM) (by decide) fl_X6_7 rfl rfl dX6_takes_19 ?_
  refine r_sipush C (v := 224) dX6_takes_22 rfl ?_
  refine r_dup2 C dX6_takes_25 rfl rfl ?_
  refine r_iald C (MA_s MA_pM) (vp_in_nI (n := 224) (by decide) (by decide)) dX6_takes_26 ?_
  refine V.st0 (en_sc2 _) ?_
  refine r_iconst C (v := 1) dX6_takes_27 rfl ?_
  refine r_iadd C dX6_takes_28 ?_
  refine r_iast C (MA_s MA_pM) (vp_in_nI (n := 224) (by decide) (by decide)) dX6_takes_29 ?_
  refine V.heap (qM_sc2 _) ?_
  refine r_aload_n C dX6_takes_30 rfl rfl ?_
  refine r_get C (j := 1) rfl in_X6 (MA_o MA_pM) (by decide) fl_X6_7 rfl rfl dX6_takes_31 ?_
  refine r_iload_n C dX6_takes_34 rfl rfl ?_
  refine r_iconst C (v := 2) dX6_takes_35 rfl ?_
  refine r_cSi C (c_X6_of (a := t) (b := 2)) lk_X6_44 rfl rfl ⟨(Nat.le_of_ble_eq_true rfl), (Nat.le_of_ble_eq_true rfl), (Nat.le_of_ble_eq_true rfl), (Nat.le_of_ble_eq_true rfl), (Nat.le_of_ble_eq_true rfl)⟩ dX6_takes_36 ?_
  refine r_iconst C (v := 1) dX6_takes_39 rfl ?_
  refine r_iast C (MA_s MA_pM) (vp_in_nI (by omega) (by decide)) dX6_takes_40 ?_
  refine V.heap (qP_of (t := t) (w := 2) (wi := 2) (by omega) (by omega) rfl) ?_
  refine r_aload_n C dX6_takes_41 rfl rfl ?_
  refine r_get C (j := 1) rfl in_X6 (MA_o MA_pM) (by decide) fl_X6_7 rfl rfl dX6_takes_42 ?_
  refine r_iload_n C dX6_takes_45 rfl rfl ?_
  refine r_iconst C (v := 3) dX6_takes_46 rfl ?_
  refine r_cSi C (c_X6_of (a := t) (b := 3)) lk_X6_44 rfl rfl ⟨(Nat.le_of_ble_eq_true rfl), (Nat.le_of_ble_eq_true rfl), (Nat.le_of_ble_eq_true rfl), (Nat.le_of_ble_eq_true rfl), (Nat.le_of_ble_eq_true rfl)⟩ dX6_takes_47 ?_
  refine r_iload_n C dX6_takes_50 rfl rfl ?_
  refine r_iast C (MA_s MA_pM) (vp_in_nI (by omega) (by decide)) dX6_takes_51 ?_
  refine V.heap (qP_of (t := t) (w := 3) (wi := 3) (by omega) (by omega) rfl) ?_
  refine r_aload_n C dX6_takes_52 rfl rfl ?_
  refine r_get C (j := 1) rfl in_X6 (MA_o MA_pM) (by decide) fl_X6_7 rfl rfl dX6_takes_53 ?_
  refine r_iload_n C dX6_takes_56 rfl rfl ?_
  refine r_aload_n C dX6_takes_57 rfl rfl ?_
  refine r_get C (j := 1) rfl in_X6 (MA_o MA_pM) (by decide) fl_X6_7 rfl rfl dX6_takes_58 ?_
  refine r_sipush C (v := 337) dX6_takes_61 rfl ?_
  refine r_iload_n C dX6_takes_64 rfl rfl ?_
  refine r_iadd C dX6_takes_65 ?_
  refine V.st0 (nI_add (337) (u)) ?_
  refine r_iald C (MA_s MA_pM) (vp_in_nI (by omega) (by decide)) dX6_takes_66 ?_
  refine V.st0 (en_tal0 (p := u) (by omega) _) ?_
  refine V.st0 (hh) ?_
  refine r_cSi C (c_X6_inHand (a := u) (b := a)) lk_X6_48 rfl rfl ⟨(Nat.le_of_ble_eq_true rfl), (Nat.le_of_ble_eq_true rfl), (Nat.le_of_ble_eq_true rfl), (Nat.le_of_ble_eq_true rfl), (Nat.le_of_ble_eq_true rfl)⟩ dX6_takes_67 ?_
  refine r_iload_n C dX6_takes_70 rfl rfl ?_
  refine r_iast C (MA_s MA_pM) (vp_in_nI (by omega) (by decide)) dX6_takes_71 ?_
  refine V.heap (qP_ih (p := u) (i := a) (by omega) (by omega)) ?_
  refine r_aload_n C dX6_takes_72 rfl rfl ?_
  refine r_get C (j := 1) rfl in_X6 (MA_o MA_pM) (by decide) fl_X6_7 rfl rfl dX6_takes_73 ?_
  refine r_sipush C (v := 337) dX6_takes_76 rfl ?_
  refine r_iload_n C dX6_takes_79 rfl rfl ?_
  refine r_iadd C dX6_takes_80 ?_
  refine V.st0 (nI_add (337) (u)) ?_
  refine r_dup2 C dX6_takes_81 rfl rfl ?_
  refine r_iald C (MA_s MA_pM) (vp_in_nI (by omega) (by decide)) dX6_takes_82 ?_
  refine V.st0 (en_tal0 (p := u) (by omega) _) ?_
  refine r_iconst C (v := 1) dX6_takes_83 rfl ?_
  refine r_iadd C dX6_takes_84 ?_
  refine r_iast C (MA_s MA_pM) (vp_in_nI (by omega) (by decide)) dX6_takes_85 ?_
  refine V.heap (qI_tal0 (p := u) (by omega)) ?_
  refine r_iload_n C dX6_takes_86 rfl rfl ?_
  exact r_iret C rfl (Nat.le_of_ble_eq_true rfl) (Nat.le_of_ble_eq_true rfl) ⟨by rw [hT], congrArg (fun X => pM G h mo X A dg) (by unfold g_take; rw [hH]; unfold g_take3; rw [hT]), rfl⟩ dX6_takes_87

set_option maxHeartbeats 800000 in
set_option maxRecDepth 100000 in
theorem c_X6_puts {G : ga_} {l : Launch} {h : HP} {sz : Nat} {mo : Nat} {S A : gS} {dg : Int64} {t : Nat} {r : Nat} {d : Nat}  (w : MA G h mo S A dg)  (ht : t < 28) (hr : r < 3) (hde : d < 2) : Mf G l yX6_puts cX6_puts 5 none 1 21 0 0 [.ref mo, .int (nI t), .int (nI r), .int (nI d)] h sz none (pM G h mo (gP (gP (g_putE S (nI t) (nI r) (nI d)) 0 (nI t) 2 2) 0 (nI t) 5 (nI r)) (A) (dg)) sz := by
  refine Mg.ofV [(0, .ref mo), (1, .int (nI t)), (2, .int (nI r)), (3, .int (nI d))] (by decide) (Nat.le_of_ble_eq_true rfl) rfl ?_
  intro p e s m args below meth c C
  refine V.heap (pM_id w).symm ?_
  refine r_aload_n C dX6_puts_0 rfl rfl ?_
  refine r_get C (j := 1) rfl in_X6 (MA_o MA_pM) (by decide) fl_X6_7 rfl rfl dX6_puts_1 ?_
  refine r_iload_n C dX6_puts_4 rfl rfl ?_
  refine r_iconst C (v := 0) dX6_puts_5 rfl ?_
  refine r_cSi C (c_X6_ofRow (a := r) (b := 0)) lk_X6_62 rfl rfl ⟨(Nat.le_of_ble_eq_true rfl), (Nat.le_of_ble_eq_true rfl), (Nat.le_of_ble_eq_true rfl), (Nat.le_of_ble_eq_true rfl), (Nat.le_of_ble_eq_true rfl)⟩ dX6_puts_6 ?_
  refine r_iald C (MA_s MA_pM) (vp_in_nI (by omega) (by decide)) dX6_puts_9 ?_
  refine V.st0 (en_row (r := r) (w := 0) (wi := 0) (by omega) (by omega) rfl _) ?_
  refine r_if_ne C 56 dX6_puts_10 (by decide) (fun c_10 => ?_) (fun c_10 => ?_)
  · skip
    refine r_aload_n C dX6_puts_56 rfl rfl ?_
    refine r_get C (j := 1) rfl in_X6 (MA_o MA_pM) (by decide) fl_X6_7 rfl rfl dX6_puts_57 ?_
    refine r_iload_n C dX6_puts_60 rfl rfl ?_
    refine r_iconst C (v := 0) dX6_puts_61 rfl ?_
    refine r_cSi C (c_X6_of (a := t) (b := 0)) lk_X6_44 rfl rfl ⟨(Nat.le_of_ble_eq_true rfl), (Nat.le_of_ble_eq_true rfl), (Nat.le_of_ble_eq_true rfl), (Nat.le_of_ble_eq_true rfl), (Nat.le_of_ble_eq_true rfl)⟩ dX6_puts_62 ?_
    refine r_iald C (MA_s MA_pM) (vp_in_nI (by omega) (by decide)) dX6_puts_65 ?_
    refine V.st0 (en_of (t := t) (w := 0) (wi := 0) (by omega) (by omega) rfl _) ?_
    refine r_aload_n C dX6_puts_66 rfl rfl ?_
    refine r_get C (j := 1) rfl in_X6 (MA_o MA_pM) (by decide) fl_X6_7 rfl rfl dX6_puts_67 ?_
    refine r_iload_n C dX6_puts_70 rfl rfl ?_
    refine r_iconst C (v := 1) dX6_puts_71 rfl ?_
    refine r_iload_n C dX6_puts_72 rfl rfl ?_
    refine r_iadd C dX6_puts_73 ?_
    refine V.st0 (nI_add (1) (d)) ?_
    refine r_cSi C (c_X6_ofRow (a := r) (b := (1 + d))) lk_X6_62 rfl rfl ⟨(Nat.le_of_ble_eq_true rfl), (Nat.le_of_ble_eq_true rfl), (Nat.le_of_ble_eq_true rfl), (Nat.le_of_ble_eq_true rfl), (Nat.le_of_ble_eq_true rfl)⟩ dX6_puts_74 ?_
    refine r_iald C (MA_s MA_pM) (vp_in_nI (by omega) (by decide)) dX6_puts_77 ?_
    refine V.st0 (en_row (r := r) (w := (1 + d)) (wi := nI ((1 + d))) (by omega) (by omega) rfl _) ?_
    refine r_icmp_ne C 85 dX6_puts_78 (by decide) (fun c_78 => ?_) (fun c_78 => ?_)
    · skip
      refine r_iconst C (v := 1) dX6_puts_85 rfl ?_
      refine r_istore C dX6_puts_86 (by decide) ?_
      refine r_aload_n C dX6_puts_88 rfl rfl ?_
      refine r_get C (j := 1) rfl in_X6 (MA_o MA_pM) (by decide) fl_X6_7 rfl rfl dX6_puts_89 ?_
      refine r_iload_n C dX6_puts_92 rfl rfl ?_
      refine r_iconst C (v := 1) dX6_puts_93 rfl ?_
      refine r_iload_n C dX6_puts_94 rfl rfl ?_
      refine r_iadd C dX6_puts_95 ?_
      refine V.st0 (nI_add (1) (d)) ?_
      refine r_cSi C (c_X6_ofRow (a := r) (b := (1 + d))) lk_X6_62 rfl rfl ⟨(Nat.le_of_ble_eq_true rfl), (Nat.le_of_ble_eq_true rfl), (Nat.le_of_ble_eq_true rfl), (Nat.le_of_ble_eq_true rfl), (Nat.le_of_ble_eq_true rfl)⟩ dX6_puts_96 ?_
      refine r_aload_n C dX6_puts_99 rfl rfl ?_
      refine r_get C (j := 1) rfl in_X6 (MA_o MA_pM) (by decide) fl_X6_7 rfl rfl dX6_puts_100 ?_
      refine r_iload_n C dX6_puts_103 rfl rfl ?_
      refine r_iconst C (v := 1) dX6_puts_104 rfl ?_
      refine r_iload C dX6_puts_105 rfl ?_
      refine r_isub C dX6_puts_107 ?_
      refine V.st0 (pk_sub (a := 1) (b := 1) (by omega)) ?_
      refine r_cSi C (c_X6_of (a := t) (b := (1 - 1))) lk_X6_44 rfl rfl ⟨(Nat.le_of_ble_eq_true rfl), (Nat.le_of_ble_eq_true rfl), (Nat.le_of_ble_eq_true rfl), (Nat.le_of_ble_eq_true rfl), (Nat.le_of_ble_eq_true rfl)⟩ dX6_puts_108 ?_
      refine r_iald C (MA_s MA_pM) (vp_in_nI (by omega) (by decide)) dX6_puts_111 ?_
      refine V.st0 (en_of (t := t) (w := (1 - 1)) (wi := nI ((1 - 1))) (by omega) (by omega) rfl _) ?_
      refine r_iast C (MA_s MA_pM) (vp_in_nI (by omega) (by decide)) dX6_puts_112 ?_
      refine V.heap (qP_row (r := r) (w := (1 + d)) (wi := nI ((1 + d))) (by omega) (by omega) rfl) ?_
      refine r_aload_n C dX6_puts_113 rfl rfl ?_
      refine r_get C (j := 1) rfl in_X6 (MA_o MA_pM) (by decide) fl_X6_7 rfl rfl dX6_puts_114 ?_
      refine r_iload_n C dX6_puts_117 rfl rfl ?_
      refine r_iconst C (v := 0) dX6_puts_118 rfl ?_
      refine r_cSi C (c_X6_ofRow (a := r) (b := 0)) lk_X6_62 rfl rfl ⟨(Nat.le_of_ble_eq_true rfl), (Nat.le_of_ble_eq_true rfl), (Nat.le_of_ble_eq_true rfl), (Nat.le_of_ble_eq_true rfl), (Nat.le_of_ble_eq_true rfl)⟩ dX6_puts_119 ?_
      refine r_dup2 C dX6_puts_122 rfl rfl ?_
      refine r_iald C (MA_s MA_pM) (vp_in_nI (by omega) (by decide)) dX6_puts_123 ?_
      refine V.st0 (en_row (r := r) (w := 0) (wi := 0) (by omega) (by omega) rfl _) ?_
      refine r_iconst C (v := 1) dX6_puts_124 rfl ?_
      refine r_iadd C dX6_puts_125 ?_
      refine r_iast C (MA_s MA_pM) (vp_in_nI (by omega) (by decide)) dX6_puts_126 ?_
      refine V.heap (qI_row (r := r) (w := 0) (wi := 0) (by omega) (by omega) rfl) ?_
      refine r_aload_n C dX6_puts_127 rfl rfl ?_
      refine r_get C (j := 1) rfl in_X6 (MA_o MA_pM) (by decide) fl_X6_7 rfl rfl dX6_puts_128 ?_
      refine r_iload_n C dX6_puts_131 rfl rfl ?_
      refine r_iconst C (v := 3) dX6_puts_132 rfl ?_
      refine r_cSi C (c_X6_ofRow (a := r) (b := 3)) lk_X6_62 rfl rfl ⟨(Nat.le_of_ble_eq_true rfl), (Nat.le_of_ble_eq_true rfl), (Nat.le_of_ble_eq_true rfl), (Nat.le_of_ble_eq_true rfl), (Nat.le_of_ble_eq_true rfl)⟩ dX6_puts_133 ?_
      refine r_iload_n C dX6_puts_136 rfl rfl ?_
      refine r_iast C (MA_s MA_pM) (vp_in_nI (by omega) (by decide)) dX6_puts_137 ?_
      refine V.heap (qP_row (r := r) (w := 3) (wi := 3) (by omega) (by omega) rfl) ?_
      refine r_aload_n C dX6_puts_138 rfl rfl ?_
      refine r_get C (j := 1) rfl in_X6 (MA_o MA_pM) (by decide) fl_X6_7 rfl rfl dX6_puts_139 ?_
      refine r_iload_n C dX6_puts_142 rfl rfl ?_
      refine r_iconst C (v := 2) dX6_puts_143 rfl ?_
      refine r_cSi C (c_X6_of (a := t) (b := 2)) lk_X6_44 rfl rfl ⟨(Nat.le_of_ble_eq_true rfl), (Nat.le_of_ble_eq_true rfl), (Nat.le_of_ble_eq_true rfl), (Nat.le_of_ble_eq_true rfl), (Nat.le_of_ble_eq_true rfl)⟩ dX6_puts_144 ?_
      refine r_iconst C (v := 2) dX6_puts_147 rfl ?_
      refine r_iast C (MA_s MA_pM) (vp_in_nI (by omega) (by decide)) dX6_puts_148 ?_
      refine V.heap (qP_of (t := t) (w := 2) (wi := 2) (by omega) (by omega) rfl) ?_
      refine r_aload_n C dX6_puts_149 rfl rfl ?_
      refine r_get C (j := 1) rfl in_X6 (MA_o MA_pM) (by decide) fl_X6_7 rfl rfl dX6_puts_150 ?_
      refine r_iload_n C dX6_puts_153 rfl rfl ?_
      refine r_iconst C (v := 5) dX6_puts_154 rfl ?_
      refine r_cSi C (c_X6_of (a := t) (b := 5)) lk_X6_44 rfl rfl ⟨(Nat.le_of_ble_eq_true rfl), (Nat.le_of_ble_eq_true rfl), (Nat.le_of_ble_eq_true rfl), (Nat.le_of_ble_eq_true rfl), (Nat.le_of_ble_eq_true rfl)⟩ dX6_puts_155 ?_
      refine r_iload_n C dX6_puts_158 rfl rfl ?_
      refine r_iast C (MA_s MA_pM) (vp_in_nI (by omega) (by decide)) dX6_puts_159 ?_
      refine V.heap (qP_of (t := t) (w := 5) (wi := 5) (by omega) (by omega) rfl) ?_
      exact r_vret C rfl (Nat.le_of_ble_eq_true rfl) (Nat.le_of_ble_eq_true rfl) ⟨rfl, congrArg (fun X => pM G h mo X A dg) (by unfold g_putE; simp [c_10, c_78, show (1 : Int32) + nI d = nI (1 + d) from nI_add 1 d]; try rfl), rfl⟩ dX6_puts_160
    · skip
      refine r_iconst C (v := 0) dX6_puts_81 rfl ?_
      refine r_goto C 86 dX6_puts_82 (by decide) ?_
      refine r_istore C dX6_puts_86 (by decide) ?_
      refine r_aload_n C dX6_puts_88 rfl rfl ?_
      refine r_get C (j := 1) rfl in_X6 (MA_o MA_pM) (by decide) fl_X6_7 rfl rfl dX6_puts_89 ?_
      refine r_iload_n C dX6_puts_92 rfl rfl ?_
      refine r_iconst C (v := 1) dX6_puts_93 rfl ?_
      refine r_iload_n C dX6_puts_94 rfl rfl ?_
      refine r_iadd C dX6_puts_95 ?_
      refine V.st0 (nI_add (1) (d)) ?_
      refine r_cSi C (c_X6_ofRow (a := r) (b := (1 + d))) lk_X6_62 rfl rfl ⟨(Nat.le_of_ble_eq_true rfl), (Nat.le_of_ble_eq_true rfl), (Nat.le_of_ble_eq_true rfl), (Nat.le_of_ble_eq_true rfl), (Nat.le_of_ble_eq_true rfl)⟩ dX6_puts_96 ?_
      refine r_aload_n C dX6_puts_99 rfl rfl ?_
      refine r_get C (j := 1) rfl in_X6 (MA_o MA_pM) (by decide) fl_X6_7 rfl rfl dX6_puts_100 ?_
      refine r_iload_n C dX6_puts_103 rfl rfl ?_
      refine r_iconst C (v := 1) dX6_puts_104 rfl ?_
      refine r_iload C dX6_puts_105 rfl ?_
      refine r_isub C dX6_puts_107 ?_
      refine V.st0 (pk_sub (a := 1) (b := 0) (by omega)) ?_
      refine r_cSi C (c_X6_of (a := t) (b := (1 - 0))) lk_X6_44 rfl rfl ⟨(Nat.le_of_ble_eq_true rfl), (Nat.le_of_ble_eq_true rfl), (Nat.le_of_ble_eq_true rfl), (Nat.le_of_ble_eq_true rfl), (Nat.le_of_ble_eq_true rfl)⟩ dX6_puts_108 ?_
      refine r_iald C (MA_s MA_pM) (vp_in_nI (by omega) (by decide)) dX6_puts_111 ?_
      refine V.st0 (en_of (t := t) (w := (1 - 0)) (wi := nI ((1 - 0))) (by omega) (by omega) rfl _) ?_
      refine r_iast C (MA_s MA_pM) (vp_in_nI (by omega) (by decide)) dX6_puts_112 ?_
      refine V.heap (qP_row (r := r) (w := (1 + d)) (wi := nI ((1 + d))) (by omega) (by omega) rfl) ?_
      refine r_aload_n C dX6_puts_113 rfl rfl ?_
      refine r_get C (j := 1) rfl in_X6 (MA_o MA_pM) (by decide) fl_X6_7 rfl rfl dX6_puts_114 ?_
      refine r_iload_n C dX6_puts_117 rfl rfl ?_
      refine r_iconst C (v := 0) dX6_puts_118 rfl ?_
      refine r_cSi C (c_X6_ofRow (a := r) (b := 0)) lk_X6_62 rfl rfl ⟨(Nat.le_of_ble_eq_true rfl), (Nat.le_of_ble_eq_true rfl), (Nat.le_of_ble_eq_true rfl), (Nat.le_of_ble_eq_true rfl), (Nat.le_of_ble_eq_true rfl)⟩ dX6_puts_119 ?_
      refine r_dup2 C dX6_puts_122 rfl rfl ?_
      refine r_iald C (MA_s MA_pM) (vp_in_nI (by omega) (by decide)) dX6_puts_123 ?_
      refine V.st0 (en_row (r := r) (w := 0) (wi := 0) (by omega) (by omega) rfl _) ?_
      refine r_iconst C (v := 1) dX6_puts_124 rfl ?_
      refine r_iadd C dX6_puts_125 ?_
      refine r_iast C (MA_s MA_pM) (vp_in_nI (by omega) (by decide)) dX6_puts_126 ?_
      refine V.heap (qI_row (r := r) (w := 0) (wi := 0) (by omega) (by omega) rfl) ?_
      refine r_aload_n C dX6_puts_127 rfl rfl ?_
      refine r_get C (j := 1) rfl in_X6 (MA_o MA_pM) (by decide) fl_X6_7 rfl rfl dX6_puts_128 ?_
      refine r_iload_n C dX6_puts_131 rfl rfl ?_
      refine r_iconst C (v := 3) dX6_puts_132 rfl ?_
      refine r_cSi C (c_X6_ofRow (a := r) (b := 3)) lk_X6_62 rfl rfl ⟨(Nat.le_of_ble_eq_true rfl), (Nat.le_of_ble_eq_true rfl), (Nat.le_of_ble_eq_true rfl), (Nat.le_of_ble_eq_true rfl), (Nat.le_of_ble_eq_true rfl)⟩ dX6_puts_133 ?_
      refine r_iload_n C dX6_puts_136 rfl rfl ?_
      refine r_iast C (MA_s MA_pM) (vp_in_nI (by omega) (by decide)) dX6_puts_137 ?_
      refine V.heap (qP_row (r := r) (w := 3) (wi := 3) (by omega) (by omega) rfl) ?_
      refine r_aload_n C dX6_puts_138 rfl rfl ?_
      refine r_get C (j := 1) rfl in_X6 (MA_o MA_pM) (by decide) fl_X6_7 rfl rfl dX6_puts_139 ?_
      refine r_iload_n C dX6_puts_142 rfl rfl ?_
      refine r_iconst C (v := 2) dX6_puts_143 rfl ?_
      refine r_cSi C (c_X6_of (a := t) (b := 2)) lk_X6_44 rfl rfl ⟨(Nat.le_of_ble_eq_true rfl), (Nat.le_of_ble_eq_true rfl), (Nat.le_of_ble_eq_true rfl), (Nat.le_of_ble_eq_true rfl), (Nat.le_of_ble_eq_true rfl)⟩ dX6_puts_144 ?_
      refine r_iconst C (v := 2) dX6_puts_147 rfl ?_
      refine r_iast C (MA_s MA_pM) (vp_in_nI (by omega) (by decide)) dX6_puts_148 ?_
      refine V.heap (qP_of (t := t) (w := 2) (wi := 2) (by omega) (by omega) rfl) ?_
      refine r_aload_n C dX6_puts_149 rfl rfl ?_
      refine r_get C (j := 1) rfl in_X6 (MA_o MA_pM) (by decide) fl_X6_7 rfl rfl dX6_puts_150 ?_
      refine r_iload_n C dX6_puts_153 rfl rfl ?_
      refine r_iconst C (v := 5) dX6_puts_154 rfl ?_
      refine r_cSi C (c_X6_of (a := t) (b := 5)) lk_X6_44 rfl rfl ⟨(Nat.le_of_ble_eq_true rfl), (Nat.le_of_ble_eq_true rfl), (Nat.le_of_ble_eq_true rfl), (Nat.le_of_ble_eq_true rfl), (Nat.le_of_ble_eq_true rfl)⟩ dX6_puts_155 ?_
      refine r_iload_n C dX6_puts_158 rfl rfl ?_
      refine r_iast C (MA_s MA_pM) (vp_in_nI (by omega) (by decide)) dX6_puts_159 ?_
      refine V.heap (qP_of (t := t) (w := 5) (wi := 5) (by omega) (by omega) rfl) ?_
      exact r_vret C rfl (Nat.le_of_ble_eq_true rfl) (Nat.le_of_ble_eq_true rfl) ⟨rfl, congrArg (fun X => pM G h mo X A dg) (by unfold g_putE; simp [c_10, c_78, show (1 : Int32) + nI d = nI (1 + d) from nI_add 1 d]; try rfl), rfl⟩ dX6_puts_160
  · skip
    refine r_aload_n C dX6_puts_13 rfl rfl ?_
    refine r_get C (j := 1) rfl in_X6 (MA_o MA_pM) (by decide) fl_X6_7 rfl rfl dX6_puts_14 ?_
    refine r_iload_n C dX6_puts_17 rfl rfl ?_
    refine r_iconst C (v := 1) dX6_puts_18 rfl ?_
    refine r_cSi C (c_X6_ofRow (a := r) (b := 1)) lk_X6_62 rfl rfl ⟨(Nat.le_of_ble_eq_true rfl), (Nat.le_of_ble_eq_true rfl), (Nat.le_of_ble_eq_true rfl), (Nat.le_of_ble_eq_true rfl), (Nat.le_of_ble_eq_true rfl)⟩ dX6_puts_19 ?_
    refine r_aload_n C dX6_puts_22 rfl rfl ?_
    refine r_get C (j := 1) rfl in_X6 (MA_o MA_pM) (by decide) fl_X6_7 rfl rfl dX6_puts_23 ?_
    refine r_iload_n C dX6_puts_26 rfl rfl ?_
    refine r_iconst C (v := 0) dX6_puts_27 rfl ?_
    refine r_cSi C (c_X6_of (a := t) (b := 0)) lk_X6_44 rfl rfl ⟨(Nat.le_of_ble_eq_true rfl), (Nat.le_of_ble_eq_true rfl), (Nat.le_of_ble_eq_true rfl), (Nat.le_of_ble_eq_true rfl), (Nat.le_of_ble_eq_true rfl)⟩ dX6_puts_28 ?_
    refine r_iald C (MA_s MA_pM) (vp_in_nI (by omega) (by decide)) dX6_puts_31 ?_
    refine V.st0 (en_of (t := t) (w := 0) (wi := 0) (by omega) (by omega) rfl _) ?_
    refine r_iast C (MA_s MA_pM) (vp_in_nI (by omega) (by decide)) dX6_puts_32 ?_
    refine V.heap (qP_row (r := r) (w := 1) (wi := 1) (by omega) (by omega) rfl) ?_
    refine r_aload_n C dX6_puts_33 rfl rfl ?_
    refine r_get C (j := 1) rfl in_X6 (MA_o MA_pM) (by decide) fl_X6_7 rfl rfl dX6_puts_34 ?_
    refine r_iload_n C dX6_puts_37 rfl rfl ?_
    refine r_iconst C (v := 2) dX6_puts_38 rfl ?_
    refine r_cSi C (c_X6_ofRow (a := r) (b := 2)) lk_X6_62 rfl rfl ⟨(Nat.le_of_ble_eq_true rfl), (Nat.le_of_ble_eq_true rfl), (Nat.le_of_ble_eq_true rfl), (Nat.le_of_ble_eq_true rfl), (Nat.le_of_ble_eq_true rfl)⟩ dX6_puts_39 ?_
    refine r_aload_n C dX6_puts_42 rfl rfl ?_
    refine r_get C (j := 1) rfl in_X6 (MA_o MA_pM) (by decide) fl_X6_7 rfl rfl dX6_puts_43 ?_
    refine r_iload_n C dX6_puts_46 rfl rfl ?_
    refine r_iconst C (v := 1) dX6_puts_47 rfl ?_
    refine r_cSi C (c_X6_of (a := t) (b := 1)) lk_X6_44 rfl rfl ⟨(Nat.le_of_ble_eq_true rfl), (Nat.le_of_ble_eq_true rfl), (Nat.le_of_ble_eq_true rfl), (Nat.le_of_ble_eq_true rfl), (Nat.le_of_ble_eq_true rfl)⟩ dX6_puts_48 ?_
    refine r_iald C (MA_s MA_pM) (vp_in_nI (by omega) (by decide)) dX6_puts_51 ?_
    refine V.st0 (en_of (t := t) (w := 1) (wi := 1) (by omega) (by omega) rfl _) ?_
    refine r_iast C (MA_s MA_pM) (vp_in_nI (by omega) (by decide)) dX6_puts_52 ?_
    refine V.heap (qP_row (r := r) (w := 2) (wi := 2) (by omega) (by omega) rfl) ?_
    refine r_goto C 113 dX6_puts_53 (by decide) ?_
    refine r_aload_n C dX6_puts_113 rfl rfl ?_
    refine r_get C (j := 1) rfl in_X6 (MA_o MA_pM) (by decide) fl_X6_7 rfl rfl dX6_puts_114 ?_
    refine r_iload_n C dX6_puts_117 rfl rfl ?_
    refine r_iconst C (v := 0) dX6_puts_118 rfl ?_
    refine r_cSi C (c_X6_ofRow (a := r) (b := 0)) lk_X6_62 rfl rfl ⟨(Nat.le_of_ble_eq_true rfl), (Nat.le_of_ble_eq_true rfl), (Nat.le_of_ble_eq_true rfl), (Nat.le_of_ble_eq_true rfl), (Nat.le_of_ble_eq_true rfl)⟩ dX6_puts_119 ?_
    refine r_dup2 C dX6_puts_122 rfl rfl ?_
    refine r_iald C (MA_s MA_pM) (vp_in_nI (by omega) (by decide)) dX6_puts_123 ?_
    refine V.st0 (en_row (r := r) (w := 0) (wi := 0) (by omega) (by omega) rfl _) ?_
    refine r_iconst C (v := 1) dX6_puts_124 rfl ?_
    refine r_iadd C dX6_puts_125 ?_
    refine r_iast C (MA_s MA_pM) (vp_in_nI (by omega) (by decide)) dX6_puts_126 ?_
    refine V.heap (qI_row (r := r) (w := 0) (wi := 0) (by omega) (by omega) rfl) ?_
    refine r_aload_n C dX6_puts_127 rfl rfl ?_
    refine r_get C (j := 1) rfl in_X6 (MA_o MA_pM) (by decide) fl_X6_7 rfl rfl dX6_puts_128 ?_
    refine r_iload_n C dX6_puts_131 rfl rfl ?_
    refine r_iconst C (v := 3) dX6_puts_132 rfl ?_
    refine r_cSi C (c_X6_ofRow (a := r) (b := 3)) lk_X6_62 rfl rfl ⟨(Nat.le_of_ble_eq_true rfl), (Nat.le_of_ble_eq_true rfl), (Nat.le_of_ble_eq_true rfl), (Nat.le_of_ble_eq_true rfl), (Nat.le_of_ble_eq_true rfl)⟩ dX6_puts_133 ?_
    refine r_iload_n C dX6_puts_136 rfl rfl ?_
    refine r_iast C (MA_s MA_pM) (vp_in_nI (by omega) (by decide)) dX6_puts_137 ?_
    refine V.heap (qP_row (r := r) (w := 3) (wi := 3) (by omega) (by omega) rfl) ?_
    refine r_aload_n C dX6_puts_138 rfl rfl ?_
    refine r_get C (j := 1) rfl in_X6 (MA_o MA_pM) (by decide) fl_X6_7 rfl rfl dX6_puts_139 ?_
    refine r_iload_n C dX6_puts_142 rfl rfl ?_
    refine r_iconst C (v := 2) dX6_puts_143 rfl ?_
    refine r_cSi C (c_X6_of (a := t) (b := 2)) lk_X6_44 rfl rfl ⟨(Nat.le_of_ble_eq_true rfl), (Nat.le_of_ble_eq_true rfl), (Nat.le_of_ble_eq_true rfl), (Nat.le_of_ble_eq_true rfl), (Nat.le_of_ble_eq_true rfl)⟩ dX6_puts_144 ?_
    refine r_iconst C (v := 2) dX6_puts_147 rfl ?_
    refine r_iast C (MA_s MA_pM) (vp_in_nI (by omega) (by decide)) dX6_puts_148 ?_
    refine V.heap (qP_of (t := t) (w := 2) (wi := 2) (by omega) (by omega) rfl) ?_
    refine r_aload_n C dX6_puts_149 rfl rfl ?_
    refine r_get C (j := 1) rfl in_X6 (MA_o MA_pM) (by decide) fl_X6_7 rfl rfl dX6_puts_150 ?_
    refine r_iload_n C dX6_puts_153 rfl rfl ?_
    refine r_iconst C (v := 5) dX6_puts_154 rfl ?_
    refine r_cSi C (c_X6_of (a := t) (b := 5)) lk_X6_44 rfl rfl ⟨(Nat.le_of_ble_eq_true rfl), (Nat.le_of_ble_eq_true rfl), (Nat.le_of_ble_eq_true rfl), (Nat.le_of_ble_eq_true rfl), (Nat.le_of_ble_eq_true rfl)⟩ dX6_puts_155 ?_
    refine r_iload_n C dX6_puts_158 rfl rfl ?_
    refine r_iast C (MA_s MA_pM) (vp_in_nI (by omega) (by decide)) dX6_puts_159 ?_
    refine V.heap (qP_of (t := t) (w := 5) (wi := 5) (by omega) (by omega) rfl) ?_
    exact r_vret C rfl (Nat.le_of_ble_eq_true rfl) (Nat.le_of_ble_eq_true rfl) ⟨rfl, congrArg (fun X => pM G h mo X A dg) (by unfold g_putE; simp [c_10, show (1 : Int32) + nI d = nI (1 + d) from nI_add 1 d]; try rfl), rfl⟩ dX6_puts_160

set_option maxHeartbeats 800000 in
set_option maxRecDepth 100000 in
theorem c_X6_isOver {G : ga_} {l : Launch} {h : HP} {sz : Nat} {mo : Nat} {S A : gS} {dg : Int64} {b : Int32} {n P K W Q T F : Nat} {H R L : Nat → Nat} {gr : Nat → Nat → Nat} {ag : Nat → Nat} {q : Nat}  (w : MA G h mo S A dg)  (o : gO n (gc S 4 (if b = 0 then 0 else S 5 4 + 1)) P K W Q T F H R L gr ag) (hq : q < P) (hm : S 5 1 = nI q) : Mf G l yX6_isOver cX6_isOver 5 (some .boolean) 2 44 0 0 [.ref mo, .int b] h sz (some (.int (bI (g_ended (g_end0 (gc S 4 (if b = 0 then 0 else S 5 4 + 1))))))) (pM G h mo (g_end (gc S 4 (if b = 0 then 0 else S 5 4 + 1))) (A) (dg)) sz := by
  refine Mg.ofV [(0, .ref mo), (1, .int b)] (by decide) (Nat.le_of_ble_eq_true rfl) rfl ?_
  intro p e s m args below meth c C
  refine V.heap (pM_id w).symm ?_
  have o2 : gO n (g_end0 (gc S 4 (if b = 0 then 0 else S 5 4 + 1))) P K W Q (T + 1) F H R L gr ag := o.end1
  obtain ⟨hP2, hP, hK, hW1, hW9, hQ, -⟩ := o.n5.1
  have hh := oh_le o.hh (show q < 4 by omega)
  refine r_aload_n C dX6_isOver_0 rfl rfl ?_
  refine r_get C (j := 1) rfl in_X6 (MA_o MA_pM) (by decide) fl_X6_7 rfl rfl dX6_isOver_1 ?_
  refine r_sipush C (v := 342) dX6_isOver_4 rfl ?_
  refine r_iald C (MA_s MA_pM) (vp_in_nI (n := 342) (by decide) (by decide)) dX6_isOver_7 ?_
  refine V.st0 (en_sc1 _) ?_
  refine V.st0 (hm) ?_
  refine r_istore_n C dX6_isOver_8 rfl (by decide) ?_
  refine r_aload_n C dX6_isOver_9 rfl rfl ?_
  refine r_get C (j := 1) rfl in_X6 (MA_o MA_pM) (by decide) fl_X6_7 rfl rfl dX6_isOver_10 ?_
  refine r_sipush C (v := 345) dX6_isOver_13 rfl ?_
  refine r_dup2 C dX6_isOver_16 rfl rfl ?_
  refine r_iald C (MA_s MA_pM) (vp_in_nI (n := 345) (by decide) (by decide)) dX6_isOver_17 ?_
  refine V.st0 (en_sc3 _) ?_
  refine r_iconst C (v := 1) dX6_isOver_18 rfl ?_
  refine r_iadd C dX6_isOver_19 ?_
  refine r_iast C (MA_s MA_pM) (vp_in_nI (n := 345) (by decide) (by decide)) dX6_isOver_20 ?_
  refine V.heap (qM_sc3 _) ?_
  refine r_aload_n C dX6_isOver_21 rfl rfl ?_
  refine r_get C (j := 1) rfl in_X6 (MA_o MA_pM) (by decide) fl_X6_7 rfl rfl dX6_isOver_22 ?_
  refine r_sipush C (v := 344) dX6_isOver_25 rfl ?_
  apply V.cut 46 ((if b = 0 then 0 else S 5 4 + 1))
  · intro K_46
    refine r_iload_n C dX6_isOver_28 rfl rfl ?_
    refine r_if_eq C 45 dX6_isOver_29 (by decide) (fun c_29 => ?_) (fun c_29 => ?_)
    · skip
      refine r_iconst C (v := 0) dX6_isOver_45 rfl ?_
      refine V.st0 (show _ = ((if b = 0 then 0 else S 5 4 + 1)) from by rw [if_pos c_29]) ?_
      exact K_46
    · skip
      refine r_aload_n C dX6_isOver_32 rfl rfl ?_
      refine r_get C (j := 1) rfl in_X6 (MA_o MA_pM) (by decide) fl_X6_7 rfl rfl dX6_isOver_33 ?_
      refine r_sipush C (v := 344) dX6_isOver_36 rfl ?_
      refine r_iald C (MA_s MA_pM) (vp_in_nI (n := 344) (by decide) (by decide)) dX6_isOver_39 ?_
      refine V.st0 (en_sc4 _) ?_
      refine r_iconst C (v := 1) dX6_isOver_40 rfl ?_
      refine r_iadd C dX6_isOver_41 ?_
      refine r_goto C 46 dX6_isOver_42 (by decide) ?_
      refine V.st0 (show _ = ((if b = 0 then 0 else S 5 4 + 1)) from by rw [if_neg c_29]; rfl) ?_
      exact K_46
  · skip
    refine r_iast C (MA_s MA_pM) (vp_in_nI (n := 344) (by decide) (by decide)) dX6_isOver_46 ?_
    refine V.heap (qM_sc4 _) ?_
    refine V.heap (h2 := pM G h mo (g_end0 (gc S 4 (if b = 0 then 0 else S 5 4 + 1))) A dg) (congrArg (fun X => pM G h mo X A dg) (gc_43 S _ _)) ?_
    refine r_aload_n C dX6_isOver_47 rfl rfl ?_
    refine r_get C (j := 1) rfl in_X6 (MA_o MA_pM) (by decide) fl_X6_7 rfl rfl dX6_isOver_48 ?_
    refine r_sipush C (v := 337) dX6_isOver_51 rfl ?_
    refine r_iload_n C dX6_isOver_54 rfl rfl ?_
    refine r_iadd C dX6_isOver_55 ?_
    refine V.st0 (nI_add (337) (q)) ?_
    refine r_iald C (MA_s MA_pM) (vp_in_nI (by omega) (by decide)) dX6_isOver_56 ?_
    refine V.st0 (en_tal0 (p := q) (by omega) _) ?_
    refine V.st0 (o2.held (by omega)) ?_
    refine r_if_ne C 71 dX6_isOver_57 (by decide) (fun c_57 => ?_) (fun c_57 => ?_)
    · skip
      refine r_iconst C (v := 0) dX6_isOver_71 rfl ?_
      refine r_istore_n C dX6_isOver_72 rfl (by decide) ?_
      refine V.sub [(0, .ref mo), (1, .int b), (2, .int (nI q)), (3, .int (nI 0))] ⟨rfl, rfl, rfl, rfl, trivial⟩ ?_
      refine down_ (P := fun i => V p l e ⟨2, 0, 0, 44⟩ s m args below meth c G 5 (Qg G below args s 0 0 (fun v1 h1 s1 => v1 = (some (.int (bI (g_ended (g_end0 (gc S 4 (if b = 0 then 0 else S 5 4 + 1))))))) ∧ h1 = (pM G h mo (g_end (gc S 4 (if b = 0 then 0 else S 5 4 + 1))) (A) (dg)) ∧ s1 = sz)) (pM G h mo (g_age (g_end0 (gc S 4 (if b = 0 then 0 else S 5 4 + 1))) (nI q) i) A dg) sz 0 0 73 [(0, .ref mo), (1, .int b), (2, .int (nI q)), (3, .int (nI i))] []) ((H q)) ?_ ?_
      · obtain ⟨L2, gr2, ag2, o3, -⟩ := o2.age hq (H q) (Nat.le_refl _)
        refine r_iload_n C dX6_isOver_73 rfl rfl ?_
        refine r_aload_n C dX6_isOver_74 rfl rfl ?_
        refine r_get C (j := 1) rfl in_X6 (MA_o MA_pM) (by decide) fl_X6_7 rfl rfl dX6_isOver_75 ?_
        refine r_sipush C (v := 337) dX6_isOver_78 rfl ?_
        refine r_iload_n C dX6_isOver_81 rfl rfl ?_
        refine r_iadd C dX6_isOver_82 ?_
        refine V.st0 (nI_add (337) (q)) ?_
        refine r_iald C (MA_s MA_pM) (vp_in_nI (by omega) (by decide)) dX6_isOver_83 ?_
        refine V.st0 (en_tal0 (p := q) (by omega) _) ?_
        refine V.st0 (o3.held (by omega)) ?_
        refine r_icmp_ge C 150 dX6_isOver_84 (by decide) (fun _ => ?_) (fun c => absurd (nI_le (Nat.le_refl _) (by omega)) c)
        refine r_aload_n C dX6_isOver_150 rfl rfl ?_
        refine r_get C (j := 1) rfl in_X6 (MA_o MA_pM) (by decide) fl_X6_7 rfl rfl dX6_isOver_151 ?_
        refine r_sipush C (v := 344) dX6_isOver_154 rfl ?_
        refine r_iald C (MA_s MA_pM) (vp_in_nI (n := 344) (by decide) (by decide)) dX6_isOver_157 ?_
        refine V.st0 (en_sc4 _) ?_
        refine V.st0 (o3.n5.2.2.2.2.1) ?_
        refine r_aload_n C dX6_isOver_158 rfl rfl ?_
        refine r_get C (j := 1) rfl in_X6 (MA_o MA_pM) (by decide) fl_X6_7 rfl rfl dX6_isOver_159 ?_
        refine r_sipush C (v := 341) dX6_isOver_162 rfl ?_
        refine r_iald C (MA_s MA_pM) (vp_in_nI (n := 341) (by decide) (by decide)) dX6_isOver_165 ?_
        refine V.st0 (en_sc0 _) ?_
        refine V.st0 (o3.n5.2.1) ?_
        apply V.cut 174 (bI (decide (Q = P)))
        · intro K_174
          refine r_icmp_ne C 173 dX6_isOver_166 (by decide) (fun c_166 => ?_) (fun c_166 => ?_)
          · skip
            refine r_iconst C (v := 0) dX6_isOver_173 rfl ?_
            refine V.st0 (show _ = (bI (decide (Q = P))) from by rw [decide_eq_false (fun e => c_166 (by rw [e]))]; rfl) ?_
            exact K_174
          · skip
            refine r_iconst C (v := 1) dX6_isOver_169 rfl ?_
            refine r_goto C 174 dX6_isOver_170 (by decide) ?_
            refine V.st0 (show _ = (bI (decide (Q = P))) from by rw [decide_eq_true (nI_inj (by omega) (by omega) c_166)]; rfl) ?_
            exact K_174
        · skip
          refine r_istore_n C dX6_isOver_174 rfl (by decide) ?_
          refine r_aload_n C dX6_isOver_175 rfl rfl ?_
          refine r_get C (j := 1) rfl in_X6 (MA_o MA_pM) (by decide) fl_X6_7 rfl rfl dX6_isOver_176 ?_
          refine r_sipush C (v := 342) dX6_isOver_179 rfl ?_
          refine r_iload_n C dX6_isOver_182 rfl rfl ?_
          apply V.cut 202 ((if Q = P then -1 else (if q + 1 < P then nI (q + 1) else 0)))
          · intro K_202
            refine r_if_eq C 190 dX6_isOver_183 (by decide) (fun c_183 => ?_) (fun c_183 => ?_)
            · have c_183 := bI_f c_183
              refine r_iload_n C dX6_isOver_190 rfl rfl ?_
              refine r_iconst C (v := 1) dX6_isOver_191 rfl ?_
              refine r_iadd C dX6_isOver_192 ?_
              refine V.st0 (nI_add (q) (1)) ?_
              refine r_aload_n C dX6_isOver_193 rfl rfl ?_
              refine r_get C (j := 1) rfl in_X6 (MA_o MA_pM) (by decide) fl_X6_7 rfl rfl dX6_isOver_194 ?_
              refine r_sipush C (v := 341) dX6_isOver_197 rfl ?_
              refine r_iald C (MA_s MA_pM) (vp_in_nI (n := 341) (by decide) (by decide)) dX6_isOver_200 ?_
              refine V.st0 (en_sc0 _) ?_
              refine V.st0 (o3.n5.2.1) ?_
              refine r_irem C dX6_isOver_201 (nI_nz (by omega) (by omega)) ?_
              refine V.st0 (show _ = ((if Q = P then -1 else (if q + 1 < P then nI (q + 1) else 0))) from by rw [if_neg (of_decide_eq_false c_183)]; exact rem_next P (by omega) q hq) ?_
              exact K_202
            · have c_183 := bI_t c_183
              refine r_iconst C (v := -1) dX6_isOver_186 rfl ?_
              refine r_goto C 202 dX6_isOver_187 (by decide) ?_
              refine V.st0 (show _ = ((if Q = P then -1 else (if q + 1 < P then nI (q + 1) else 0))) from by rw [if_pos (of_decide_eq_true c_183)]) ?_
              exact K_202
          · skip
            refine r_iast C (MA_s MA_pM) (vp_in_nI (n := 342) (by decide) (by decide)) dX6_isOver_202 ?_
            refine V.heap (qM_sc1 _) ?_
            refine r_iload_n C dX6_isOver_203 rfl rfl ?_
            exact r_zret C rfl (bI_01 _) (Nat.le_of_ble_eq_true rfl) (Nat.le_of_ble_eq_true rfl) ⟨by rw [(isov_1 o2 (by omega) hm c_57).1], congrArg (fun X => pM G h mo X A dg) (isov_end o2 hq hm c_57), rfl⟩ dX6_isOver_204
      · intro i h_i ih_i
        obtain ⟨L2, gr2, ag2, o3, -⟩ := o2.age hq i (by omega)
        obtain ⟨t, ht, et⟩ := o3.hand (p := q) (by omega) h_i
        refine r_iload_n C dX6_isOver_73 rfl rfl ?_
        refine r_aload_n C dX6_isOver_74 rfl rfl ?_
        refine r_get C (j := 1) rfl in_X6 (MA_o MA_pM) (by decide) fl_X6_7 rfl rfl dX6_isOver_75 ?_
        refine r_sipush C (v := 337) dX6_isOver_78 rfl ?_
        refine r_iload_n C dX6_isOver_81 rfl rfl ?_
        refine r_iadd C dX6_isOver_82 ?_
        refine V.st0 (nI_add (337) (q)) ?_
        refine r_iald C (MA_s MA_pM) (vp_in_nI (by omega) (by decide)) dX6_isOver_83 ?_
        refine V.st0 (en_tal0 (p := q) (by omega) _) ?_
        refine V.st0 (o3.held (by omega)) ?_
        refine r_icmp_ge C 150 dX6_isOver_84 (by decide) (fun c => absurd c (nI_ge h_i (by omega))) (fun _ => ?_)
        refine r_aload_n C dX6_isOver_87 rfl rfl ?_
        refine r_get C (j := 1) rfl in_X6 (MA_o MA_pM) (by decide) fl_X6_7 rfl rfl dX6_isOver_88 ?_
        refine r_iload_n C dX6_isOver_91 rfl rfl ?_
        refine r_iload_n C dX6_isOver_92 rfl rfl ?_
        refine r_cSi C (c_X6_inHand (a := q) (b := i)) lk_X6_48 rfl rfl ⟨(Nat.le_of_ble_eq_true rfl), (Nat.le_of_ble_eq_true rfl), (Nat.le_of_ble_eq_true rfl), (Nat.le_of_ble_eq_true rfl), (Nat.le_of_ble_eq_true rfl)⟩ dX6_isOver_93 ?_
        refine r_iald C (MA_s MA_pM) (vp_in_nI (by omega) (by decide)) dX6_isOver_96 ?_
        refine V.st0 (en_ih (p := q) (i := i) (by omega) (by omega) _) ?_
        refine V.st0 (et) ?_
        refine r_istore C dX6_isOver_97 (by decide) ?_
        refine r_aload_n C dX6_isOver_99 rfl rfl ?_
        refine r_get C (j := 1) rfl in_X6 (MA_o MA_pM) (by decide) fl_X6_7 rfl rfl dX6_isOver_100 ?_
        refine r_iload C dX6_isOver_103 rfl ?_
        refine r_iconst C (v := 4) dX6_isOver_105 rfl ?_
        refine r_cSi C (c_X6_of (a := t) (b := 4)) lk_X6_44 rfl rfl ⟨(Nat.le_of_ble_eq_true rfl), (Nat.le_of_ble_eq_true rfl), (Nat.le_of_ble_eq_true rfl), (Nat.le_of_ble_eq_true rfl), (Nat.le_of_ble_eq_true rfl)⟩ dX6_isOver_106 ?_
        refine r_dup2 C dX6_isOver_109 rfl rfl ?_
        refine r_iald C (MA_s MA_pM) (vp_in_nI (by omega) (by decide)) dX6_isOver_110 ?_
        refine V.st0 (en_of (t := t) (w := 4) (wi := 4) (by omega) (by omega) rfl _) ?_
        refine r_iconst C (v := 1) dX6_isOver_111 rfl ?_
        refine r_iadd C dX6_isOver_112 ?_
        refine r_iast C (MA_s MA_pM) (vp_in_nI (by omega) (by decide)) dX6_isOver_113 ?_
        refine V.heap (qI_of (t := t) (w := 4) (wi := 4) (by omega) (by omega) rfl) ?_
        refine r_aload_n C dX6_isOver_114 rfl rfl ?_
        refine r_get C (j := 1) rfl in_X6 (MA_o MA_pM) (by decide) fl_X6_7 rfl rfl dX6_isOver_115 ?_
        refine r_iload C dX6_isOver_118 rfl ?_
        refine r_iconst C (v := 4) dX6_isOver_120 rfl ?_
        refine r_cSi C (c_X6_of (a := t) (b := 4)) lk_X6_44 rfl rfl ⟨(Nat.le_of_ble_eq_true rfl), (Nat.le_of_ble_eq_true rfl), (Nat.le_of_ble_eq_true rfl), (Nat.le_of_ble_eq_true rfl), (Nat.le_of_ble_eq_true rfl)⟩ dX6_isOver_121 ?_
        refine r_iald C (MA_s MA_pM) (vp_in_nI (by omega) (by decide)) dX6_isOver_124 ?_
        refine V.st0 (en_of (t := t) (w := 4) (wi := 4) (by omega) (by omega) rfl _) ?_
        refine r_aload_n C dX6_isOver_125 rfl rfl ?_
        refine r_get C (j := 1) rfl in_X6 (MA_o MA_pM) (by decide) fl_X6_7 rfl rfl dX6_isOver_126 ?_
        refine r_sipush C (v := 359) dX6_isOver_129 rfl ?_
        refine r_iald C (MA_s MA_pM) (vp_in_nI (n := 359) (by decide) (by decide)) dX6_isOver_132 ?_
        refine V.st0 (en_sc7 _) ?_
        refine V.st0 (o3.n5.2.2.2.2.2.2) ?_
        refine r_irem C dX6_isOver_133 (nI_nz hW1 (by omega)) ?_
        refine r_if_ne C 144 dX6_isOver_134 (by decide) (fun c_134 => ?_) (fun c_134 => ?_)
        · skip
          refine r_iinc C (v := 1) dX6_isOver_144 rfl rfl (by decide) ?_
          refine r_goto C 73 dX6_isOver_147 (by decide) ?_
          refine V.heap (h2 := (pM G h mo (g_age (g_end0 (gc S 4 (if b = 0 then 0 else S 5 4 + 1))) (nI q) (i + 1)) A dg)) (congrArg (fun X => pM G h mo X A dg) (by show _ = g_age1 (g_age (g_end0 (gc S 4 (if b = 0 then 0 else S 5 4 + 1))) (nI q) i) (g_hand (g_age (g_end0 (gc S 4 (if b = 0 then 0 else S 5 4 + 1))) (nI q) i) (nI q) (nI i)) (nI q); rw [show g_hand (g_age (g_end0 (gc S 4 (if b = 0 then 0 else S 5 4 + 1))) (nI q) i) (nI q) (nI i) = nI t from et, age1_f o3.n5.2.2.2.2.2.2 c_134])) ?_
          refine V.sub [(0, .ref mo), (1, .int b), (2, .int (nI q)), (3, .int (nI (i + 1)))] ⟨rfl, rfl, rfl, by rw [← nI_1 i]; rfl, trivial⟩ ?_
          exact ih_i
        · skip
          refine r_aload_n C dX6_isOver_137 rfl rfl ?_
          refine r_iload C dX6_isOver_138 rfl ?_
          refine r_iload_n C dX6_isOver_140 rfl rfl ?_
          refine r_cVv C (c_X6_rusts (t := t) (u := q) MA_pM ht (by omega)) lk_X6_79 rfl (MA_o MA_pM) rfl rfl ⟨(Nat.le_of_ble_eq_true rfl), (Nat.le_of_ble_eq_true rfl), (Nat.le_of_ble_eq_true rfl), (Nat.le_of_ble_eq_true rfl), (Nat.le_of_ble_eq_true rfl)⟩ dX6_isOver_141 ?_
          refine V.heap (pM_pM _ _ _ _ _ _ _ _) ?_
          refine r_iinc C (v := 1) dX6_isOver_144 rfl rfl (by decide) ?_
          refine r_goto C 73 dX6_isOver_147 (by decide) ?_
          refine V.heap (h2 := (pM G h mo (g_age (g_end0 (gc S 4 (if b = 0 then 0 else S 5 4 + 1))) (nI q) (i + 1)) A dg)) (congrArg (fun X => pM G h mo X A dg) (by show _ = g_age1 (g_age (g_end0 (gc S 4 (if b = 0 then 0 else S 5 4 + 1))) (nI q) i) (g_hand (g_age (g_end0 (gc S 4 (if b = 0 then 0 else S 5 4 + 1))) (nI q) i) (nI q) (nI i)) (nI q); rw [show g_hand (g_age (g_end0 (gc S 4 (if b = 0 then 0 else S 5 4 + 1))) (nI q) i) (nI q) (nI i) = nI t from et, age1_t o3.n5.2.2.2.2.2.2 hW1 hW9 c_134])) ?_
          refine V.sub [(0, .ref mo), (1, .int b), (2, .int (nI q)), (3, .int (nI (i + 1)))] ⟨rfl, rfl, rfl, by rw [← nI_1 i]; rfl, trivial⟩ ?_
          exact ih_i
    · skip
      refine r_aload_n C dX6_isOver_60 rfl rfl ?_
      refine r_get C (j := 1) rfl in_X6 (MA_o MA_pM) (by decide) fl_X6_7 rfl rfl dX6_isOver_61 ?_
      refine r_sipush C (v := 342) dX6_isOver_64 rfl ?_
      refine r_iconst C (v := -1) dX6_isOver_67 rfl ?_
      refine r_iast C (MA_s MA_pM) (vp_in_nI (n := 342) (by decide) (by decide)) dX6_isOver_68 ?_
      refine V.heap (qM_sc1 _) ?_
      refine r_iconst C (v := 1) dX6_isOver_69 rfl ?_
      exact r_zret C rfl (Or.inr rfl) (Nat.le_of_ble_eq_true rfl) (Nat.le_of_ble_eq_true rfl) ⟨by rw [(isov_0 o2 (by omega) hm c_57).1]; rfl, congrArg (fun X => pM G h mo X A dg) (isov_z o2 (by omega) hm c_57), rfl⟩ dX6_isOver_70

set_option maxHeartbeats 800000 in
set_option maxRecDepth 100000 in
theorem c_X6_lays {G : ga_} {l : Launch} {h : HP} {sz : Nat} {mo : Nat} {S A : gS} {dg : Int64} {a : Int32} {r : Nat} {d : Nat} {n : Nat}  (w : MA G h mo S A dg)  (hg : gOk n S) (hr : r < 3) (hde : d < 2) : Mf G l yX6_lays cX6_lays 7 (some .int) 3 68 0 0 [.ref mo, .int a, .int (nI r), .int (nI d)] h sz (some (.int (g_layA S a (nI r) (nI d)))) (pM G h mo (g_lay S a (nI r) (nI d)) (A) (dg)) sz := by
  refine Mg.ofV [(0, .ref mo), (1, .int a), (2, .int (nI r)), (3, .int (nI d))] (by decide) (Nat.le_of_ble_eq_true rfl) rfl ?_
  intro p e s m args below meth c C
  refine V.heap (pM_id w).symm ?_
  have hnb := hg.nb
  obtain ⟨P, K, W, Q, T, F, H, R, L, gr, ag, o, t0⟩ := hg
  obtain ⟨hP2, hP, hK, hW1, hW9, hQ, -⟩ := o.n5.1
  refine r_aload_n C dX6_lays_0 rfl rfl ?_
  refine r_iload_n C dX6_lays_1 rfl rfl ?_
  refine r_iload_n C dX6_lays_2 rfl rfl ?_
  refine r_iload_n C dX6_lays_3 rfl rfl ?_
  refine r_cVi C (c_X6_refusal (r := r) (d := d) MA_pM rfl hr hde hnb) lk_X6_82 rfl (MA_o MA_pM) rfl rfl ⟨(Nat.le_of_ble_eq_true rfl), (Nat.le_of_ble_eq_true rfl), (Nat.le_of_ble_eq_true rfl), (Nat.le_of_ble_eq_true rfl), (Nat.le_of_ble_eq_true rfl)⟩ dX6_lays_4 ?_
  refine r_istore C dX6_lays_7 (by decide) ?_
  refine r_iload C dX6_lays_9 rfl ?_
  refine r_if_le C 21 dX6_lays_11 (by decide) (fun c_11 => ?_) (fun c_11 => ?_)
  · have e_11 := i32_nlt c_11
    have h0 := reason_le c_11
    obtain ⟨q, i, hq, hm, hi, hai⟩ := o.reason0 h0
    have hh := oh_le o.hh (show q < 4 by omega)
    obtain ⟨t, ht, et⟩ := o.hand (p := q) (i := i) (by omega) hi
    have hY : gc (gI (gI (g_th (gP (gP (g_putE S (nI t) (nI r) (nI d)) 0 (nI t) 2 2) 0 (nI t) 5 (nI r)) (nI q) i (H q - 1 - i)) 2 (nI q) 0 (-1)) 2 (nI q) 2 1) 4 (if (0 : Int32) = 0 then 0 else (gI (gI (g_th (gP (gP (g_putE S (nI t) (nI r) (nI d)) 0 (nI t) 2 2) 0 (nI t) 5 (nI r)) (nI q) i (H q - 1 - i)) 2 (nI q) 0 (-1)) 2 (nI q) 2 1) 5 4 + 1) = g_lay3 S (nI i) (nI r) (nI d) := by rw [if_pos rfl]; exact lay_eq o (by omega) hm hi ht et
    have hmY : (gI (gI (g_th (gP (gP (g_putE S (nI t) (nI r) (nI d)) 0 (nI t) 2 2) 0 (nI t) 5 (nI r)) (nI q) i (H q - 1 - i)) 2 (nI q) 0 (-1)) 2 (nI q) 2 1) 5 1 = nI q := by rw [gI_n (by decide), gI_n (by decide), th_n _ _ _ (by decide), gP_n (by decide), gP_n (by decide), putE_n _ _ _ _ (by decide)]; exact hm
    have o3 := o.lay3 hq hm hi hr hde
    refine r_aload_n C dX6_lays_21 rfl rfl ?_
    refine r_get C (j := 1) rfl in_X6 (MA_o MA_pM) (by decide) fl_X6_7 rfl rfl dX6_lays_22 ?_
    refine r_sipush C (v := 342) dX6_lays_25 rfl ?_
    refine r_iald C (MA_s MA_pM) (vp_in_nI (n := 342) (by decide) (by decide)) dX6_lays_28 ?_
    refine V.st0 (en_sc1 _) ?_
    refine V.st0 (hm) ?_
    refine r_istore C dX6_lays_29 (by decide) ?_
    refine r_aload_n C dX6_lays_31 rfl rfl ?_
    refine r_aload_n C dX6_lays_32 rfl rfl ?_
    refine r_get C (j := 1) rfl in_X6 (MA_o MA_pM) (by decide) fl_X6_7 rfl rfl dX6_lays_33 ?_
    refine r_iload C dX6_lays_36 rfl ?_
    refine r_iload_n C dX6_lays_38 rfl rfl ?_
    refine V.st0 (hai) ?_
    refine r_cSi C (c_X6_inHand (a := q) (b := i)) lk_X6_48 rfl rfl ⟨(Nat.le_of_ble_eq_true rfl), (Nat.le_of_ble_eq_true rfl), (Nat.le_of_ble_eq_true rfl), (Nat.le_of_ble_eq_true rfl), (Nat.le_of_ble_eq_true rfl)⟩ dX6_lays_39 ?_
    refine r_iald C (MA_s MA_pM) (vp_in_nI (by omega) (by decide)) dX6_lays_42 ?_
    refine V.st0 (en_ih (p := q) (i := i) (by omega) (by omega) _) ?_
    refine V.st0 (et) ?_
    refine r_iload_n C dX6_lays_43 rfl rfl ?_
    refine r_iload_n C dX6_lays_44 rfl rfl ?_
    refine r_cVv C (c_X6_puts (t := t) (r := r) (d := d) MA_pM ht hr hde) lk_X6_89 rfl (MA_o MA_pM) rfl rfl ⟨(Nat.le_of_ble_eq_true rfl), (Nat.le_of_ble_eq_true rfl), (Nat.le_of_ble_eq_true rfl), (Nat.le_of_ble_eq_true rfl), (Nat.le_of_ble_eq_true rfl)⟩ dX6_lays_45 ?_
    refine V.heap (pM_pM _ _ _ _ _ _ _ _) ?_
    refine r_iload_n C dX6_lays_48 rfl rfl ?_
    refine V.st0 (hai) ?_
    refine r_istore C dX6_lays_49 (by decide) ?_
    refine V.sub [(0, .ref mo), (1, .int a), (2, .int (nI r)), (3, .int (nI d)), (5, .int (nI q)), (6, .int (nI (i + 0)))] ⟨rfl, rfl, rfl, rfl, rfl, rfl, trivial⟩ ?_
    refine down_ (P := fun j => V p l e ⟨3, 0, 0, 68⟩ s m args below meth c G 7 (Qg G below args s 0 0 (fun v1 h1 s1 => v1 = (some (.int (g_layA S a (nI r) (nI d)))) ∧ h1 = (pM G h mo (g_lay S a (nI r) (nI d)) (A) (dg)) ∧ s1 = sz)) (pM G h mo (g_th (gP (gP (g_putE S (nI t) (nI r) (nI d)) 0 (nI t) 2 2) 0 (nI t) 5 (nI r)) (nI q) i j) A dg) sz 0 0 51 [(0, .ref mo), (1, .int a), (2, .int (nI r)), (3, .int (nI d)), (5, .int (nI q)), (6, .int (nI (i + j)))] []) ((H q - 1 - i)) ?_ ?_
    · refine r_iload C dX6_lays_51 rfl ?_
      refine r_aload_n C dX6_lays_53 rfl rfl ?_
      refine r_get C (j := 1) rfl in_X6 (MA_o MA_pM) (by decide) fl_X6_7 rfl rfl dX6_lays_54 ?_
      refine r_sipush C (v := 337) dX6_lays_57 rfl ?_
      refine r_iload C dX6_lays_60 rfl ?_
      refine r_iadd C dX6_lays_62 ?_
      refine V.st0 (nI_add (337) (q)) ?_
      refine r_iald C (MA_s MA_pM) (vp_in_nI (by omega) (by decide)) dX6_lays_63 ?_
      refine V.st0 (en_tal0 (p := q) (by omega) _) ?_
      refine V.st0 ((show _ = nI (H q) from by rw [th_n _ _ _ (by decide), gP_n (by decide), gP_n (by decide), putE_n _ _ _ _ (by decide)]; exact o.held (by omega))) ?_
      refine r_iconst C (v := 1) dX6_lays_64 rfl ?_
      refine r_isub C dX6_lays_65 ?_
      refine V.st0 (pk_sub (a := (H q)) (b := 1) (by omega)) ?_
      refine r_icmp_ge C 101 dX6_lays_66 (by decide) (fun _ => ?_) (fun c => absurd (nI_le (by omega) (by omega)) c)
      refine r_aload_n C dX6_lays_101 rfl rfl ?_
      refine r_get C (j := 1) rfl in_X6 (MA_o MA_pM) (by decide) fl_X6_7 rfl rfl dX6_lays_102 ?_
      refine r_sipush C (v := 337) dX6_lays_105 rfl ?_
      refine r_iload C dX6_lays_108 rfl ?_
      refine r_iadd C dX6_lays_110 ?_
      refine V.st0 (nI_add (337) (q)) ?_
      refine r_dup2 C dX6_lays_111 rfl rfl ?_
      refine r_iald C (MA_s MA_pM) (vp_in_nI (by omega) (by decide)) dX6_lays_112 ?_
      refine V.st0 (en_tal0 (p := q) (by omega) _) ?_
      refine r_iconst C (v := 1) dX6_lays_113 rfl ?_
      refine r_isub C dX6_lays_114 ?_
      refine r_iast C (MA_s MA_pM) (vp_in_nI (by omega) (by decide)) dX6_lays_115 ?_
      refine V.heap (qD_tal0 (p := q) (by omega)) ?_
      refine r_aload_n C dX6_lays_116 rfl rfl ?_
      refine r_get C (j := 1) rfl in_X6 (MA_o MA_pM) (by decide) fl_X6_7 rfl rfl dX6_lays_117 ?_
      refine r_sipush C (v := 350) dX6_lays_120 rfl ?_
      refine r_iload C dX6_lays_123 rfl ?_
      refine r_iadd C dX6_lays_125 ?_
      refine V.st0 (nI_add (350) (q)) ?_
      refine r_dup2 C dX6_lays_126 rfl rfl ?_
      refine r_iald C (MA_s MA_pM) (vp_in_nI (by omega) (by decide)) dX6_lays_127 ?_
      refine V.st0 (en_tal2 (p := q) (by omega) _) ?_
      refine r_iconst C (v := 1) dX6_lays_128 rfl ?_
      refine r_iadd C dX6_lays_129 ?_
      refine r_iast C (MA_s MA_pM) (vp_in_nI (by omega) (by decide)) dX6_lays_130 ?_
      refine V.heap (qI_tal2 (p := q) (by omega)) ?_
      refine r_aload_n C dX6_lays_131 rfl rfl ?_
      refine r_iconst C (v := 0) dX6_lays_132 rfl ?_
      refine r_cVi C (c_X6_isOver (b := 0) (q := q) MA_pM (by rw [hY]; exact o3.1) hq hmY) lk_X6_93 rfl (MA_o MA_pM) rfl rfl ⟨(Nat.le_of_ble_eq_true rfl), (Nat.le_of_ble_eq_true rfl), (Nat.le_of_ble_eq_true rfl), (Nat.le_of_ble_eq_true rfl), (Nat.le_of_ble_eq_true rfl)⟩ dX6_lays_133 ?_
      refine V.heap (pM_pM _ _ _ _ _ _ _ _) ?_
      refine r_if_eq C 144 dX6_lays_136 (by decide) (fun c_136 => ?_) (fun c_136 => ?_)
      · have c_136 := bI_f c_136
        refine r_bipush C (v := 10) dX6_lays_144 rfl ?_
        exact r_iret C rfl (Nat.le_of_ble_eq_true rfl) (Nat.le_of_ble_eq_true rfl) ⟨by unfold g_layA g_endA; rw [if_pos h0, hai, ← hY, c_136]; rfl, congrArg (fun X => pM G h mo X A dg) (by unfold g_lay; rw [if_pos h0, hai, ← hY]), rfl⟩ dX6_lays_146
      · have c_136 := bI_t c_136
        refine r_bipush C (v := 11) dX6_lays_139 rfl ?_
        refine r_goto C 146 dX6_lays_141 (by decide) ?_
        exact r_iret C rfl (Nat.le_of_ble_eq_true rfl) (Nat.le_of_ble_eq_true rfl) ⟨by unfold g_layA g_endA; rw [if_pos h0, hai, ← hY, c_136]; rfl, congrArg (fun X => pM G h mo X A dg) (by unfold g_lay; rw [if_pos h0, hai, ← hY]), rfl⟩ dX6_lays_146
    · intro j h_j ih_j
      refine r_iload C dX6_lays_51 rfl ?_
      refine r_aload_n C dX6_lays_53 rfl rfl ?_
      refine r_get C (j := 1) rfl in_X6 (MA_o MA_pM) (by decide) fl_X6_7 rfl rfl dX6_lays_54 ?_
      refine r_sipush C (v := 337) dX6_lays_57 rfl ?_
      refine r_iload C dX6_lays_60 rfl ?_
      refine r_iadd C dX6_lays_62 ?_
      refine V.st0 (nI_add (337) (q)) ?_
      refine r_iald C (MA_s MA_pM) (vp_in_nI (by omega) (by decide)) dX6_lays_63 ?_
      refine V.st0 (en_tal0 (p := q) (by omega) _) ?_
      refine V.st0 ((show _ = nI (H q) from by rw [th_n _ _ _ (by decide), gP_n (by decide), gP_n (by decide), putE_n _ _ _ _ (by decide)]; exact o.held (by omega))) ?_
      refine r_iconst C (v := 1) dX6_lays_64 rfl ?_
      refine r_isub C dX6_lays_65 ?_
      refine V.st0 (pk_sub (a := (H q)) (b := 1) (by omega)) ?_
      refine r_icmp_ge C 101 dX6_lays_66 (by decide) (fun c => absurd c (nI_ge (by omega) (by omega))) (fun _ => ?_)
      refine r_aload_n C dX6_lays_69 rfl rfl ?_
      refine r_get C (j := 1) rfl in_X6 (MA_o MA_pM) (by decide) fl_X6_7 rfl rfl dX6_lays_70 ?_
      refine r_iload C dX6_lays_73 rfl ?_
      refine r_iload C dX6_lays_75 rfl ?_
      refine r_cSi C (c_X6_inHand (a := q) (b := (i + j))) lk_X6_48 rfl rfl ⟨(Nat.le_of_ble_eq_true rfl), (Nat.le_of_ble_eq_true rfl), (Nat.le_of_ble_eq_true rfl), (Nat.le_of_ble_eq_true rfl), (Nat.le_of_ble_eq_true rfl)⟩ dX6_lays_77 ?_
      refine r_aload_n C dX6_lays_80 rfl rfl ?_
      refine r_get C (j := 1) rfl in_X6 (MA_o MA_pM) (by decide) fl_X6_7 rfl rfl dX6_lays_81 ?_
      refine r_iload C dX6_lays_84 rfl ?_
      refine r_iload C dX6_lays_86 rfl ?_
      refine r_iconst C (v := 1) dX6_lays_88 rfl ?_
      refine r_iadd C dX6_lays_89 ?_
      refine V.st0 (nI_add ((i + j)) (1)) ?_
      refine r_cSi C (c_X6_inHand (a := q) (b := ((i + j) + 1))) lk_X6_48 rfl rfl ⟨(Nat.le_of_ble_eq_true rfl), (Nat.le_of_ble_eq_true rfl), (Nat.le_of_ble_eq_true rfl), (Nat.le_of_ble_eq_true rfl), (Nat.le_of_ble_eq_true rfl)⟩ dX6_lays_90 ?_
      refine r_iald C (MA_s MA_pM) (vp_in_nI (by omega) (by decide)) dX6_lays_93 ?_
      refine V.st0 (en_ih (p := q) (i := ((i + j) + 1)) (by omega) (by omega) _) ?_
      refine r_iast C (MA_s MA_pM) (vp_in_nI (by omega) (by decide)) dX6_lays_94 ?_
      refine V.heap (qP_ih (p := q) (i := (i + j)) (by omega) (by omega)) ?_
      refine r_iinc C (v := 1) dX6_lays_95 rfl rfl (by decide) ?_
      refine r_goto C 51 dX6_lays_98 (by decide) ?_
      refine V.heap (h2 := (pM G h mo (g_th (gP (gP (g_putE S (nI t) (nI r) (nI d)) 0 (nI t) 2 2) 0 (nI t) 5 (nI r)) (nI q) i (j + 1)) A dg)) (congrArg (fun X => pM G h mo X A dg) (by show _ = gP _ 1 (nI q) (nI (i + j)) (tAt 28 112 _ (nI q) (nI (i + j) + 1)); rw [nI_1])) ?_
      refine V.sub [(0, .ref mo), (1, .int a), (2, .int (nI r)), (3, .int (nI d)), (5, .int (nI q)), (6, .int (nI (i + (j + 1))))] ⟨rfl, rfl, rfl, rfl, rfl, by rw [show i + (j + 1) = i + j + 1 by omega, ← nI_1 (i + j)]; rfl, trivial⟩ ?_
      exact ih_j
  · have e_11 := i32_lt c_11
    refine r_aload_n C dX6_lays_14 rfl rfl ?_
    refine r_iload C dX6_lays_15 rfl ?_
    refine r_cVi C (c_X6_refuses MA_pM) lk_X6_86 rfl (MA_o MA_pM) rfl rfl ⟨(Nat.le_of_ble_eq_true rfl), (Nat.le_of_ble_eq_true rfl), (Nat.le_of_ble_eq_true rfl), (Nat.le_of_ble_eq_true rfl), (Nat.le_of_ble_eq_true rfl)⟩ dX6_lays_17 ?_
    refine V.heap (pM_pM _ _ _ _ _ _ _ _) ?_
    exact r_iret C rfl (Nat.le_of_ble_eq_true rfl) (Nat.le_of_ble_eq_true rfl) ⟨by unfold g_layA; rw [if_neg (reason_nle c_11)], congrArg (fun X => pM G h mo X A dg) (by unfold g_lay; rw [if_neg (reason_nle c_11)]), rfl⟩ dX6_lays_20

set_option maxHeartbeats 800000 in
set_option maxRecDepth 100000 in
theorem c_X6_draws {G : ga_} {l : Launch} {h : HP} {sz : Nat} {mo : Nat} {S A : gS} {dg : Int64} {n : Nat}  (w : MA G h mo S A dg)  (hg : gOk n S) : Mf G l yX6_draws cX6_draws 3 (some .int) 3 68 0 0 [.ref mo] h sz (some (.int (g_drawA S))) (pM G h mo (g_draw S) (A) (dg)) sz := by
  refine Mg.ofV [(0, .ref mo)] (by decide) (Nat.le_of_ble_eq_true rfl) rfl ?_
  intro p e s m args below meth c C
  refine V.heap (pM_id w).symm ?_
  obtain ⟨P, K, W, Q, T, F, H, R, L, gr, ag, o, t0⟩ := hg
  obtain ⟨hP2, hP, hK, hW1, hW9, hQ, -⟩ := o.n5.1
  rcases o.mv with hm | ⟨q, hq, hm⟩
  · have hov : g_over S = true := decide_eq_true hm
    refine r_aload_n C dX6_draws_0 rfl rfl ?_
    refine r_get C (j := 1) rfl in_X6 (MA_o MA_pM) (by decide) fl_X6_7 rfl rfl dX6_draws_1 ?_
    refine r_sipush C (v := 342) dX6_draws_4 rfl ?_
    refine r_iald C (MA_s MA_pM) (vp_in_nI (n := 342) (by decide) (by decide)) dX6_draws_7 ?_
    refine V.st0 (en_sc1 _) ?_
    refine r_iconst C (v := -1) dX6_draws_8 rfl ?_
    refine r_icmp_eq C 19 dX6_draws_9 (by decide) (fun _ => ?_) (fun c => absurd hm c)
    refine r_bipush C (v := 100) dX6_draws_19 rfl ?_
    refine r_aload_n C dX6_draws_21 rfl rfl ?_
    refine r_aload_n C dX6_draws_22 rfl rfl ?_
    refine r_get C (j := 1) rfl in_X6 (MA_o MA_pM) (by decide) fl_X6_7 rfl rfl dX6_draws_23 ?_
    refine r_sipush C (v := 342) dX6_draws_26 rfl ?_
    refine r_iald C (MA_s MA_pM) (vp_in_nI (n := 342) (by decide) (by decide)) dX6_draws_29 ?_
    refine V.st0 (en_sc1 _) ?_
    refine r_iconst C (v := -1) dX6_draws_30 rfl ?_
    refine r_icmp_ne C 38 dX6_draws_31 (by decide) (fun c => absurd hm c) (fun _ => ?_)
    refine r_iconst C (v := 1) dX6_draws_34 rfl ?_
    refine r_goto C 39 dX6_draws_35 (by decide) ?_
    refine r_cVi C (c_X6_refuses MA_pM) lk_X6_86 rfl (MA_o MA_pM) rfl rfl ⟨(Nat.le_of_ble_eq_true rfl), (Nat.le_of_ble_eq_true rfl), (Nat.le_of_ble_eq_true rfl), (Nat.le_of_ble_eq_true rfl), (Nat.le_of_ble_eq_true rfl)⟩ dX6_draws_39 ?_
    refine V.heap (pM_pM _ _ _ _ _ _ _ _) ?_
    refine r_iadd C dX6_draws_42 ?_
    exact r_iret C rfl (Nat.le_of_ble_eq_true rfl) (Nat.le_of_ble_eq_true rfl) ⟨by unfold g_drawA; rw [hov, Bool.true_or, if_pos rfl, show g_over (g_ref S) = true from hov]; rfl, congrArg (fun X => pM G h mo X A dg) (by unfold g_draw; rw [hov, Bool.true_or, if_pos rfl]), rfl⟩ dX6_draws_43
  · have hov : g_over S = false := o.overN (by omega) hm
    refine r_aload_n C dX6_draws_0 rfl rfl ?_
    refine r_get C (j := 1) rfl in_X6 (MA_o MA_pM) (by decide) fl_X6_7 rfl rfl dX6_draws_1 ?_
    refine r_sipush C (v := 342) dX6_draws_4 rfl ?_
    refine r_iald C (MA_s MA_pM) (vp_in_nI (n := 342) (by decide) (by decide)) dX6_draws_7 ?_
    refine V.st0 (en_sc1 _) ?_
    refine V.st0 (hm) ?_
    refine r_iconst C (v := -1) dX6_draws_8 rfl ?_
    refine r_icmp_eq C 19 dX6_draws_9 (by decide) (fun c => absurd c (nI_ne1 (by omega))) (fun _ => ?_)
    refine r_aload_n C dX6_draws_12 rfl rfl ?_
    refine r_cVi C (c_X6_inStock MA_pM) lk_X6_72 rfl (MA_o MA_pM) rfl rfl ⟨(Nat.le_of_ble_eq_true rfl), (Nat.le_of_ble_eq_true rfl), (Nat.le_of_ble_eq_true rfl), (Nat.le_of_ble_eq_true rfl), (Nat.le_of_ble_eq_true rfl)⟩ dX6_draws_13 ?_
    refine r_if_ne C 44 dX6_draws_16 (by decide) (fun c_16 => ?_) (fun c_16 => ?_)
    · skip
      have hK2 : K < 28 := by have := (not_congr (stock_0 o)).mp c_16; omega
      obtain ⟨t, ht, et, -⟩ := o.takeT hK2 (nI q)
      have hh := oh_le o.hh (show q < 4 by omega)
      have o2 := o.draw2 hq hm hK2
      obtain ⟨e1, e2⟩ := draw_eq o hq hm hK2
      have hY : gc (g_take (gI S 2 (nI q) 3 1) (nI q)) 4 (if (0 : Int32) = 0 then 0 else (g_take (gI S 2 (nI q) 3 1) (nI q)) 5 4 + 1) = g_draw2 S := by rw [if_pos rfl]; exact e1
      refine r_aload_n C dX6_draws_44 rfl rfl ?_
      refine r_get C (j := 1) rfl in_X6 (MA_o MA_pM) (by decide) fl_X6_7 rfl rfl dX6_draws_45 ?_
      refine r_sipush C (v := 354) dX6_draws_48 rfl ?_
      refine r_aload_n C dX6_draws_51 rfl rfl ?_
      refine r_get C (j := 1) rfl in_X6 (MA_o MA_pM) (by decide) fl_X6_7 rfl rfl dX6_draws_52 ?_
      refine r_sipush C (v := 342) dX6_draws_55 rfl ?_
      refine r_iald C (MA_s MA_pM) (vp_in_nI (n := 342) (by decide) (by decide)) dX6_draws_58 ?_
      refine V.st0 (en_sc1 _) ?_
      refine V.st0 (hm) ?_
      refine r_iadd C dX6_draws_59 ?_
      refine V.st0 (nI_add (354) (q)) ?_
      refine r_dup2 C dX6_draws_60 rfl rfl ?_
      refine r_iald C (MA_s MA_pM) (vp_in_nI (by omega) (by decide)) dX6_draws_61 ?_
      refine V.st0 (en_tal3 (p := q) (by omega) _) ?_
      refine r_iconst C (v := 1) dX6_draws_62 rfl ?_
      refine r_iadd C dX6_draws_63 ?_
      refine r_iast C (MA_s MA_pM) (vp_in_nI (by omega) (by decide)) dX6_draws_64 ?_
      refine V.heap (qI_tal3 (p := q) (by omega)) ?_
      refine r_aload_n C dX6_draws_65 rfl rfl ?_
      refine r_aload_n C dX6_draws_66 rfl rfl ?_
      refine r_get C (j := 1) rfl in_X6 (MA_o MA_pM) (by decide) fl_X6_7 rfl rfl dX6_draws_67 ?_
      refine r_sipush C (v := 342) dX6_draws_70 rfl ?_
      refine r_iald C (MA_s MA_pM) (vp_in_nI (n := 342) (by decide) (by decide)) dX6_draws_73 ?_
      refine V.st0 (en_sc1 _) ?_
      refine V.st0 (hm) ?_
      refine r_cVi C (c_X6_takes (u := q) (k := K) (t := t) (a := H q) MA_pM (by omega) o.n5.2.2.1 hK2 ht (by exact (at4 hK2).trans et) ((o.tal3 hq).held (by omega)) (by omega)) lk_X6_58 rfl (MA_o MA_pM) rfl rfl ⟨(Nat.le_of_ble_eq_true rfl), (Nat.le_of_ble_eq_true rfl), (Nat.le_of_ble_eq_true rfl), (Nat.le_of_ble_eq_true rfl), (Nat.le_of_ble_eq_true rfl)⟩ dX6_draws_74 ?_
      refine V.heap (pM_pM _ _ _ _ _ _ _ _) ?_
      refine r_istore_n C dX6_draws_77 rfl (by decide) ?_
      refine r_aload_n C dX6_draws_78 rfl rfl ?_
      refine r_iconst C (v := 0) dX6_draws_79 rfl ?_
      refine r_cVi C (c_X6_isOver (b := 0) (q := q) MA_pM (by rw [hY]; exact o2.1) hq hm) lk_X6_93 rfl (MA_o MA_pM) rfl rfl ⟨(Nat.le_of_ble_eq_true rfl), (Nat.le_of_ble_eq_true rfl), (Nat.le_of_ble_eq_true rfl), (Nat.le_of_ble_eq_true rfl), (Nat.le_of_ble_eq_true rfl)⟩ dX6_draws_80 ?_
      refine V.heap (pM_pM _ _ _ _ _ _ _ _) ?_
      refine r_istore_n C dX6_draws_83 rfl (by decide) ?_
      refine r_iload_n C dX6_draws_84 rfl rfl ?_
      exact r_iret C rfl (Nat.le_of_ble_eq_true rfl) (Nat.le_of_ble_eq_true rfl) ⟨by unfold g_drawA; rw [hov, decide_eq_false c_16, e2]; rfl, congrArg (fun X => pM G h mo X A dg) (by unfold g_draw; rw [hov, decide_eq_false c_16, hY]; rfl), rfl⟩ dX6_draws_85
    · skip
      refine r_bipush C (v := 100) dX6_draws_19 rfl ?_
      refine r_aload_n C dX6_draws_21 rfl rfl ?_
      refine r_aload_n C dX6_draws_22 rfl rfl ?_
      refine r_get C (j := 1) rfl in_X6 (MA_o MA_pM) (by decide) fl_X6_7 rfl rfl dX6_draws_23 ?_
      refine r_sipush C (v := 342) dX6_draws_26 rfl ?_
      refine r_iald C (MA_s MA_pM) (vp_in_nI (n := 342) (by decide) (by decide)) dX6_draws_29 ?_
      refine V.st0 (en_sc1 _) ?_
      refine V.st0 (hm) ?_
      refine r_iconst C (v := -1) dX6_draws_30 rfl ?_
      refine r_icmp_ne C 38 dX6_draws_31 (by decide) (fun _ => ?_) (fun c => absurd c (nI_ne1 (by omega)))
      refine r_iconst C (v := 4) dX6_draws_38 rfl ?_
      refine r_cVi C (c_X6_refuses MA_pM) lk_X6_86 rfl (MA_o MA_pM) rfl rfl ⟨(Nat.le_of_ble_eq_true rfl), (Nat.le_of_ble_eq_true rfl), (Nat.le_of_ble_eq_true rfl), (Nat.le_of_ble_eq_true rfl), (Nat.le_of_ble_eq_true rfl)⟩ dX6_draws_39 ?_
      refine V.heap (pM_pM _ _ _ _ _ _ _ _) ?_
      refine r_iadd C dX6_draws_42 ?_
      exact r_iret C rfl (Nat.le_of_ble_eq_true rfl) (Nat.le_of_ble_eq_true rfl) ⟨by unfold g_drawA; rw [c_16, hov, decide_eq_true rfl, Bool.or_true, if_pos rfl, show g_over (g_ref S) = false from hov]; rfl, congrArg (fun X => pM G h mo X A dg) (by unfold g_draw; rw [c_16, decide_eq_true rfl, Bool.or_true, if_pos rfl]), rfl⟩ dX6_draws_43


set_option maxHeartbeats 800000 in
set_option maxRecDepth 100000 in
theorem c_X6_passes {G : ga_} {l : Launch} {h : HP} {sz : Nat} {mo : Nat} {S A : gS} {dg : Int64} {n : Nat}  (w : MA G h mo S A dg)  (hg : gOk n S) : Mf G l yX6_passes cX6_passes 1 (some .int) 3 68 0 0 [.ref mo] h sz (some (.int (g_passA S))) (pM G h mo (g_pass S) (A) (dg)) sz := by
  refine Mg.ofV [(0, .ref mo)] (by decide) (Nat.le_of_ble_eq_true rfl) rfl ?_
  intro p e s m args below meth c C
  refine V.heap (pM_id w).symm ?_
  obtain ⟨P, K, W, Q, T, F, H, R, L, gr, ag, o, t0⟩ := hg
  obtain ⟨hP2, hP, hK, hW1, hW9, hQ, -⟩ := o.n5.1
  rcases o.mv with hm | ⟨q, hq, hm⟩
  · have hov : g_over S = true := decide_eq_true hm
    refine r_aload_n C dX6_passes_0 rfl rfl ?_
    refine r_get C (j := 1) rfl in_X6 (MA_o MA_pM) (by decide) fl_X6_7 rfl rfl dX6_passes_1 ?_
    refine r_sipush C (v := 342) dX6_passes_4 rfl ?_
    refine r_iald C (MA_s MA_pM) (vp_in_nI (n := 342) (by decide) (by decide)) dX6_passes_7 ?_
    refine V.st0 (en_sc1 _) ?_
    refine r_iconst C (v := -1) dX6_passes_8 rfl ?_
    refine r_icmp_eq C 19 dX6_passes_9 (by decide) (fun _ => ?_) (fun c => absurd hm c)
    refine r_aload_n C dX6_passes_19 rfl rfl ?_
    refine r_aload_n C dX6_passes_20 rfl rfl ?_
    refine r_get C (j := 1) rfl in_X6 (MA_o MA_pM) (by decide) fl_X6_7 rfl rfl dX6_passes_21 ?_
    refine r_sipush C (v := 342) dX6_passes_24 rfl ?_
    refine r_iald C (MA_s MA_pM) (vp_in_nI (n := 342) (by decide) (by decide)) dX6_passes_27 ?_
    refine V.st0 (en_sc1 _) ?_
    refine r_iconst C (v := -1) dX6_passes_28 rfl ?_
    refine r_icmp_ne C 36 dX6_passes_29 (by decide) (fun c => absurd hm c) (fun _ => ?_)
    refine r_iconst C (v := 1) dX6_passes_32 rfl ?_
    refine r_goto C 37 dX6_passes_33 (by decide) ?_
    refine r_cVi C (c_X6_refuses MA_pM) lk_X6_86 rfl (MA_o MA_pM) rfl rfl ⟨(Nat.le_of_ble_eq_true rfl), (Nat.le_of_ble_eq_true rfl), (Nat.le_of_ble_eq_true rfl), (Nat.le_of_ble_eq_true rfl), (Nat.le_of_ble_eq_true rfl)⟩ dX6_passes_37 ?_
    refine V.heap (pM_pM _ _ _ _ _ _ _ _) ?_
    exact r_iret C rfl (Nat.le_of_ble_eq_true rfl) (Nat.le_of_ble_eq_true rfl) ⟨by unfold g_passA; rw [hov, Bool.true_or, if_pos rfl, show g_over (g_ref S) = true from hov]; rfl, congrArg (fun X => pM G h mo X A dg) (by unfold g_pass; rw [hov, Bool.true_or, if_pos rfl]), rfl⟩ dX6_passes_40
  · have hov : g_over S = false := o.overN (by omega) hm
    have hQ1 : Q < P := t0.2.2.resolve_left (by rw [hm]; exact nI_ne1 (by omega))
    have hY : gc S 4 (if (1 : Int32) = 0 then 0 else S 5 4 + 1) = gc S 4 (S 5 4 + 1) := rfl
    have o1 : gO n (gc S 4 (S 5 4 + 1)) P K W (Q + 1) T F H R L gr ag := by rw [o.n5.2.2.2.2.1, nI_1]; exact o.pz hQ1
    refine r_aload_n C dX6_passes_0 rfl rfl ?_
    refine r_get C (j := 1) rfl in_X6 (MA_o MA_pM) (by decide) fl_X6_7 rfl rfl dX6_passes_1 ?_
    refine r_sipush C (v := 342) dX6_passes_4 rfl ?_
    refine r_iald C (MA_s MA_pM) (vp_in_nI (n := 342) (by decide) (by decide)) dX6_passes_7 ?_
    refine V.st0 (en_sc1 _) ?_
    refine V.st0 (hm) ?_
    refine r_iconst C (v := -1) dX6_passes_8 rfl ?_
    refine r_icmp_eq C 19 dX6_passes_9 (by decide) (fun c => absurd c (nI_ne1 (by omega))) (fun _ => ?_)
    refine r_aload_n C dX6_passes_12 rfl rfl ?_
    refine r_cVi C (c_X6_inStock MA_pM) lk_X6_72 rfl (MA_o MA_pM) rfl rfl ⟨(Nat.le_of_ble_eq_true rfl), (Nat.le_of_ble_eq_true rfl), (Nat.le_of_ble_eq_true rfl), (Nat.le_of_ble_eq_true rfl), (Nat.le_of_ble_eq_true rfl)⟩ dX6_passes_13 ?_
    refine r_if_le C 41 dX6_passes_16 (by decide) (fun c_16 => ?_) (fun c_16 => ?_)
    · have e_16 := i32_nlt c_16
      refine r_aload_n C dX6_passes_41 rfl rfl ?_
      refine r_iconst C (v := 1) dX6_passes_42 rfl ?_
      refine r_cVi C (c_X6_isOver (b := 1) (q := q) MA_pM (by rw [hY]; exact o1) hq hm) lk_X6_93 rfl (MA_o MA_pM) rfl rfl ⟨(Nat.le_of_ble_eq_true rfl), (Nat.le_of_ble_eq_true rfl), (Nat.le_of_ble_eq_true rfl), (Nat.le_of_ble_eq_true rfl), (Nat.le_of_ble_eq_true rfl)⟩ dX6_passes_43 ?_
      refine V.heap (pM_pM _ _ _ _ _ _ _ _) ?_
      refine r_if_eq C 54 dX6_passes_46 (by decide) (fun c_46 => ?_) (fun c_46 => ?_)
      · have c_46 := bI_f c_46
        refine r_bipush C (v := 10) dX6_passes_54 rfl ?_
        exact r_iret C rfl (Nat.le_of_ble_eq_true rfl) (Nat.le_of_ble_eq_true rfl) ⟨by unfold g_passA g_endA; rw [hov, decide_eq_false e_16, Bool.or_false, if_neg (show ¬ (false = true) by decide), ← hY, c_46]; rfl, congrArg (fun X => pM G h mo X A dg) (by unfold g_pass; rw [hov, decide_eq_false e_16, Bool.or_false, if_neg (show ¬ (false = true) by decide), ← hY]), rfl⟩ dX6_passes_56
      · have c_46 := bI_t c_46
        refine r_bipush C (v := 11) dX6_passes_49 rfl ?_
        refine r_goto C 56 dX6_passes_51 (by decide) ?_
        exact r_iret C rfl (Nat.le_of_ble_eq_true rfl) (Nat.le_of_ble_eq_true rfl) ⟨by unfold g_passA g_endA; rw [hov, decide_eq_false e_16, Bool.or_false, if_neg (show ¬ (false = true) by decide), ← hY, c_46]; rfl, congrArg (fun X => pM G h mo X A dg) (by unfold g_pass; rw [hov, decide_eq_false e_16, Bool.or_false, if_neg (show ¬ (false = true) by decide), ← hY]), rfl⟩ dX6_passes_56
    · have e_16 := i32_lt c_16
      refine r_aload_n C dX6_passes_19 rfl rfl ?_
      refine r_aload_n C dX6_passes_20 rfl rfl ?_
      refine r_get C (j := 1) rfl in_X6 (MA_o MA_pM) (by decide) fl_X6_7 rfl rfl dX6_passes_21 ?_
      refine r_sipush C (v := 342) dX6_passes_24 rfl ?_
      refine r_iald C (MA_s MA_pM) (vp_in_nI (n := 342) (by decide) (by decide)) dX6_passes_27 ?_
      refine V.st0 (en_sc1 _) ?_
      refine V.st0 (hm) ?_
      refine r_iconst C (v := -1) dX6_passes_28 rfl ?_
      refine r_icmp_ne C 36 dX6_passes_29 (by decide) (fun _ => ?_) (fun c => absurd c (nI_ne1 (by omega)))
      refine r_iconst C (v := 5) dX6_passes_36 rfl ?_
      refine r_cVi C (c_X6_refuses MA_pM) lk_X6_86 rfl (MA_o MA_pM) rfl rfl ⟨(Nat.le_of_ble_eq_true rfl), (Nat.le_of_ble_eq_true rfl), (Nat.le_of_ble_eq_true rfl), (Nat.le_of_ble_eq_true rfl), (Nat.le_of_ble_eq_true rfl)⟩ dX6_passes_37 ?_
      refine V.heap (pM_pM _ _ _ _ _ _ _ _) ?_
      exact r_iret C rfl (Nat.le_of_ble_eq_true rfl) (Nat.le_of_ble_eq_true rfl) ⟨by unfold g_passA; rw [decide_eq_true e_16, hov, Bool.or_true, if_pos rfl, show g_over (g_ref S) = false from hov]; rfl, congrArg (fun X => pM G h mo X A dg) (by unfold g_pass; rw [decide_eq_true e_16, Bool.or_true, if_pos rfl]), rfl⟩ dX6_passes_40


