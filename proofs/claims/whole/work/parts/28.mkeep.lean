/-! THE MODEL SAVES, KEEPS, GOES BACK, UNDOES -/
theorem cpy_0 {f g : Nat → Int32} {sp dp : Nat} : va_cpy f g sp dp 0 = g := by
  funext x
  unfold va_cpy
  exact if_neg (by omega)
theorem cpy_s {f g : Nat → Int32} {sp dp k : Nat} {v : Int32} (hv : v = f (sp + k)) : upd (va_cpy f g sp dp k) (dp + k) v = va_cpy f g sp dp (k + 1) := by
  funext x
  unfold upd va_cpy
  by_cases c : x = dp + k
  · rw [if_pos c, if_pos (by omega), hv, show sp + k = sp + (x - dp) by omega]
  · rw [if_neg c]
    by_cases d : dp ≤ x ∧ x < dp + k
    · rw [if_pos d, if_pos (by omega)]
    · rw [if_neg d, if_neg (by omega)]
theorem gu_gu {S : gS} {j : Nat} {f g : Nat → Int32} : gu (gu S j f) j g = gu S j g := by
  funext k
  by_cases c : k = j
  · subst c; rw [gu_s, gu_s]
  · rw [gu_n c, gu_n c, gu_n c]
theorem gu_id {S : gS} {j : Nat} : gu S j (S j) = S := by
  funext k
  by_cases c : k = j
  · subst c; rw [gu_s]
  · rw [gu_n c]
theorem gu_cm {S : gS} {i j : Nat} {f g : Nat → Int32} (h : i ≠ j) : gu (gu S i f) j g = gu (gu S j g) i f := by
  funext k
  by_cases c : k = j
  · subst c; rw [gu_s, gu_n (fun e => h e.symm), gu_s]
  · rw [gu_n c]
    by_cases d : k = i
    · subst d; rw [gu_s, gu_s]
    · rw [gu_n d, gu_n d, gu_n c]
def m_mx (S S2 : gS) (k : Nat) : gS := fun j i => if pl_ j i < k then S2 j i else S j i
theorem mx_0 {S S2 : gS} : m_mx S S2 0 = S := by funext j i; exact if_neg (by omega)
theorem mx_en {S S2 : gS} {k a : Nat} (ha : a < 372) : en (m_mx S S2 k) a = if a < k then en S2 a else en S a := by
  unfold en m_mx
  rw [if_pos ha, if_pos ha, if_pos ha, pl_ok a ha]
theorem mx_s {S S2 : gS} {k : Nat} {v : Int32} (hk : k < 372) (hv : v = en S2 k) : upd (en (m_mx S S2 k)) k v = en (m_mx S S2 (k + 1)) := by
  funext x
  unfold upd
  by_cases hx : x < 372
  · rw [mx_en hx, mx_en hx]
    by_cases c : x = k
    · subst c; rw [if_pos rfl, if_pos (by omega), hv]
    · rw [if_neg c]
      by_cases d : x < k
      · rw [if_pos d, if_pos (by omega)]
      · rw [if_neg d, if_neg (by omega)]
  · rw [if_neg (by omega)]
    unfold en
    rw [if_neg hx, if_neg hx]
theorem mx_e {S S2 : gS} : en (m_mx S S2 372) = en S2 := by
  funext x
  by_cases hx : x < 372
  · rw [mx_en hx, if_pos hx]
  · unfold en; rw [if_neg hx, if_neg hx]
theorem pM_en {G : ga_} {h : HP} {mo : Nat} {S S2 A : gS} {dg : Int64} (e : en S = en S2) : pM G h mo S A dg = pM G h mo S2 A dg := by
  have hc : ∀ j, mC G mo S A dg j = mC G mo S2 A dg j := by
    intro j
    match j with
    | 0 => rfl
    | 1 => show aI_ G 372 (en S) = aI_ G 372 (en S2); rw [e]
    | 2 => rfl
    | 3 => rfl
    | 4 => rfl
    | 5 => rfl
    | j + 6 => rfl
  funext a
  unfold pM
  rw [hc]
/-- the saved states: f the array, z how many -/
def m_sv (f s : Nat → Int32) (z : Nat) : Nat → Int32 := if z = 6 then va_cpy s (va_cpy f f 372 0 1860) 0 (372 * 5) 372 else va_cpy s f 0 (372 * z) 372
def m_z (z : Nat) : Nat := if z = 6 then 6 else z + 1
theorem kept_ok : ∀ k, k < 4 → ∀ s, s < 2 → ((nI k >>> (nI s &&& 31)) &&& 1) = nI (k / 2 ^ s % 2) ∧ (nI k ||| ((1 : Int32) <<< (nI s &&& 31))) = nI (k ||| 2 ^ s) := by decide +kernel
theorem sv_s (f : Nat → Int32) (i : Nat) : upd (va_cpy f f 372 0 i) i (va_cpy f f 372 0 i (i + 372)) = va_cpy f f 372 0 (i + 1) := by
  have h : va_cpy f f 372 0 i (i + 372) = f (372 + i) := by
    unfold va_cpy
    rw [if_neg (by omega), Nat.add_comm]
  have e := cpy_s (f := f) (g := f) (sp := 372) (dp := 0) (k := i) h
  rw [Nat.zero_add] at e
  exact e
theorem sv_e (A : gS) (f : Nat → Int32) (v : Int32) : ac (gu A 1 f) 1 v = gu (ac (gu A 1 f) 1 v) 1 f := by
  unfold ac
  rw [gu_cm (by decide), gu_gu]
theorem sv_6 (A : gS) (f : Nat → Int32) {g : Nat → Int32} {v u : Int32} : ac (gu (ac (gu A 1 g) 1 v) 1 f) 1 u = ac (gu A 1 f) 1 u := by
  unfold ac
  rw [gu_cm (S := gu A 1 g) (by decide), gu_gu, gu_gu]
  congr 1
  funext b
  by_cases c : b = 1
  · rw [if_pos c, if_pos c]
  · rw [if_neg c, if_neg c]
    show (if b = 1 then v else A 6 b) = A 6 b
    rw [if_neg c]
set_option maxHeartbeats 800000 in
set_option maxRecDepth 100000 in
theorem c_X6_save {G : ga_} {l : Launch} {h : HP} {sz : Nat} {mo : Nat} {S A : gS} {dg : Int64} {z : Nat}  (w : MA G h mo S A dg)  (hz : A 6 1 = nI z) (hz6m : z ≤ 6) : Mf G l yX6_save cX6_save 2 none 0 0 0 0 [.ref mo] h sz none (pM G h mo (S) (ac (gu A 1 (m_sv (A 1) (en S) z)) 1 (nI (m_z z))) (dg)) sz := by
  refine Mg.ofV [(0, .ref mo)] (by decide) (Nat.le_of_ble_eq_true rfl) rfl ?_
  intro p e s m args below meth c C
  refine V.heap (pM_id w).symm ?_
  by_cases hz6 : z = 6
  · have h6 : A 6 1 = nI 6 := by rw [hz, hz6]
    refine r_aload_n C dX6_save_0 rfl rfl ?_
    refine r_get C (j := 3) rfl in_X6 (MA_o MA_pM) (by decide) fl_X6_41 rfl rfl dX6_save_1 ?_
    refine V.st0 (hz) ?_
    refine r_bipush C (v := 6) dX6_save_4 rfl ?_
    refine r_icmp_ne C 50 dX6_save_6 (by decide) (fun c => absurd (by rw [hz6]; rfl) c) (fun _ => ?_)
    refine r_iconst C (v := 0) dX6_save_9 rfl ?_
    refine r_istore_n C dX6_save_10 rfl (by decide) ?_
    refine V.heap (h2 := pM G h mo S (gu A 1 (va_cpy (A 1) (A 1) 372 0 0)) dg) (congrArg (fun X => pM G h mo S X dg) (by rw [cpy_0, gu_id])) ?_
    refine V.sub [(0, .ref mo), (1, .int (nI 0))] ⟨rfl, rfl, trivial⟩ ?_
    refine down_ (P := fun i => V p l e ⟨0, 0, 0, 0⟩ s m args below meth c G 2 (Qg G below args s 0 0 (fun v1 h1 s1 => v1 = none ∧ h1 = (pM G h mo (S) (ac (gu A 1 (m_sv (A 1) (en S) z)) 1 (nI (m_z z))) (dg)) ∧ s1 = sz)) (pM G h mo S (gu A 1 (va_cpy (A 1) (A 1) 372 0 i)) dg) sz 0 0 11 [(0, .ref mo), (1, .int (nI i))] []) (1860) ?_ ?_
    · refine r_iload_n C dX6_save_11 rfl rfl ?_
      refine r_sipush C (v := 1860) dX6_save_12 rfl ?_
      refine r_icmp_ge C 40 dX6_save_15 (by decide) (fun _ => ?_) (fun c => absurd (by decide) c)
      refine r_aload_n C dX6_save_40 rfl rfl ?_
      refine r_dup C dX6_save_41 rfl ?_
      refine r_get C (j := 3) rfl in_X6 (MA_o MA_pM) (by decide) fl_X6_41 rfl rfl dX6_save_42 ?_
      refine V.st0 (h6) ?_
      refine r_iconst C (v := 1) dX6_save_45 rfl ?_
      refine r_isub C dX6_save_46 ?_
      refine V.st0 (pk_sub (a := 6) (b := 1) (by omega)) ?_
      refine r_put C (j := 3) tyX6 tyX6_ok nmX6 rfl in_X6 (MA_o MA_pM) (by decide) fl_X6_41 rfl rfl rfl (by first | rfl | decide) (by first | rfl | decide) (Nat.le_of_ble_eq_true rfl) dX6_save_47 ?_
      refine V.heap (qM_f 1 _ rfl) ?_
      refine r_iconst C (v := 0) dX6_save_50 rfl ?_
      refine r_istore_n C dX6_save_51 rfl (by decide) ?_
      refine V.heap (h2 := pM G h mo S (gu (ac (gu A 1 (va_cpy (A 1) (A 1) 372 0 1860)) 1 (nI 5)) 1 (va_cpy (en S) (va_cpy (A 1) (A 1) 372 0 1860) 0 (372 * 5) 0)) dg) (congrArg (fun X => pM G h mo S X dg) (by rw [cpy_0]; exact sv_e _ _ _)) ?_
      refine V.sub [(0, .ref mo), (1, .int (nI 0))] ⟨rfl, rfl, trivial⟩ ?_
      refine down_ (P := fun j => V p l e ⟨0, 0, 0, 0⟩ s m args below meth c G 2 (Qg G below args s 0 0 (fun v1 h1 s1 => v1 = none ∧ h1 = (pM G h mo (S) (ac (gu A 1 (m_sv (A 1) (en S) z)) 1 (nI (m_z z))) (dg)) ∧ s1 = sz)) (pM G h mo S (gu (ac (gu A 1 (va_cpy (A 1) (A 1) 372 0 1860)) 1 (nI 5)) 1 (va_cpy (en S) (va_cpy (A 1) (A 1) 372 0 1860) 0 (372 * 5) j)) dg) sz 0 0 52 [(0, .ref mo), (1, .int (nI j))] []) (372) ?_ ?_
      · refine r_iload_n C dX6_save_52 rfl rfl ?_
        refine r_sipush C (v := 372) dX6_save_53 rfl ?_
        refine r_icmp_ge C 86 dX6_save_56 (by decide) (fun _ => ?_) (fun c => absurd (by decide) c)
        refine r_aload_n C dX6_save_86 rfl rfl ?_
        refine r_dup C dX6_save_87 rfl ?_
        refine r_get C (j := 3) rfl in_X6 (MA_o MA_pM) (by decide) fl_X6_41 rfl rfl dX6_save_88 ?_
        refine V.st0 (rfl) ?_
        refine r_iconst C (v := 1) dX6_save_91 rfl ?_
        refine r_iadd C dX6_save_92 ?_
        refine V.st0 (nI_add (5) (1)) ?_
        refine r_put C (j := 3) tyX6 tyX6_ok nmX6 rfl in_X6 (MA_o MA_pM) (by decide) fl_X6_41 rfl rfl rfl (by first | rfl | decide) (by first | rfl | decide) (Nat.le_of_ble_eq_true rfl) dX6_save_93 ?_
        refine V.heap (qM_f 1 _ rfl) ?_
        exact r_vret C rfl (Nat.le_of_ble_eq_true rfl) (Nat.le_of_ble_eq_true rfl) ⟨rfl, congrArg (fun X => pM G h mo S X dg) (by unfold m_sv m_z; rw [if_pos hz6, if_pos hz6]; exact sv_6 _ _), rfl⟩ dX6_save_96
      · intro j h_j ih_j
        refine r_iload_n C dX6_save_52 rfl rfl ?_
        refine r_sipush C (v := 372) dX6_save_53 rfl ?_
        refine r_icmp_ge C 86 dX6_save_56 (by decide) (fun c => absurd c (nI_ge (b := 372) h_j (by decide))) (fun _ => ?_)
        refine r_aload_n C dX6_save_59 rfl rfl ?_
        refine r_get C (j := 2) rfl in_X6 (MA_o MA_pM) (by decide) fl_X6_13 rfl rfl dX6_save_60 ?_
        refine r_sipush C (v := 372) dX6_save_63 rfl ?_
        refine r_aload_n C dX6_save_66 rfl rfl ?_
        refine r_get C (j := 3) rfl in_X6 (MA_o MA_pM) (by decide) fl_X6_41 rfl rfl dX6_save_67 ?_
        refine V.st0 (rfl) ?_
        refine r_imul C dX6_save_70 ?_
        refine V.st0 (nI_mul (372) (5)) ?_
        refine r_iload_n C dX6_save_71 rfl rfl ?_
        refine r_iadd C dX6_save_72 ?_
        refine V.st0 (nI_add ((372 * 5)) (j)) ?_
        refine r_aload_n C dX6_save_73 rfl rfl ?_
        refine r_get C (j := 1) rfl in_X6 (MA_o MA_pM) (by decide) fl_X6_7 rfl rfl dX6_save_74 ?_
        refine r_iload_n C dX6_save_77 rfl rfl ?_
        refine r_iald C (MA_s MA_pM) (vp_in_nI (by omega) (by decide)) dX6_save_78 ?_
        refine V.st0 (en_cl (by omega)) ?_
        refine r_iast C (MA_1 MA_pM) (vp_in_nI (by omega) (by decide)) dX6_save_79 ?_
        refine V.heap (qM_a1 (by omega)) ?_
        refine r_iinc C (v := 1) dX6_save_80 rfl rfl (by decide) ?_
        refine r_goto C 52 dX6_save_83 (by decide) ?_
        refine V.heap (h2 := (pM G h mo S (gu (ac (gu A 1 (va_cpy (A 1) (A 1) 372 0 1860)) 1 (nI 5)) 1 (va_cpy (en S) (va_cpy (A 1) (A 1) 372 0 1860) 0 (372 * 5) (j + 1))) dg)) (congrArg (fun X => pM G h mo S X dg) (by rw [gu_s, gu_gu, cpy_s (by rw [Nat.zero_add])])) ?_
        refine V.sub [(0, .ref mo), (1, .int (nI (j + 1)))] ⟨rfl, (by rw [← nI_1 j]; rfl), trivial⟩ ?_
        exact ih_j
    · intro i h_i ih_i
      refine r_iload_n C dX6_save_11 rfl rfl ?_
      refine r_sipush C (v := 1860) dX6_save_12 rfl ?_
      refine r_icmp_ge C 40 dX6_save_15 (by decide) (fun c => absurd c (nI_ge (b := 1860) h_i (by decide))) (fun _ => ?_)
      refine r_aload_n C dX6_save_18 rfl rfl ?_
      refine r_get C (j := 2) rfl in_X6 (MA_o MA_pM) (by decide) fl_X6_13 rfl rfl dX6_save_19 ?_
      refine r_iload_n C dX6_save_22 rfl rfl ?_
      refine r_aload_n C dX6_save_23 rfl rfl ?_
      refine r_get C (j := 2) rfl in_X6 (MA_o MA_pM) (by decide) fl_X6_13 rfl rfl dX6_save_24 ?_
      refine r_iload_n C dX6_save_27 rfl rfl ?_
      refine r_sipush C (v := 372) dX6_save_28 rfl ?_
      refine r_iadd C dX6_save_31 ?_
      refine V.st0 (nI_add (i) (372)) ?_
      refine r_iald C (MA_1 MA_pM) (vp_in_nI (by omega) (by decide)) dX6_save_32 ?_
      refine V.st0 (cl_f (by omega)) ?_
      refine r_iast C (MA_1 MA_pM) (vp_in_nI (by omega) (by decide)) dX6_save_33 ?_
      refine V.heap (qM_a1 (by omega)) ?_
      refine r_iinc C (v := 1) dX6_save_34 rfl rfl (by decide) ?_
      refine r_goto C 11 dX6_save_37 (by decide) ?_
      refine V.heap (h2 := (pM G h mo S (gu A 1 (va_cpy (A 1) (A 1) 372 0 (i + 1))) dg)) (congrArg (fun X => pM G h mo S X dg) (by rw [gu_s, gu_gu]; exact congrArg (gu A 1) (sv_s _ i))) ?_
      refine V.sub [(0, .ref mo), (1, .int (nI (i + 1)))] ⟨rfl, (by rw [← nI_1 i]; rfl), trivial⟩ ?_
      exact ih_i
  · skip
    refine r_aload_n C dX6_save_0 rfl rfl ?_
    refine r_get C (j := 3) rfl in_X6 (MA_o MA_pM) (by decide) fl_X6_41 rfl rfl dX6_save_1 ?_
    refine V.st0 (hz) ?_
    refine r_bipush C (v := 6) dX6_save_4 rfl ?_
    refine r_icmp_ne C 50 dX6_save_6 (by decide) (fun _ => ?_) (fun c => absurd c (fun e => hz6 (nI_inj (b := 6) (by omega) (by decide) e)))
    refine r_iconst C (v := 0) dX6_save_50 rfl ?_
    refine r_istore_n C dX6_save_51 rfl (by decide) ?_
    refine V.heap (h2 := pM G h mo S (gu A 1 (va_cpy (en S) (A 1) 0 (372 * z) 0)) dg) (congrArg (fun X => pM G h mo S X dg) (by rw [cpy_0, gu_id])) ?_
    refine V.sub [(0, .ref mo), (1, .int (nI 0))] ⟨rfl, rfl, trivial⟩ ?_
    refine down_ (P := fun j => V p l e ⟨0, 0, 0, 0⟩ s m args below meth c G 2 (Qg G below args s 0 0 (fun v1 h1 s1 => v1 = none ∧ h1 = (pM G h mo (S) (ac (gu A 1 (m_sv (A 1) (en S) z)) 1 (nI (m_z z))) (dg)) ∧ s1 = sz)) (pM G h mo S (gu A 1 (va_cpy (en S) (A 1) 0 (372 * z) j)) dg) sz 0 0 52 [(0, .ref mo), (1, .int (nI j))] []) (372) ?_ ?_
    · refine r_iload_n C dX6_save_52 rfl rfl ?_
      refine r_sipush C (v := 372) dX6_save_53 rfl ?_
      refine r_icmp_ge C 86 dX6_save_56 (by decide) (fun _ => ?_) (fun c => absurd (by decide) c)
      refine r_aload_n C dX6_save_86 rfl rfl ?_
      refine r_dup C dX6_save_87 rfl ?_
      refine r_get C (j := 3) rfl in_X6 (MA_o MA_pM) (by decide) fl_X6_41 rfl rfl dX6_save_88 ?_
      refine V.st0 (hz) ?_
      refine r_iconst C (v := 1) dX6_save_91 rfl ?_
      refine r_iadd C dX6_save_92 ?_
      refine V.st0 (nI_add (z) (1)) ?_
      refine r_put C (j := 3) tyX6 tyX6_ok nmX6 rfl in_X6 (MA_o MA_pM) (by decide) fl_X6_41 rfl rfl rfl (by first | rfl | decide) (by first | rfl | decide) (Nat.le_of_ble_eq_true rfl) dX6_save_93 ?_
      refine V.heap (qM_f 1 _ rfl) ?_
      exact r_vret C rfl (Nat.le_of_ble_eq_true rfl) (Nat.le_of_ble_eq_true rfl) ⟨rfl, congrArg (fun X => pM G h mo S X dg) (by unfold m_sv m_z; rw [if_neg hz6, if_neg hz6]; rfl), rfl⟩ dX6_save_96
    · intro j h_j ih_j
      refine r_iload_n C dX6_save_52 rfl rfl ?_
      refine r_sipush C (v := 372) dX6_save_53 rfl ?_
      refine r_icmp_ge C 86 dX6_save_56 (by decide) (fun c => absurd c (nI_ge (b := 372) h_j (by decide))) (fun _ => ?_)
      refine r_aload_n C dX6_save_59 rfl rfl ?_
      refine r_get C (j := 2) rfl in_X6 (MA_o MA_pM) (by decide) fl_X6_13 rfl rfl dX6_save_60 ?_
      refine r_sipush C (v := 372) dX6_save_63 rfl ?_
      refine r_aload_n C dX6_save_66 rfl rfl ?_
      refine r_get C (j := 3) rfl in_X6 (MA_o MA_pM) (by decide) fl_X6_41 rfl rfl dX6_save_67 ?_
      refine V.st0 (hz) ?_
      refine r_imul C dX6_save_70 ?_
      refine V.st0 (nI_mul (372) (z)) ?_
      refine r_iload_n C dX6_save_71 rfl rfl ?_
      refine r_iadd C dX6_save_72 ?_
      refine V.st0 (nI_add ((372 * z)) (j)) ?_
      refine r_aload_n C dX6_save_73 rfl rfl ?_
      refine r_get C (j := 1) rfl in_X6 (MA_o MA_pM) (by decide) fl_X6_7 rfl rfl dX6_save_74 ?_
      refine r_iload_n C dX6_save_77 rfl rfl ?_
      refine r_iald C (MA_s MA_pM) (vp_in_nI (by omega) (by decide)) dX6_save_78 ?_
      refine V.st0 (en_cl (by omega)) ?_
      refine r_iast C (MA_1 MA_pM) (vp_in_nI (by omega) (by decide)) dX6_save_79 ?_
      refine V.heap (qM_a1 (by omega)) ?_
      refine r_iinc C (v := 1) dX6_save_80 rfl rfl (by decide) ?_
      refine r_goto C 52 dX6_save_83 (by decide) ?_
      refine V.heap (h2 := (pM G h mo S (gu A 1 (va_cpy (en S) (A 1) 0 (372 * z) (j + 1))) dg)) (congrArg (fun X => pM G h mo S X dg) (by rw [gu_s, gu_gu, cpy_s (by rw [Nat.zero_add])])) ?_
      refine V.sub [(0, .ref mo), (1, .int (nI (j + 1)))] ⟨rfl, (by rw [← nI_1 j]; rfl), trivial⟩ ?_
      exact ih_j


set_option maxHeartbeats 800000 in
set_option maxRecDepth 100000 in
theorem c_X6_keep_t {G : ga_} {l : Launch} {h : HP} {sz : Nat} {mo : Nat} {S A : gS} {dg : Int64} {j : Nat} {kk : Nat}  (w : MA G h mo S A dg)  (hj : j < 2) (hk : A 6 2 = nI kk) (hk4 : kk < 4) : Mf G l yX6_keep cX6_keep 3 (some .int) 1 22 0 0 [.ref mo, .int (nI j)] h sz (some (.int (g_stock S))) (pM G h mo (S) (ac (gu (ac A 0 0) 2 (va_cpy (en S) (A 2) 0 (372 * j) 372)) 2 (nI (kk ||| 2 ^ j))) (dg)) sz := by
  refine Mg.ofV [(0, .ref mo), (1, .int (nI j))] (by decide) (Nat.le_of_ble_eq_true rfl) rfl ?_
  intro p e s m args below meth c C
  refine V.heap (pM_id w).symm ?_
  have hin : m_in (nI j) 0 1 = true := (by decide : ∀ j, j < 2 → m_in (nI j) 0 1 = true) j hj
  refine r_aload_n C dX6_keep_0 rfl rfl ?_
  refine r_iload_n C dX6_keep_1 rfl rfl ?_
  refine r_iconst C (v := 0) dX6_keep_2 rfl ?_
  refine r_iconst C (v := 1) dX6_keep_3 rfl ?_
  refine r_cSi C (c_X6_in) lk_X6_37 rfl rfl ⟨(Nat.le_of_ble_eq_true rfl), (Nat.le_of_ble_eq_true rfl), (Nat.le_of_ble_eq_true rfl), (Nat.le_of_ble_eq_true rfl), (Nat.le_of_ble_eq_true rfl)⟩ dX6_keep_4 ?_
  refine r_if_eq C 14 dX6_keep_7 (by decide) (fun c => absurd c (by rw [hin]; decide)) (fun _ => ?_)
  refine r_iconst C (v := 0) dX6_keep_10 rfl ?_
  refine r_goto C 15 dX6_keep_11 (by decide) ?_
  refine r_cVi C (c_X6_holds MA_pM) lk_X6_65 rfl (MA_o MA_pM) rfl rfl ⟨(Nat.le_of_ble_eq_true rfl), (Nat.le_of_ble_eq_true rfl), (Nat.le_of_ble_eq_true rfl), (Nat.le_of_ble_eq_true rfl), (Nat.le_of_ble_eq_true rfl)⟩ dX6_keep_15 ?_
  refine V.heap (pM_pM _ _ _ _ _ _ _ _) ?_
  refine r_if_ne C 23 dX6_keep_18 (by decide) (fun _ => ?_) (fun c => absurd c (by decide))
  refine r_iconst C (v := 0) dX6_keep_23 rfl ?_
  refine r_istore_n C dX6_keep_24 rfl (by decide) ?_
  refine V.heap (h2 := pM G h mo S (gu (ac A 0 0) 2 (va_cpy (en S) (A 2) 0 (372 * j) 0)) dg) (congrArg (fun X => pM G h mo S X dg) (by rw [cpy_0]; exact gu_id.symm)) ?_
  refine V.sub [(0, .ref mo), (1, .int (nI j)), (2, .int (nI 0))] ⟨rfl, rfl, rfl, trivial⟩ ?_
  refine down_ (P := fun i => V p l e ⟨1, 0, 0, 22⟩ s m args below meth c G 3 (Qg G below args s 0 0 (fun v1 h1 s1 => v1 = (some (.int (g_stock S))) ∧ h1 = (pM G h mo (S) (ac (gu (ac A 0 0) 2 (va_cpy (en S) (A 2) 0 (372 * j) 372)) 2 (nI (kk ||| 2 ^ j))) (dg)) ∧ s1 = sz)) (pM G h mo S (gu (ac A 0 0) 2 (va_cpy (en S) (A 2) 0 (372 * j) i)) dg) sz 0 0 25 [(0, .ref mo), (1, .int (nI j)), (2, .int (nI i))] []) (372) ?_ ?_
  · refine r_iload_n C dX6_keep_25 rfl rfl ?_
    refine r_sipush C (v := 372) dX6_keep_26 rfl ?_
    refine r_icmp_ge C 56 dX6_keep_29 (by decide) (fun _ => ?_) (fun c => absurd (by decide) c)
    refine r_aload_n C dX6_keep_56 rfl rfl ?_
    refine r_dup C dX6_keep_57 rfl ?_
    refine r_get C (j := 5) rfl in_X6 (MA_o MA_pM) (by decide) fl_X6_149 rfl rfl dX6_keep_58 ?_
    refine V.st0 (hk) ?_
    refine r_iconst C (v := 1) dX6_keep_61 rfl ?_
    refine r_iload_n C dX6_keep_62 rfl rfl ?_
    refine r_ishl C dX6_keep_63 ?_
    refine r_ior C dX6_keep_64 ?_
    refine V.st0 ((kept_ok kk hk4 j hj).2) ?_
    refine r_put C (j := 5) tyX6 tyX6_ok nmX6 rfl in_X6 (MA_o MA_pM) (by decide) fl_X6_149 rfl rfl rfl (by first | rfl | decide) (by first | rfl | decide) (Nat.le_of_ble_eq_true rfl) dX6_keep_65 ?_
    refine V.heap (qM_f 2 _ rfl) ?_
    refine r_aload_n C dX6_keep_68 rfl rfl ?_
    refine r_cVi C (c_X6_inStock MA_pM) lk_X6_72 rfl (MA_o MA_pM) rfl rfl ⟨(Nat.le_of_ble_eq_true rfl), (Nat.le_of_ble_eq_true rfl), (Nat.le_of_ble_eq_true rfl), (Nat.le_of_ble_eq_true rfl), (Nat.le_of_ble_eq_true rfl)⟩ dX6_keep_69 ?_
    exact r_iret C rfl (Nat.le_of_ble_eq_true rfl) (Nat.le_of_ble_eq_true rfl) ⟨rfl, rfl, rfl⟩ dX6_keep_72
  · intro i h_i ih_i
    refine r_iload_n C dX6_keep_25 rfl rfl ?_
    refine r_sipush C (v := 372) dX6_keep_26 rfl ?_
    refine r_icmp_ge C 56 dX6_keep_29 (by decide) (fun c => absurd c (nI_ge (b := 372) h_i (by decide))) (fun _ => ?_)
    refine r_aload_n C dX6_keep_32 rfl rfl ?_
    refine r_get C (j := 4) rfl in_X6 (MA_o MA_pM) (by decide) fl_X6_16 rfl rfl dX6_keep_33 ?_
    refine r_sipush C (v := 372) dX6_keep_36 rfl ?_
    refine r_iload_n C dX6_keep_39 rfl rfl ?_
    refine r_imul C dX6_keep_40 ?_
    refine V.st0 (nI_mul (372) (j)) ?_
    refine r_iload_n C dX6_keep_41 rfl rfl ?_
    refine r_iadd C dX6_keep_42 ?_
    refine V.st0 (nI_add ((372 * j)) (i)) ?_
    refine r_aload_n C dX6_keep_43 rfl rfl ?_
    refine r_get C (j := 1) rfl in_X6 (MA_o MA_pM) (by decide) fl_X6_7 rfl rfl dX6_keep_44 ?_
    refine r_iload_n C dX6_keep_47 rfl rfl ?_
    refine r_iald C (MA_s MA_pM) (vp_in_nI (by omega) (by decide)) dX6_keep_48 ?_
    refine V.st0 (en_cl (by omega)) ?_
    refine r_iast C (MA_2 MA_pM) (vp_in_nI (by omega) (by decide)) dX6_keep_49 ?_
    refine V.heap (qM_a2 (by omega)) ?_
    refine r_iinc C (v := 1) dX6_keep_50 rfl rfl (by decide) ?_
    refine r_goto C 25 dX6_keep_53 (by decide) ?_
    refine V.heap (h2 := (pM G h mo S (gu (ac A 0 0) 2 (va_cpy (en S) (A 2) 0 (372 * j) (i + 1))) dg)) (congrArg (fun X => pM G h mo S X dg) (by rw [gu_s, gu_gu, cpy_s (by rw [Nat.zero_add])])) ?_
    refine V.sub [(0, .ref mo), (1, .int (nI j)), (2, .int (nI (i + 1)))] ⟨rfl, rfl, (by rw [← nI_1 i]; rfl), trivial⟩ ?_
    exact ih_i

set_option maxHeartbeats 800000 in
set_option maxRecDepth 100000 in
theorem c_X6_keep_f {G : ga_} {l : Launch} {h : HP} {sz : Nat} {mo : Nat} {S A : gS} {dg : Int64} {a : Int32}  (w : MA G h mo S A dg)  (hin : m_in a 0 1 = false) : Mf G l yX6_keep cX6_keep 3 (some .int) 1 22 0 0 [.ref mo, .int a] h sz (some (.int (0))) (pM G h mo (S) (ac A 0 1) (dg)) sz := by
  refine Mg.ofV [(0, .ref mo), (1, .int a)] (by decide) (Nat.le_of_ble_eq_true rfl) rfl ?_
  intro p e s m args below meth c C
  refine V.heap (pM_id w).symm ?_
  refine r_aload_n C dX6_keep_0 rfl rfl ?_
  refine r_iload_n C dX6_keep_1 rfl rfl ?_
  refine r_iconst C (v := 0) dX6_keep_2 rfl ?_
  refine r_iconst C (v := 1) dX6_keep_3 rfl ?_
  refine r_cSi C (c_X6_in) lk_X6_37 rfl rfl ⟨(Nat.le_of_ble_eq_true rfl), (Nat.le_of_ble_eq_true rfl), (Nat.le_of_ble_eq_true rfl), (Nat.le_of_ble_eq_true rfl), (Nat.le_of_ble_eq_true rfl)⟩ dX6_keep_4 ?_
  refine r_if_eq C 14 dX6_keep_7 (by decide) (fun _ => ?_) (fun c => absurd (by rw [hin]; rfl) c)
  refine r_iconst C (v := 1) dX6_keep_14 rfl ?_
  refine r_cVi C (c_X6_holds MA_pM) lk_X6_65 rfl (MA_o MA_pM) rfl rfl ⟨(Nat.le_of_ble_eq_true rfl), (Nat.le_of_ble_eq_true rfl), (Nat.le_of_ble_eq_true rfl), (Nat.le_of_ble_eq_true rfl), (Nat.le_of_ble_eq_true rfl)⟩ dX6_keep_15 ?_
  refine V.heap (pM_pM _ _ _ _ _ _ _ _) ?_
  refine r_if_ne C 23 dX6_keep_18 (by decide) (fun c => absurd (by decide) c) (fun _ => ?_)
  refine r_iconst C (v := 0) dX6_keep_21 rfl ?_
  exact r_iret C rfl (Nat.le_of_ble_eq_true rfl) (Nat.le_of_ble_eq_true rfl) ⟨rfl, rfl, rfl⟩ dX6_keep_22

set_option maxHeartbeats 800000 in
set_option maxRecDepth 100000 in
theorem c_X6_goBack_t {G : ga_} {l : Launch} {h : HP} {sz : Nat} {mo : Nat} {S A : gS} {dg : Int64} {j : Nat} {kk z : Nat} {S2 : gS}  (w : MA G h mo S A dg)  (hj : j < 2) (hk : A 6 2 = nI kk) (hk4 : kk < 4) (hbit : kk / 2 ^ j % 2 = 1) (hz : A 6 1 = nI z) (hz6 : z ≤ 6) (hS2 : ∀ k, k < 372 → A 2 (372 * j + k) = en S2 k) : Mf G l yX6_goBack cX6_goBack 3 (some .int) 1 22 0 0 [.ref mo, .int (nI j)] h sz (some (.int (g_stock S2))) (pM G h mo (S2) ((ac (gu (ac A 0 0) 1 (m_sv (A 1) (en S) z)) 1 (nI (m_z z)))) (dg)) sz := by
  refine Mg.ofV [(0, .ref mo), (1, .int (nI j))] (by decide) (Nat.le_of_ble_eq_true rfl) rfl ?_
  intro p e s m args below meth c C
  refine V.heap (pM_id w).symm ?_
  have hin : m_in (nI j) 0 1 = true := (by decide : ∀ j, j < 2 → m_in (nI j) 0 1 = true) j hj
  refine r_aload_n C dX6_goBack_0 rfl rfl ?_
  refine r_iload_n C dX6_goBack_1 rfl rfl ?_
  refine r_iconst C (v := 0) dX6_goBack_2 rfl ?_
  refine r_iconst C (v := 1) dX6_goBack_3 rfl ?_
  refine r_cSi C (c_X6_in) lk_X6_37 rfl rfl ⟨(Nat.le_of_ble_eq_true rfl), (Nat.le_of_ble_eq_true rfl), (Nat.le_of_ble_eq_true rfl), (Nat.le_of_ble_eq_true rfl), (Nat.le_of_ble_eq_true rfl)⟩ dX6_goBack_4 ?_
  refine r_if_ne C 14 dX6_goBack_7 (by decide) (fun _ => ?_) (fun c => absurd c (by rw [hin]; decide))
  refine r_aload_n C dX6_goBack_14 rfl rfl ?_
  refine r_get C (j := 5) rfl in_X6 (MA_o MA_pM) (by decide) fl_X6_149 rfl rfl dX6_goBack_15 ?_
  refine V.st0 (hk) ?_
  refine r_iload_n C dX6_goBack_18 rfl rfl ?_
  refine r_ishr C dX6_goBack_19 ?_
  refine r_iconst C (v := 1) dX6_goBack_20 rfl ?_
  refine r_iand C dX6_goBack_21 ?_
  refine V.st0 ((kept_ok kk hk4 j hj).1) ?_
  refine r_if_ne C 29 dX6_goBack_22 (by decide) (fun _ => ?_) (fun c => absurd c (by rw [hbit]; decide))
  refine r_iconst C (v := 0) dX6_goBack_29 rfl ?_
  refine r_cVi C (c_X6_holds MA_pM) lk_X6_65 rfl (MA_o MA_pM) rfl rfl ⟨(Nat.le_of_ble_eq_true rfl), (Nat.le_of_ble_eq_true rfl), (Nat.le_of_ble_eq_true rfl), (Nat.le_of_ble_eq_true rfl), (Nat.le_of_ble_eq_true rfl)⟩ dX6_goBack_30 ?_
  refine V.heap (pM_pM _ _ _ _ _ _ _ _) ?_
  refine r_if_ne C 38 dX6_goBack_33 (by decide) (fun _ => ?_) (fun c => absurd c (by decide))
  refine r_aload_n C dX6_goBack_38 rfl rfl ?_
  refine r_cVv C (c_X6_save (z := z) MA_pM hz hz6) lk_X6_69 rfl (MA_o MA_pM) rfl rfl ⟨(Nat.le_of_ble_eq_true rfl), (Nat.le_of_ble_eq_true rfl), (Nat.le_of_ble_eq_true rfl), (Nat.le_of_ble_eq_true rfl), (Nat.le_of_ble_eq_true rfl)⟩ dX6_goBack_39 ?_
  refine V.heap (pM_pM _ _ _ _ _ _ _ _) ?_
  refine r_iconst C (v := 0) dX6_goBack_42 rfl ?_
  refine r_istore_n C dX6_goBack_43 rfl (by decide) ?_
  refine V.heap (h2 := pM G h mo (m_mx S S2 0) (ac (gu (ac A 0 0) 1 (m_sv (A 1) (en S) z)) 1 (nI (m_z z))) dg) (congrArg (fun X => pM G h mo X (ac (gu (ac A 0 0) 1 (m_sv (A 1) (en S) z)) 1 (nI (m_z z))) dg) mx_0.symm) ?_
  refine V.sub [(0, .ref mo), (1, .int (nI j)), (2, .int (nI 0))] ⟨rfl, rfl, rfl, trivial⟩ ?_
  refine down_ (P := fun i => V p l e ⟨1, 0, 0, 22⟩ s m args below meth c G 3 (Qg G below args s 0 0 (fun v1 h1 s1 => v1 = (some (.int (g_stock S2))) ∧ h1 = (pM G h mo (S2) ((ac (gu (ac A 0 0) 1 (m_sv (A 1) (en S) z)) 1 (nI (m_z z)))) (dg)) ∧ s1 = sz)) (pM G h mo (m_mx S S2 i) (ac (gu (ac A 0 0) 1 (m_sv (A 1) (en S) z)) 1 (nI (m_z z))) dg) sz 0 0 44 [(0, .ref mo), (1, .int (nI j)), (2, .int (nI i))] []) (372) ?_ ?_
  · refine r_iload_n C dX6_goBack_44 rfl rfl ?_
    refine r_sipush C (v := 372) dX6_goBack_45 rfl ?_
    refine r_icmp_ge C 75 dX6_goBack_48 (by decide) (fun _ => ?_) (fun c => absurd (by decide) c)
    refine V.heap (pM_en mx_e) ?_
    refine r_aload_n C dX6_goBack_75 rfl rfl ?_
    refine r_cVi C (c_X6_inStock MA_pM) lk_X6_72 rfl (MA_o MA_pM) rfl rfl ⟨(Nat.le_of_ble_eq_true rfl), (Nat.le_of_ble_eq_true rfl), (Nat.le_of_ble_eq_true rfl), (Nat.le_of_ble_eq_true rfl), (Nat.le_of_ble_eq_true rfl)⟩ dX6_goBack_76 ?_
    exact r_iret C rfl (Nat.le_of_ble_eq_true rfl) (Nat.le_of_ble_eq_true rfl) ⟨rfl, rfl, rfl⟩ dX6_goBack_79
  · intro i h_i ih_i
    refine r_iload_n C dX6_goBack_44 rfl rfl ?_
    refine r_sipush C (v := 372) dX6_goBack_45 rfl ?_
    refine r_icmp_ge C 75 dX6_goBack_48 (by decide) (fun c => absurd c (nI_ge (b := 372) h_i (by decide))) (fun _ => ?_)
    refine r_aload_n C dX6_goBack_51 rfl rfl ?_
    refine r_get C (j := 1) rfl in_X6 (MA_o MA_pM) (by decide) fl_X6_7 rfl rfl dX6_goBack_52 ?_
    refine r_iload_n C dX6_goBack_55 rfl rfl ?_
    refine r_aload_n C dX6_goBack_56 rfl rfl ?_
    refine r_get C (j := 4) rfl in_X6 (MA_o MA_pM) (by decide) fl_X6_16 rfl rfl dX6_goBack_57 ?_
    refine r_sipush C (v := 372) dX6_goBack_60 rfl ?_
    refine r_iload_n C dX6_goBack_63 rfl rfl ?_
    refine r_imul C dX6_goBack_64 ?_
    refine V.st0 (nI_mul (372) (j)) ?_
    refine r_iload_n C dX6_goBack_65 rfl rfl ?_
    refine r_iadd C dX6_goBack_66 ?_
    refine V.st0 (nI_add ((372 * j)) (i)) ?_
    refine r_iald C (MA_2 MA_pM) (vp_in_nI (by omega) (by decide)) dX6_goBack_67 ?_
    refine V.st0 (cl_f (by omega)) ?_
    refine r_iast C (MA_s MA_pM) (vp_in_nI (by omega) (by decide)) dX6_goBack_68 ?_
    refine V.heap (qM_en (show _ = en (m_mx S S2 (i + 1)) from by rw [nI_clamp (by omega)]; exact mx_s (by omega) (hS2 i (by omega)))) ?_
    refine r_iinc C (v := 1) dX6_goBack_69 rfl rfl (by decide) ?_
    refine r_goto C 44 dX6_goBack_72 (by decide) ?_
    refine V.sub [(0, .ref mo), (1, .int (nI j)), (2, .int (nI (i + 1)))] ⟨rfl, rfl, (by rw [← nI_1 i]; rfl), trivial⟩ ?_
    exact ih_i

set_option maxHeartbeats 800000 in
set_option maxRecDepth 100000 in
theorem c_X6_goBack_f {G : ga_} {l : Launch} {h : HP} {sz : Nat} {mo : Nat} {S A : gS} {dg : Int64} {a : Int32}  (w : MA G h mo S A dg)  (hin : m_in a 0 1 = false) : Mf G l yX6_goBack cX6_goBack 3 (some .int) 1 22 0 0 [.ref mo, .int a] h sz (some (.int (0))) (pM G h mo (S) (ac A 0 1) (dg)) sz := by
  refine Mg.ofV [(0, .ref mo), (1, .int a)] (by decide) (Nat.le_of_ble_eq_true rfl) rfl ?_
  intro p e s m args below meth c C
  refine V.heap (pM_id w).symm ?_
  refine r_aload_n C dX6_goBack_0 rfl rfl ?_
  refine r_iload_n C dX6_goBack_1 rfl rfl ?_
  refine r_iconst C (v := 0) dX6_goBack_2 rfl ?_
  refine r_iconst C (v := 1) dX6_goBack_3 rfl ?_
  refine r_cSi C (c_X6_in) lk_X6_37 rfl rfl ⟨(Nat.le_of_ble_eq_true rfl), (Nat.le_of_ble_eq_true rfl), (Nat.le_of_ble_eq_true rfl), (Nat.le_of_ble_eq_true rfl), (Nat.le_of_ble_eq_true rfl)⟩ dX6_goBack_4 ?_
  refine r_if_ne C 14 dX6_goBack_7 (by decide) (fun c => absurd (by rw [hin]; rfl) c) (fun _ => ?_)
  refine r_iconst C (v := 1) dX6_goBack_10 rfl ?_
  refine r_goto C 30 dX6_goBack_11 (by decide) ?_
  refine r_cVi C (c_X6_holds MA_pM) lk_X6_65 rfl (MA_o MA_pM) rfl rfl ⟨(Nat.le_of_ble_eq_true rfl), (Nat.le_of_ble_eq_true rfl), (Nat.le_of_ble_eq_true rfl), (Nat.le_of_ble_eq_true rfl), (Nat.le_of_ble_eq_true rfl)⟩ dX6_goBack_30 ?_
  refine V.heap (pM_pM _ _ _ _ _ _ _ _) ?_
  refine r_if_ne C 38 dX6_goBack_33 (by decide) (fun c => absurd (by decide) c) (fun _ => ?_)
  refine r_iconst C (v := 0) dX6_goBack_36 rfl ?_
  exact r_iret C rfl (Nat.le_of_ble_eq_true rfl) (Nat.le_of_ble_eq_true rfl) ⟨rfl, rfl, rfl⟩ dX6_goBack_37

set_option maxHeartbeats 800000 in
set_option maxRecDepth 100000 in
theorem c_X6_goBack_n {G : ga_} {l : Launch} {h : HP} {sz : Nat} {mo : Nat} {S A : gS} {dg : Int64} {j : Nat} {kk : Nat}  (w : MA G h mo S A dg)  (hj : j < 2) (hk : A 6 2 = nI kk) (hk4 : kk < 4) (hbit : kk / 2 ^ j % 2 = 0) : Mf G l yX6_goBack cX6_goBack 3 (some .int) 1 22 0 0 [.ref mo, .int (nI j)] h sz (some (.int (0))) (pM G h mo (S) (ac A 0 2) (dg)) sz := by
  refine Mg.ofV [(0, .ref mo), (1, .int (nI j))] (by decide) (Nat.le_of_ble_eq_true rfl) rfl ?_
  intro p e s m args below meth c C
  refine V.heap (pM_id w).symm ?_
  have hin : m_in (nI j) 0 1 = true := (by decide : ∀ j, j < 2 → m_in (nI j) 0 1 = true) j hj
  refine r_aload_n C dX6_goBack_0 rfl rfl ?_
  refine r_iload_n C dX6_goBack_1 rfl rfl ?_
  refine r_iconst C (v := 0) dX6_goBack_2 rfl ?_
  refine r_iconst C (v := 1) dX6_goBack_3 rfl ?_
  refine r_cSi C (c_X6_in) lk_X6_37 rfl rfl ⟨(Nat.le_of_ble_eq_true rfl), (Nat.le_of_ble_eq_true rfl), (Nat.le_of_ble_eq_true rfl), (Nat.le_of_ble_eq_true rfl), (Nat.le_of_ble_eq_true rfl)⟩ dX6_goBack_4 ?_
  refine r_if_ne C 14 dX6_goBack_7 (by decide) (fun _ => ?_) (fun c => absurd c (by rw [hin]; decide))
  refine r_aload_n C dX6_goBack_14 rfl rfl ?_
  refine r_get C (j := 5) rfl in_X6 (MA_o MA_pM) (by decide) fl_X6_149 rfl rfl dX6_goBack_15 ?_
  refine V.st0 (hk) ?_
  refine r_iload_n C dX6_goBack_18 rfl rfl ?_
  refine r_ishr C dX6_goBack_19 ?_
  refine r_iconst C (v := 1) dX6_goBack_20 rfl ?_
  refine r_iand C dX6_goBack_21 ?_
  refine V.st0 ((kept_ok kk hk4 j hj).1) ?_
  refine r_if_ne C 29 dX6_goBack_22 (by decide) (fun c => absurd (by rw [hbit]; rfl) c) (fun _ => ?_)
  refine r_iconst C (v := 2) dX6_goBack_25 rfl ?_
  refine r_goto C 30 dX6_goBack_26 (by decide) ?_
  refine r_cVi C (c_X6_holds MA_pM) lk_X6_65 rfl (MA_o MA_pM) rfl rfl ⟨(Nat.le_of_ble_eq_true rfl), (Nat.le_of_ble_eq_true rfl), (Nat.le_of_ble_eq_true rfl), (Nat.le_of_ble_eq_true rfl), (Nat.le_of_ble_eq_true rfl)⟩ dX6_goBack_30 ?_
  refine V.heap (pM_pM _ _ _ _ _ _ _ _) ?_
  refine r_if_ne C 38 dX6_goBack_33 (by decide) (fun c => absurd (by decide) c) (fun _ => ?_)
  refine r_iconst C (v := 0) dX6_goBack_36 rfl ?_
  exact r_iret C rfl (Nat.le_of_ble_eq_true rfl) (Nat.le_of_ble_eq_true rfl) ⟨rfl, rfl, rfl⟩ dX6_goBack_37

set_option maxHeartbeats 800000 in
set_option maxRecDepth 100000 in
theorem c_X6_undo_t {G : ga_} {l : Launch} {h : HP} {sz : Nat} {mo : Nat} {S A : gS} {dg : Int64} {z : Nat} {S2 : gS}  (w : MA G h mo S A dg)  (hz : A 6 1 = nI z) (hz1 : 1 ≤ z) (hz6 : z ≤ 6) (hS2 : ∀ k, k < 372 → A 1 (372 * (z - 1) + k) = en S2 k) : Mf G l yX6_undo cX6_undo 2 (some .int) 1 21 0 0 [.ref mo] h sz (some (.int (nI (z - 1)))) (pM G h mo (S2) (ac (ac A 0 0) 1 (nI (z - 1))) (dg)) sz := by
  refine Mg.ofV [(0, .ref mo)] (by decide) (Nat.le_of_ble_eq_true rfl) rfl ?_
  intro p e s m args below meth c C
  refine V.heap (pM_id w).symm ?_
  refine r_aload_n C dX6_undo_0 rfl rfl ?_
  refine r_aload_n C dX6_undo_1 rfl rfl ?_
  refine r_get C (j := 3) rfl in_X6 (MA_o MA_pM) (by decide) fl_X6_41 rfl rfl dX6_undo_2 ?_
  refine V.st0 (hz) ?_
  refine r_if_le C 12 dX6_undo_5 (by decide) (fun c => absurd c (fun e => by have := nI_le0 (by omega) e; have := nI_inj (a := z) (b := 0) (by omega) (by decide) this; omega)) (fun _ => ?_)
  refine r_iconst C (v := 0) dX6_undo_8 rfl ?_
  refine r_goto C 13 dX6_undo_9 (by decide) ?_
  refine r_cVi C (c_X6_holds MA_pM) lk_X6_65 rfl (MA_o MA_pM) rfl rfl ⟨(Nat.le_of_ble_eq_true rfl), (Nat.le_of_ble_eq_true rfl), (Nat.le_of_ble_eq_true rfl), (Nat.le_of_ble_eq_true rfl), (Nat.le_of_ble_eq_true rfl)⟩ dX6_undo_13 ?_
  refine V.heap (pM_pM _ _ _ _ _ _ _ _) ?_
  refine r_if_ne C 21 dX6_undo_16 (by decide) (fun _ => ?_) (fun c => absurd c (by decide))
  refine r_aload_n C dX6_undo_21 rfl rfl ?_
  refine r_dup C dX6_undo_22 rfl ?_
  refine r_get C (j := 3) rfl in_X6 (MA_o MA_pM) (by decide) fl_X6_41 rfl rfl dX6_undo_23 ?_
  refine V.st0 (hz) ?_
  refine r_iconst C (v := 1) dX6_undo_26 rfl ?_
  refine r_isub C dX6_undo_27 ?_
  refine V.st0 (pk_sub (a := z) (b := 1) (by omega)) ?_
  refine r_put C (j := 3) tyX6 tyX6_ok nmX6 rfl in_X6 (MA_o MA_pM) (by decide) fl_X6_41 rfl rfl rfl (by first | rfl | decide) (by first | rfl | decide) (Nat.le_of_ble_eq_true rfl) dX6_undo_28 ?_
  refine V.heap (qM_f 1 _ rfl) ?_
  refine r_iconst C (v := 0) dX6_undo_31 rfl ?_
  refine r_istore_n C dX6_undo_32 rfl (by decide) ?_
  refine V.heap (h2 := pM G h mo (m_mx S S2 0) (ac (ac A 0 0) 1 (nI (z - 1))) dg) (congrArg (fun X => pM G h mo X (ac (ac A 0 0) 1 (nI (z - 1))) dg) mx_0.symm) ?_
  refine V.sub [(0, .ref mo), (1, .int (nI 0))] ⟨rfl, rfl, trivial⟩ ?_
  refine down_ (P := fun i => V p l e ⟨1, 0, 0, 21⟩ s m args below meth c G 2 (Qg G below args s 0 0 (fun v1 h1 s1 => v1 = (some (.int (nI (z - 1)))) ∧ h1 = (pM G h mo (S2) (ac (ac A 0 0) 1 (nI (z - 1))) (dg)) ∧ s1 = sz)) (pM G h mo (m_mx S S2 i) (ac (ac A 0 0) 1 (nI (z - 1))) dg) sz 0 0 33 [(0, .ref mo), (1, .int (nI i))] []) (372) ?_ ?_
  · refine r_iload_n C dX6_undo_33 rfl rfl ?_
    refine r_sipush C (v := 372) dX6_undo_34 rfl ?_
    refine r_icmp_ge C 67 dX6_undo_37 (by decide) (fun _ => ?_) (fun c => absurd (by decide) c)
    refine V.heap (pM_en mx_e) ?_
    refine r_aload_n C dX6_undo_67 rfl rfl ?_
    refine r_get C (j := 3) rfl in_X6 (MA_o MA_pM) (by decide) fl_X6_41 rfl rfl dX6_undo_68 ?_
    exact r_iret C rfl (Nat.le_of_ble_eq_true rfl) (Nat.le_of_ble_eq_true rfl) ⟨rfl, rfl, rfl⟩ dX6_undo_71
  · intro i h_i ih_i
    refine r_iload_n C dX6_undo_33 rfl rfl ?_
    refine r_sipush C (v := 372) dX6_undo_34 rfl ?_
    refine r_icmp_ge C 67 dX6_undo_37 (by decide) (fun c => absurd c (nI_ge (b := 372) h_i (by decide))) (fun _ => ?_)
    refine r_aload_n C dX6_undo_40 rfl rfl ?_
    refine r_get C (j := 1) rfl in_X6 (MA_o MA_pM) (by decide) fl_X6_7 rfl rfl dX6_undo_41 ?_
    refine r_iload_n C dX6_undo_44 rfl rfl ?_
    refine r_aload_n C dX6_undo_45 rfl rfl ?_
    refine r_get C (j := 2) rfl in_X6 (MA_o MA_pM) (by decide) fl_X6_13 rfl rfl dX6_undo_46 ?_
    refine r_sipush C (v := 372) dX6_undo_49 rfl ?_
    refine r_aload_n C dX6_undo_52 rfl rfl ?_
    refine r_get C (j := 3) rfl in_X6 (MA_o MA_pM) (by decide) fl_X6_41 rfl rfl dX6_undo_53 ?_
    refine V.st0 (rfl) ?_
    refine r_imul C dX6_undo_56 ?_
    refine V.st0 (nI_mul (372) ((z - 1))) ?_
    refine r_iload_n C dX6_undo_57 rfl rfl ?_
    refine r_iadd C dX6_undo_58 ?_
    refine V.st0 (nI_add ((372 * (z - 1))) (i)) ?_
    refine r_iald C (MA_1 MA_pM) (vp_in_nI (by omega) (by decide)) dX6_undo_59 ?_
    refine V.st0 (cl_f (by omega)) ?_
    refine r_iast C (MA_s MA_pM) (vp_in_nI (by omega) (by decide)) dX6_undo_60 ?_
    refine V.heap (qM_en (show _ = en (m_mx S S2 (i + 1)) from by rw [nI_clamp (by omega)]; exact mx_s (by omega) (hS2 i (by omega)))) ?_
    refine r_iinc C (v := 1) dX6_undo_61 rfl rfl (by decide) ?_
    refine r_goto C 33 dX6_undo_64 (by decide) ?_
    refine V.sub [(0, .ref mo), (1, .int (nI (i + 1)))] ⟨rfl, (by rw [← nI_1 i]; rfl), trivial⟩ ?_
    exact ih_i

set_option maxHeartbeats 800000 in
set_option maxRecDepth 100000 in
theorem c_X6_undo_f {G : ga_} {l : Launch} {h : HP} {sz : Nat} {mo : Nat} {S A : gS} {dg : Int64}  (w : MA G h mo S A dg)  (hz : A 6 1 = 0) : Mf G l yX6_undo cX6_undo 2 (some .int) 1 21 0 0 [.ref mo] h sz (some (.int (0))) (pM G h mo (S) (ac A 0 1) (dg)) sz := by
  refine Mg.ofV [(0, .ref mo)] (by decide) (Nat.le_of_ble_eq_true rfl) rfl ?_
  intro p e s m args below meth c C
  refine V.heap (pM_id w).symm ?_
  refine r_aload_n C dX6_undo_0 rfl rfl ?_
  refine r_aload_n C dX6_undo_1 rfl rfl ?_
  refine r_get C (j := 3) rfl in_X6 (MA_o MA_pM) (by decide) fl_X6_41 rfl rfl dX6_undo_2 ?_
  refine r_if_le C 12 dX6_undo_5 (by decide) (fun _ => ?_) (fun c => absurd (by rw [hz]; decide) c)
  refine r_iconst C (v := 1) dX6_undo_12 rfl ?_
  refine r_cVi C (c_X6_holds MA_pM) lk_X6_65 rfl (MA_o MA_pM) rfl rfl ⟨(Nat.le_of_ble_eq_true rfl), (Nat.le_of_ble_eq_true rfl), (Nat.le_of_ble_eq_true rfl), (Nat.le_of_ble_eq_true rfl), (Nat.le_of_ble_eq_true rfl)⟩ dX6_undo_13 ?_
  refine V.heap (pM_pM _ _ _ _ _ _ _ _) ?_
  refine r_if_ne C 21 dX6_undo_16 (by decide) (fun c => absurd (by decide) c) (fun _ => ?_)
  refine r_iconst C (v := 0) dX6_undo_19 rfl ?_
  exact r_iret C rfl (Nat.le_of_ble_eq_true rfl) (Nat.le_of_ble_eq_true rfl) ⟨rfl, rfl, rfl⟩ dX6_undo_20

