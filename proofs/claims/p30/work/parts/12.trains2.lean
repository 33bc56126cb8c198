/-! TRAINS, the rest -/
theorem p2_pos (k : Nat) : 1 ≤ 2 ^ k := Nat.one_le_two_pow
theorem all_ok {k : Nat} (h : k ≤ 10) : nI (2 ^ k) - 1 = nI (2 ^ k - 1) := pk_sub (p2_pos k)
set_option maxHeartbeats 800000 in
set_option maxRecDepth 100000 in
theorem c_X4_wholeByTrying {G : ga_} {l : Launch} {h : HP} {sz : Nat} {tr : Nat} {hf of : Nat → Int32} {n : Int32} {k : Nat} (w : TA G h tr hf of n) (hn : n = nI k) (hkk : k < 2147483648) : Mf G l yX4_wholeByTrying cX4_wholeByTrying 2 (some .int) 1 20 0 0 [.ref tr] h sz (some (.int (t_whole of k))) h sz := by
  refine Mg.ofV [(0, .ref tr)] (by decide) (Nat.le_of_ble_eq_true rfl) rfl ?_
  intro p e s m args below meth c C
  refine r_aload_n C dX4_wholeByTrying_0 rfl rfl ?_
  refine r_cVi C (c_X4_isTooLarge w) lk_X4_48 rfl (w.1) rfl rfl ⟨(Nat.le_of_ble_eq_true rfl), (Nat.le_of_ble_eq_true rfl), (Nat.le_of_ble_eq_true rfl), (Nat.le_of_ble_eq_true rfl), (Nat.le_of_ble_eq_true rfl)⟩ dX4_wholeByTrying_1 ?_
  refine r_if_eq C 9 dX4_wholeByTrying_4 (by decide) (fun c_4 => ?_) (fun c_4 => ?_)
  · have c_4 := bI_f c_4
    have hk : k ≤ 10 := by
      rw [large_ok hn hkk] at c_4
      have := of_decide_eq_false c_4
      omega
    refine r_iconst C (v := 1) dX4_wholeByTrying_9 rfl ?_
    refine r_aload_n C dX4_wholeByTrying_10 rfl rfl ?_
    refine r_get C (j := 2) rfl in_X4 (w.1) (by decide) fl_X4_24 rfl rfl dX4_wholeByTrying_11 ?_
    refine r_ishl C dX4_wholeByTrying_14 ?_
    refine r_iconst C (v := 1) dX4_wholeByTrying_15 rfl ?_
    refine r_isub C dX4_wholeByTrying_16 ?_
    refine r_istore_n C dX4_wholeByTrying_17 rfl (by decide) ?_
    refine V.sub [(0, .ref tr), (1, .int (nI (2 ^ k - 1)))] ⟨rfl, by rw [hn, sh_ok k (by omega), all_ok hk]; rfl, trivial⟩ ?_
    refine r_iload_n C dX4_wholeByTrying_18 rfl rfl ?_
    refine r_if_lt C 44 dX4_wholeByTrying_19 (by decide) (fun c => absurd c (nI_pos (by have := p2_le hk; omega))) (fun _ => ?_)
    refine r_iload_n C dX4_wholeByTrying_22 rfl rfl ?_
    refine r_aload_n C dX4_wholeByTrying_23 rfl rfl ?_
    refine r_get C (j := 1) rfl in_X4 (w.1) (by decide) fl_X4_20 rfl rfl dX4_wholeByTrying_24 ?_
    refine r_alenI C (w.2.2.2) dX4_wholeByTrying_27 ?_
    refine r_icmp_ge C 44 dX4_wholeByTrying_28 (by decide) (fun c => absurd c (nI_ge (b := 1024) (by have := p2_le hk; have := p2_pos k; omega) (by decide))) (fun _ => ?_)
    refine r_aload_n C dX4_wholeByTrying_31 rfl rfl ?_
    refine r_get C (j := 1) rfl in_X4 (w.1) (by decide) fl_X4_20 rfl rfl dX4_wholeByTrying_32 ?_
    refine r_iload_n C dX4_wholeByTrying_35 rfl rfl ?_
    refine r_iald C (w.2.2.2) (vp_in_nI (by have := p2_le hk; have := p2_pos k; omega) (by decide)) dX4_wholeByTrying_36 ?_
    refine r_if_eq C 44 dX4_wholeByTrying_37 (by decide) (fun c_37 => ?_) (fun c_37 => ?_)
    · refine r_iconst C (v := 0) dX4_wholeByTrying_44 rfl ?_
      exact r_iret C rfl (Nat.le_of_ble_eq_true rfl) (Nat.le_of_ble_eq_true rfl) ⟨by rw [nI_clamp (by have := p2_le hk; omega)] at c_37; simp only [t_whole]; rw [if_neg (by omega), if_pos c_37], rfl, rfl⟩ dX4_wholeByTrying_45
    · refine r_iconst C (v := 1) dX4_wholeByTrying_40 rfl ?_
      refine r_goto C 45 dX4_wholeByTrying_41 (by decide) ?_
      exact r_iret C rfl (Nat.le_of_ble_eq_true rfl) (Nat.le_of_ble_eq_true rfl) ⟨by rw [nI_clamp (by have := p2_le hk; omega)] at c_37; simp only [t_whole]; rw [if_neg (by omega), if_neg c_37], rfl, rfl⟩ dX4_wholeByTrying_45
  · have c_4 := bI_t c_4
    refine r_iconst C (v := -1) dX4_wholeByTrying_7 rfl ?_
    exact r_iret C rfl (Nat.le_of_ble_eq_true rfl) (Nat.le_of_ble_eq_true rfl) ⟨by rw [large_ok hn hkk] at c_4; simp only [t_whole]; rw [if_pos (of_decide_eq_true c_4)], rfl, rfl⟩ dX4_wholeByTrying_8

set_option maxHeartbeats 800000 in
set_option maxRecDepth 100000 in
theorem c_X4_hangsTogetherWith {G : ga_} {l : Launch} {h : HP} {sz : Nat} {tr : Nat} {hf of : Nat → Int32} {n : Int32} {a : Int32} {k : Nat} (w : TA G h tr hf of n) (hn : n = nI k) (hkk : k < 2147483648) : Mf G l yX4_hangsTogetherWith cX4_hangsTogetherWith 5 (some .boolean) 2 48 0 0 [.ref tr, .int a] h sz (some (.int (bI (t_hang hf k a)))) h sz := by
  refine Mg.ofV [(0, .ref tr), (1, .int a)] (by decide) (Nat.le_of_ble_eq_true rfl) rfl ?_
  intro p e s m args below meth c C
  refine r_iconst C (v := 1) dX4_hangsTogetherWith_0 rfl ?_
  refine r_iload_n C dX4_hangsTogetherWith_1 rfl rfl ?_
  refine r_ishl C dX4_hangsTogetherWith_2 ?_
  refine r_istore_n C dX4_hangsTogetherWith_3 rfl (by decide) ?_
  refine r_iconst C (v := 0) dX4_hangsTogetherWith_4 rfl ?_
  refine r_istore_n C dX4_hangsTogetherWith_5 rfl (by decide) ?_
  refine V.sub [(0, .ref tr), (1, .int a), (2, .int (t_re hf k a 0)), (3, .int (nI 0))] ⟨rfl, rfl, rfl, rfl, trivial⟩ ?_
  refine down_ (P := fun i => V p l e ⟨2, 0, 0, 48⟩ s m args below meth c G 5 (Qg G below args s 0 0 (fun v1 h1 s1 => v1 = (some (.int (bI (t_hang hf k a)))) ∧ h1 = h ∧ s1 = sz)) h sz 0 0 6 [(0, .ref tr), (1, .int a), (2, .int (t_re hf k a i)), (3, .int (nI i))] []) (7) ?_ ?_
  · refine r_iload_n C dX4_hangsTogetherWith_6 rfl rfl ?_
    refine r_bipush C (v := 7) dX4_hangsTogetherWith_7 rfl ?_
    refine r_icmp_ge C 46 dX4_hangsTogetherWith_9 (by decide) (fun _ => ?_) (fun c => absurd (by decide) c)
    refine r_iconst C (v := 0) dX4_hangsTogetherWith_46 rfl ?_
    refine r_istore_n C dX4_hangsTogetherWith_47 rfl (by decide) ?_
    refine V.sub [(0, .ref tr), (2, .int (t_re hf k a 7)), (3, .int (nI 0))] ⟨rfl, rfl, rfl, trivial⟩ ?_
    refine downI_ (I := fun q => anyB (fun i => decide (t_ob hf (nI i) (t_re hf k a 7) = 0)) q = false) (P := fun q => V p l e ⟨2, 0, 0, 48⟩ s m args below meth c G 5 (Qg G below args s 0 0 (fun v1 h1 s1 => v1 = (some (.int (bI (t_hang hf k a)))) ∧ h1 = h ∧ s1 = sz)) h sz 0 0 48 [(0, .ref tr), (2, .int (t_re hf k a 7)), (3, .int (nI q))] []) (k) ?_ ?_ (rfl)
    · intro I_q
      refine r_iload_n C dX4_hangsTogetherWith_48 rfl rfl ?_
      refine r_aload_n C dX4_hangsTogetherWith_49 rfl rfl ?_
      refine r_get C (j := 2) rfl in_X4 (w.1) (by decide) fl_X4_24 rfl rfl dX4_hangsTogetherWith_50 ?_
      refine r_icmp_ge C 73 dX4_hangsTogetherWith_53 (by decide) (fun _ => ?_) (fun c => absurd (by rw [hn]; exact Int32.le_refl _) c)
      refine r_iconst C (v := 1) dX4_hangsTogetherWith_73 rfl ?_
      exact r_zret C rfl (by first | exact Or.inl rfl | exact Or.inr rfl | exact bI_01 _) (Nat.le_of_ble_eq_true rfl) (Nat.le_of_ble_eq_true rfl) ⟨by simp only [t_hang]; rw [I_q]; rfl, rfl, rfl⟩ dX4_hangsTogetherWith_74
    · intro q h_q I_q ih_q
      refine r_iload_n C dX4_hangsTogetherWith_48 rfl rfl ?_
      refine r_aload_n C dX4_hangsTogetherWith_49 rfl rfl ?_
      refine r_get C (j := 2) rfl in_X4 (w.1) (by decide) fl_X4_24 rfl rfl dX4_hangsTogetherWith_50 ?_
      refine r_icmp_ge C 73 dX4_hangsTogetherWith_53 (by decide) (fun c => absurd c (by rw [hn]; exact nI_ge h_q hkk)) (fun _ => ?_)
      refine r_aload_n C dX4_hangsTogetherWith_56 rfl rfl ?_
      refine r_iload_n C dX4_hangsTogetherWith_57 rfl rfl ?_
      refine r_iload_n C dX4_hangsTogetherWith_58 rfl rfl ?_
      refine r_cVi C (c_X4_openBehind w) lk_X4_56 rfl (w.1) rfl rfl ⟨(Nat.le_of_ble_eq_true rfl), (Nat.le_of_ble_eq_true rfl), (Nat.le_of_ble_eq_true rfl), (Nat.le_of_ble_eq_true rfl), (Nat.le_of_ble_eq_true rfl)⟩ dX4_hangsTogetherWith_59 ?_
      refine r_if_ne C 67 dX4_hangsTogetherWith_62 (by decide) (fun c_62 => ?_) (fun c_62 => ?_)
      · refine r_iinc C (v := 1) dX4_hangsTogetherWith_67 rfl rfl (by decide) ?_
        refine r_goto C 48 dX4_hangsTogetherWith_70 (by decide) ?_
        refine V.sub [(0, .ref tr), (2, .int (t_re hf k a 7)), (3, .int (nI (q + 1)))] ⟨rfl, rfl, (by rw [← nI_1 q]; rfl), trivial⟩ ?_
        exact ih_q (by simp only [anyB, I_q, Bool.false_or]; exact decide_eq_false c_62)
      · refine r_iconst C (v := 0) dX4_hangsTogetherWith_65 rfl ?_
        exact r_zret C rfl (by first | exact Or.inl rfl | exact Or.inr rfl | exact bI_01 _) (Nat.le_of_ble_eq_true rfl) (Nat.le_of_ble_eq_true rfl) ⟨by simp only [t_hang]; rw [any_t h_q (decide_eq_true c_62)]; rfl, rfl, rfl⟩ dX4_hangsTogetherWith_66
  · intro i h_i ih_i
    refine r_iload_n C dX4_hangsTogetherWith_6 rfl rfl ?_
    refine r_bipush C (v := 7) dX4_hangsTogetherWith_7 rfl ?_
    refine r_icmp_ge C 46 dX4_hangsTogetherWith_9 (by decide) (fun c => absurd c (nI_ge (b := 7) h_i (by decide))) (fun _ => ?_)
    refine r_iconst C (v := 0) dX4_hangsTogetherWith_12 rfl ?_
    refine r_istore C dX4_hangsTogetherWith_13 (by decide) ?_
    refine V.sub [(0, .ref tr), (1, .int a), (2, .int (t_re1 hf (t_re hf k a i) 0)), (3, .int (nI i)), (4, .int (nI 0))] ⟨rfl, rfl, rfl, rfl, rfl, trivial⟩ ?_
    refine down_ (P := fun j => V p l e ⟨2, 0, 0, 48⟩ s m args below meth c G 5 (Qg G below args s 0 0 (fun v1 h1 s1 => v1 = (some (.int (bI (t_hang hf k a)))) ∧ h1 = h ∧ s1 = sz)) h sz 0 0 15 [(0, .ref tr), (1, .int a), (2, .int (t_re1 hf (t_re hf k a i) j)), (3, .int (nI i)), (4, .int (nI j))] []) (k) ?_ ?_
    · refine r_iload C dX4_hangsTogetherWith_15 rfl ?_
      refine r_aload_n C dX4_hangsTogetherWith_17 rfl rfl ?_
      refine r_get C (j := 2) rfl in_X4 (w.1) (by decide) fl_X4_24 rfl rfl dX4_hangsTogetherWith_18 ?_
      refine r_icmp_ge C 40 dX4_hangsTogetherWith_21 (by decide) (fun _ => ?_) (fun c => absurd (by rw [hn]; exact Int32.le_refl _) c)
      refine r_iinc C (v := 1) dX4_hangsTogetherWith_40 rfl rfl (by decide) ?_
      refine r_goto C 6 dX4_hangsTogetherWith_43 (by decide) ?_
      refine V.sub [(0, .ref tr), (1, .int a), (2, .int (t_re hf k a (i + 1))), (3, .int (nI (i + 1)))] ⟨rfl, rfl, rfl, (by rw [← nI_1 i]; rfl), trivial⟩ ?_
      exact ih_i
    · intro j h_j ih_j
      refine r_iload C dX4_hangsTogetherWith_15 rfl ?_
      refine r_aload_n C dX4_hangsTogetherWith_17 rfl rfl ?_
      refine r_get C (j := 2) rfl in_X4 (w.1) (by decide) fl_X4_24 rfl rfl dX4_hangsTogetherWith_18 ?_
      refine r_icmp_ge C 40 dX4_hangsTogetherWith_21 (by decide) (fun c => absurd c (by rw [hn]; exact nI_ge h_j hkk)) (fun _ => ?_)
      refine r_iload_n C dX4_hangsTogetherWith_24 rfl rfl ?_
      refine r_aload_n C dX4_hangsTogetherWith_25 rfl rfl ?_
      refine r_iload C dX4_hangsTogetherWith_26 rfl ?_
      refine r_iload_n C dX4_hangsTogetherWith_28 rfl rfl ?_
      refine r_cVi C (c_X4_openBehind w) lk_X4_56 rfl (w.1) rfl rfl ⟨(Nat.le_of_ble_eq_true rfl), (Nat.le_of_ble_eq_true rfl), (Nat.le_of_ble_eq_true rfl), (Nat.le_of_ble_eq_true rfl), (Nat.le_of_ble_eq_true rfl)⟩ dX4_hangsTogetherWith_29 ?_
      refine r_ior C dX4_hangsTogetherWith_32 ?_
      refine r_istore_n C dX4_hangsTogetherWith_33 rfl (by decide) ?_
      refine r_iinc C (v := 1) dX4_hangsTogetherWith_34 rfl rfl (by decide) ?_
      refine r_goto C 15 dX4_hangsTogetherWith_37 (by decide) ?_
      refine V.sub [(0, .ref tr), (1, .int a), (2, .int (t_re1 hf (t_re hf k a i) (j + 1))), (3, .int (nI i)), (4, .int (nI (j + 1)))] ⟨rfl, rfl, rfl, rfl, (by rw [← nI_1 j]; rfl), trivial⟩ ?_
      exact ih_j

set_option maxHeartbeats 800000 in
set_option maxRecDepth 100000 in
theorem c_X4_oddGradesAllow {G : ga_} {l : Launch} {h : HP} {sz : Nat} {tr : Nat} {hf of : Nat → Int32} {n : Int32} {a : Int32} {k : Nat} (w : TA G h tr hf of n) (hn : n = nI k) (hkk : k < 2147483648) : Mf G l yX4_oddGradesAllow cX4_oddGradesAllow 4 (some .boolean) 1 23 0 0 [.ref tr, .int a] h sz (some (.int (bI (t_oddOk hf k a)))) h sz := by
  refine Mg.ofV [(0, .ref tr), (1, .int a)] (by decide) (Nat.le_of_ble_eq_true rfl) rfl ?_
  intro p e s m args below meth c C
  refine r_iconst C (v := 0) dX4_oddGradesAllow_0 rfl ?_
  refine r_istore_n C dX4_oddGradesAllow_1 rfl (by decide) ?_
  refine r_iconst C (v := 0) dX4_oddGradesAllow_2 rfl ?_
  refine r_istore_n C dX4_oddGradesAllow_3 rfl (by decide) ?_
  refine V.sub [(0, .ref tr), (1, .int a), (2, .int (t_odd hf 0)), (3, .int (nI 0))] ⟨rfl, rfl, rfl, rfl, trivial⟩ ?_
  refine down_ (P := fun i => V p l e ⟨1, 0, 0, 23⟩ s m args below meth c G 4 (Qg G below args s 0 0 (fun v1 h1 s1 => v1 = (some (.int (bI (t_oddOk hf k a)))) ∧ h1 = h ∧ s1 = sz)) h sz 0 0 4 [(0, .ref tr), (1, .int a), (2, .int (t_odd hf i)), (3, .int (nI i))] []) (k) ?_ ?_
  · refine r_iload_n C dX4_oddGradesAllow_4 rfl rfl ?_
    refine r_aload_n C dX4_oddGradesAllow_5 rfl rfl ?_
    refine r_get C (j := 2) rfl in_X4 (w.1) (by decide) fl_X4_24 rfl rfl dX4_oddGradesAllow_6 ?_
    refine r_icmp_ge C 40 dX4_oddGradesAllow_9 (by decide) (fun _ => ?_) (fun c => absurd (by rw [hn]; exact Int32.le_refl _) c)
    refine r_iload_n C dX4_oddGradesAllow_40 rfl rfl ?_
    refine r_if_eq C 60 dX4_oddGradesAllow_41 (by decide) (fun c_41 => ?_) (fun c_41 => ?_)
    · refine r_iconst C (v := 1) dX4_oddGradesAllow_60 rfl ?_
      refine r_goto C 65 dX4_oddGradesAllow_61 (by decide) ?_
      exact r_zret C rfl (by first | exact Or.inl rfl | exact Or.inr rfl | exact bI_01 _) (Nat.le_of_ble_eq_true rfl) (Nat.le_of_ble_eq_true rfl) ⟨by simp [t_oddOk, bI, c_41], rfl, rfl⟩ dX4_oddGradesAllow_65
    · refine r_iload_n C dX4_oddGradesAllow_44 rfl rfl ?_
      refine r_cSi C (c_J6_bitCount_0f7a4) lk_X4_59 rfl rfl ⟨(Nat.le_of_ble_eq_true rfl), (Nat.le_of_ble_eq_true rfl), (Nat.le_of_ble_eq_true rfl), (Nat.le_of_ble_eq_true rfl), (Nat.le_of_ble_eq_true rfl)⟩ dX4_oddGradesAllow_45 ?_
      refine r_iconst C (v := 2) dX4_oddGradesAllow_48 rfl ?_
      refine r_icmp_ne C 64 dX4_oddGradesAllow_49 (by decide) (fun c_49 => ?_) (fun c_49 => ?_)
      · refine r_iconst C (v := 0) dX4_oddGradesAllow_64 rfl ?_
        exact r_zret C rfl (by first | exact Or.inl rfl | exact Or.inr rfl | exact bI_01 _) (Nat.le_of_ble_eq_true rfl) (Nat.le_of_ble_eq_true rfl) ⟨by simp [t_oddOk, bI, c_41, c_49], rfl, rfl⟩ dX4_oddGradesAllow_65
      · refine r_iload_n C dX4_oddGradesAllow_52 rfl rfl ?_
        refine r_iconst C (v := 1) dX4_oddGradesAllow_53 rfl ?_
        refine r_iload_n C dX4_oddGradesAllow_54 rfl rfl ?_
        refine r_ishl C dX4_oddGradesAllow_55 ?_
        refine r_iand C dX4_oddGradesAllow_56 ?_
        refine r_if_eq C 64 dX4_oddGradesAllow_57 (by decide) (fun c_57 => ?_) (fun c_57 => ?_)
        · refine r_iconst C (v := 0) dX4_oddGradesAllow_64 rfl ?_
          exact r_zret C rfl (by first | exact Or.inl rfl | exact Or.inr rfl | exact bI_01 _) (Nat.le_of_ble_eq_true rfl) (Nat.le_of_ble_eq_true rfl) ⟨by simp [t_oddOk, bI, c_41, c_49, c_57], rfl, rfl⟩ dX4_oddGradesAllow_65
        · refine r_iconst C (v := 1) dX4_oddGradesAllow_60 rfl ?_
          refine r_goto C 65 dX4_oddGradesAllow_61 (by decide) ?_
          exact r_zret C rfl (by first | exact Or.inl rfl | exact Or.inr rfl | exact bI_01 _) (Nat.le_of_ble_eq_true rfl) (Nat.le_of_ble_eq_true rfl) ⟨by simp [t_oddOk, bI, c_41, c_49, c_57], rfl, rfl⟩ dX4_oddGradesAllow_65
  · intro i h_i ih_i
    refine r_iload_n C dX4_oddGradesAllow_4 rfl rfl ?_
    refine r_aload_n C dX4_oddGradesAllow_5 rfl rfl ?_
    refine r_get C (j := 2) rfl in_X4 (w.1) (by decide) fl_X4_24 rfl rfl dX4_oddGradesAllow_6 ?_
    refine r_icmp_ge C 40 dX4_oddGradesAllow_9 (by decide) (fun c => absurd c (by rw [hn]; exact nI_ge h_i hkk)) (fun _ => ?_)
    refine r_iload_n C dX4_oddGradesAllow_12 rfl rfl ?_
    refine r_aload_n C dX4_oddGradesAllow_13 rfl rfl ?_
    refine r_get C (j := 0) rfl in_X4 (w.1) (by decide) fl_X4_14 rfl rfl dX4_oddGradesAllow_14 ?_
    refine r_iload_n C dX4_oddGradesAllow_17 rfl rfl ?_
    refine r_iconst C (v := 0) dX4_oddGradesAllow_18 rfl ?_
    refine r_cVi C (c_X2_at w.2.1 w.2.2.1 (by decide)) lk_X4_37 rfl (w.2.1) rfl rfl ⟨(Nat.le_of_ble_eq_true rfl), (Nat.le_of_ble_eq_true rfl), (Nat.le_of_ble_eq_true rfl), (Nat.le_of_ble_eq_true rfl), (Nat.le_of_ble_eq_true rfl)⟩ dX4_oddGradesAllow_19 ?_
    refine r_aload_n C dX4_oddGradesAllow_22 rfl rfl ?_
    refine r_get C (j := 0) rfl in_X4 (w.1) (by decide) fl_X4_14 rfl rfl dX4_oddGradesAllow_23 ?_
    refine r_iload_n C dX4_oddGradesAllow_26 rfl rfl ?_
    refine r_iconst C (v := 1) dX4_oddGradesAllow_27 rfl ?_
    refine r_cVi C (c_X2_at w.2.1 w.2.2.1 (by decide)) lk_X4_37 rfl (w.2.1) rfl rfl ⟨(Nat.le_of_ble_eq_true rfl), (Nat.le_of_ble_eq_true rfl), (Nat.le_of_ble_eq_true rfl), (Nat.le_of_ble_eq_true rfl), (Nat.le_of_ble_eq_true rfl)⟩ dX4_oddGradesAllow_28 ?_
    refine r_ixor C dX4_oddGradesAllow_31 ?_
    refine r_ixor C dX4_oddGradesAllow_32 ?_
    refine r_istore_n C dX4_oddGradesAllow_33 rfl (by decide) ?_
    refine r_iinc C (v := 1) dX4_oddGradesAllow_34 rfl rfl (by decide) ?_
    refine r_goto C 4 dX4_oddGradesAllow_37 (by decide) ?_
    refine V.sub [(0, .ref tr), (1, .int a), (2, .int (t_odd hf (i + 1))), (3, .int (nI (i + 1)))] ⟨rfl, rfl, rfl, (by rw [← nI_1 i]; rfl), trivial⟩ ?_
    exact ih_i

set_option maxHeartbeats 800000 in
set_option maxRecDepth 100000 in
theorem c_X4_wholeByCounting {G : ga_} {l : Launch} {h : HP} {sz : Nat} {tr : Nat} {hf of : Nat → Int32} {n : Int32} {a : Int32} {k : Nat} (w : TA G h tr hf of n) (hn : n = nI k) (hkk : k < 2147483648) : Mf G l yX4_wholeByCounting cX4_wholeByCounting 2 (some .int) 3 72 0 0 [.ref tr, .int a] h sz (some (.int (t_count hf k a))) h sz := by
  refine Mg.ofV [(0, .ref tr), (1, .int a)] (by decide) (Nat.le_of_ble_eq_true rfl) rfl ?_
  intro p e s m args below meth c C
  refine r_aload_n C dX4_wholeByCounting_0 rfl rfl ?_
  refine r_cVi C (c_X4_isTooLarge w) lk_X4_48 rfl (w.1) rfl rfl ⟨(Nat.le_of_ble_eq_true rfl), (Nat.le_of_ble_eq_true rfl), (Nat.le_of_ble_eq_true rfl), (Nat.le_of_ble_eq_true rfl), (Nat.le_of_ble_eq_true rfl)⟩ dX4_wholeByCounting_1 ?_
  refine r_if_eq C 9 dX4_wholeByCounting_4 (by decide) (fun c_4 => ?_) (fun c_4 => ?_)
  · have c_4 := bI_f c_4
    refine r_aload_n C dX4_wholeByCounting_9 rfl rfl ?_
    refine r_iload_n C dX4_wholeByCounting_10 rfl rfl ?_
    refine r_cVi C (c_X4_hangsTogetherWith w hn hkk) lk_X4_69 rfl (w.1) rfl rfl ⟨(Nat.le_of_ble_eq_true rfl), (Nat.le_of_ble_eq_true rfl), (Nat.le_of_ble_eq_true rfl), (Nat.le_of_ble_eq_true rfl), (Nat.le_of_ble_eq_true rfl)⟩ dX4_wholeByCounting_11 ?_
    refine r_if_eq C 29 dX4_wholeByCounting_14 (by decide) (fun c_14 => ?_) (fun c_14 => ?_)
    · have c_14 := bI_f c_14
      refine r_iconst C (v := 0) dX4_wholeByCounting_29 rfl ?_
      exact r_iret C rfl (Nat.le_of_ble_eq_true rfl) (Nat.le_of_ble_eq_true rfl) ⟨by rw [large_ok hn hkk] at c_4; simp only [t_count]; rw [if_neg (of_decide_eq_false c_4)]; simp [bI, c_14], rfl, rfl⟩ dX4_wholeByCounting_30
    · have c_14 := bI_t c_14
      refine r_aload_n C dX4_wholeByCounting_17 rfl rfl ?_
      refine r_iload_n C dX4_wholeByCounting_18 rfl rfl ?_
      refine r_cVi C (c_X4_oddGradesAllow w hn hkk) lk_X4_73 rfl (w.1) rfl rfl ⟨(Nat.le_of_ble_eq_true rfl), (Nat.le_of_ble_eq_true rfl), (Nat.le_of_ble_eq_true rfl), (Nat.le_of_ble_eq_true rfl), (Nat.le_of_ble_eq_true rfl)⟩ dX4_wholeByCounting_19 ?_
      refine r_if_eq C 29 dX4_wholeByCounting_22 (by decide) (fun c_22 => ?_) (fun c_22 => ?_)
      · have c_22 := bI_f c_22
        refine r_iconst C (v := 0) dX4_wholeByCounting_29 rfl ?_
        exact r_iret C rfl (Nat.le_of_ble_eq_true rfl) (Nat.le_of_ble_eq_true rfl) ⟨by rw [large_ok hn hkk] at c_4; simp only [t_count]; rw [if_neg (of_decide_eq_false c_4)]; simp [bI, c_14, c_22], rfl, rfl⟩ dX4_wholeByCounting_30
      · have c_22 := bI_t c_22
        refine r_iconst C (v := 1) dX4_wholeByCounting_25 rfl ?_
        refine r_goto C 30 dX4_wholeByCounting_26 (by decide) ?_
        exact r_iret C rfl (Nat.le_of_ble_eq_true rfl) (Nat.le_of_ble_eq_true rfl) ⟨by rw [large_ok hn hkk] at c_4; simp only [t_count]; rw [if_neg (of_decide_eq_false c_4)]; simp [bI, c_14, c_22], rfl, rfl⟩ dX4_wholeByCounting_30
  · have c_4 := bI_t c_4
    refine r_iconst C (v := -1) dX4_wholeByCounting_7 rfl ?_
    exact r_iret C rfl (Nat.le_of_ble_eq_true rfl) (Nat.le_of_ble_eq_true rfl) ⟨by rw [large_ok hn hkk] at c_4; simp only [t_count]; rw [if_pos (of_decide_eq_true c_4)], rfl, rfl⟩ dX4_wholeByCounting_8

set_option maxHeartbeats 800000 in
set_option maxRecDepth 100000 in
theorem c_X4_init {G : ga_} {l : Launch} {h : HP} {tr : Nat} (hT : h tr = some (ob_ 4 [.null, .null, .int 0])) : Mf G l yX4_init cX4_init 1 none 2 36 3 1046 [.ref tr] h (tr + 1) none (pT G h tr (fun _ => 0) (fun _ => 0) 0) (tr + 4) := by
  refine Mg.ofV [(0, .ref tr)] (by decide) (Nat.le_of_ble_eq_true rfl) rfl ?_
  intro p e s m args below meth c C

  refine r_aload_n C dX4_init_0 rfl rfl ?_
  refine r_objInit C jl_X4_3 oi_inst oi_code (Nat.le_of_ble_eq_true rfl) (Nat.le_of_ble_eq_true rfl) dX4_init_1 ?_
  refine r_aload_n C dX4_init_4 rfl rfl ?_
  refine r_new C (ci := 2) (fs := [.int 0, .null]) tyX2 tyX2_ok rfl in_X2 cl_X4_9 iz_X2 ii_X2 (fun j hj => by rcases (show j = 0 ∨ j = 1 by omega) with rfl | rfl <;> rfl) (Nat.le_of_ble_eq_true rfl) (Nat.le_of_ble_eq_true rfl) dX4_init_5 ?_
  refine r_dup C dX4_init_8 rfl ?_
  refine r_bipush C (v := 10) dX4_init_9 rfl ?_
  refine r_iconst C (v := 2) dX4_init_11 rfl ?_
  refine r_cIv C (c_X2_init (N := 20) (by simp [up_, Nat.add_assoc]) (by omega) (by decide) (by decide)) lk_X4_11 rfl rfl ⟨(Nat.le_of_ble_eq_true rfl), (Nat.le_of_ble_eq_true rfl), (Nat.le_of_ble_eq_true rfl), (Nat.le_of_ble_eq_true rfl), (Nat.le_of_ble_eq_true rfl)⟩ dX4_init_12 ?_
  refine r_putF C (j := 0) tyX4 tyX4_ok nmX4 rfl in_X4 ((show _ = some (ob_ 4 [.null, .null, .int 0]) by simp [up_, hT, Nat.add_assoc])) (by decide) fl_X4_14 rfl rfl rfl rfl rfl (by first | rfl | decide) (by first | rfl | decide) (Nat.le_of_ble_eq_true rfl) dX4_init_15 ?_
  refine r_aload_n C dX4_init_18 rfl rfl ?_
  refine r_sipush C (v := 1024) dX4_init_19 rfl ?_
  refine r_newaI C ac_int (by decide) rfl (Nat.le_of_ble_eq_true rfl) (Nat.le_of_ble_eq_true rfl) (Nat.le_of_ble_eq_true rfl) dX4_init_22 ?_
  refine r_putF C (j := 1) tyX4 tyX4_ok nmX4 rfl in_X4 ((show _ = some (ob_ 4 [.ref (tr + 1), .null, .int 0]) by simp [up_, hT, Nat.add_assoc])) (by decide) fl_X4_20 rfl rfl rfl rfl rfl (by first | rfl | decide) (by first | rfl | decide) (Nat.le_of_ble_eq_true rfl) dX4_init_24 ?_
  refine r_vret C rfl (Nat.le_of_ble_eq_true rfl) (Nat.le_of_ble_eq_true rfl) ⟨rfl, ?_, rfl⟩ dX4_init_27
  refine pT_eq ⟨?_, ?_, ?_, ?_⟩ (fun a ha => ?_)
  · simp [up_, Nat.add_assoc]
  · simp [up_, Nat.add_assoc]
  · simp [up_, Nat.add_assoc]
  · simp [up_, Nat.add_assoc]
  · rw [up_n (by omega), up_n (by omega), up_n (by omega), up_n (by omega), up_n (by omega), up_n (by omega)]
