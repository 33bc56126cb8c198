/-! THE MODEL READS A TURN: T = (spot, isWrong, letter, place, row, end) -/
abbrev tT_ : Type := Nat × Bool × Int32 × Int32 × Int32 × Int32
def tA (A : gS) (t : tT_) : gS := gu A 6 (fun b => if b = 4 then nI t.1 else if b = 5 then bI t.2.1 else if b = 6 then t.2.2.1 else if b = 7 then t.2.2.2.1 else if b = 8 then t.2.2.2.2.1 else if b = 9 then t.2.2.2.2.2 else A 6 b)
theorem tA_u {A : gS} {t t2 : tT_} {k : Nat} {v : Int32} (h : ∀ b, (if b = k then v else (tA A t) 6 b) = (tA A t2) 6 b) : ac (tA A t) k v = tA A t2 := by
  unfold ac
  rw [show (fun b => if b = k then v else (tA A t) 6 b) = (tA A t2) 6 from funext h]
  unfold tA
  rw [gu_gu, gu_s]
theorem tA_x {A : gS} {t : tT_} (b : Nat) : (tA A t) 6 b = if b = 4 then nI t.1 else if b = 5 then bI t.2.1 else if b = 6 then t.2.2.1 else if b = 7 then t.2.2.2.1 else if b = 8 then t.2.2.2.2.1 else if b = 9 then t.2.2.2.2.2 else A 6 b := by
  unfold tA
  rw [gu_s]
theorem tA_4 {A : gS} {t : tT_} {v : Nat} : ac (tA A t) 4 (nI v) = tA A (v, t.2.1, t.2.2.1, t.2.2.2.1, t.2.2.2.2.1, t.2.2.2.2.2) := by
  refine tA_u (fun b => ?_)
  rw [tA_x, tA_x]
  by_cases c : b = 4
  · subst c; rfl
  · rw [if_neg c]
    (repeat' split) <;> first | rfl | omega
theorem tA_5 {A : gS} {t : tT_} {v : Bool} : ac (tA A t) 5 (bI v) = tA A (t.1, v, t.2.2.1, t.2.2.2.1, t.2.2.2.2.1, t.2.2.2.2.2) := by
  refine tA_u (fun b => ?_)
  rw [tA_x, tA_x]
  by_cases c : b = 5
  · subst c; rfl
  · rw [if_neg c]
    (repeat' split) <;> first | rfl | omega
theorem tA_6 {A : gS} {t : tT_} {v : Int32} : ac (tA A t) 6 (v) = tA A (t.1, t.2.1, v, t.2.2.2.1, t.2.2.2.2.1, t.2.2.2.2.2) := by
  refine tA_u (fun b => ?_)
  rw [tA_x, tA_x]
  by_cases c : b = 6
  · subst c; rfl
  · rw [if_neg c]
    (repeat' split) <;> first | rfl | omega
theorem tA_7 {A : gS} {t : tT_} {v : Int32} : ac (tA A t) 7 (v) = tA A (t.1, t.2.1, t.2.2.1, v, t.2.2.2.2.1, t.2.2.2.2.2) := by
  refine tA_u (fun b => ?_)
  rw [tA_x, tA_x]
  by_cases c : b = 7
  · subst c; rfl
  · rw [if_neg c]
    (repeat' split) <;> first | rfl | omega
theorem tA_8 {A : gS} {t : tT_} {v : Int32} : ac (tA A t) 8 (v) = tA A (t.1, t.2.1, t.2.2.1, t.2.2.2.1, v, t.2.2.2.2.2) := by
  refine tA_u (fun b => ?_)
  rw [tA_x, tA_x]
  by_cases c : b = 8
  · subst c; rfl
  · rw [if_neg c]
    (repeat' split) <;> first | rfl | omega
theorem tA_9 {A : gS} {t : tT_} {v : Int32} : ac (tA A t) 9 (v) = tA A (t.1, t.2.1, t.2.2.1, t.2.2.2.1, t.2.2.2.2.1, v) := by
  refine tA_u (fun b => ?_)
  rw [tA_x, tA_x]
  by_cases c : b = 9
  · subst c; rfl
  · rw [if_neg c]
    (repeat' split) <;> first | rfl | omega
def nx_ (f : Nat → Int32) (n : Nat) (p : Nat) (w : Bool) (lo hi : Int32) : Bool := !w && (decide (p < n) && m_in (f p) lo hi)
theorem nx_lt {f : Nat → Int32} {n p : Nat} {w : Bool} {lo hi : Int32} (h : nx_ f n p w lo hi = true) : p < n := by
  unfold nx_ at h
  rw [Bool.and_eq_true, Bool.and_eq_true] at h
  exact of_decide_eq_true h.2.1
def s_c (f : Nat → Int32) (n p : Nat) : Int32 := if p < n then f p else 0
def s_w (f : Nat → Int32) (n p : Nat) (w : Bool) (lo hi : Int32) : Bool := w || !m_in (s_c f n p) lo hi
def s_p (f : Nat → Int32) (n p : Nat) (w : Bool) (lo hi : Int32) : Nat := p + (if s_w f n p w lo hi = true then 0 else 1)
def s_T (f : Nat → Int32) (n : Nat) (t : tT_) (lo hi : Int32) : tT_ := (s_p f n t.1 t.2.1 lo hi, s_w f n t.1 t.2.1 lo hi, t.2.2)
theorem sp_le {f : Nat → Int32} {n p : Nat} {w : Bool} {lo hi : Int32} (h0 : m_in 0 lo hi = false) (hp : p ≤ n) : s_p f n p w lo hi ≤ n := by
  unfold s_p
  by_cases c : p < n
  · split <;> omega
  · have e : s_w f n p w lo hi = true := by
      unfold s_w s_c
      rw [if_neg c, h0, Bool.not_false, Bool.or_true]
    rw [if_pos e]
    exact hp
set_option maxHeartbeats 800000 in
set_option maxRecDepth 100000 in
theorem c_X6_isNext {G : ga_} {l : Launch} {h : HP} {sz : Nat} {mo : Nat} {S A : gS} {dg : Int64} {lo : Int32} {hi : Int32} {t : tT_} {n : Nat}  (w : MA G h mo S (tA A t) dg)  (hn : A 6 3 = nI n) (hn60 : n ≤ 60) (hp : t.1 ≤ n)  : Mf G l yX6_isNext cX6_isNext 3 (some .boolean) 1 22 0 0 [.ref mo, .int lo, .int hi] h sz (some (.int (bI (nx_ (A 3) n t.1 t.2.1 lo hi)))) h sz := by
  refine Mg.ofV [(0, .ref mo), (1, .int lo), (2, .int hi)] (by decide) (Nat.le_of_ble_eq_true rfl) rfl ?_
  intro p e s m args below meth c C
  refine r_aload_n C dX6_isNext_0 rfl rfl ?_
  refine r_get C (j := 11) rfl in_X6 (MA_o w) (by decide) fl_X6_115 rfl rfl dX6_isNext_1 ?_
  refine V.st0 ((show _ = bI t.2.1 from rfl)) ?_
  refine r_if_ne C 39 dX6_isNext_4 (by decide) (fun c_4 => ?_) (fun c_4 => ?_)
  · have c_4 := bI_t c_4
    refine r_iconst C (v := 0) dX6_isNext_39 rfl ?_
    exact r_zret C rfl (by first | exact Or.inl rfl | exact Or.inr rfl) (Nat.le_of_ble_eq_true rfl) (Nat.le_of_ble_eq_true rfl) ⟨by unfold nx_; rw [c_4]; rfl, rfl, rfl⟩ dX6_isNext_40
  · have c_4 := bI_f c_4
    refine r_aload_n C dX6_isNext_7 rfl rfl ?_
    refine r_get C (j := 10) rfl in_X6 (MA_o w) (by decide) fl_X6_112 rfl rfl dX6_isNext_8 ?_
    refine V.st0 ((show _ = nI t.1 from rfl)) ?_
    refine r_aload_n C dX6_isNext_11 rfl rfl ?_
    refine r_get C (j := 7) rfl in_X6 (MA_o w) (by decide) fl_X6_109 rfl rfl dX6_isNext_12 ?_
    refine V.st0 (hn) ?_
    refine r_icmp_ge C 39 dX6_isNext_15 (by decide) (fun c_15 => ?_) (fun c_15 => ?_)
    · have e_15 := i32_nlt c_15
      have h15 : ¬ t.1 < n := nI_ge_ ⟨by omega, by omega⟩ c_15
      refine r_iconst C (v := 0) dX6_isNext_39 rfl ?_
      exact r_zret C rfl (by first | exact Or.inl rfl | exact Or.inr rfl) (Nat.le_of_ble_eq_true rfl) (Nat.le_of_ble_eq_true rfl) ⟨by unfold nx_; rw [c_4, decide_eq_false h15]; rfl, rfl, rfl⟩ dX6_isNext_40
    · have e_15 := i32_lt c_15
      have h15 : t.1 < n := nI_nge_ (by omega) (by omega) c_15
      refine r_aload_n C dX6_isNext_18 rfl rfl ?_
      refine r_get C (j := 6) rfl in_X6 (MA_o w) (by decide) fl_X6_19 rfl rfl dX6_isNext_19 ?_
      refine r_aload_n C dX6_isNext_22 rfl rfl ?_
      refine r_get C (j := 10) rfl in_X6 (MA_o w) (by decide) fl_X6_112 rfl rfl dX6_isNext_23 ?_
      refine V.st0 ((show _ = nI t.1 from rfl)) ?_
      refine r_iald C (MA_3 w) (vp_in_nI (by omega) (by decide)) dX6_isNext_26 ?_
      refine V.st0 (cl_f (by omega)) ?_
      refine r_iload_n C dX6_isNext_27 rfl rfl ?_
      refine r_iload_n C dX6_isNext_28 rfl rfl ?_
      refine r_cSi C (c_X6_in) lk_X6_37 rfl rfl ⟨(Nat.le_of_ble_eq_true rfl), (Nat.le_of_ble_eq_true rfl), (Nat.le_of_ble_eq_true rfl), (Nat.le_of_ble_eq_true rfl), (Nat.le_of_ble_eq_true rfl)⟩ dX6_isNext_29 ?_
      refine r_if_eq C 39 dX6_isNext_32 (by decide) (fun c_32 => ?_) (fun c_32 => ?_)
      · have c_32 := bI_f c_32
        refine r_iconst C (v := 0) dX6_isNext_39 rfl ?_
        exact r_zret C rfl (by first | exact Or.inl rfl | exact Or.inr rfl) (Nat.le_of_ble_eq_true rfl) (Nat.le_of_ble_eq_true rfl) ⟨by unfold nx_; rw [c_4, decide_eq_true h15, show m_in (A 3 t.1) lo hi = false from c_32]; rfl, rfl, rfl⟩ dX6_isNext_40
      · have c_32 := bI_t c_32
        refine r_iconst C (v := 1) dX6_isNext_35 rfl ?_
        refine r_goto C 40 dX6_isNext_36 (by decide) ?_
        exact r_zret C rfl (by first | exact Or.inl rfl | exact Or.inr rfl) (Nat.le_of_ble_eq_true rfl) (Nat.le_of_ble_eq_true rfl) ⟨by unfold nx_; rw [c_4, decide_eq_true h15, show m_in (A 3 t.1) lo hi = true from c_32]; rfl, rfl, rfl⟩ dX6_isNext_40

theorem nar_b (b : Bool) : narrow .boolean (.int (bI b)) = .int (bI b) ∧ fits .boolean (.int (bI b)) = true := by cases b <;> exact ⟨rfl, rfl⟩
set_option maxHeartbeats 800000 in
set_option maxRecDepth 100000 in
theorem c_X6_sign {G : ga_} {l : Launch} {h : HP} {sz : Nat} {mo : Nat} {S A : gS} {dg : Int64} {lo : Int32} {hi : Int32} {t : tT_} {n : Nat}  (w : MA G h mo S (tA A t) dg)  (hn : A 6 3 = nI n) (hn60 : n ≤ 60) (hp : t.1 ≤ n)  : Mf G l yX6_sign cX6_sign 4 (some .int) 1 22 0 0 [.ref mo, .int lo, .int hi] h sz (some (.int (s_c (A 3) n t.1))) (pM G h mo (S) (tA A (s_T (A 3) n t lo hi)) (dg)) sz := by
  refine Mg.ofV [(0, .ref mo), (1, .int lo), (2, .int hi)] (by decide) (Nat.le_of_ble_eq_true rfl) rfl ?_
  intro p e s m args below meth c C
  refine V.heap (pM_id w).symm ?_
  apply V.cut 24 ((s_c (A 3) n t.1))
  · intro K_24
    refine r_aload_n C dX6_sign_0 rfl rfl ?_
    refine r_get C (j := 10) rfl in_X6 (MA_o MA_pM) (by decide) fl_X6_112 rfl rfl dX6_sign_1 ?_
    refine V.st0 ((show _ = nI t.1 from rfl)) ?_
    refine r_aload_n C dX6_sign_4 rfl rfl ?_
    refine r_get C (j := 7) rfl in_X6 (MA_o MA_pM) (by decide) fl_X6_109 rfl rfl dX6_sign_5 ?_
    refine V.st0 (hn) ?_
    refine r_icmp_ge C 23 dX6_sign_8 (by decide) (fun c_8 => ?_) (fun c_8 => ?_)
    · have e_8 := i32_nlt c_8
      have h8 : ¬ t.1 < n := nI_ge_ ⟨by omega, by omega⟩ c_8
      refine r_iconst C (v := 0) dX6_sign_23 rfl ?_
      refine V.st0 (show _ = ((s_c (A 3) n t.1)) from by unfold s_c; rw [if_neg h8]) ?_
      exact K_24
    · have e_8 := i32_lt c_8
      have h8 : t.1 < n := nI_nge_ (by omega) (by omega) c_8
      refine r_aload_n C dX6_sign_11 rfl rfl ?_
      refine r_get C (j := 6) rfl in_X6 (MA_o MA_pM) (by decide) fl_X6_19 rfl rfl dX6_sign_12 ?_
      refine r_aload_n C dX6_sign_15 rfl rfl ?_
      refine r_get C (j := 10) rfl in_X6 (MA_o MA_pM) (by decide) fl_X6_112 rfl rfl dX6_sign_16 ?_
      refine V.st0 ((show _ = nI t.1 from rfl)) ?_
      refine r_iald C (MA_3 MA_pM) (vp_in_nI (by omega) (by decide)) dX6_sign_19 ?_
      refine V.st0 (cl_f (by omega)) ?_
      refine r_goto C 24 dX6_sign_20 (by decide) ?_
      refine V.st0 (show _ = ((s_c (A 3) n t.1)) from by unfold s_c; rw [if_pos h8]; rfl) ?_
      exact K_24
  · skip
    refine r_istore_n C dX6_sign_24 rfl (by decide) ?_
    refine r_aload_n C dX6_sign_25 rfl rfl ?_
    apply V.cut 47 (bI (s_w (A 3) n t.1 t.2.1 lo hi))
    · intro K_47
      refine r_aload_n C dX6_sign_26 rfl rfl ?_
      refine r_get C (j := 11) rfl in_X6 (MA_o MA_pM) (by decide) fl_X6_115 rfl rfl dX6_sign_27 ?_
      refine V.st0 ((show _ = bI t.2.1 from rfl)) ?_
      refine r_if_ne C 42 dX6_sign_30 (by decide) (fun c_30 => ?_) (fun c_30 => ?_)
      · have c_30 := bI_t c_30
        refine r_iconst C (v := 1) dX6_sign_42 rfl ?_
        refine r_goto C 47 dX6_sign_43 (by decide) ?_
        refine V.st0 (show _ = (bI (s_w (A 3) n t.1 t.2.1 lo hi)) from by unfold s_w; rw [c_30]; rfl) ?_
        exact K_47
      · have c_30 := bI_f c_30
        refine r_iload_n C dX6_sign_33 rfl rfl ?_
        refine r_iload_n C dX6_sign_34 rfl rfl ?_
        refine r_iload_n C dX6_sign_35 rfl rfl ?_
        refine r_cSi C (c_X6_in) lk_X6_37 rfl rfl ⟨(Nat.le_of_ble_eq_true rfl), (Nat.le_of_ble_eq_true rfl), (Nat.le_of_ble_eq_true rfl), (Nat.le_of_ble_eq_true rfl), (Nat.le_of_ble_eq_true rfl)⟩ dX6_sign_36 ?_
        refine r_if_ne C 46 dX6_sign_39 (by decide) (fun c_39 => ?_) (fun c_39 => ?_)
        · have c_39 := bI_t c_39
          refine r_iconst C (v := 0) dX6_sign_46 rfl ?_
          refine V.st0 (show _ = (bI (s_w (A 3) n t.1 t.2.1 lo hi)) from by unfold s_w; rw [c_30, c_39]; rfl) ?_
          exact K_47
        · have c_39 := bI_f c_39
          refine r_iconst C (v := 1) dX6_sign_42 rfl ?_
          refine r_goto C 47 dX6_sign_43 (by decide) ?_
          refine V.st0 (show _ = (bI (s_w (A 3) n t.1 t.2.1 lo hi)) from by unfold s_w; rw [c_30, c_39]; rfl) ?_
          exact K_47
    · skip
      refine r_put C (j := 11) tyX6 tyX6_ok nmX6 rfl in_X6 (MA_o MA_pM) (by decide) fl_X6_115 rfl rfl rfl (nar_b _).1 (nar_b _).2 (Nat.le_of_ble_eq_true rfl) dX6_sign_47 ?_
      refine V.heap (qM_f 5 _ rfl) ?_
      refine V.heap (congrArg (fun X => pM G h mo S X dg) tA_5) ?_
      refine r_aload_n C dX6_sign_50 rfl rfl ?_
      refine r_dup C dX6_sign_51 rfl ?_
      refine r_get C (j := 10) rfl in_X6 (MA_o MA_pM) (by decide) fl_X6_112 rfl rfl dX6_sign_52 ?_
      refine V.st0 ((show _ = nI t.1 from rfl)) ?_
      apply V.cut 67 (nI (if (s_w (A 3) n t.1 t.2.1 lo hi) = true then 0 else 1))
      · intro K_67
        refine r_aload_n C dX6_sign_55 rfl rfl ?_
        refine r_get C (j := 11) rfl in_X6 (MA_o MA_pM) (by decide) fl_X6_115 rfl rfl dX6_sign_56 ?_
        refine V.st0 ((show _ = bI (s_w (A 3) n t.1 t.2.1 lo hi) from rfl)) ?_
        refine r_if_eq C 66 dX6_sign_59 (by decide) (fun c_59 => ?_) (fun c_59 => ?_)
        · have c_59 := bI_f c_59
          refine r_iconst C (v := 1) dX6_sign_66 rfl ?_
          refine V.st0 (show _ = (nI (if (s_w (A 3) n t.1 t.2.1 lo hi) = true then 0 else 1)) from by rw [c_59]; rfl) ?_
          exact K_67
        · have c_59 := bI_t c_59
          refine r_iconst C (v := 0) dX6_sign_62 rfl ?_
          refine r_goto C 67 dX6_sign_63 (by decide) ?_
          refine V.st0 (show _ = (nI (if (s_w (A 3) n t.1 t.2.1 lo hi) = true then 0 else 1)) from by rw [c_59]; rfl) ?_
          exact K_67
      · skip
        refine r_iadd C dX6_sign_67 ?_
        refine V.st0 (nI_add (t.1) ((if (s_w (A 3) n t.1 t.2.1 lo hi) = true then 0 else 1))) ?_
        refine r_put C (j := 10) tyX6 tyX6_ok nmX6 rfl in_X6 (MA_o MA_pM) (by decide) fl_X6_112 rfl rfl rfl (by first | rfl | decide) (by first | rfl | decide) (Nat.le_of_ble_eq_true rfl) dX6_sign_68 ?_
        refine V.heap (qM_f 4 (nI ((t.1 + (if (s_w (A 3) n t.1 t.2.1 lo hi) = true then 0 else 1)))) rfl) ?_
        refine V.heap (congrArg (fun X => pM G h mo S X dg) tA_4) ?_
        refine r_iload_n C dX6_sign_71 rfl rfl ?_
        exact r_iret C rfl (Nat.le_of_ble_eq_true rfl) (Nat.le_of_ble_eq_true rfl) ⟨rfl, rfl, rfl⟩ dX6_sign_72

