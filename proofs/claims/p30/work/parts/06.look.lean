/-! GAME: contracts of the methods that only look, without loops -/
def g_held (S : gS) (p : Int32) : Int32 := tAt 4 16 (S 2) p 0
def g_over (S : gS) : Bool := decide (S 5 1 = -1)
def g_holds (S : gS) (p q : Int32) : Bool := !decide (q < 0) && decide (q < g_held S p)
def g_fits (S : gS) (t r q : Int32) : Bool := decide (tAt 4 12 (S 3) r 0 = 0) || (decide (tAt 7 196 (S 0) t 0 = tAt 4 12 (S 3) r (1 + q)) || decide (tAt 7 196 (S 0) t 1 = tAt 4 12 (S 3) r (1 + q)))
def g_hand (S : gS) (p q : Int32) : Int32 := tAt 28 112 (S 1) p q
def g_reason (S : gS) (a r q : Int32) : Int32 := if g_over S then 1 else if g_holds S (S 5 1) a then (if g_fits S (g_hand S (S 5 1) a) r q then 0 else 3) else 2
def g_stock (S : gS) : Int32 := 28 - S 5 2
def g_stile (S : gS) (q : Int32) : Int32 := tAt 28 28 (S 4) 0 (S 5 2 + q)
def g_grades (S : gS) (t : Int32) : Int32 := tAt 7 196 (S 0) t 0 + tAt 7 196 (S 0) t 1
def g_has (S : gS) (p : Int32) : Bool := !decide (p < 0) && decide (p < S 5 0)
def g_better (S : gS) (a b : Int32) : Bool := if g_grades S (g_hand S (S 5 1) a) = g_grades S (g_hand S (S 5 1) b) then decide (tAt 7 196 (S 0) (g_hand S (S 5 1) b) 4 < tAt 7 196 (S 0) (g_hand S (S 5 1) a) 4) else decide (g_grades S (g_hand S (S 5 1) b) < g_grades S (g_hand S (S 5 1) a))
set_option maxHeartbeats 800000 in
set_option maxRecDepth 100000 in
theorem c_X0_isOver {G : ga_} {l : Launch} {h : HP} {sz : Nat} {g : Nat} {S : gS}  (w : GA G h g S)  : Mf G l yX0_isOver cX0_isOver 1 (some .boolean) 0 0 0 0 [.ref g] h sz (some (.int (bI (g_over S)))) h sz := by
  refine Mg.ofV [(0, .ref g)] (by decide) (Nat.le_of_ble_eq_true rfl) rfl ?_
  intro p e s m args below meth c C
  refine r_aload_n C dX0_isOver_0 rfl rfl ?_
  refine r_get C (j := 6) rfl in_X0 (GA_o w) (by decide) fl_X0_43 rfl rfl dX0_isOver_1 ?_
  refine r_iconst C (v := -1) dX0_isOver_4 rfl ?_
  refine r_icmp_ne C 12 dX0_isOver_5 (by decide) (fun c_5 => ?_) (fun c_5 => ?_)
  · refine r_iconst C (v := 0) dX0_isOver_12 rfl ?_
    exact r_zret C rfl (by first | exact Or.inl rfl | exact Or.inr rfl | exact bI_01 _) (Nat.le_of_ble_eq_true rfl) (Nat.le_of_ble_eq_true rfl) ⟨by simp [g_over, bI, c_5], rfl, rfl⟩ dX0_isOver_13
  · refine r_iconst C (v := 1) dX0_isOver_8 rfl ?_
    refine r_goto C 13 dX0_isOver_9 (by decide) ?_
    exact r_zret C rfl (by first | exact Or.inl rfl | exact Or.inr rfl | exact bI_01 _) (Nat.le_of_ble_eq_true rfl) (Nat.le_of_ble_eq_true rfl) ⟨by simp [g_over, bI, c_5], rfl, rfl⟩ dX0_isOver_13

set_option maxHeartbeats 800000 in
set_option maxRecDepth 100000 in
theorem c_X0_hasPlayer {G : ga_} {l : Launch} {h : HP} {sz : Nat} {g : Nat} {S : gS} {a : Int32}  (w : GA G h g S)  : Mf G l yX0_hasPlayer cX0_hasPlayer 2 (some .boolean) 0 0 0 0 [.ref g, .int a] h sz (some (.int (bI (g_has S a)))) h sz := by
  refine Mg.ofV [(0, .ref g), (1, .int a)] (by decide) (Nat.le_of_ble_eq_true rfl) rfl ?_
  intro p e s m args below meth c C
  refine r_iload_n C dX0_hasPlayer_0 rfl rfl ?_
  refine r_if_lt C 16 dX0_hasPlayer_1 (by decide) (fun c_1 => ?_) (fun c_1 => ?_)
  · have e_1 := i32_nle c_1
    refine r_iconst C (v := 0) dX0_hasPlayer_16 rfl ?_
    exact r_zret C rfl (by first | exact Or.inl rfl | exact Or.inr rfl | exact bI_01 _) (Nat.le_of_ble_eq_true rfl) (Nat.le_of_ble_eq_true rfl) ⟨by simp [g_has, bI, ← Int32.not_le, c_1, e_1], rfl, rfl⟩ dX0_hasPlayer_17
  · have e_1 := i32_le c_1
    refine r_iload_n C dX0_hasPlayer_4 rfl rfl ?_
    refine r_aload_n C dX0_hasPlayer_5 rfl rfl ?_
    refine r_get C (j := 5) rfl in_X0 (GA_o w) (by decide) fl_X0_40 rfl rfl dX0_hasPlayer_6 ?_
    refine r_icmp_ge C 16 dX0_hasPlayer_9 (by decide) (fun c_9 => ?_) (fun c_9 => ?_)
    · have e_9 := i32_nlt c_9
      refine r_iconst C (v := 0) dX0_hasPlayer_16 rfl ?_
      exact r_zret C rfl (by first | exact Or.inl rfl | exact Or.inr rfl | exact bI_01 _) (Nat.le_of_ble_eq_true rfl) (Nat.le_of_ble_eq_true rfl) ⟨by simp [g_has, bI, ← Int32.not_le, c_1, e_1, c_9, e_9], rfl, rfl⟩ dX0_hasPlayer_17
    · have e_9 := i32_lt c_9
      refine r_iconst C (v := 1) dX0_hasPlayer_12 rfl ?_
      refine r_goto C 17 dX0_hasPlayer_13 (by decide) ?_
      exact r_zret C rfl (by first | exact Or.inl rfl | exact Or.inr rfl | exact bI_01 _) (Nat.le_of_ble_eq_true rfl) (Nat.le_of_ble_eq_true rfl) ⟨by simp [g_has, bI, ← Int32.not_le, c_1, e_1, c_9, e_9], rfl, rfl⟩ dX0_hasPlayer_17

set_option maxHeartbeats 800000 in
set_option maxRecDepth 100000 in
theorem c_X0_heldBy {G : ga_} {l : Launch} {h : HP} {sz : Nat} {g : Nat} {S : gS} {a : Int32}  (w : GA G h g S)  : Mf G l yX0_heldBy cX0_heldBy 2 (some .int) 1 23 0 0 [.ref g, .int a] h sz (some (.int (g_held S a))) h sz := by
  refine Mg.ofV [(0, .ref g), (1, .int a)] (by decide) (Nat.le_of_ble_eq_true rfl) rfl ?_
  intro p e s m args below meth c C
  refine r_aload_n C dX0_heldBy_0 rfl rfl ?_
  refine r_get C (j := 2) rfl in_X0 (GA_o w) (by decide) fl_X0_23 rfl rfl dX0_heldBy_1 ?_
  refine r_iload_n C dX0_heldBy_4 rfl rfl ?_
  refine r_iconst C (v := 0) dX0_heldBy_5 rfl ?_
  refine r_cVi C (c_at2 w) lk_X0_84 rfl (GA_t2 w) rfl rfl ⟨(Nat.le_of_ble_eq_true rfl), (Nat.le_of_ble_eq_true rfl), (Nat.le_of_ble_eq_true rfl), (Nat.le_of_ble_eq_true rfl), (Nat.le_of_ble_eq_true rfl)⟩ dX0_heldBy_6 ?_
  exact r_iret C rfl (Nat.le_of_ble_eq_true rfl) (Nat.le_of_ble_eq_true rfl) ⟨by simp [g_held], rfl, rfl⟩ dX0_heldBy_9

set_option maxHeartbeats 800000 in
set_option maxRecDepth 100000 in
theorem c_X0_holdsPlace {G : ga_} {l : Launch} {h : HP} {sz : Nat} {g : Nat} {S : gS} {a b : Int32}  (w : GA G h g S)  : Mf G l yX0_holdsPlace cX0_holdsPlace 3 (some .boolean) 2 44 0 0 [.ref g, .int a, .int b] h sz (some (.int (bI (g_holds S a b)))) h sz := by
  refine Mg.ofV [(0, .ref g), (1, .int a), (2, .int b)] (by decide) (Nat.le_of_ble_eq_true rfl) rfl ?_
  intro p e s m args below meth c C
  refine r_iload_n C dX0_holdsPlace_0 rfl rfl ?_
  refine r_if_lt C 17 dX0_holdsPlace_1 (by decide) (fun c_1 => ?_) (fun c_1 => ?_)
  · have e_1 := i32_nle c_1
    refine r_iconst C (v := 0) dX0_holdsPlace_17 rfl ?_
    exact r_zret C rfl (by first | exact Or.inl rfl | exact Or.inr rfl | exact bI_01 _) (Nat.le_of_ble_eq_true rfl) (Nat.le_of_ble_eq_true rfl) ⟨by simp [g_holds, bI, ← Int32.not_le, c_1, e_1], rfl, rfl⟩ dX0_holdsPlace_18
  · have e_1 := i32_le c_1
    refine r_iload_n C dX0_holdsPlace_4 rfl rfl ?_
    refine r_aload_n C dX0_holdsPlace_5 rfl rfl ?_
    refine r_iload_n C dX0_holdsPlace_6 rfl rfl ?_
    refine r_cVi C (c_X0_heldBy w) lk_X0_92 rfl (GA_o w) rfl rfl ⟨(Nat.le_of_ble_eq_true rfl), (Nat.le_of_ble_eq_true rfl), (Nat.le_of_ble_eq_true rfl), (Nat.le_of_ble_eq_true rfl), (Nat.le_of_ble_eq_true rfl)⟩ dX0_holdsPlace_7 ?_
    refine r_icmp_ge C 17 dX0_holdsPlace_10 (by decide) (fun c_10 => ?_) (fun c_10 => ?_)
    · have e_10 := i32_nlt c_10
      refine r_iconst C (v := 0) dX0_holdsPlace_17 rfl ?_
      exact r_zret C rfl (by first | exact Or.inl rfl | exact Or.inr rfl | exact bI_01 _) (Nat.le_of_ble_eq_true rfl) (Nat.le_of_ble_eq_true rfl) ⟨by simp [g_holds, bI, ← Int32.not_le, c_1, e_1, c_10, e_10], rfl, rfl⟩ dX0_holdsPlace_18
    · have e_10 := i32_lt c_10
      refine r_iconst C (v := 1) dX0_holdsPlace_13 rfl ?_
      refine r_goto C 18 dX0_holdsPlace_14 (by decide) ?_
      exact r_zret C rfl (by first | exact Or.inl rfl | exact Or.inr rfl | exact bI_01 _) (Nat.le_of_ble_eq_true rfl) (Nat.le_of_ble_eq_true rfl) ⟨by simp [g_holds, bI, ← Int32.not_le, c_1, e_1, c_10, e_10], rfl, rfl⟩ dX0_holdsPlace_18

set_option maxHeartbeats 800000 in
set_option maxRecDepth 100000 in
theorem c_X0_stockSize {G : ga_} {l : Launch} {h : HP} {sz : Nat} {g : Nat} {S : gS}  (w : GA G h g S)  : Mf G l yX0_stockSize cX0_stockSize 1 (some .int) 0 0 0 0 [.ref g] h sz (some (.int (g_stock S))) h sz := by
  refine Mg.ofV [(0, .ref g)] (by decide) (Nat.le_of_ble_eq_true rfl) rfl ?_
  intro p e s m args below meth c C
  refine r_bipush C (v := 28) dX0_stockSize_0 rfl ?_
  refine r_aload_n C dX0_stockSize_2 rfl rfl ?_
  refine r_get C (j := 7) rfl in_X0 (GA_o w) (by decide) fl_X0_46 rfl rfl dX0_stockSize_3 ?_
  refine r_isub C dX0_stockSize_6 ?_
  exact r_iret C rfl (Nat.le_of_ble_eq_true rfl) (Nat.le_of_ble_eq_true rfl) ⟨by simp [g_stock], rfl, rfl⟩ dX0_stockSize_7

set_option maxHeartbeats 800000 in
set_option maxRecDepth 100000 in
theorem c_X0_stockTile {G : ga_} {l : Launch} {h : HP} {sz : Nat} {g : Nat} {S : gS} {a : Int32}  (w : GA G h g S)  : Mf G l yX0_stockTile cX0_stockTile 2 (some .int) 1 23 0 0 [.ref g, .int a] h sz (some (.int (g_stile S a))) h sz := by
  refine Mg.ofV [(0, .ref g), (1, .int a)] (by decide) (Nat.le_of_ble_eq_true rfl) rfl ?_
  intro p e s m args below meth c C
  refine r_aload_n C dX0_stockTile_0 rfl rfl ?_
  refine r_get C (j := 4) rfl in_X0 (GA_o w) (by decide) fl_X0_29 rfl rfl dX0_stockTile_1 ?_
  refine r_iconst C (v := 0) dX0_stockTile_4 rfl ?_
  refine r_aload_n C dX0_stockTile_5 rfl rfl ?_
  refine r_get C (j := 7) rfl in_X0 (GA_o w) (by decide) fl_X0_46 rfl rfl dX0_stockTile_6 ?_
  refine r_iload_n C dX0_stockTile_9 rfl rfl ?_
  refine r_iadd C dX0_stockTile_10 ?_
  refine r_cVi C (c_at4 w) lk_X0_84 rfl (GA_t4 w) rfl rfl ⟨(Nat.le_of_ble_eq_true rfl), (Nat.le_of_ble_eq_true rfl), (Nat.le_of_ble_eq_true rfl), (Nat.le_of_ble_eq_true rfl), (Nat.le_of_ble_eq_true rfl)⟩ dX0_stockTile_11 ?_
  exact r_iret C rfl (Nat.le_of_ble_eq_true rfl) (Nat.le_of_ble_eq_true rfl) ⟨by simp [g_stile], rfl, rfl⟩ dX0_stockTile_14

set_option maxHeartbeats 800000 in
set_option maxRecDepth 100000 in
theorem c_X0_gradesOf {G : ga_} {l : Launch} {h : HP} {sz : Nat} {g : Nat} {S : gS} {a : Int32}  (w : GA G h g S)  : Mf G l yX0_gradesOf cX0_gradesOf 2 (some .int) 1 23 0 0 [.ref g, .int a] h sz (some (.int (g_grades S a))) h sz := by
  refine Mg.ofV [(0, .ref g), (1, .int a)] (by decide) (Nat.le_of_ble_eq_true rfl) rfl ?_
  intro p e s m args below meth c C
  refine r_aload_n C dX0_gradesOf_0 rfl rfl ?_
  refine r_get C (j := 0) rfl in_X0 (GA_o w) (by decide) fl_X0_14 rfl rfl dX0_gradesOf_1 ?_
  refine r_iload_n C dX0_gradesOf_4 rfl rfl ?_
  refine r_iconst C (v := 0) dX0_gradesOf_5 rfl ?_
  refine r_cVi C (c_at0 w) lk_X0_84 rfl (GA_t0 w) rfl rfl ⟨(Nat.le_of_ble_eq_true rfl), (Nat.le_of_ble_eq_true rfl), (Nat.le_of_ble_eq_true rfl), (Nat.le_of_ble_eq_true rfl), (Nat.le_of_ble_eq_true rfl)⟩ dX0_gradesOf_6 ?_
  refine r_aload_n C dX0_gradesOf_9 rfl rfl ?_
  refine r_get C (j := 0) rfl in_X0 (GA_o w) (by decide) fl_X0_14 rfl rfl dX0_gradesOf_10 ?_
  refine r_iload_n C dX0_gradesOf_13 rfl rfl ?_
  refine r_iconst C (v := 1) dX0_gradesOf_14 rfl ?_
  refine r_cVi C (c_at0 w) lk_X0_84 rfl (GA_t0 w) rfl rfl ⟨(Nat.le_of_ble_eq_true rfl), (Nat.le_of_ble_eq_true rfl), (Nat.le_of_ble_eq_true rfl), (Nat.le_of_ble_eq_true rfl), (Nat.le_of_ble_eq_true rfl)⟩ dX0_gradesOf_15 ?_
  refine r_iadd C dX0_gradesOf_18 ?_
  exact r_iret C rfl (Nat.le_of_ble_eq_true rfl) (Nat.le_of_ble_eq_true rfl) ⟨by simp [g_grades], rfl, rfl⟩ dX0_gradesOf_19

set_option maxHeartbeats 800000 in
set_option maxRecDepth 100000 in
theorem c_X0_fits {G : ga_} {l : Launch} {h : HP} {sz : Nat} {g : Nat} {S : gS} {a b d : Int32}  (w : GA G h g S)  : Mf G l yX0_fits cX0_fits 5 (some .boolean) 1 23 0 0 [.ref g, .int a, .int b, .int d] h sz (some (.int (bI (g_fits S a b d)))) h sz := by
  refine Mg.ofV [(0, .ref g), (1, .int a), (2, .int b), (3, .int d)] (by decide) (Nat.le_of_ble_eq_true rfl) rfl ?_
  intro p e s m args below meth c C
  refine r_aload_n C dX0_fits_0 rfl rfl ?_
  refine r_get C (j := 3) rfl in_X0 (GA_o w) (by decide) fl_X0_26 rfl rfl dX0_fits_1 ?_
  refine r_iload_n C dX0_fits_4 rfl rfl ?_
  refine r_iconst C (v := 0) dX0_fits_5 rfl ?_
  refine r_cVi C (c_at3 w) lk_X0_84 rfl (GA_t3 w) rfl rfl ⟨(Nat.le_of_ble_eq_true rfl), (Nat.le_of_ble_eq_true rfl), (Nat.le_of_ble_eq_true rfl), (Nat.le_of_ble_eq_true rfl), (Nat.le_of_ble_eq_true rfl)⟩ dX0_fits_6 ?_
  refine r_if_ne C 14 dX0_fits_9 (by decide) (fun c_9 => ?_) (fun c_9 => ?_)
  · refine r_aload_n C dX0_fits_14 rfl rfl ?_
    refine r_get C (j := 3) rfl in_X0 (GA_o w) (by decide) fl_X0_26 rfl rfl dX0_fits_15 ?_
    refine r_iload_n C dX0_fits_18 rfl rfl ?_
    refine r_iconst C (v := 1) dX0_fits_19 rfl ?_
    refine r_iload_n C dX0_fits_20 rfl rfl ?_
    refine r_iadd C dX0_fits_21 ?_
    refine r_cVi C (c_at3 w) lk_X0_84 rfl (GA_t3 w) rfl rfl ⟨(Nat.le_of_ble_eq_true rfl), (Nat.le_of_ble_eq_true rfl), (Nat.le_of_ble_eq_true rfl), (Nat.le_of_ble_eq_true rfl), (Nat.le_of_ble_eq_true rfl)⟩ dX0_fits_22 ?_
    refine r_istore C dX0_fits_25 (by decide) ?_
    refine r_aload_n C dX0_fits_27 rfl rfl ?_
    refine r_get C (j := 0) rfl in_X0 (GA_o w) (by decide) fl_X0_14 rfl rfl dX0_fits_28 ?_
    refine r_iload_n C dX0_fits_31 rfl rfl ?_
    refine r_iconst C (v := 0) dX0_fits_32 rfl ?_
    refine r_cVi C (c_at0 w) lk_X0_84 rfl (GA_t0 w) rfl rfl ⟨(Nat.le_of_ble_eq_true rfl), (Nat.le_of_ble_eq_true rfl), (Nat.le_of_ble_eq_true rfl), (Nat.le_of_ble_eq_true rfl), (Nat.le_of_ble_eq_true rfl)⟩ dX0_fits_33 ?_
    refine r_iload C dX0_fits_36 rfl ?_
    refine r_icmp_eq C 55 dX0_fits_38 (by decide) (fun c_38 => ?_) (fun c_38 => ?_)
    · refine r_iconst C (v := 1) dX0_fits_55 rfl ?_
      refine r_goto C 60 dX0_fits_56 (by decide) ?_
      exact r_zret C rfl (by first | exact Or.inl rfl | exact Or.inr rfl | exact bI_01 _) (Nat.le_of_ble_eq_true rfl) (Nat.le_of_ble_eq_true rfl) ⟨by simp [g_fits, bI, c_9, c_38], rfl, rfl⟩ dX0_fits_60
    · refine r_aload_n C dX0_fits_41 rfl rfl ?_
      refine r_get C (j := 0) rfl in_X0 (GA_o w) (by decide) fl_X0_14 rfl rfl dX0_fits_42 ?_
      refine r_iload_n C dX0_fits_45 rfl rfl ?_
      refine r_iconst C (v := 1) dX0_fits_46 rfl ?_
      refine r_cVi C (c_at0 w) lk_X0_84 rfl (GA_t0 w) rfl rfl ⟨(Nat.le_of_ble_eq_true rfl), (Nat.le_of_ble_eq_true rfl), (Nat.le_of_ble_eq_true rfl), (Nat.le_of_ble_eq_true rfl), (Nat.le_of_ble_eq_true rfl)⟩ dX0_fits_47 ?_
      refine r_iload C dX0_fits_50 rfl ?_
      refine r_icmp_ne C 59 dX0_fits_52 (by decide) (fun c_52 => ?_) (fun c_52 => ?_)
      · refine r_iconst C (v := 0) dX0_fits_59 rfl ?_
        exact r_zret C rfl (by first | exact Or.inl rfl | exact Or.inr rfl | exact bI_01 _) (Nat.le_of_ble_eq_true rfl) (Nat.le_of_ble_eq_true rfl) ⟨by simp [g_fits, bI, c_9, c_38, c_52], rfl, rfl⟩ dX0_fits_60
      · refine r_iconst C (v := 1) dX0_fits_55 rfl ?_
        refine r_goto C 60 dX0_fits_56 (by decide) ?_
        exact r_zret C rfl (by first | exact Or.inl rfl | exact Or.inr rfl | exact bI_01 _) (Nat.le_of_ble_eq_true rfl) (Nat.le_of_ble_eq_true rfl) ⟨by simp [g_fits, bI, c_9, c_38, c_52], rfl, rfl⟩ dX0_fits_60
  · refine r_iconst C (v := 1) dX0_fits_12 rfl ?_
    exact r_zret C rfl (by first | exact Or.inl rfl | exact Or.inr rfl | exact bI_01 _) (Nat.le_of_ble_eq_true rfl) (Nat.le_of_ble_eq_true rfl) ⟨by simp [g_fits, bI, c_9], rfl, rfl⟩ dX0_fits_13

set_option maxHeartbeats 800000 in
set_option maxRecDepth 100000 in
theorem c_X0_reasonAgainst {G : ga_} {l : Launch} {h : HP} {sz : Nat} {g : Nat} {S : gS} {a b d : Int32}  (w : GA G h g S)  : Mf G l yX0_reasonAgainst cX0_reasonAgainst 4 (some .int) 3 66 0 0 [.ref g, .int a, .int b, .int d] h sz (some (.int (g_reason S a b d))) h sz := by
  refine Mg.ofV [(0, .ref g), (1, .int a), (2, .int b), (3, .int d)] (by decide) (Nat.le_of_ble_eq_true rfl) rfl ?_
  intro p e s m args below meth c C
  refine r_aload_n C dX0_reasonAgainst_0 rfl rfl ?_
  refine r_cVi C (c_X0_isOver w) lk_X0_112 rfl (GA_o w) rfl rfl ⟨(Nat.le_of_ble_eq_true rfl), (Nat.le_of_ble_eq_true rfl), (Nat.le_of_ble_eq_true rfl), (Nat.le_of_ble_eq_true rfl), (Nat.le_of_ble_eq_true rfl)⟩ dX0_reasonAgainst_1 ?_
  refine r_if_eq C 9 dX0_reasonAgainst_4 (by decide) (fun c_4 => ?_) (fun c_4 => ?_)
  · have c_4 := bI_f c_4
    refine r_aload_n C dX0_reasonAgainst_9 rfl rfl ?_
    refine r_aload_n C dX0_reasonAgainst_10 rfl rfl ?_
    refine r_get C (j := 6) rfl in_X0 (GA_o w) (by decide) fl_X0_43 rfl rfl dX0_reasonAgainst_11 ?_
    refine r_iload_n C dX0_reasonAgainst_14 rfl rfl ?_
    refine r_cVi C (c_X0_holdsPlace w) lk_X0_119 rfl (GA_o w) rfl rfl ⟨(Nat.le_of_ble_eq_true rfl), (Nat.le_of_ble_eq_true rfl), (Nat.le_of_ble_eq_true rfl), (Nat.le_of_ble_eq_true rfl), (Nat.le_of_ble_eq_true rfl)⟩ dX0_reasonAgainst_15 ?_
    refine r_if_ne C 23 dX0_reasonAgainst_18 (by decide) (fun c_18 => ?_) (fun c_18 => ?_)
    · have c_18 := bI_t c_18
      refine r_aload_n C dX0_reasonAgainst_23 rfl rfl ?_
      refine r_aload_n C dX0_reasonAgainst_24 rfl rfl ?_
      refine r_get C (j := 1) rfl in_X0 (GA_o w) (by decide) fl_X0_20 rfl rfl dX0_reasonAgainst_25 ?_
      refine r_aload_n C dX0_reasonAgainst_28 rfl rfl ?_
      refine r_get C (j := 6) rfl in_X0 (GA_o w) (by decide) fl_X0_43 rfl rfl dX0_reasonAgainst_29 ?_
      refine r_iload_n C dX0_reasonAgainst_32 rfl rfl ?_
      refine r_cVi C (c_at1 w) lk_X0_84 rfl (GA_t1 w) rfl rfl ⟨(Nat.le_of_ble_eq_true rfl), (Nat.le_of_ble_eq_true rfl), (Nat.le_of_ble_eq_true rfl), (Nat.le_of_ble_eq_true rfl), (Nat.le_of_ble_eq_true rfl)⟩ dX0_reasonAgainst_33 ?_
      refine r_iload_n C dX0_reasonAgainst_36 rfl rfl ?_
      refine r_iload_n C dX0_reasonAgainst_37 rfl rfl ?_
      refine r_cVi C (c_X0_fits w) lk_X0_123 rfl (GA_o w) rfl rfl ⟨(Nat.le_of_ble_eq_true rfl), (Nat.le_of_ble_eq_true rfl), (Nat.le_of_ble_eq_true rfl), (Nat.le_of_ble_eq_true rfl), (Nat.le_of_ble_eq_true rfl)⟩ dX0_reasonAgainst_38 ?_
      refine r_if_eq C 48 dX0_reasonAgainst_41 (by decide) (fun c_41 => ?_) (fun c_41 => ?_)
      · have c_41 := bI_f c_41
        refine r_iconst C (v := 3) dX0_reasonAgainst_48 rfl ?_
        exact r_iret C rfl (Nat.le_of_ble_eq_true rfl) (Nat.le_of_ble_eq_true rfl) ⟨by simp [g_reason, g_hand, c_4, c_18, c_41], rfl, rfl⟩ dX0_reasonAgainst_49
      · have c_41 := bI_t c_41
        refine r_iconst C (v := 0) dX0_reasonAgainst_44 rfl ?_
        refine r_goto C 49 dX0_reasonAgainst_45 (by decide) ?_
        exact r_iret C rfl (Nat.le_of_ble_eq_true rfl) (Nat.le_of_ble_eq_true rfl) ⟨by simp [g_reason, g_hand, c_4, c_18, c_41], rfl, rfl⟩ dX0_reasonAgainst_49
    · have c_18 := bI_f c_18
      refine r_iconst C (v := 2) dX0_reasonAgainst_21 rfl ?_
      exact r_iret C rfl (Nat.le_of_ble_eq_true rfl) (Nat.le_of_ble_eq_true rfl) ⟨by simp [g_reason, g_hand, c_4, c_18], rfl, rfl⟩ dX0_reasonAgainst_22
  · have c_4 := bI_t c_4
    refine r_iconst C (v := 1) dX0_reasonAgainst_7 rfl ?_
    exact r_iret C rfl (Nat.le_of_ble_eq_true rfl) (Nat.le_of_ble_eq_true rfl) ⟨by simp [g_reason, g_hand, c_4], rfl, rfl⟩ dX0_reasonAgainst_8

set_option maxHeartbeats 800000 in
set_option maxRecDepth 100000 in
theorem c_X0_isBetter {G : ga_} {l : Launch} {h : HP} {sz : Nat} {g : Nat} {S : gS} {a b : Int32}  (w : GA G h g S)  : Mf G l yX0_isBetter cX0_isBetter 5 (some .boolean) 2 44 0 0 [.ref g, .int a, .int b] h sz (some (.int (bI (g_better S a b)))) h sz := by
  refine Mg.ofV [(0, .ref g), (1, .int a), (2, .int b)] (by decide) (Nat.le_of_ble_eq_true rfl) rfl ?_
  intro p e s m args below meth c C
  refine r_aload_n C dX0_isBetter_0 rfl rfl ?_
  refine r_get C (j := 1) rfl in_X0 (GA_o w) (by decide) fl_X0_20 rfl rfl dX0_isBetter_1 ?_
  refine r_aload_n C dX0_isBetter_4 rfl rfl ?_
  refine r_get C (j := 6) rfl in_X0 (GA_o w) (by decide) fl_X0_43 rfl rfl dX0_isBetter_5 ?_
  refine r_iload_n C dX0_isBetter_8 rfl rfl ?_
  refine r_cVi C (c_at1 w) lk_X0_84 rfl (GA_t1 w) rfl rfl ⟨(Nat.le_of_ble_eq_true rfl), (Nat.le_of_ble_eq_true rfl), (Nat.le_of_ble_eq_true rfl), (Nat.le_of_ble_eq_true rfl), (Nat.le_of_ble_eq_true rfl)⟩ dX0_isBetter_9 ?_
  refine r_istore_n C dX0_isBetter_12 rfl (by decide) ?_
  refine r_aload_n C dX0_isBetter_13 rfl rfl ?_
  refine r_get C (j := 1) rfl in_X0 (GA_o w) (by decide) fl_X0_20 rfl rfl dX0_isBetter_14 ?_
  refine r_aload_n C dX0_isBetter_17 rfl rfl ?_
  refine r_get C (j := 6) rfl in_X0 (GA_o w) (by decide) fl_X0_43 rfl rfl dX0_isBetter_18 ?_
  refine r_iload_n C dX0_isBetter_21 rfl rfl ?_
  refine r_cVi C (c_at1 w) lk_X0_84 rfl (GA_t1 w) rfl rfl ⟨(Nat.le_of_ble_eq_true rfl), (Nat.le_of_ble_eq_true rfl), (Nat.le_of_ble_eq_true rfl), (Nat.le_of_ble_eq_true rfl), (Nat.le_of_ble_eq_true rfl)⟩ dX0_isBetter_22 ?_
  refine r_istore C dX0_isBetter_25 (by decide) ?_
  refine r_aload_n C dX0_isBetter_27 rfl rfl ?_
  refine r_iload_n C dX0_isBetter_28 rfl rfl ?_
  refine r_cVi C (c_X0_gradesOf w) lk_X0_148 rfl (GA_o w) rfl rfl ⟨(Nat.le_of_ble_eq_true rfl), (Nat.le_of_ble_eq_true rfl), (Nat.le_of_ble_eq_true rfl), (Nat.le_of_ble_eq_true rfl), (Nat.le_of_ble_eq_true rfl)⟩ dX0_isBetter_29 ?_
  refine r_aload_n C dX0_isBetter_32 rfl rfl ?_
  refine r_iload C dX0_isBetter_33 rfl ?_
  refine r_cVi C (c_X0_gradesOf w) lk_X0_148 rfl (GA_o w) rfl rfl ⟨(Nat.le_of_ble_eq_true rfl), (Nat.le_of_ble_eq_true rfl), (Nat.le_of_ble_eq_true rfl), (Nat.le_of_ble_eq_true rfl), (Nat.le_of_ble_eq_true rfl)⟩ dX0_isBetter_35 ?_
  refine r_icmp_eq C 61 dX0_isBetter_38 (by decide) (fun c_38 => ?_) (fun c_38 => ?_)
  · refine r_aload_n C dX0_isBetter_61 rfl rfl ?_
    refine r_get C (j := 0) rfl in_X0 (GA_o w) (by decide) fl_X0_14 rfl rfl dX0_isBetter_62 ?_
    refine r_iload_n C dX0_isBetter_65 rfl rfl ?_
    refine r_iconst C (v := 4) dX0_isBetter_66 rfl ?_
    refine r_cVi C (c_at0 w) lk_X0_84 rfl (GA_t0 w) rfl rfl ⟨(Nat.le_of_ble_eq_true rfl), (Nat.le_of_ble_eq_true rfl), (Nat.le_of_ble_eq_true rfl), (Nat.le_of_ble_eq_true rfl), (Nat.le_of_ble_eq_true rfl)⟩ dX0_isBetter_67 ?_
    refine r_aload_n C dX0_isBetter_70 rfl rfl ?_
    refine r_get C (j := 0) rfl in_X0 (GA_o w) (by decide) fl_X0_14 rfl rfl dX0_isBetter_71 ?_
    refine r_iload C dX0_isBetter_74 rfl ?_
    refine r_iconst C (v := 4) dX0_isBetter_76 rfl ?_
    refine r_cVi C (c_at0 w) lk_X0_84 rfl (GA_t0 w) rfl rfl ⟨(Nat.le_of_ble_eq_true rfl), (Nat.le_of_ble_eq_true rfl), (Nat.le_of_ble_eq_true rfl), (Nat.le_of_ble_eq_true rfl), (Nat.le_of_ble_eq_true rfl)⟩ dX0_isBetter_77 ?_
    refine r_icmp_le C 87 dX0_isBetter_80 (by decide) (fun c_80 => ?_) (fun c_80 => ?_)
    · have e_80 := i32_nlt c_80
      refine r_iconst C (v := 0) dX0_isBetter_87 rfl ?_
      exact r_zret C rfl (by first | exact Or.inl rfl | exact Or.inr rfl | exact bI_01 _) (Nat.le_of_ble_eq_true rfl) (Nat.le_of_ble_eq_true rfl) ⟨by simp [g_better, g_hand, bI, ← Int32.not_le, c_38, c_80, e_80], rfl, rfl⟩ dX0_isBetter_88
    · have e_80 := i32_lt c_80
      refine r_iconst C (v := 1) dX0_isBetter_83 rfl ?_
      refine r_goto C 88 dX0_isBetter_84 (by decide) ?_
      exact r_zret C rfl (by first | exact Or.inl rfl | exact Or.inr rfl | exact bI_01 _) (Nat.le_of_ble_eq_true rfl) (Nat.le_of_ble_eq_true rfl) ⟨by simp [g_better, g_hand, bI, ← Int32.not_le, c_38, c_80, e_80], rfl, rfl⟩ dX0_isBetter_88
  · refine r_aload_n C dX0_isBetter_41 rfl rfl ?_
    refine r_iload_n C dX0_isBetter_42 rfl rfl ?_
    refine r_cVi C (c_X0_gradesOf w) lk_X0_148 rfl (GA_o w) rfl rfl ⟨(Nat.le_of_ble_eq_true rfl), (Nat.le_of_ble_eq_true rfl), (Nat.le_of_ble_eq_true rfl), (Nat.le_of_ble_eq_true rfl), (Nat.le_of_ble_eq_true rfl)⟩ dX0_isBetter_43 ?_
    refine r_aload_n C dX0_isBetter_46 rfl rfl ?_
    refine r_iload C dX0_isBetter_47 rfl ?_
    refine r_cVi C (c_X0_gradesOf w) lk_X0_148 rfl (GA_o w) rfl rfl ⟨(Nat.le_of_ble_eq_true rfl), (Nat.le_of_ble_eq_true rfl), (Nat.le_of_ble_eq_true rfl), (Nat.le_of_ble_eq_true rfl), (Nat.le_of_ble_eq_true rfl)⟩ dX0_isBetter_49 ?_
    refine r_icmp_le C 59 dX0_isBetter_52 (by decide) (fun c_52 => ?_) (fun c_52 => ?_)
    · have e_52 := i32_nlt c_52
      refine r_iconst C (v := 0) dX0_isBetter_59 rfl ?_
      exact r_zret C rfl (by first | exact Or.inl rfl | exact Or.inr rfl | exact bI_01 _) (Nat.le_of_ble_eq_true rfl) (Nat.le_of_ble_eq_true rfl) ⟨by simp [g_better, g_hand, bI, ← Int32.not_le, c_38, c_52, e_52], rfl, rfl⟩ dX0_isBetter_60
    · have e_52 := i32_lt c_52
      refine r_iconst C (v := 1) dX0_isBetter_55 rfl ?_
      refine r_goto C 60 dX0_isBetter_56 (by decide) ?_
      exact r_zret C rfl (by first | exact Or.inl rfl | exact Or.inr rfl | exact bI_01 _) (Nat.le_of_ble_eq_true rfl) (Nat.le_of_ble_eq_true rfl) ⟨by simp [g_better, g_hand, bI, ← Int32.not_le, c_38, c_52, e_52], rfl, rfl⟩ dX0_isBetter_60

