/-! THE ROOT: what a call requires of its arguments -/
def eIA : String := "java/lang/IllegalArgumentException"
def eIS : String := "java/lang/IllegalStateException"
def eIO : String := "java/lang/IndexOutOfBoundsException"
def okN (a : Int32) (n : Int32) : Bool := !decide (a < 0) && decide (a < n)
def okEnd (a : Int32) : Bool := !decide (a < 0) && !decide (1 < a)
def pxQ (h : HP) (sz : Nat) (X : String) (b : Bool) : String → HP → Nat → Prop := fun E h1 s1 => E = X ∧ h1 = h ∧ sz ≤ s1 ∧ b = false
def poQ (h : HP) (sz : Nat) (b : Bool) : Option Value → HP → Nat → Prop := fun v h1 s1 => v = none ∧ h1 = h ∧ s1 = sz ∧ b = true
set_option maxHeartbeats 800000 in
set_option maxRecDepth 100000 in
theorem c_X5_requireRow {G : ga_} {l : Launch} {h : HP} {sz : Nat} {a : Int32}  (hst : l.stackTraces = false)  : Mx G l yX5_requireRow cX5_requireRow 1 none 6 90 1 6 [.int a] h sz (poQ h sz (okN a 3)) (pxQ h sz eIO (okN a 3)) := by
  refine Mx.ofV [(0, .int a)] hst (by decide) (Nat.le_of_ble_eq_true rfl) rfl ?_
  intro p e s m args below meth c C Z
  refine r_iload_n C dX5_requireRow_0 rfl rfl ?_
  refine r_if_lt C 9 dX5_requireRow_1 (by decide) (fun c_1 => ?_) (fun c_1 => ?_)
  · have e_1 := i32_nle c_1
    exact r_throw C Z lt_IO (is := 237) (by simp [SR]; try rfl) dX5_requireRow_9 dX5_requireRow_12 dX5_requireRow_13 dX5_requireRow_15 dX5_requireRow_18 (Nat.le_of_ble_eq_true rfl) (Nat.le_of_ble_eq_true rfl) (Nat.le_of_ble_eq_true rfl) (Nat.le_of_ble_eq_true rfl) (Nat.le_of_ble_eq_true rfl) (Nat.le_of_ble_eq_true rfl) (fun s1 hs1 => ⟨rfl, rfl, hs1, by simp [okN, okEnd, c_1, e_1]⟩)
  · have e_1 := i32_le c_1
    refine r_iload_n C dX5_requireRow_4 rfl rfl ?_
    refine r_iconst C (v := 3) dX5_requireRow_5 rfl ?_
    refine r_icmp_lt C 19 dX5_requireRow_6 (by decide) (fun c_6 => ?_) (fun c_6 => ?_)
    · have e_6 := i32_nle c_6
      exact V.retx (r_vret C rfl (Nat.le_of_ble_eq_true rfl) (Nat.le_of_ble_eq_true rfl) ⟨rfl, rfl, rfl, by simp [okN, okEnd, c_1, e_1, c_6, e_6]⟩ dX5_requireRow_19)
    · have e_6 := i32_le c_6
      exact r_throw C Z lt_IO (is := 237) (by simp [SR]; try rfl) dX5_requireRow_9 dX5_requireRow_12 dX5_requireRow_13 dX5_requireRow_15 dX5_requireRow_18 (Nat.le_of_ble_eq_true rfl) (Nat.le_of_ble_eq_true rfl) (Nat.le_of_ble_eq_true rfl) (Nat.le_of_ble_eq_true rfl) (Nat.le_of_ble_eq_true rfl) (Nat.le_of_ble_eq_true rfl) (fun s1 hs1 => ⟨rfl, rfl, hs1, by simp [okN, okEnd, c_1, e_1, c_6, e_6]⟩)

set_option maxHeartbeats 800000 in
set_option maxRecDepth 100000 in
theorem c_X5_requireEnd {G : ga_} {l : Launch} {h : HP} {sz : Nat} {a : Int32}  (hst : l.stackTraces = false)  : Mx G l yX5_requireEnd cX5_requireEnd 1 none 6 90 1 6 [.int a] h sz (poQ h sz (okEnd a)) (pxQ h sz eIA (okEnd a)) := by
  refine Mx.ofV [(0, .int a)] hst (by decide) (Nat.le_of_ble_eq_true rfl) rfl ?_
  intro p e s m args below meth c C Z
  refine r_iload_n C dX5_requireEnd_0 rfl rfl ?_
  refine r_if_lt C 9 dX5_requireEnd_1 (by decide) (fun c_1 => ?_) (fun c_1 => ?_)
  · have e_1 := i32_nle c_1
    exact r_throw C Z lt_IA (is := 239) (by simp [SR]; try rfl) dX5_requireEnd_9 dX5_requireEnd_12 dX5_requireEnd_13 dX5_requireEnd_15 dX5_requireEnd_18 (Nat.le_of_ble_eq_true rfl) (Nat.le_of_ble_eq_true rfl) (Nat.le_of_ble_eq_true rfl) (Nat.le_of_ble_eq_true rfl) (Nat.le_of_ble_eq_true rfl) (Nat.le_of_ble_eq_true rfl) (fun s1 hs1 => ⟨rfl, rfl, hs1, by simp [okN, okEnd, c_1, e_1]⟩)
  · have e_1 := i32_le c_1
    refine r_iload_n C dX5_requireEnd_4 rfl rfl ?_
    refine r_iconst C (v := 1) dX5_requireEnd_5 rfl ?_
    refine r_icmp_le C 19 dX5_requireEnd_6 (by decide) (fun c_6 => ?_) (fun c_6 => ?_)
    · have e_6 := i32_nlt c_6
      exact V.retx (r_vret C rfl (Nat.le_of_ble_eq_true rfl) (Nat.le_of_ble_eq_true rfl) ⟨rfl, rfl, rfl, by simp [okN, okEnd, c_1, e_1, c_6, e_6]⟩ dX5_requireEnd_19)
    · have e_6 := i32_lt c_6
      exact r_throw C Z lt_IA (is := 239) (by simp [SR]; try rfl) dX5_requireEnd_9 dX5_requireEnd_12 dX5_requireEnd_13 dX5_requireEnd_15 dX5_requireEnd_18 (Nat.le_of_ble_eq_true rfl) (Nat.le_of_ble_eq_true rfl) (Nat.le_of_ble_eq_true rfl) (Nat.le_of_ble_eq_true rfl) (Nat.le_of_ble_eq_true rfl) (Nat.le_of_ble_eq_true rfl) (fun s1 hs1 => ⟨rfl, rfl, hs1, by simp [okN, okEnd, c_1, e_1, c_6, e_6]⟩)

set_option maxHeartbeats 800000 in
set_option maxRecDepth 100000 in
theorem c_X5_requirePlace {G : ga_} {l : Launch} {h : HP} {sz : Nat} {a : Int32}  (hst : l.stackTraces = false)  : Mx G l yX5_requirePlace cX5_requirePlace 1 none 6 90 1 6 [.int a] h sz (poQ h sz (!decide (a < 0))) (pxQ h sz eIA (!decide (a < 0))) := by
  refine Mx.ofV [(0, .int a)] hst (by decide) (Nat.le_of_ble_eq_true rfl) rfl ?_
  intro p e s m args below meth c C Z
  refine r_iload_n C dX5_requirePlace_0 rfl rfl ?_
  refine r_if_ge C 14 dX5_requirePlace_1 (by decide) (fun c_1 => ?_) (fun c_1 => ?_)
  · have e_1 := i32_nlt c_1
    exact V.retx (r_vret C rfl (Nat.le_of_ble_eq_true rfl) (Nat.le_of_ble_eq_true rfl) ⟨rfl, rfl, rfl, by simp [okN, okEnd, c_1, e_1]⟩ dX5_requirePlace_14)
  · have e_1 := i32_lt c_1
    exact r_throw C Z lt_IA (is := 247) (by simp [SR]; try rfl) dX5_requirePlace_4 dX5_requirePlace_7 dX5_requirePlace_8 dX5_requirePlace_10 dX5_requirePlace_13 (Nat.le_of_ble_eq_true rfl) (Nat.le_of_ble_eq_true rfl) (Nat.le_of_ble_eq_true rfl) (Nat.le_of_ble_eq_true rfl) (Nat.le_of_ble_eq_true rfl) (Nat.le_of_ble_eq_true rfl) (fun s1 hs1 => ⟨rfl, rfl, hs1, by simp [okN, okEnd, c_1, e_1]⟩)

set_option maxHeartbeats 800000 in
set_option maxRecDepth 100000 in
theorem c_X5_requireWhat {G : ga_} {l : Launch} {h : HP} {sz : Nat} {a b : Int32}  (hst : l.stackTraces = false)  : Mx G l yX5_requireWhat cX5_requireWhat 2 none 6 90 1 6 [.int a, .int b] h sz (poQ h sz (okN a b)) (pxQ h sz eIA (okN a b)) := by
  refine Mx.ofV [(0, .int a), (1, .int b)] hst (by decide) (Nat.le_of_ble_eq_true rfl) rfl ?_
  intro p e s m args below meth c C Z
  refine r_iload_n C dX5_requireWhat_0 rfl rfl ?_
  refine r_if_lt C 9 dX5_requireWhat_1 (by decide) (fun c_1 => ?_) (fun c_1 => ?_)
  · have e_1 := i32_nle c_1
    exact r_throw C Z lt_IA (is := 249) (by simp [SR]; try rfl) dX5_requireWhat_9 dX5_requireWhat_12 dX5_requireWhat_13 dX5_requireWhat_15 dX5_requireWhat_18 (Nat.le_of_ble_eq_true rfl) (Nat.le_of_ble_eq_true rfl) (Nat.le_of_ble_eq_true rfl) (Nat.le_of_ble_eq_true rfl) (Nat.le_of_ble_eq_true rfl) (Nat.le_of_ble_eq_true rfl) (fun s1 hs1 => ⟨rfl, rfl, hs1, by simp [okN, okEnd, c_1, e_1]⟩)
  · have e_1 := i32_le c_1
    refine r_iload_n C dX5_requireWhat_4 rfl rfl ?_
    refine r_iload_n C dX5_requireWhat_5 rfl rfl ?_
    refine r_icmp_lt C 19 dX5_requireWhat_6 (by decide) (fun c_6 => ?_) (fun c_6 => ?_)
    · have e_6 := i32_nle c_6
      exact V.retx (r_vret C rfl (Nat.le_of_ble_eq_true rfl) (Nat.le_of_ble_eq_true rfl) ⟨rfl, rfl, rfl, by simp [okN, okEnd, c_1, e_1, c_6, e_6]⟩ dX5_requireWhat_19)
    · have e_6 := i32_le c_6
      exact r_throw C Z lt_IA (is := 249) (by simp [SR]; try rfl) dX5_requireWhat_9 dX5_requireWhat_12 dX5_requireWhat_13 dX5_requireWhat_15 dX5_requireWhat_18 (Nat.le_of_ble_eq_true rfl) (Nat.le_of_ble_eq_true rfl) (Nat.le_of_ble_eq_true rfl) (Nat.le_of_ble_eq_true rfl) (Nat.le_of_ble_eq_true rfl) (Nat.le_of_ble_eq_true rfl) (fun s1 hs1 => ⟨rfl, rfl, hs1, by simp [okN, okEnd, c_1, e_1, c_6, e_6]⟩)

set_option maxHeartbeats 800000 in
set_option maxRecDepth 100000 in
theorem c_X5_requireGrade {G : ga_} {l : Launch} {h : HP} {sz : Nat} {a : Int32}  (hst : l.stackTraces = false)  : Mx G l yX5_requireGrade cX5_requireGrade 1 none 6 90 1 6 [.int a] h sz (poQ h sz (okN a 7)) (pxQ h sz eIA (okN a 7)) := by
  refine Mx.ofV [(0, .int a)] hst (by decide) (Nat.le_of_ble_eq_true rfl) rfl ?_
  intro p e s m args below meth c C Z
  refine r_iload_n C dX5_requireGrade_0 rfl rfl ?_
  refine r_if_lt C 10 dX5_requireGrade_1 (by decide) (fun c_1 => ?_) (fun c_1 => ?_)
  · have e_1 := i32_nle c_1
    exact r_throw C Z lt_IA (is := 251) (by simp [SR]; try rfl) dX5_requireGrade_10 dX5_requireGrade_13 dX5_requireGrade_14 dX5_requireGrade_16 dX5_requireGrade_19 (Nat.le_of_ble_eq_true rfl) (Nat.le_of_ble_eq_true rfl) (Nat.le_of_ble_eq_true rfl) (Nat.le_of_ble_eq_true rfl) (Nat.le_of_ble_eq_true rfl) (Nat.le_of_ble_eq_true rfl) (fun s1 hs1 => ⟨rfl, rfl, hs1, by simp [okN, okEnd, c_1, e_1]⟩)
  · have e_1 := i32_le c_1
    refine r_iload_n C dX5_requireGrade_4 rfl rfl ?_
    refine r_bipush C (v := 7) dX5_requireGrade_5 rfl ?_
    refine r_icmp_lt C 20 dX5_requireGrade_7 (by decide) (fun c_7 => ?_) (fun c_7 => ?_)
    · have e_7 := i32_nle c_7
      exact V.retx (r_vret C rfl (Nat.le_of_ble_eq_true rfl) (Nat.le_of_ble_eq_true rfl) ⟨rfl, rfl, rfl, by simp [okN, okEnd, c_1, e_1, c_7, e_7]⟩ dX5_requireGrade_20)
    · have e_7 := i32_le c_7
      exact r_throw C Z lt_IA (is := 251) (by simp [SR]; try rfl) dX5_requireGrade_10 dX5_requireGrade_13 dX5_requireGrade_14 dX5_requireGrade_16 dX5_requireGrade_19 (Nat.le_of_ble_eq_true rfl) (Nat.le_of_ble_eq_true rfl) (Nat.le_of_ble_eq_true rfl) (Nat.le_of_ble_eq_true rfl) (Nat.le_of_ble_eq_true rfl) (Nat.le_of_ble_eq_true rfl) (fun s1 hs1 => ⟨rfl, rfl, hs1, by simp [okN, okEnd, c_1, e_1, c_7, e_7]⟩)

set_option maxHeartbeats 800000 in
set_option maxRecDepth 100000 in
theorem c_X5_requirePlayer {G : ga_} {l : Launch} {h : HP} {sz : Nat} {a : Int32} {x : Nat} {S : gS} (hst : l.stackTraces = false) (wx : h x = some (ob_ 5 [.ref (x + 1), .ref (x + 12), .ref (x + 14), .ref (x + 18), .ref (x + 20), .ref (x + 22)])) (w : GA G h (x + 1) S) : Mx G l yX5_requirePlayer cX5_requirePlayer 2 none 6 90 1 6 [.ref x, .int a] h sz (poQ h sz (g_has S a)) (pxQ h sz eIO (g_has S a)) := by
  refine Mx.ofV [(0, .ref x), (1, .int a)] hst (by decide) (Nat.le_of_ble_eq_true rfl) rfl ?_
  intro p e s m args below meth c C Z
  refine r_aload_n C dX5_requirePlayer_0 rfl rfl ?_
  refine r_get C (j := 0) rfl in_X5 (wx) (by decide) fl_X5_10 rfl rfl dX5_requirePlayer_1 ?_
  refine r_iload_n C dX5_requirePlayer_4 rfl rfl ?_
  refine r_cVi C (c_X0_hasPlayer w) lk_X5_241 rfl (GA_o w) rfl rfl ⟨(Nat.le_of_ble_eq_true rfl), (Nat.le_of_ble_eq_true rfl), (Nat.le_of_ble_eq_true rfl), (Nat.le_of_ble_eq_true rfl), (Nat.le_of_ble_eq_true rfl)⟩ dX5_requirePlayer_5 ?_
  refine r_if_ne C 21 dX5_requirePlayer_8 (by decide) (fun c_8 => ?_) (fun c_8 => ?_)
  · have c_8 := bI_t c_8
    exact V.retx (r_vret C rfl (Nat.le_of_ble_eq_true rfl) (Nat.le_of_ble_eq_true rfl) ⟨rfl, rfl, rfl, by exact c_8⟩ dX5_requirePlayer_21)
  · have c_8 := bI_f c_8
    exact r_throw C Z lt_IO (is := 245) (by simp [SR]; try rfl) dX5_requirePlayer_11 dX5_requirePlayer_14 dX5_requirePlayer_15 dX5_requirePlayer_17 dX5_requirePlayer_20 (Nat.le_of_ble_eq_true rfl) (Nat.le_of_ble_eq_true rfl) (Nat.le_of_ble_eq_true rfl) (Nat.le_of_ble_eq_true rfl) (Nat.le_of_ble_eq_true rfl) (Nat.le_of_ble_eq_true rfl) (fun s1 hs1 => ⟨rfl, rfl, hs1, by exact c_8⟩)

