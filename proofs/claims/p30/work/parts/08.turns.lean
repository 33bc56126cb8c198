/-! GAME: what changes a game -/
def g_rustH (S : gS) (t : Int32) : Int32 := if tAt 7 196 (S 0) t 0 < tAt 7 196 (S 0) t 1 then 1 else 0
def g_rust (S : gS) (t p : Int32) : gS := if tAt 7 196 (S 0) t (g_rustH S t) ≤ 0 then S else gI (gI (gI S 0 t (g_rustH S t) (-1)) 0 t 6 1) 2 p 1 1
def g_age1 (S : gS) (t p : Int32) : gS := if 0 < (gI S 0 t 4 1) 5 7 ∧ tAt 7 196 ((gI S 0 t 4 1) 0) t 4 - tAt 7 196 ((gI S 0 t 4 1) 0) t 4 / (gI S 0 t 4 1) 5 7 * (gI S 0 t 4 1) 5 7 = 0 then g_rust (gI S 0 t 4 1) t p else gI S 0 t 4 1
def g_age (S : gS) (p : Int32) : Nat → gS
  | 0 => S
  | i + 1 => g_age1 (g_age S p i) (g_hand (g_age S p i) p (nI i)) p
def g_ages (S : gS) (p : Int32) : gS := g_age S p (g_held S p).toNatClampNeg
def g_end0 (S : gS) : gS := gc S 3 (S 5 3 + 1)
def g_ended (S : gS) : Bool := decide (g_held S (S 5 1) = 0) || !decide (S 5 4 < S 5 0)
def g_next (S : gS) : Int32 := if S 5 1 + 1 < S 5 0 then S 5 1 + 1 else 0
def g_end (S : gS) : gS := if g_ended (g_end0 S) then gc (g_ages (g_end0 S) ((g_end0 S) 5 1)) 1 (-1) else gc (g_ages (g_end0 S) ((g_end0 S) 5 1)) 1 (g_next (g_ages (g_end0 S) ((g_end0 S) 5 1)))
def g_endA (S : gS) : Int32 := if g_ended (g_end0 S) then 11 else 10
def g_takeT (S : gS) (p : Int32) : Int32 := tAt 28 28 (S 4) 0 (S 5 2)
def g_take3 (S : gS) (p : Int32) : gS := gP (gP (gc S 2 (S 5 2 + 1)) 0 (g_takeT S p) 2 1) 0 (g_takeT S p) 3 p
def g_take (S : gS) (p : Int32) : gS := gI (gP (g_take3 S p) 1 p (g_held (g_take3 S p) p) (g_takeT S p)) 2 p 0 1
def g_th (S : gS) (p : Int32) (q : Nat) : Nat → gS
  | 0 => S
  | i + 1 => gP (g_th S p q i) 1 p (nI (q + i)) (tAt 28 112 ((g_th S p q i) 1) p (nI (q + i) + 1))
def g_from (S : gS) (p : Int32) (q : Nat) : gS := gI (g_th S p q ((g_held S p - 1).toNatClampNeg - q)) 2 p 0 (-1)
def g_putE (S : gS) (t r e : Int32) : gS := gP (gI (if tAt 4 12 (S 3) r 0 = 0 then gP (gP S 3 r 1 (tAt 7 196 (S 0) t 0)) 3 r 2 (tAt 7 196 (S 0) t 1) else gP S 3 r (1 + e) (if tAt 7 196 (S 0) t 0 = tAt 4 12 (S 3) r (1 + e) then tAt 7 196 (S 0) t 1 else tAt 7 196 (S 0) t 0)) 3 r 0 1) 3 r 3 t
def g_oil (S : gS) (a : Int32) : gS := if g_over S then S else gP S 0 (g_hand S (S 5 1) a) 4 0
def g_oilA (S : gS) (a : Int32) : Int32 := if g_over S then -1 else tAt 7 196 (S 0) (g_hand S (S 5 1) a) 4
def g_ref (S : gS) : gS := gc S 5 (S 5 5 + 1)
def g_draw0 (S : gS) : gS := gc S 4 0
def g_draw1 (S : gS) : gS := g_take (g_draw0 S) ((g_draw0 S) 5 1)
def g_draw2 (S : gS) : gS := gI (g_draw1 S) 2 ((g_draw1 S) 5 1) 3 1
def g_draw (S : gS) : gS := if g_over S || decide (g_stock S = 0) then g_ref S else g_end (g_draw2 S)
def g_drawA (S : gS) : Int32 := if g_over S || decide (g_stock S = 0) then 100 + (if g_over (g_ref S) then 1 else 4) else g_takeT (g_draw0 S) ((g_draw0 S) 5 1)
def g_pass (S : gS) : gS := if g_over S || decide (0 < g_stock S) then g_ref S else g_end (gc S 4 (S 5 4 + 1))
def g_passA (S : gS) : Int32 := if g_over S || decide (0 < g_stock S) then (if g_over (g_ref S) then 1 else 5) else g_endA (gc S 4 (S 5 4 + 1))
def g_lay1 (S : gS) (a : Int32) : gS := g_from (gc S 4 0) ((gc S 4 0) 5 1) a.toNatClampNeg
def g_layT (S : gS) (a : Int32) : Int32 := tAt 28 112 ((gc S 4 0) 1) ((gc S 4 0) 5 1) a
def g_lay2 (S : gS) (a r : Int32) : gS := gP (gP (g_lay1 S a) 0 (g_layT S a) 2 2) 0 (g_layT S a) 5 r
def g_lay3 (S : gS) (a r e : Int32) : gS := g_putE (gI (g_lay2 S a r) 2 ((g_lay2 S a r) 5 1) 2 1) (g_layT S a) r e
def g_lay (S : gS) (a r e : Int32) : gS := if g_reason S a r e = 0 then g_end (g_lay3 S a r e) else g_ref S
def g_layA (S : gS) (a r e : Int32) : Int32 := if g_reason S a r e = 0 then g_endA (g_lay3 S a r e) else g_reason S a r e
theorem reason_0 {S : gS} {a r e : Int32} (h : g_reason S a r e = 0) : a = nI a.toNatClampNeg := by
  have hh : g_holds S (S 5 1) a = true := by
    by_cases c : g_holds S (S 5 1) a = true
    · exact c
    · simp only [g_reason, c] at h
      split at h <;> simp at h
  simp only [g_holds, Bool.and_eq_true, Bool.not_eq_true', decide_eq_false_iff_not, decide_eq_true_eq] at hh
  rcases pk_ix a (n := a.toNatClampNeg + 1) (by have := tn_lt a; have := hh.1; rcases Nat.lt_or_ge (a.toNatClampNeg + 1) 2147483648 with q | q; exact q; exfalso; have h2 : a.toNatClampNeg = 2147483647 := by omega
                                                have h3 := Int32.lt_iff_toInt_lt.mp hh.2; have h4 := fb_rng_ (g_held S (S 5 1)); have h5 : a.toInt.toNat = 2147483647 := h2; omega) with q | q | ⟨j, hj, q⟩
  · exact absurd q hh.1
  · exfalso
    have := Int32.le_iff_toInt_le.mp q
    have h3 := tn_lt a
    rw [nI_toInt (by have h3 := Int32.lt_iff_toInt_lt.mp hh.2; have h4 := fb_rng_ (g_held S (S 5 1)); have h5 : a.toNatClampNeg = a.toInt.toNat := rfl; omega)] at this
    have h5 : a.toNatClampNeg = a.toInt.toNat := rfl
    omega
  · rw [q, nI_clamp (by have := tn_lt a; omega)]
set_option maxHeartbeats 800000 in
set_option maxRecDepth 100000 in
theorem c_X0_rust {G : ga_} {l : Launch} {h : HP} {sz : Nat} {g : Nat} {S : gS} {a b : Int32}  (w : GA G h g S)  : Mf G l yX0_rust cX0_rust 4 none 1 24 0 0 [.ref g, .int a, .int b] h sz none (pG G h g (g_rust S a b)) sz := by
  refine Mg.ofV [(0, .ref g), (1, .int a), (2, .int b)] (by decide) (Nat.le_of_ble_eq_true rfl) rfl ?_
  intro p e s m args below meth c C
  refine r_aload_n C dX0_rust_0 rfl rfl ?_
  refine r_get C (j := 0) rfl in_X0 (GA_o w) (by decide) fl_X0_14 rfl rfl dX0_rust_1 ?_
  refine r_iload_n C dX0_rust_4 rfl rfl ?_
  refine r_iconst C (v := 0) dX0_rust_5 rfl ?_
  refine r_cVi C (c_at0 w) lk_X0_84 rfl (GA_t0 w) rfl rfl ⟨(Nat.le_of_ble_eq_true rfl), (Nat.le_of_ble_eq_true rfl), (Nat.le_of_ble_eq_true rfl), (Nat.le_of_ble_eq_true rfl), (Nat.le_of_ble_eq_true rfl)⟩ dX0_rust_6 ?_
  refine r_aload_n C dX0_rust_9 rfl rfl ?_
  refine r_get C (j := 0) rfl in_X0 (GA_o w) (by decide) fl_X0_14 rfl rfl dX0_rust_10 ?_
  refine r_iload_n C dX0_rust_13 rfl rfl ?_
  refine r_iconst C (v := 1) dX0_rust_14 rfl ?_
  refine r_cVi C (c_at0 w) lk_X0_84 rfl (GA_t0 w) rfl rfl ⟨(Nat.le_of_ble_eq_true rfl), (Nat.le_of_ble_eq_true rfl), (Nat.le_of_ble_eq_true rfl), (Nat.le_of_ble_eq_true rfl), (Nat.le_of_ble_eq_true rfl)⟩ dX0_rust_15 ?_
  refine r_icmp_lt C 25 dX0_rust_18 (by decide) (fun c_18 => ?_) (fun c_18 => ?_)
  · have e_18 := i32_nle c_18
    refine r_iconst C (v := 1) dX0_rust_25 rfl ?_
    refine r_istore_n C dX0_rust_26 rfl (by decide) ?_
    refine r_aload_n C dX0_rust_27 rfl rfl ?_
    refine r_get C (j := 0) rfl in_X0 (GA_o w) (by decide) fl_X0_14 rfl rfl dX0_rust_28 ?_
    refine r_iload_n C dX0_rust_31 rfl rfl ?_
    refine r_iload_n C dX0_rust_32 rfl rfl ?_
    refine r_cVi C (c_at0 w) lk_X0_84 rfl (GA_t0 w) rfl rfl ⟨(Nat.le_of_ble_eq_true rfl), (Nat.le_of_ble_eq_true rfl), (Nat.le_of_ble_eq_true rfl), (Nat.le_of_ble_eq_true rfl), (Nat.le_of_ble_eq_true rfl)⟩ dX0_rust_33 ?_
    refine r_if_le C 70 dX0_rust_36 (by decide) (fun c_36 => ?_) (fun c_36 => ?_)
    · have e_36 := i32_nlt c_36
      exact r_vret C rfl (Nat.le_of_ble_eq_true rfl) (Nat.le_of_ble_eq_true rfl) ⟨rfl, by rw [show (g_rust S a b) = S by simp [g_rust, g_rustH, c_18, e_18, c_36, e_36]]; exact (pG_id w).symm, rfl⟩ dX0_rust_70
    · have e_36 := i32_lt c_36
      refine r_aload_n C dX0_rust_39 rfl rfl ?_
      refine r_get C (j := 0) rfl in_X0 (GA_o w) (by decide) fl_X0_14 rfl rfl dX0_rust_40 ?_
      refine r_iload_n C dX0_rust_43 rfl rfl ?_
      refine r_iload_n C dX0_rust_44 rfl rfl ?_
      refine r_iconst C (v := -1) dX0_rust_45 rfl ?_
      refine r_cVv C (c_increase0 w) lk_X0_95 rfl (GA_t0 w) rfl rfl ⟨(Nat.le_of_ble_eq_true rfl), (Nat.le_of_ble_eq_true rfl), (Nat.le_of_ble_eq_true rfl), (Nat.le_of_ble_eq_true rfl), (Nat.le_of_ble_eq_true rfl)⟩ dX0_rust_46 ?_
      refine r_aload_n C dX0_rust_49 rfl rfl ?_
      refine r_get C (j := 0) rfl in_X0 (GA_o GA_pG) (by decide) fl_X0_14 rfl rfl dX0_rust_50 ?_
      refine r_iload_n C dX0_rust_53 rfl rfl ?_
      refine r_bipush C (v := 6) dX0_rust_54 rfl ?_
      refine r_iconst C (v := 1) dX0_rust_56 rfl ?_
      refine r_cVv C (c_increase0 GA_pG) lk_X0_95 rfl (GA_t0 GA_pG) rfl rfl ⟨(Nat.le_of_ble_eq_true rfl), (Nat.le_of_ble_eq_true rfl), (Nat.le_of_ble_eq_true rfl), (Nat.le_of_ble_eq_true rfl), (Nat.le_of_ble_eq_true rfl)⟩ dX0_rust_57 ?_
      refine r_aload_n C dX0_rust_60 rfl rfl ?_
      refine r_get C (j := 2) rfl in_X0 (GA_o GA_pG) (by decide) fl_X0_23 rfl rfl dX0_rust_61 ?_
      refine r_iload_n C dX0_rust_64 rfl rfl ?_
      refine r_iconst C (v := 1) dX0_rust_65 rfl ?_
      refine r_iconst C (v := 1) dX0_rust_66 rfl ?_
      refine r_cVv C (c_increase2 GA_pG) lk_X0_95 rfl (GA_t2 GA_pG) rfl rfl ⟨(Nat.le_of_ble_eq_true rfl), (Nat.le_of_ble_eq_true rfl), (Nat.le_of_ble_eq_true rfl), (Nat.le_of_ble_eq_true rfl), (Nat.le_of_ble_eq_true rfl)⟩ dX0_rust_67 ?_
      exact r_vret C rfl (Nat.le_of_ble_eq_true rfl) (Nat.le_of_ble_eq_true rfl) ⟨rfl, by (try simp only [pG_pG]); exact congrArg (pG G h g) (by simp [g_rust, g_rustH, c_18, e_18, c_36, e_36]), rfl⟩ dX0_rust_70
  · have e_18 := i32_le c_18
    refine r_iconst C (v := 0) dX0_rust_21 rfl ?_
    refine r_goto C 26 dX0_rust_22 (by decide) ?_
    refine r_istore_n C dX0_rust_26 rfl (by decide) ?_
    refine r_aload_n C dX0_rust_27 rfl rfl ?_
    refine r_get C (j := 0) rfl in_X0 (GA_o w) (by decide) fl_X0_14 rfl rfl dX0_rust_28 ?_
    refine r_iload_n C dX0_rust_31 rfl rfl ?_
    refine r_iload_n C dX0_rust_32 rfl rfl ?_
    refine r_cVi C (c_at0 w) lk_X0_84 rfl (GA_t0 w) rfl rfl ⟨(Nat.le_of_ble_eq_true rfl), (Nat.le_of_ble_eq_true rfl), (Nat.le_of_ble_eq_true rfl), (Nat.le_of_ble_eq_true rfl), (Nat.le_of_ble_eq_true rfl)⟩ dX0_rust_33 ?_
    refine r_if_le C 70 dX0_rust_36 (by decide) (fun c_36 => ?_) (fun c_36 => ?_)
    · have e_36 := i32_nlt c_36
      exact r_vret C rfl (Nat.le_of_ble_eq_true rfl) (Nat.le_of_ble_eq_true rfl) ⟨rfl, by rw [show (g_rust S a b) = S by simp [g_rust, g_rustH, c_18, e_18, c_36, e_36]]; exact (pG_id w).symm, rfl⟩ dX0_rust_70
    · have e_36 := i32_lt c_36
      refine r_aload_n C dX0_rust_39 rfl rfl ?_
      refine r_get C (j := 0) rfl in_X0 (GA_o w) (by decide) fl_X0_14 rfl rfl dX0_rust_40 ?_
      refine r_iload_n C dX0_rust_43 rfl rfl ?_
      refine r_iload_n C dX0_rust_44 rfl rfl ?_
      refine r_iconst C (v := -1) dX0_rust_45 rfl ?_
      refine r_cVv C (c_increase0 w) lk_X0_95 rfl (GA_t0 w) rfl rfl ⟨(Nat.le_of_ble_eq_true rfl), (Nat.le_of_ble_eq_true rfl), (Nat.le_of_ble_eq_true rfl), (Nat.le_of_ble_eq_true rfl), (Nat.le_of_ble_eq_true rfl)⟩ dX0_rust_46 ?_
      refine r_aload_n C dX0_rust_49 rfl rfl ?_
      refine r_get C (j := 0) rfl in_X0 (GA_o GA_pG) (by decide) fl_X0_14 rfl rfl dX0_rust_50 ?_
      refine r_iload_n C dX0_rust_53 rfl rfl ?_
      refine r_bipush C (v := 6) dX0_rust_54 rfl ?_
      refine r_iconst C (v := 1) dX0_rust_56 rfl ?_
      refine r_cVv C (c_increase0 GA_pG) lk_X0_95 rfl (GA_t0 GA_pG) rfl rfl ⟨(Nat.le_of_ble_eq_true rfl), (Nat.le_of_ble_eq_true rfl), (Nat.le_of_ble_eq_true rfl), (Nat.le_of_ble_eq_true rfl), (Nat.le_of_ble_eq_true rfl)⟩ dX0_rust_57 ?_
      refine r_aload_n C dX0_rust_60 rfl rfl ?_
      refine r_get C (j := 2) rfl in_X0 (GA_o GA_pG) (by decide) fl_X0_23 rfl rfl dX0_rust_61 ?_
      refine r_iload_n C dX0_rust_64 rfl rfl ?_
      refine r_iconst C (v := 1) dX0_rust_65 rfl ?_
      refine r_iconst C (v := 1) dX0_rust_66 rfl ?_
      refine r_cVv C (c_increase2 GA_pG) lk_X0_95 rfl (GA_t2 GA_pG) rfl rfl ⟨(Nat.le_of_ble_eq_true rfl), (Nat.le_of_ble_eq_true rfl), (Nat.le_of_ble_eq_true rfl), (Nat.le_of_ble_eq_true rfl), (Nat.le_of_ble_eq_true rfl)⟩ dX0_rust_67 ?_
      exact r_vret C rfl (Nat.le_of_ble_eq_true rfl) (Nat.le_of_ble_eq_true rfl) ⟨rfl, by (try simp only [pG_pG]); exact congrArg (pG G h g) (by simp [g_rust, g_rustH, c_18, e_18, c_36, e_36]), rfl⟩ dX0_rust_70

set_option maxHeartbeats 800000 in
set_option maxRecDepth 100000 in
theorem c_X0_ageHand {G : ga_} {l : Launch} {h : HP} {sz : Nat} {g : Nat} {S : gS} {a : Int32}  (w : GA G h g S)  : Mf G l yX0_ageHand cX0_ageHand 5 none 2 47 0 0 [.ref g, .int a] h sz none (pG G h g (g_ages S a)) sz := by
  refine Mg.ofV [(0, .ref g), (1, .int a)] (by decide) (Nat.le_of_ble_eq_true rfl) rfl ?_
  intro p e s m args below meth c C
  refine r_aload_n C dX0_ageHand_0 rfl rfl ?_
  refine r_iload_n C dX0_ageHand_1 rfl rfl ?_
  refine r_cVi C (c_X0_heldBy w) lk_X0_92 rfl (GA_o w) rfl rfl ⟨(Nat.le_of_ble_eq_true rfl), (Nat.le_of_ble_eq_true rfl), (Nat.le_of_ble_eq_true rfl), (Nat.le_of_ble_eq_true rfl), (Nat.le_of_ble_eq_true rfl)⟩ dX0_ageHand_2 ?_
  refine r_istore_n C dX0_ageHand_5 rfl (by decide) ?_
  refine r_iconst C (v := 0) dX0_ageHand_6 rfl ?_
  refine r_istore_n C dX0_ageHand_7 rfl (by decide) ?_
  refine V.heap (pG_id w).symm ?_
  refine V.sub [(0, .ref g), (1, .int a), (2, .int (g_held S a)), (3, .int (nI 0))] ⟨rfl, rfl, rfl, rfl, trivial⟩ ?_
  refine down_ (P := fun i => V p l e ⟨2, 0, 0, 47⟩ s m args below meth c G 5 (Qg G below args s 0 0 (fun v1 h1 s1 => v1 = none ∧ h1 = (pG G h g (g_ages S a)) ∧ s1 = sz)) (pG G h g (g_age S a i)) sz 0 0 8 [(0, .ref g), (1, .int a), (2, .int (g_held S a)), (3, .int (nI i))] []) ((g_held S a).toNatClampNeg) ?_ ?_
  · refine r_iload_n C dX0_ageHand_8 rfl rfl ?_
    refine r_iload_n C dX0_ageHand_9 rfl rfl ?_
    refine r_icmp_ge C 73 dX0_ageHand_10 (by decide) (fun _ => ?_) (fun c => absurd (tn_le _) c)
    exact r_vret C rfl (Nat.le_of_ble_eq_true rfl) (Nat.le_of_ble_eq_true rfl) ⟨rfl, rfl, rfl⟩ dX0_ageHand_73
  · intro i h_i ih_i
    refine r_iload_n C dX0_ageHand_8 rfl rfl ?_
    refine r_iload_n C dX0_ageHand_9 rfl rfl ?_
    refine r_icmp_ge C 73 dX0_ageHand_10 (by decide) (fun c => absurd c (tn_nle h_i)) (fun _ => ?_)
    refine r_aload_n C dX0_ageHand_13 rfl rfl ?_
    refine r_get C (j := 1) rfl in_X0 (GA_o GA_pG) (by decide) fl_X0_20 rfl rfl dX0_ageHand_14 ?_
    refine r_iload_n C dX0_ageHand_17 rfl rfl ?_
    refine r_iload_n C dX0_ageHand_18 rfl rfl ?_
    refine r_cVi C (c_at1 GA_pG) lk_X0_84 rfl (GA_t1 GA_pG) rfl rfl ⟨(Nat.le_of_ble_eq_true rfl), (Nat.le_of_ble_eq_true rfl), (Nat.le_of_ble_eq_true rfl), (Nat.le_of_ble_eq_true rfl), (Nat.le_of_ble_eq_true rfl)⟩ dX0_ageHand_19 ?_
    refine r_istore C dX0_ageHand_22 (by decide) ?_
    refine r_aload_n C dX0_ageHand_24 rfl rfl ?_
    refine r_get C (j := 0) rfl in_X0 (GA_o GA_pG) (by decide) fl_X0_14 rfl rfl dX0_ageHand_25 ?_
    refine r_iload C dX0_ageHand_28 rfl ?_
    refine r_iconst C (v := 4) dX0_ageHand_30 rfl ?_
    refine r_iconst C (v := 1) dX0_ageHand_31 rfl ?_
    refine r_cVv C (c_increase0 GA_pG) lk_X0_95 rfl (GA_t0 GA_pG) rfl rfl ⟨(Nat.le_of_ble_eq_true rfl), (Nat.le_of_ble_eq_true rfl), (Nat.le_of_ble_eq_true rfl), (Nat.le_of_ble_eq_true rfl), (Nat.le_of_ble_eq_true rfl)⟩ dX0_ageHand_32 ?_
    refine r_aload_n C dX0_ageHand_35 rfl rfl ?_
    refine r_get C (j := 12) rfl in_X0 (GA_o GA_pG) (by decide) fl_X0_32 rfl rfl dX0_ageHand_36 ?_
    refine r_if_le C 67 dX0_ageHand_39 (by decide) (fun c_39 => ?_) (fun c_39 => ?_)
    · have e_39 := i32_nlt c_39
      refine r_iinc C (v := 1) dX0_ageHand_67 rfl rfl (by decide) ?_
      refine r_goto C 8 dX0_ageHand_70 (by decide) ?_
      refine V.heap (h2 := (pG G h g (g_age S a (i + 1)))) (by simp only [pG_pG]; exact congrArg (pG G h g) (by simp only [g_age]; simp [g_age1, g_hand, c_39, e_39])) ?_
      refine V.sub [(0, .ref g), (1, .int a), (2, .int (g_held S a)), (3, .int (nI (i + 1)))] ⟨rfl, rfl, rfl, (by rw [← nI_1 i]; rfl), trivial⟩ ?_
      exact ih_i
    · have e_39 := i32_lt c_39
      refine r_aload_n C dX0_ageHand_42 rfl rfl ?_
      refine r_get C (j := 0) rfl in_X0 (GA_o GA_pG) (by decide) fl_X0_14 rfl rfl dX0_ageHand_43 ?_
      refine r_iload C dX0_ageHand_46 rfl ?_
      refine r_iconst C (v := 4) dX0_ageHand_48 rfl ?_
      refine r_cVi C (c_at0 GA_pG) lk_X0_84 rfl (GA_t0 GA_pG) rfl rfl ⟨(Nat.le_of_ble_eq_true rfl), (Nat.le_of_ble_eq_true rfl), (Nat.le_of_ble_eq_true rfl), (Nat.le_of_ble_eq_true rfl), (Nat.le_of_ble_eq_true rfl)⟩ dX0_ageHand_49 ?_
      refine r_aload_n C dX0_ageHand_52 rfl rfl ?_
      refine r_get C (j := 12) rfl in_X0 (GA_o GA_pG) (by decide) fl_X0_32 rfl rfl dX0_ageHand_53 ?_
      refine r_irem C dX0_ageHand_56 (fun q => by rw [q] at c_39; exact absurd c_39 (by decide)) ?_
      refine r_if_ne C 67 dX0_ageHand_57 (by decide) (fun c_57 => ?_) (fun c_57 => ?_)
      · refine r_iinc C (v := 1) dX0_ageHand_67 rfl rfl (by decide) ?_
        refine r_goto C 8 dX0_ageHand_70 (by decide) ?_
        refine V.heap (h2 := (pG G h g (g_age S a (i + 1)))) (by simp only [pG_pG]; exact congrArg (pG G h g) (by simp only [g_age]; simp [g_age1, g_hand, c_39, e_39, c_57])) ?_
        refine V.sub [(0, .ref g), (1, .int a), (2, .int (g_held S a)), (3, .int (nI (i + 1)))] ⟨rfl, rfl, rfl, (by rw [← nI_1 i]; rfl), trivial⟩ ?_
        exact ih_i
      · refine r_aload_n C dX0_ageHand_60 rfl rfl ?_
        refine r_iload C dX0_ageHand_61 rfl ?_
        refine r_iload_n C dX0_ageHand_63 rfl rfl ?_
        refine r_cVv C (c_X0_rust GA_pG) lk_X0_130 rfl (GA_o GA_pG) rfl rfl ⟨(Nat.le_of_ble_eq_true rfl), (Nat.le_of_ble_eq_true rfl), (Nat.le_of_ble_eq_true rfl), (Nat.le_of_ble_eq_true rfl), (Nat.le_of_ble_eq_true rfl)⟩ dX0_ageHand_64 ?_
        refine r_iinc C (v := 1) dX0_ageHand_67 rfl rfl (by decide) ?_
        refine r_goto C 8 dX0_ageHand_70 (by decide) ?_
        refine V.heap (h2 := (pG G h g (g_age S a (i + 1)))) (by simp only [pG_pG]; exact congrArg (pG G h g) (by simp only [g_age]; simp [g_age1, g_hand, c_39, e_39, c_57])) ?_
        refine V.sub [(0, .ref g), (1, .int a), (2, .int (g_held S a)), (3, .int (nI (i + 1)))] ⟨rfl, rfl, rfl, (by rw [← nI_1 i]; rfl), trivial⟩ ?_
        exact ih_i

set_option maxHeartbeats 800000 in
set_option maxRecDepth 100000 in
theorem c_X0_endTurn {G : ga_} {l : Launch} {h : HP} {sz : Nat} {g : Nat} {S : gS}  (w : GA G h g S)  : Mf G l yX0_endTurn cX0_endTurn 2 (some .int) 3 71 0 0 [.ref g] h sz (some (.int (g_endA S))) (pG G h g (g_end S)) sz := by
  refine Mg.ofV [(0, .ref g)] (by decide) (Nat.le_of_ble_eq_true rfl) rfl ?_
  intro p e s m args below meth c C
  refine r_aload_n C dX0_endTurn_0 rfl rfl ?_
  refine r_dup C dX0_endTurn_1 rfl ?_
  refine r_get C (j := 8) rfl in_X0 (GA_o w) (by decide) fl_X0_49 rfl rfl dX0_endTurn_2 ?_
  refine r_iconst C (v := 1) dX0_endTurn_5 rfl ?_
  refine r_iadd C dX0_endTurn_6 ?_
  refine r_put C (j := 8) tyX0 tyX0_ok nmX0 rfl in_X0 (GA_o w) (by decide) fl_X0_49 rfl rfl rfl (by first | rfl | decide) (by first | rfl | decide) (Nat.le_of_ble_eq_true rfl) dX0_endTurn_7 ?_
  refine V.heap (pG_num w 3 _ rfl) ?_
  refine r_aload_n C dX0_endTurn_10 rfl rfl ?_
  refine r_aload_n C dX0_endTurn_11 rfl rfl ?_
  refine r_get C (j := 6) rfl in_X0 (GA_o GA_pG) (by decide) fl_X0_43 rfl rfl dX0_endTurn_12 ?_
  refine r_cVi C (c_X0_heldBy GA_pG) lk_X0_92 rfl (GA_o GA_pG) rfl rfl ⟨(Nat.le_of_ble_eq_true rfl), (Nat.le_of_ble_eq_true rfl), (Nat.le_of_ble_eq_true rfl), (Nat.le_of_ble_eq_true rfl), (Nat.le_of_ble_eq_true rfl)⟩ dX0_endTurn_15 ?_
  refine r_if_eq C 32 dX0_endTurn_18 (by decide) (fun c_18 => ?_) (fun c_18 => ?_)
  · refine r_iconst C (v := 1) dX0_endTurn_32 rfl ?_
    refine r_goto C 37 dX0_endTurn_33 (by decide) ?_
    refine r_istore_n C dX0_endTurn_37 rfl (by decide) ?_
    refine r_aload_n C dX0_endTurn_38 rfl rfl ?_
    refine r_aload_n C dX0_endTurn_39 rfl rfl ?_
    refine r_get C (j := 6) rfl in_X0 (GA_o GA_pG) (by decide) fl_X0_43 rfl rfl dX0_endTurn_40 ?_
    refine r_cVv C (c_X0_ageHand GA_pG) lk_X0_127 rfl (GA_o GA_pG) rfl rfl ⟨(Nat.le_of_ble_eq_true rfl), (Nat.le_of_ble_eq_true rfl), (Nat.le_of_ble_eq_true rfl), (Nat.le_of_ble_eq_true rfl), (Nat.le_of_ble_eq_true rfl)⟩ dX0_endTurn_43 ?_
    refine r_iload_n C dX0_endTurn_46 rfl rfl ?_
    refine r_if_eq C 58 dX0_endTurn_47 (by decide) (fun c => absurd c (by decide)) (fun _ => ?_)
    refine r_aload_n C dX0_endTurn_50 rfl rfl ?_
    refine r_iconst C (v := -1) dX0_endTurn_51 rfl ?_
    refine r_put C (j := 6) tyX0 tyX0_ok nmX0 rfl in_X0 (GA_o GA_pG) (by decide) fl_X0_43 rfl rfl rfl (by first | rfl | decide) (by first | rfl | decide) (Nat.le_of_ble_eq_true rfl) dX0_endTurn_52 ?_
    refine V.heap (pG_num GA_pG 1 _ rfl) ?_
    refine r_bipush C (v := 11) dX0_endTurn_55 rfl ?_
    exact r_iret C rfl (Nat.le_of_ble_eq_true rfl) (Nat.le_of_ble_eq_true rfl) ⟨by simp [g_end, g_endA, g_ended, g_end0, g_next, c_18], by (try simp only [pG_pG]); exact congrArg (pG G h g) (by simp [g_end, g_endA, g_ended, g_end0, g_next, c_18]), rfl⟩ dX0_endTurn_57
  · refine r_aload_n C dX0_endTurn_21 rfl rfl ?_
    refine r_get C (j := 9) rfl in_X0 (GA_o GA_pG) (by decide) fl_X0_52 rfl rfl dX0_endTurn_22 ?_
    refine r_aload_n C dX0_endTurn_25 rfl rfl ?_
    refine r_get C (j := 5) rfl in_X0 (GA_o GA_pG) (by decide) fl_X0_40 rfl rfl dX0_endTurn_26 ?_
    refine r_icmp_lt C 36 dX0_endTurn_29 (by decide) (fun c_29 => ?_) (fun c_29 => ?_)
    · have e_29 := i32_nle c_29
      refine r_iconst C (v := 0) dX0_endTurn_36 rfl ?_
      refine r_istore_n C dX0_endTurn_37 rfl (by decide) ?_
      refine r_aload_n C dX0_endTurn_38 rfl rfl ?_
      refine r_aload_n C dX0_endTurn_39 rfl rfl ?_
      refine r_get C (j := 6) rfl in_X0 (GA_o GA_pG) (by decide) fl_X0_43 rfl rfl dX0_endTurn_40 ?_
      refine r_cVv C (c_X0_ageHand GA_pG) lk_X0_127 rfl (GA_o GA_pG) rfl rfl ⟨(Nat.le_of_ble_eq_true rfl), (Nat.le_of_ble_eq_true rfl), (Nat.le_of_ble_eq_true rfl), (Nat.le_of_ble_eq_true rfl), (Nat.le_of_ble_eq_true rfl)⟩ dX0_endTurn_43 ?_
      refine r_iload_n C dX0_endTurn_46 rfl rfl ?_
      refine r_if_eq C 58 dX0_endTurn_47 (by decide) (fun _ => ?_) (fun c => absurd rfl c)
      refine r_aload_n C dX0_endTurn_58 rfl rfl ?_
      refine r_aload_n C dX0_endTurn_59 rfl rfl ?_
      refine r_get C (j := 6) rfl in_X0 (GA_o GA_pG) (by decide) fl_X0_43 rfl rfl dX0_endTurn_60 ?_
      refine r_iconst C (v := 1) dX0_endTurn_63 rfl ?_
      refine r_iadd C dX0_endTurn_64 ?_
      refine r_aload_n C dX0_endTurn_65 rfl rfl ?_
      refine r_get C (j := 5) rfl in_X0 (GA_o GA_pG) (by decide) fl_X0_40 rfl rfl dX0_endTurn_66 ?_
      refine r_icmp_ge C 81 dX0_endTurn_69 (by decide) (fun c_69 => ?_) (fun c_69 => ?_)
      · have e_69 := i32_nlt c_69
        refine r_iconst C (v := 0) dX0_endTurn_81 rfl ?_
        refine r_put C (j := 6) tyX0 tyX0_ok nmX0 rfl in_X0 (GA_o GA_pG) (by decide) fl_X0_43 rfl rfl rfl (by first | rfl | decide) (by first | rfl | decide) (Nat.le_of_ble_eq_true rfl) dX0_endTurn_82 ?_
        refine V.heap (pG_num GA_pG 1 _ rfl) ?_
        refine r_bipush C (v := 10) dX0_endTurn_85 rfl ?_
        exact r_iret C rfl (Nat.le_of_ble_eq_true rfl) (Nat.le_of_ble_eq_true rfl) ⟨by simp [g_end, g_endA, g_ended, g_end0, g_next, c_18, c_29, e_29, c_69, e_69], by (try simp only [pG_pG]); exact congrArg (pG G h g) (by simp [g_end, g_endA, g_ended, g_end0, g_next, c_18, c_29, e_29, c_69, e_69]), rfl⟩ dX0_endTurn_87
      · have e_69 := i32_lt c_69
        refine r_aload_n C dX0_endTurn_72 rfl rfl ?_
        refine r_get C (j := 6) rfl in_X0 (GA_o GA_pG) (by decide) fl_X0_43 rfl rfl dX0_endTurn_73 ?_
        refine r_iconst C (v := 1) dX0_endTurn_76 rfl ?_
        refine r_iadd C dX0_endTurn_77 ?_
        refine r_goto C 82 dX0_endTurn_78 (by decide) ?_
        refine r_put C (j := 6) tyX0 tyX0_ok nmX0 rfl in_X0 (GA_o GA_pG) (by decide) fl_X0_43 rfl rfl rfl (by first | rfl | decide) (by first | rfl | decide) (Nat.le_of_ble_eq_true rfl) dX0_endTurn_82 ?_
        refine V.heap (pG_num GA_pG 1 _ rfl) ?_
        refine r_bipush C (v := 10) dX0_endTurn_85 rfl ?_
        exact r_iret C rfl (Nat.le_of_ble_eq_true rfl) (Nat.le_of_ble_eq_true rfl) ⟨by simp [g_end, g_endA, g_ended, g_end0, g_next, c_18, c_29, e_29, c_69, e_69], by (try simp only [pG_pG]); exact congrArg (pG G h g) (by simp [g_end, g_endA, g_ended, g_end0, g_next, c_18, c_29, e_29, c_69, e_69]), rfl⟩ dX0_endTurn_87
    · have e_29 := i32_le c_29
      refine r_iconst C (v := 1) dX0_endTurn_32 rfl ?_
      refine r_goto C 37 dX0_endTurn_33 (by decide) ?_
      refine r_istore_n C dX0_endTurn_37 rfl (by decide) ?_
      refine r_aload_n C dX0_endTurn_38 rfl rfl ?_
      refine r_aload_n C dX0_endTurn_39 rfl rfl ?_
      refine r_get C (j := 6) rfl in_X0 (GA_o GA_pG) (by decide) fl_X0_43 rfl rfl dX0_endTurn_40 ?_
      refine r_cVv C (c_X0_ageHand GA_pG) lk_X0_127 rfl (GA_o GA_pG) rfl rfl ⟨(Nat.le_of_ble_eq_true rfl), (Nat.le_of_ble_eq_true rfl), (Nat.le_of_ble_eq_true rfl), (Nat.le_of_ble_eq_true rfl), (Nat.le_of_ble_eq_true rfl)⟩ dX0_endTurn_43 ?_
      refine r_iload_n C dX0_endTurn_46 rfl rfl ?_
      refine r_if_eq C 58 dX0_endTurn_47 (by decide) (fun c => absurd c (by decide)) (fun _ => ?_)
      refine r_aload_n C dX0_endTurn_50 rfl rfl ?_
      refine r_iconst C (v := -1) dX0_endTurn_51 rfl ?_
      refine r_put C (j := 6) tyX0 tyX0_ok nmX0 rfl in_X0 (GA_o GA_pG) (by decide) fl_X0_43 rfl rfl rfl (by first | rfl | decide) (by first | rfl | decide) (Nat.le_of_ble_eq_true rfl) dX0_endTurn_52 ?_
      refine V.heap (pG_num GA_pG 1 _ rfl) ?_
      refine r_bipush C (v := 11) dX0_endTurn_55 rfl ?_
      exact r_iret C rfl (Nat.le_of_ble_eq_true rfl) (Nat.le_of_ble_eq_true rfl) ⟨by simp [g_end, g_endA, g_ended, g_end0, g_next, c_18, c_29, e_29], by (try simp only [pG_pG]); exact congrArg (pG G h g) (by simp [g_end, g_endA, g_ended, g_end0, g_next, c_18, c_29, e_29]), rfl⟩ dX0_endTurn_57

set_option maxHeartbeats 800000 in
set_option maxRecDepth 100000 in
theorem c_X0_takeFromStock {G : ga_} {l : Launch} {h : HP} {sz : Nat} {g : Nat} {S : gS} {a : Int32}  (w : GA G h g S)  : Mf G l yX0_takeFromStock cX0_takeFromStock 3 (some .int) 2 44 0 0 [.ref g, .int a] h sz (some (.int (g_takeT S a))) (pG G h g (g_take S a)) sz := by
  refine Mg.ofV [(0, .ref g), (1, .int a)] (by decide) (Nat.le_of_ble_eq_true rfl) rfl ?_
  intro p e s m args below meth c C
  refine r_aload_n C dX0_takeFromStock_0 rfl rfl ?_
  refine r_get C (j := 4) rfl in_X0 (GA_o w) (by decide) fl_X0_29 rfl rfl dX0_takeFromStock_1 ?_
  refine r_iconst C (v := 0) dX0_takeFromStock_4 rfl ?_
  refine r_aload_n C dX0_takeFromStock_5 rfl rfl ?_
  refine r_get C (j := 7) rfl in_X0 (GA_o w) (by decide) fl_X0_46 rfl rfl dX0_takeFromStock_6 ?_
  refine r_cVi C (c_at4 w) lk_X0_84 rfl (GA_t4 w) rfl rfl ⟨(Nat.le_of_ble_eq_true rfl), (Nat.le_of_ble_eq_true rfl), (Nat.le_of_ble_eq_true rfl), (Nat.le_of_ble_eq_true rfl), (Nat.le_of_ble_eq_true rfl)⟩ dX0_takeFromStock_9 ?_
  refine r_istore_n C dX0_takeFromStock_12 rfl (by decide) ?_
  refine r_aload_n C dX0_takeFromStock_13 rfl rfl ?_
  refine r_dup C dX0_takeFromStock_14 rfl ?_
  refine r_get C (j := 7) rfl in_X0 (GA_o w) (by decide) fl_X0_46 rfl rfl dX0_takeFromStock_15 ?_
  refine r_iconst C (v := 1) dX0_takeFromStock_18 rfl ?_
  refine r_iadd C dX0_takeFromStock_19 ?_
  refine r_put C (j := 7) tyX0 tyX0_ok nmX0 rfl in_X0 (GA_o w) (by decide) fl_X0_46 rfl rfl rfl (by first | rfl | decide) (by first | rfl | decide) (Nat.le_of_ble_eq_true rfl) dX0_takeFromStock_20 ?_
  refine V.heap (pG_num w 2 _ rfl) ?_
  refine r_aload_n C dX0_takeFromStock_23 rfl rfl ?_
  refine r_get C (j := 0) rfl in_X0 (GA_o GA_pG) (by decide) fl_X0_14 rfl rfl dX0_takeFromStock_24 ?_
  refine r_iload_n C dX0_takeFromStock_27 rfl rfl ?_
  refine r_iconst C (v := 2) dX0_takeFromStock_28 rfl ?_
  refine r_iconst C (v := 1) dX0_takeFromStock_29 rfl ?_
  refine r_cVv C (c_put0 GA_pG) lk_X0_77 rfl (GA_t0 GA_pG) rfl rfl ⟨(Nat.le_of_ble_eq_true rfl), (Nat.le_of_ble_eq_true rfl), (Nat.le_of_ble_eq_true rfl), (Nat.le_of_ble_eq_true rfl), (Nat.le_of_ble_eq_true rfl)⟩ dX0_takeFromStock_30 ?_
  refine r_aload_n C dX0_takeFromStock_33 rfl rfl ?_
  refine r_get C (j := 0) rfl in_X0 (GA_o GA_pG) (by decide) fl_X0_14 rfl rfl dX0_takeFromStock_34 ?_
  refine r_iload_n C dX0_takeFromStock_37 rfl rfl ?_
  refine r_iconst C (v := 3) dX0_takeFromStock_38 rfl ?_
  refine r_iload_n C dX0_takeFromStock_39 rfl rfl ?_
  refine r_cVv C (c_put0 GA_pG) lk_X0_77 rfl (GA_t0 GA_pG) rfl rfl ⟨(Nat.le_of_ble_eq_true rfl), (Nat.le_of_ble_eq_true rfl), (Nat.le_of_ble_eq_true rfl), (Nat.le_of_ble_eq_true rfl), (Nat.le_of_ble_eq_true rfl)⟩ dX0_takeFromStock_40 ?_
  refine r_aload_n C dX0_takeFromStock_43 rfl rfl ?_
  refine r_get C (j := 1) rfl in_X0 (GA_o GA_pG) (by decide) fl_X0_20 rfl rfl dX0_takeFromStock_44 ?_
  refine r_iload_n C dX0_takeFromStock_47 rfl rfl ?_
  refine r_aload_n C dX0_takeFromStock_48 rfl rfl ?_
  refine r_iload_n C dX0_takeFromStock_49 rfl rfl ?_
  refine r_cVi C (c_X0_heldBy GA_pG) lk_X0_92 rfl (GA_o GA_pG) rfl rfl ⟨(Nat.le_of_ble_eq_true rfl), (Nat.le_of_ble_eq_true rfl), (Nat.le_of_ble_eq_true rfl), (Nat.le_of_ble_eq_true rfl), (Nat.le_of_ble_eq_true rfl)⟩ dX0_takeFromStock_50 ?_
  refine r_iload_n C dX0_takeFromStock_53 rfl rfl ?_
  refine r_cVv C (c_put1 GA_pG) lk_X0_77 rfl (GA_t1 GA_pG) rfl rfl ⟨(Nat.le_of_ble_eq_true rfl), (Nat.le_of_ble_eq_true rfl), (Nat.le_of_ble_eq_true rfl), (Nat.le_of_ble_eq_true rfl), (Nat.le_of_ble_eq_true rfl)⟩ dX0_takeFromStock_54 ?_
  refine r_aload_n C dX0_takeFromStock_57 rfl rfl ?_
  refine r_get C (j := 2) rfl in_X0 (GA_o GA_pG) (by decide) fl_X0_23 rfl rfl dX0_takeFromStock_58 ?_
  refine r_iload_n C dX0_takeFromStock_61 rfl rfl ?_
  refine r_iconst C (v := 0) dX0_takeFromStock_62 rfl ?_
  refine r_iconst C (v := 1) dX0_takeFromStock_63 rfl ?_
  refine r_cVv C (c_increase2 GA_pG) lk_X0_95 rfl (GA_t2 GA_pG) rfl rfl ⟨(Nat.le_of_ble_eq_true rfl), (Nat.le_of_ble_eq_true rfl), (Nat.le_of_ble_eq_true rfl), (Nat.le_of_ble_eq_true rfl), (Nat.le_of_ble_eq_true rfl)⟩ dX0_takeFromStock_64 ?_
  refine r_iload_n C dX0_takeFromStock_67 rfl rfl ?_
  exact r_iret C rfl (Nat.le_of_ble_eq_true rfl) (Nat.le_of_ble_eq_true rfl) ⟨rfl, by simp only [pG_pG]; rfl, rfl⟩ dX0_takeFromStock_68

set_option maxHeartbeats 800000 in
set_option maxRecDepth 100000 in
theorem c_X0_takeFromHand {G : ga_} {l : Launch} {h : HP} {sz : Nat} {g : Nat} {S : gS} {a b : Int32} {q : Nat} (w : GA G h g S) (hb : b = nI q) (hq : q < 2147483648) : Mf G l yX0_takeFromHand cX0_takeFromHand 6 (some .int) 2 44 0 0 [.ref g, .int a, .int b] h sz (some (.int (tAt 28 112 (S 1) a b))) (pG G h g (g_from S a q)) sz := by
  refine Mg.ofV [(0, .ref g), (1, .int a), (2, .int b)] (by decide) (Nat.le_of_ble_eq_true rfl) rfl ?_
  intro p e s m args below meth c C
  refine r_aload_n C dX0_takeFromHand_0 rfl rfl ?_
  refine r_get C (j := 1) rfl in_X0 (GA_o w) (by decide) fl_X0_20 rfl rfl dX0_takeFromHand_1 ?_
  refine r_iload_n C dX0_takeFromHand_4 rfl rfl ?_
  refine r_iload_n C dX0_takeFromHand_5 rfl rfl ?_
  refine r_cVi C (c_at1 w) lk_X0_84 rfl (GA_t1 w) rfl rfl ⟨(Nat.le_of_ble_eq_true rfl), (Nat.le_of_ble_eq_true rfl), (Nat.le_of_ble_eq_true rfl), (Nat.le_of_ble_eq_true rfl), (Nat.le_of_ble_eq_true rfl)⟩ dX0_takeFromHand_6 ?_
  refine r_istore_n C dX0_takeFromHand_9 rfl (by decide) ?_
  refine r_aload_n C dX0_takeFromHand_10 rfl rfl ?_
  refine r_iload_n C dX0_takeFromHand_11 rfl rfl ?_
  refine r_cVi C (c_X0_heldBy w) lk_X0_92 rfl (GA_o w) rfl rfl ⟨(Nat.le_of_ble_eq_true rfl), (Nat.le_of_ble_eq_true rfl), (Nat.le_of_ble_eq_true rfl), (Nat.le_of_ble_eq_true rfl), (Nat.le_of_ble_eq_true rfl)⟩ dX0_takeFromHand_12 ?_
  refine r_iconst C (v := 1) dX0_takeFromHand_15 rfl ?_
  refine r_isub C dX0_takeFromHand_16 ?_
  refine r_istore C dX0_takeFromHand_17 (by decide) ?_
  refine r_iload_n C dX0_takeFromHand_19 rfl rfl ?_
  refine r_istore C dX0_takeFromHand_20 (by decide) ?_
  refine V.heap (pG_id w).symm ?_
  refine V.sub [(0, .ref g), (1, .int a), (2, .int b), (3, .int (tAt 28 112 (S 1) a b)), (4, .int (g_held S a - 1)), (5, .int (nI (q + 0)))] ⟨rfl, rfl, rfl, rfl, rfl, by rw [hb]; rfl, trivial⟩ ?_
  refine down_ (P := fun i => V p l e ⟨2, 0, 0, 44⟩ s m args below meth c G 6 (Qg G below args s 0 0 (fun v1 h1 s1 => v1 = (some (.int (tAt 28 112 (S 1) a b))) ∧ h1 = (pG G h g (g_from S a q)) ∧ s1 = sz)) (pG G h g (g_th S a q i)) sz 0 0 22 [(0, .ref g), (1, .int a), (2, .int b), (3, .int (tAt 28 112 (S 1) a b)), (4, .int (g_held S a - 1)), (5, .int (nI (q + i)))] []) ((g_held S a - 1).toNatClampNeg - q) ?_ ?_
  · refine r_iload C dX0_takeFromHand_22 rfl ?_
    refine r_iload C dX0_takeFromHand_24 rfl ?_
    refine r_icmp_ge C 57 dX0_takeFromHand_26 (by decide) (fun _ => ?_) (fun c => absurd (tn_le2 (by have := tn_lt (g_held S a - 1); omega) (by omega)) c)
    refine r_aload_n C dX0_takeFromHand_57 rfl rfl ?_
    refine r_get C (j := 2) rfl in_X0 (GA_o GA_pG) (by decide) fl_X0_23 rfl rfl dX0_takeFromHand_58 ?_
    refine r_iload_n C dX0_takeFromHand_61 rfl rfl ?_
    refine r_iconst C (v := 0) dX0_takeFromHand_62 rfl ?_
    refine r_iconst C (v := -1) dX0_takeFromHand_63 rfl ?_
    refine r_cVv C (c_increase2 GA_pG) lk_X0_95 rfl (GA_t2 GA_pG) rfl rfl ⟨(Nat.le_of_ble_eq_true rfl), (Nat.le_of_ble_eq_true rfl), (Nat.le_of_ble_eq_true rfl), (Nat.le_of_ble_eq_true rfl), (Nat.le_of_ble_eq_true rfl)⟩ dX0_takeFromHand_64 ?_
    refine r_iload_n C dX0_takeFromHand_67 rfl rfl ?_
    exact r_iret C rfl (Nat.le_of_ble_eq_true rfl) (Nat.le_of_ble_eq_true rfl) ⟨rfl, by simp only [pG_pG]; rfl, rfl⟩ dX0_takeFromHand_68
  · intro i h_i ih_i
    refine r_iload C dX0_takeFromHand_22 rfl ?_
    refine r_iload C dX0_takeFromHand_24 rfl ?_
    refine r_icmp_ge C 57 dX0_takeFromHand_26 (by decide) (fun c => absurd c (tn_nle (by omega))) (fun _ => ?_)
    refine r_aload_n C dX0_takeFromHand_29 rfl rfl ?_
    refine r_get C (j := 1) rfl in_X0 (GA_o GA_pG) (by decide) fl_X0_20 rfl rfl dX0_takeFromHand_30 ?_
    refine r_iload_n C dX0_takeFromHand_33 rfl rfl ?_
    refine r_iload C dX0_takeFromHand_34 rfl ?_
    refine r_aload_n C dX0_takeFromHand_36 rfl rfl ?_
    refine r_get C (j := 1) rfl in_X0 (GA_o GA_pG) (by decide) fl_X0_20 rfl rfl dX0_takeFromHand_37 ?_
    refine r_iload_n C dX0_takeFromHand_40 rfl rfl ?_
    refine r_iload C dX0_takeFromHand_41 rfl ?_
    refine r_iconst C (v := 1) dX0_takeFromHand_43 rfl ?_
    refine r_iadd C dX0_takeFromHand_44 ?_
    refine r_cVi C (c_at1 GA_pG) lk_X0_84 rfl (GA_t1 GA_pG) rfl rfl ⟨(Nat.le_of_ble_eq_true rfl), (Nat.le_of_ble_eq_true rfl), (Nat.le_of_ble_eq_true rfl), (Nat.le_of_ble_eq_true rfl), (Nat.le_of_ble_eq_true rfl)⟩ dX0_takeFromHand_45 ?_
    refine r_cVv C (c_put1 GA_pG) lk_X0_77 rfl (GA_t1 GA_pG) rfl rfl ⟨(Nat.le_of_ble_eq_true rfl), (Nat.le_of_ble_eq_true rfl), (Nat.le_of_ble_eq_true rfl), (Nat.le_of_ble_eq_true rfl), (Nat.le_of_ble_eq_true rfl)⟩ dX0_takeFromHand_48 ?_
    refine r_iinc C (v := 1) dX0_takeFromHand_51 rfl rfl (by decide) ?_
    refine r_goto C 22 dX0_takeFromHand_54 (by decide) ?_
    refine V.heap (h2 := (pG G h g (g_th S a q (i + 1)))) (by simp only [pG_pG]; rfl) ?_
    refine V.sub [(0, .ref g), (1, .int a), (2, .int b), (3, .int (tAt 28 112 (S 1) a b)), (4, .int (g_held S a - 1)), (5, .int (nI (q + (i + 1))))] ⟨rfl, rfl, rfl, rfl, rfl, by rw [show q + (i + 1) = q + i + 1 by omega, ← nI_1 (q + i)]; rfl, trivial⟩ ?_
    exact ih_i

set_option maxHeartbeats 800000 in
set_option maxRecDepth 100000 in
theorem c_X0_putAtEnd {G : ga_} {l : Launch} {h : HP} {sz : Nat} {g : Nat} {S : gS} {a b d : Int32}  (w : GA G h g S)  : Mf G l yX0_putAtEnd cX0_putAtEnd 6 none 1 24 0 0 [.ref g, .int a, .int b, .int d] h sz none (pG G h g (g_putE S a b d)) sz := by
  refine Mg.ofV [(0, .ref g), (1, .int a), (2, .int b), (3, .int d)] (by decide) (Nat.le_of_ble_eq_true rfl) rfl ?_
  intro p e s m args below meth c C
  refine r_aload_n C dX0_putAtEnd_0 rfl rfl ?_
  refine r_get C (j := 0) rfl in_X0 (GA_o w) (by decide) fl_X0_14 rfl rfl dX0_putAtEnd_1 ?_
  refine r_iload_n C dX0_putAtEnd_4 rfl rfl ?_
  refine r_iconst C (v := 0) dX0_putAtEnd_5 rfl ?_
  refine r_cVi C (c_at0 w) lk_X0_84 rfl (GA_t0 w) rfl rfl ⟨(Nat.le_of_ble_eq_true rfl), (Nat.le_of_ble_eq_true rfl), (Nat.le_of_ble_eq_true rfl), (Nat.le_of_ble_eq_true rfl), (Nat.le_of_ble_eq_true rfl)⟩ dX0_putAtEnd_6 ?_
  refine r_istore C dX0_putAtEnd_9 (by decide) ?_
  refine r_aload_n C dX0_putAtEnd_11 rfl rfl ?_
  refine r_get C (j := 0) rfl in_X0 (GA_o w) (by decide) fl_X0_14 rfl rfl dX0_putAtEnd_12 ?_
  refine r_iload_n C dX0_putAtEnd_15 rfl rfl ?_
  refine r_iconst C (v := 1) dX0_putAtEnd_16 rfl ?_
  refine r_cVi C (c_at0 w) lk_X0_84 rfl (GA_t0 w) rfl rfl ⟨(Nat.le_of_ble_eq_true rfl), (Nat.le_of_ble_eq_true rfl), (Nat.le_of_ble_eq_true rfl), (Nat.le_of_ble_eq_true rfl), (Nat.le_of_ble_eq_true rfl)⟩ dX0_putAtEnd_17 ?_
  refine r_istore C dX0_putAtEnd_20 (by decide) ?_
  refine r_aload_n C dX0_putAtEnd_22 rfl rfl ?_
  refine r_get C (j := 3) rfl in_X0 (GA_o w) (by decide) fl_X0_26 rfl rfl dX0_putAtEnd_23 ?_
  refine r_iload_n C dX0_putAtEnd_26 rfl rfl ?_
  refine r_iconst C (v := 0) dX0_putAtEnd_27 rfl ?_
  refine r_cVi C (c_at3 w) lk_X0_84 rfl (GA_t3 w) rfl rfl ⟨(Nat.le_of_ble_eq_true rfl), (Nat.le_of_ble_eq_true rfl), (Nat.le_of_ble_eq_true rfl), (Nat.le_of_ble_eq_true rfl), (Nat.le_of_ble_eq_true rfl)⟩ dX0_putAtEnd_28 ?_
  refine r_if_ne C 59 dX0_putAtEnd_31 (by decide) (fun c_31 => ?_) (fun c_31 => ?_)
  · refine r_aload_n C dX0_putAtEnd_59 rfl rfl ?_
    refine r_get C (j := 3) rfl in_X0 (GA_o w) (by decide) fl_X0_26 rfl rfl dX0_putAtEnd_60 ?_
    refine r_iload_n C dX0_putAtEnd_63 rfl rfl ?_
    refine r_iconst C (v := 1) dX0_putAtEnd_64 rfl ?_
    refine r_iload_n C dX0_putAtEnd_65 rfl rfl ?_
    refine r_iadd C dX0_putAtEnd_66 ?_
    refine r_iload C dX0_putAtEnd_67 rfl ?_
    refine r_aload_n C dX0_putAtEnd_69 rfl rfl ?_
    refine r_get C (j := 3) rfl in_X0 (GA_o w) (by decide) fl_X0_26 rfl rfl dX0_putAtEnd_70 ?_
    refine r_iload_n C dX0_putAtEnd_73 rfl rfl ?_
    refine r_iconst C (v := 1) dX0_putAtEnd_74 rfl ?_
    refine r_iload_n C dX0_putAtEnd_75 rfl rfl ?_
    refine r_iadd C dX0_putAtEnd_76 ?_
    refine r_cVi C (c_at3 w) lk_X0_84 rfl (GA_t3 w) rfl rfl ⟨(Nat.le_of_ble_eq_true rfl), (Nat.le_of_ble_eq_true rfl), (Nat.le_of_ble_eq_true rfl), (Nat.le_of_ble_eq_true rfl), (Nat.le_of_ble_eq_true rfl)⟩ dX0_putAtEnd_77 ?_
    refine r_icmp_ne C 88 dX0_putAtEnd_80 (by decide) (fun c_80 => ?_) (fun c_80 => ?_)
    · refine r_iload C dX0_putAtEnd_88 rfl ?_
      refine r_cVv C (c_put3 w) lk_X0_77 rfl (GA_t3 w) rfl rfl ⟨(Nat.le_of_ble_eq_true rfl), (Nat.le_of_ble_eq_true rfl), (Nat.le_of_ble_eq_true rfl), (Nat.le_of_ble_eq_true rfl), (Nat.le_of_ble_eq_true rfl)⟩ dX0_putAtEnd_90 ?_
      refine r_aload_n C dX0_putAtEnd_93 rfl rfl ?_
      refine r_get C (j := 3) rfl in_X0 (GA_o GA_pG) (by decide) fl_X0_26 rfl rfl dX0_putAtEnd_94 ?_
      refine r_iload_n C dX0_putAtEnd_97 rfl rfl ?_
      refine r_iconst C (v := 0) dX0_putAtEnd_98 rfl ?_
      refine r_iconst C (v := 1) dX0_putAtEnd_99 rfl ?_
      refine r_cVv C (c_increase3 GA_pG) lk_X0_95 rfl (GA_t3 GA_pG) rfl rfl ⟨(Nat.le_of_ble_eq_true rfl), (Nat.le_of_ble_eq_true rfl), (Nat.le_of_ble_eq_true rfl), (Nat.le_of_ble_eq_true rfl), (Nat.le_of_ble_eq_true rfl)⟩ dX0_putAtEnd_100 ?_
      refine r_aload_n C dX0_putAtEnd_103 rfl rfl ?_
      refine r_get C (j := 3) rfl in_X0 (GA_o GA_pG) (by decide) fl_X0_26 rfl rfl dX0_putAtEnd_104 ?_
      refine r_iload_n C dX0_putAtEnd_107 rfl rfl ?_
      refine r_iconst C (v := 3) dX0_putAtEnd_108 rfl ?_
      refine r_iload_n C dX0_putAtEnd_109 rfl rfl ?_
      refine r_cVv C (c_put3 GA_pG) lk_X0_77 rfl (GA_t3 GA_pG) rfl rfl ⟨(Nat.le_of_ble_eq_true rfl), (Nat.le_of_ble_eq_true rfl), (Nat.le_of_ble_eq_true rfl), (Nat.le_of_ble_eq_true rfl), (Nat.le_of_ble_eq_true rfl)⟩ dX0_putAtEnd_110 ?_
      exact r_vret C rfl (Nat.le_of_ble_eq_true rfl) (Nat.le_of_ble_eq_true rfl) ⟨rfl, by (try simp only [pG_pG]); exact congrArg (pG G h g) (by simp [g_putE, c_31, c_80]), rfl⟩ dX0_putAtEnd_113
    · refine r_iload C dX0_putAtEnd_83 rfl ?_
      refine r_goto C 90 dX0_putAtEnd_85 (by decide) ?_
      refine r_cVv C (c_put3 w) lk_X0_77 rfl (GA_t3 w) rfl rfl ⟨(Nat.le_of_ble_eq_true rfl), (Nat.le_of_ble_eq_true rfl), (Nat.le_of_ble_eq_true rfl), (Nat.le_of_ble_eq_true rfl), (Nat.le_of_ble_eq_true rfl)⟩ dX0_putAtEnd_90 ?_
      refine r_aload_n C dX0_putAtEnd_93 rfl rfl ?_
      refine r_get C (j := 3) rfl in_X0 (GA_o GA_pG) (by decide) fl_X0_26 rfl rfl dX0_putAtEnd_94 ?_
      refine r_iload_n C dX0_putAtEnd_97 rfl rfl ?_
      refine r_iconst C (v := 0) dX0_putAtEnd_98 rfl ?_
      refine r_iconst C (v := 1) dX0_putAtEnd_99 rfl ?_
      refine r_cVv C (c_increase3 GA_pG) lk_X0_95 rfl (GA_t3 GA_pG) rfl rfl ⟨(Nat.le_of_ble_eq_true rfl), (Nat.le_of_ble_eq_true rfl), (Nat.le_of_ble_eq_true rfl), (Nat.le_of_ble_eq_true rfl), (Nat.le_of_ble_eq_true rfl)⟩ dX0_putAtEnd_100 ?_
      refine r_aload_n C dX0_putAtEnd_103 rfl rfl ?_
      refine r_get C (j := 3) rfl in_X0 (GA_o GA_pG) (by decide) fl_X0_26 rfl rfl dX0_putAtEnd_104 ?_
      refine r_iload_n C dX0_putAtEnd_107 rfl rfl ?_
      refine r_iconst C (v := 3) dX0_putAtEnd_108 rfl ?_
      refine r_iload_n C dX0_putAtEnd_109 rfl rfl ?_
      refine r_cVv C (c_put3 GA_pG) lk_X0_77 rfl (GA_t3 GA_pG) rfl rfl ⟨(Nat.le_of_ble_eq_true rfl), (Nat.le_of_ble_eq_true rfl), (Nat.le_of_ble_eq_true rfl), (Nat.le_of_ble_eq_true rfl), (Nat.le_of_ble_eq_true rfl)⟩ dX0_putAtEnd_110 ?_
      exact r_vret C rfl (Nat.le_of_ble_eq_true rfl) (Nat.le_of_ble_eq_true rfl) ⟨rfl, by (try simp only [pG_pG]); exact congrArg (pG G h g) (by simp [g_putE, c_31, c_80]), rfl⟩ dX0_putAtEnd_113
  · refine r_aload_n C dX0_putAtEnd_34 rfl rfl ?_
    refine r_get C (j := 3) rfl in_X0 (GA_o w) (by decide) fl_X0_26 rfl rfl dX0_putAtEnd_35 ?_
    refine r_iload_n C dX0_putAtEnd_38 rfl rfl ?_
    refine r_iconst C (v := 1) dX0_putAtEnd_39 rfl ?_
    refine r_iload C dX0_putAtEnd_40 rfl ?_
    refine r_cVv C (c_put3 w) lk_X0_77 rfl (GA_t3 w) rfl rfl ⟨(Nat.le_of_ble_eq_true rfl), (Nat.le_of_ble_eq_true rfl), (Nat.le_of_ble_eq_true rfl), (Nat.le_of_ble_eq_true rfl), (Nat.le_of_ble_eq_true rfl)⟩ dX0_putAtEnd_42 ?_
    refine r_aload_n C dX0_putAtEnd_45 rfl rfl ?_
    refine r_get C (j := 3) rfl in_X0 (GA_o GA_pG) (by decide) fl_X0_26 rfl rfl dX0_putAtEnd_46 ?_
    refine r_iload_n C dX0_putAtEnd_49 rfl rfl ?_
    refine r_iconst C (v := 2) dX0_putAtEnd_50 rfl ?_
    refine r_iload C dX0_putAtEnd_51 rfl ?_
    refine r_cVv C (c_put3 GA_pG) lk_X0_77 rfl (GA_t3 GA_pG) rfl rfl ⟨(Nat.le_of_ble_eq_true rfl), (Nat.le_of_ble_eq_true rfl), (Nat.le_of_ble_eq_true rfl), (Nat.le_of_ble_eq_true rfl), (Nat.le_of_ble_eq_true rfl)⟩ dX0_putAtEnd_53 ?_
    refine r_goto C 93 dX0_putAtEnd_56 (by decide) ?_
    refine r_aload_n C dX0_putAtEnd_93 rfl rfl ?_
    refine r_get C (j := 3) rfl in_X0 (GA_o GA_pG) (by decide) fl_X0_26 rfl rfl dX0_putAtEnd_94 ?_
    refine r_iload_n C dX0_putAtEnd_97 rfl rfl ?_
    refine r_iconst C (v := 0) dX0_putAtEnd_98 rfl ?_
    refine r_iconst C (v := 1) dX0_putAtEnd_99 rfl ?_
    refine r_cVv C (c_increase3 GA_pG) lk_X0_95 rfl (GA_t3 GA_pG) rfl rfl ⟨(Nat.le_of_ble_eq_true rfl), (Nat.le_of_ble_eq_true rfl), (Nat.le_of_ble_eq_true rfl), (Nat.le_of_ble_eq_true rfl), (Nat.le_of_ble_eq_true rfl)⟩ dX0_putAtEnd_100 ?_
    refine r_aload_n C dX0_putAtEnd_103 rfl rfl ?_
    refine r_get C (j := 3) rfl in_X0 (GA_o GA_pG) (by decide) fl_X0_26 rfl rfl dX0_putAtEnd_104 ?_
    refine r_iload_n C dX0_putAtEnd_107 rfl rfl ?_
    refine r_iconst C (v := 3) dX0_putAtEnd_108 rfl ?_
    refine r_iload_n C dX0_putAtEnd_109 rfl rfl ?_
    refine r_cVv C (c_put3 GA_pG) lk_X0_77 rfl (GA_t3 GA_pG) rfl rfl ⟨(Nat.le_of_ble_eq_true rfl), (Nat.le_of_ble_eq_true rfl), (Nat.le_of_ble_eq_true rfl), (Nat.le_of_ble_eq_true rfl), (Nat.le_of_ble_eq_true rfl)⟩ dX0_putAtEnd_110 ?_
    exact r_vret C rfl (Nat.le_of_ble_eq_true rfl) (Nat.le_of_ble_eq_true rfl) ⟨rfl, by (try simp only [pG_pG]); exact congrArg (pG G h g) (by simp [g_putE, c_31]), rfl⟩ dX0_putAtEnd_113

set_option maxHeartbeats 800000 in
set_option maxRecDepth 100000 in
theorem c_X0_oilTile {G : ga_} {l : Launch} {h : HP} {sz : Nat} {g : Nat} {S : gS} {a : Int32}  (w : GA G h g S)  : Mf G l yX0_oilTile cX0_oilTile 4 (some .int) 1 24 0 0 [.ref g, .int a] h sz (some (.int (g_oilA S a))) (pG G h g (g_oil S a)) sz := by
  refine Mg.ofV [(0, .ref g), (1, .int a)] (by decide) (Nat.le_of_ble_eq_true rfl) rfl ?_
  intro p e s m args below meth c C
  refine r_aload_n C dX0_oilTile_0 rfl rfl ?_
  refine r_cVi C (c_X0_isOver w) lk_X0_112 rfl (GA_o w) rfl rfl ⟨(Nat.le_of_ble_eq_true rfl), (Nat.le_of_ble_eq_true rfl), (Nat.le_of_ble_eq_true rfl), (Nat.le_of_ble_eq_true rfl), (Nat.le_of_ble_eq_true rfl)⟩ dX0_oilTile_1 ?_
  refine r_if_eq C 9 dX0_oilTile_4 (by decide) (fun c_4 => ?_) (fun c_4 => ?_)
  · have c_4 := bI_f c_4
    refine r_aload_n C dX0_oilTile_9 rfl rfl ?_
    refine r_get C (j := 1) rfl in_X0 (GA_o w) (by decide) fl_X0_20 rfl rfl dX0_oilTile_10 ?_
    refine r_aload_n C dX0_oilTile_13 rfl rfl ?_
    refine r_get C (j := 6) rfl in_X0 (GA_o w) (by decide) fl_X0_43 rfl rfl dX0_oilTile_14 ?_
    refine r_iload_n C dX0_oilTile_17 rfl rfl ?_
    refine r_cVi C (c_at1 w) lk_X0_84 rfl (GA_t1 w) rfl rfl ⟨(Nat.le_of_ble_eq_true rfl), (Nat.le_of_ble_eq_true rfl), (Nat.le_of_ble_eq_true rfl), (Nat.le_of_ble_eq_true rfl), (Nat.le_of_ble_eq_true rfl)⟩ dX0_oilTile_18 ?_
    refine r_istore_n C dX0_oilTile_21 rfl (by decide) ?_
    refine r_aload_n C dX0_oilTile_22 rfl rfl ?_
    refine r_get C (j := 0) rfl in_X0 (GA_o w) (by decide) fl_X0_14 rfl rfl dX0_oilTile_23 ?_
    refine r_iload_n C dX0_oilTile_26 rfl rfl ?_
    refine r_iconst C (v := 4) dX0_oilTile_27 rfl ?_
    refine r_cVi C (c_at0 w) lk_X0_84 rfl (GA_t0 w) rfl rfl ⟨(Nat.le_of_ble_eq_true rfl), (Nat.le_of_ble_eq_true rfl), (Nat.le_of_ble_eq_true rfl), (Nat.le_of_ble_eq_true rfl), (Nat.le_of_ble_eq_true rfl)⟩ dX0_oilTile_28 ?_
    refine r_istore_n C dX0_oilTile_31 rfl (by decide) ?_
    refine r_aload_n C dX0_oilTile_32 rfl rfl ?_
    refine r_get C (j := 0) rfl in_X0 (GA_o w) (by decide) fl_X0_14 rfl rfl dX0_oilTile_33 ?_
    refine r_iload_n C dX0_oilTile_36 rfl rfl ?_
    refine r_iconst C (v := 4) dX0_oilTile_37 rfl ?_
    refine r_iconst C (v := 0) dX0_oilTile_38 rfl ?_
    refine r_cVv C (c_put0 w) lk_X0_77 rfl (GA_t0 w) rfl rfl ⟨(Nat.le_of_ble_eq_true rfl), (Nat.le_of_ble_eq_true rfl), (Nat.le_of_ble_eq_true rfl), (Nat.le_of_ble_eq_true rfl), (Nat.le_of_ble_eq_true rfl)⟩ dX0_oilTile_39 ?_
    refine r_iload_n C dX0_oilTile_42 rfl rfl ?_
    exact r_iret C rfl (Nat.le_of_ble_eq_true rfl) (Nat.le_of_ble_eq_true rfl) ⟨by simp [g_oil, g_oilA, g_hand, c_4], by (try simp only [pG_pG]); exact congrArg (pG G h g) (by simp [g_oil, g_oilA, g_hand, c_4]), rfl⟩ dX0_oilTile_43
  · have c_4 := bI_t c_4
    refine r_iconst C (v := -1) dX0_oilTile_7 rfl ?_
    exact r_iret C rfl (Nat.le_of_ble_eq_true rfl) (Nat.le_of_ble_eq_true rfl) ⟨by simp [g_oil, g_oilA, g_hand, c_4], by rw [show (g_oil S a) = S by simp [g_oil, g_oilA, g_hand, c_4]]; exact (pG_id w).symm, rfl⟩ dX0_oilTile_8

set_option maxHeartbeats 800000 in
set_option maxRecDepth 100000 in
theorem c_X0_turnToDraw {G : ga_} {l : Launch} {h : HP} {sz : Nat} {g : Nat} {S : gS}  (w : GA G h g S)  : Mf G l yX0_turnToDraw cX0_turnToDraw 2 (some .int) 4 92 0 0 [.ref g] h sz (some (.int (g_drawA S))) (pG G h g (g_draw S)) sz := by
  refine Mg.ofV [(0, .ref g)] (by decide) (Nat.le_of_ble_eq_true rfl) rfl ?_
  intro p e s m args below meth c C
  refine r_aload_n C dX0_turnToDraw_0 rfl rfl ?_
  refine r_cVi C (c_X0_isOver w) lk_X0_112 rfl (GA_o w) rfl rfl ⟨(Nat.le_of_ble_eq_true rfl), (Nat.le_of_ble_eq_true rfl), (Nat.le_of_ble_eq_true rfl), (Nat.le_of_ble_eq_true rfl), (Nat.le_of_ble_eq_true rfl)⟩ dX0_turnToDraw_1 ?_
  refine r_if_ne C 14 dX0_turnToDraw_4 (by decide) (fun c_4 => ?_) (fun c_4 => ?_)
  · have c_4 := bI_t c_4
    refine r_aload_n C dX0_turnToDraw_14 rfl rfl ?_
    refine r_dup C dX0_turnToDraw_15 rfl ?_
    refine r_get C (j := 10) rfl in_X0 (GA_o w) (by decide) fl_X0_55 rfl rfl dX0_turnToDraw_16 ?_
    refine r_iconst C (v := 1) dX0_turnToDraw_19 rfl ?_
    refine r_iadd C dX0_turnToDraw_20 ?_
    refine r_put C (j := 10) tyX0 tyX0_ok nmX0 rfl in_X0 (GA_o w) (by decide) fl_X0_55 rfl rfl rfl (by first | rfl | decide) (by first | rfl | decide) (Nat.le_of_ble_eq_true rfl) dX0_turnToDraw_21 ?_
    refine V.heap (pG_num w 5 _ rfl) ?_
    refine r_bipush C (v := 100) dX0_turnToDraw_24 rfl ?_
    refine r_aload_n C dX0_turnToDraw_26 rfl rfl ?_
    refine r_cVi C (c_X0_isOver GA_pG) lk_X0_112 rfl (GA_o GA_pG) rfl rfl ⟨(Nat.le_of_ble_eq_true rfl), (Nat.le_of_ble_eq_true rfl), (Nat.le_of_ble_eq_true rfl), (Nat.le_of_ble_eq_true rfl), (Nat.le_of_ble_eq_true rfl)⟩ dX0_turnToDraw_27 ?_
    refine r_if_eq C 37 dX0_turnToDraw_30 (by decide) (fun c_30 => ?_) (fun c_30 => ?_)
    · have c_30 := bI_f c_30
      refine r_iconst C (v := 4) dX0_turnToDraw_37 rfl ?_
      refine r_iadd C dX0_turnToDraw_38 ?_
      exact r_iret C rfl (Nat.le_of_ble_eq_true rfl) (Nat.le_of_ble_eq_true rfl) ⟨by simp [g_draw, g_drawA, g_draw2, g_draw1, g_draw0, g_ref, c_4, c_30], by (try simp only [pG_pG]); exact congrArg (pG G h g) (by simp [g_draw, g_drawA, g_draw2, g_draw1, g_draw0, g_ref, c_4, c_30]), rfl⟩ dX0_turnToDraw_39
    · have c_30 := bI_t c_30
      refine r_iconst C (v := 1) dX0_turnToDraw_33 rfl ?_
      refine r_goto C 38 dX0_turnToDraw_34 (by decide) ?_
      refine r_iadd C dX0_turnToDraw_38 ?_
      exact r_iret C rfl (Nat.le_of_ble_eq_true rfl) (Nat.le_of_ble_eq_true rfl) ⟨by simp [g_draw, g_drawA, g_draw2, g_draw1, g_draw0, g_ref, c_4, c_30], by (try simp only [pG_pG]); exact congrArg (pG G h g) (by simp [g_draw, g_drawA, g_draw2, g_draw1, g_draw0, g_ref, c_4, c_30]), rfl⟩ dX0_turnToDraw_39
  · have c_4 := bI_f c_4
    refine r_aload_n C dX0_turnToDraw_7 rfl rfl ?_
    refine r_cVi C (c_X0_stockSize w) lk_X0_116 rfl (GA_o w) rfl rfl ⟨(Nat.le_of_ble_eq_true rfl), (Nat.le_of_ble_eq_true rfl), (Nat.le_of_ble_eq_true rfl), (Nat.le_of_ble_eq_true rfl), (Nat.le_of_ble_eq_true rfl)⟩ dX0_turnToDraw_8 ?_
    refine r_if_ne C 40 dX0_turnToDraw_11 (by decide) (fun c_11 => ?_) (fun c_11 => ?_)
    · refine r_aload_n C dX0_turnToDraw_40 rfl rfl ?_
      refine r_iconst C (v := 0) dX0_turnToDraw_41 rfl ?_
      refine r_put C (j := 9) tyX0 tyX0_ok nmX0 rfl in_X0 (GA_o w) (by decide) fl_X0_52 rfl rfl rfl (by first | rfl | decide) (by first | rfl | decide) (Nat.le_of_ble_eq_true rfl) dX0_turnToDraw_42 ?_
      refine V.heap (pG_num w 4 _ rfl) ?_
      refine r_aload_n C dX0_turnToDraw_45 rfl rfl ?_
      refine r_aload_n C dX0_turnToDraw_46 rfl rfl ?_
      refine r_get C (j := 6) rfl in_X0 (GA_o GA_pG) (by decide) fl_X0_43 rfl rfl dX0_turnToDraw_47 ?_
      refine r_cVi C (c_X0_takeFromStock GA_pG) lk_X0_88 rfl (GA_o GA_pG) rfl rfl ⟨(Nat.le_of_ble_eq_true rfl), (Nat.le_of_ble_eq_true rfl), (Nat.le_of_ble_eq_true rfl), (Nat.le_of_ble_eq_true rfl), (Nat.le_of_ble_eq_true rfl)⟩ dX0_turnToDraw_50 ?_
      refine r_istore_n C dX0_turnToDraw_53 rfl (by decide) ?_
      refine r_aload_n C dX0_turnToDraw_54 rfl rfl ?_
      refine r_get C (j := 2) rfl in_X0 (GA_o GA_pG) (by decide) fl_X0_23 rfl rfl dX0_turnToDraw_55 ?_
      refine r_aload_n C dX0_turnToDraw_58 rfl rfl ?_
      refine r_get C (j := 6) rfl in_X0 (GA_o GA_pG) (by decide) fl_X0_43 rfl rfl dX0_turnToDraw_59 ?_
      refine r_iconst C (v := 3) dX0_turnToDraw_62 rfl ?_
      refine r_iconst C (v := 1) dX0_turnToDraw_63 rfl ?_
      refine r_cVv C (c_increase2 GA_pG) lk_X0_95 rfl (GA_t2 GA_pG) rfl rfl ⟨(Nat.le_of_ble_eq_true rfl), (Nat.le_of_ble_eq_true rfl), (Nat.le_of_ble_eq_true rfl), (Nat.le_of_ble_eq_true rfl), (Nat.le_of_ble_eq_true rfl)⟩ dX0_turnToDraw_64 ?_
      refine r_aload_n C dX0_turnToDraw_67 rfl rfl ?_
      refine r_cVi C (c_X0_endTurn GA_pG) lk_X0_108 rfl (GA_o GA_pG) rfl rfl ⟨(Nat.le_of_ble_eq_true rfl), (Nat.le_of_ble_eq_true rfl), (Nat.le_of_ble_eq_true rfl), (Nat.le_of_ble_eq_true rfl), (Nat.le_of_ble_eq_true rfl)⟩ dX0_turnToDraw_68 ?_
      refine r_pop C dX0_turnToDraw_71 rfl ?_
      refine r_iload_n C dX0_turnToDraw_72 rfl rfl ?_
      exact r_iret C rfl (Nat.le_of_ble_eq_true rfl) (Nat.le_of_ble_eq_true rfl) ⟨by simp [g_draw, g_drawA, g_draw2, g_draw1, g_draw0, g_ref, c_4, c_11], by (try simp only [pG_pG]); exact congrArg (pG G h g) (by simp [g_draw, g_drawA, g_draw2, g_draw1, g_draw0, g_ref, c_4, c_11]), rfl⟩ dX0_turnToDraw_73
    · refine r_aload_n C dX0_turnToDraw_14 rfl rfl ?_
      refine r_dup C dX0_turnToDraw_15 rfl ?_
      refine r_get C (j := 10) rfl in_X0 (GA_o w) (by decide) fl_X0_55 rfl rfl dX0_turnToDraw_16 ?_
      refine r_iconst C (v := 1) dX0_turnToDraw_19 rfl ?_
      refine r_iadd C dX0_turnToDraw_20 ?_
      refine r_put C (j := 10) tyX0 tyX0_ok nmX0 rfl in_X0 (GA_o w) (by decide) fl_X0_55 rfl rfl rfl (by first | rfl | decide) (by first | rfl | decide) (Nat.le_of_ble_eq_true rfl) dX0_turnToDraw_21 ?_
      refine V.heap (pG_num w 5 _ rfl) ?_
      refine r_bipush C (v := 100) dX0_turnToDraw_24 rfl ?_
      refine r_aload_n C dX0_turnToDraw_26 rfl rfl ?_
      refine r_cVi C (c_X0_isOver GA_pG) lk_X0_112 rfl (GA_o GA_pG) rfl rfl ⟨(Nat.le_of_ble_eq_true rfl), (Nat.le_of_ble_eq_true rfl), (Nat.le_of_ble_eq_true rfl), (Nat.le_of_ble_eq_true rfl), (Nat.le_of_ble_eq_true rfl)⟩ dX0_turnToDraw_27 ?_
      refine r_if_eq C 37 dX0_turnToDraw_30 (by decide) (fun c_30 => ?_) (fun c_30 => ?_)
      · have c_30 := bI_f c_30
        refine r_iconst C (v := 4) dX0_turnToDraw_37 rfl ?_
        refine r_iadd C dX0_turnToDraw_38 ?_
        exact r_iret C rfl (Nat.le_of_ble_eq_true rfl) (Nat.le_of_ble_eq_true rfl) ⟨by simp [g_draw, g_drawA, g_draw2, g_draw1, g_draw0, g_ref, c_4, c_11, c_30], by (try simp only [pG_pG]); exact congrArg (pG G h g) (by simp [g_draw, g_drawA, g_draw2, g_draw1, g_draw0, g_ref, c_4, c_11, c_30]), rfl⟩ dX0_turnToDraw_39
      · have c_30 := bI_t c_30
        refine r_iconst C (v := 1) dX0_turnToDraw_33 rfl ?_
        refine r_goto C 38 dX0_turnToDraw_34 (by decide) ?_
        refine r_iadd C dX0_turnToDraw_38 ?_
        exact r_iret C rfl (Nat.le_of_ble_eq_true rfl) (Nat.le_of_ble_eq_true rfl) ⟨by simp [g_draw, g_drawA, g_draw2, g_draw1, g_draw0, g_ref, c_4, c_11, c_30], by (try simp only [pG_pG]); exact congrArg (pG G h g) (by simp [g_draw, g_drawA, g_draw2, g_draw1, g_draw0, g_ref, c_4, c_11, c_30]), rfl⟩ dX0_turnToDraw_39

set_option maxHeartbeats 800000 in
set_option maxRecDepth 100000 in
theorem c_X0_turnToPass {G : ga_} {l : Launch} {h : HP} {sz : Nat} {g : Nat} {S : gS}  (w : GA G h g S)  : Mf G l yX0_turnToPass cX0_turnToPass 1 (some .int) 4 92 0 0 [.ref g] h sz (some (.int (g_passA S))) (pG G h g (g_pass S)) sz := by
  refine Mg.ofV [(0, .ref g)] (by decide) (Nat.le_of_ble_eq_true rfl) rfl ?_
  intro p e s m args below meth c C
  refine r_aload_n C dX0_turnToPass_0 rfl rfl ?_
  refine r_cVi C (c_X0_isOver w) lk_X0_112 rfl (GA_o w) rfl rfl ⟨(Nat.le_of_ble_eq_true rfl), (Nat.le_of_ble_eq_true rfl), (Nat.le_of_ble_eq_true rfl), (Nat.le_of_ble_eq_true rfl), (Nat.le_of_ble_eq_true rfl)⟩ dX0_turnToPass_1 ?_
  refine r_if_ne C 14 dX0_turnToPass_4 (by decide) (fun c_4 => ?_) (fun c_4 => ?_)
  · have c_4 := bI_t c_4
    refine r_aload_n C dX0_turnToPass_14 rfl rfl ?_
    refine r_dup C dX0_turnToPass_15 rfl ?_
    refine r_get C (j := 10) rfl in_X0 (GA_o w) (by decide) fl_X0_55 rfl rfl dX0_turnToPass_16 ?_
    refine r_iconst C (v := 1) dX0_turnToPass_19 rfl ?_
    refine r_iadd C dX0_turnToPass_20 ?_
    refine r_put C (j := 10) tyX0 tyX0_ok nmX0 rfl in_X0 (GA_o w) (by decide) fl_X0_55 rfl rfl rfl (by first | rfl | decide) (by first | rfl | decide) (Nat.le_of_ble_eq_true rfl) dX0_turnToPass_21 ?_
    refine V.heap (pG_num w 5 _ rfl) ?_
    refine r_aload_n C dX0_turnToPass_24 rfl rfl ?_
    refine r_cVi C (c_X0_isOver GA_pG) lk_X0_112 rfl (GA_o GA_pG) rfl rfl ⟨(Nat.le_of_ble_eq_true rfl), (Nat.le_of_ble_eq_true rfl), (Nat.le_of_ble_eq_true rfl), (Nat.le_of_ble_eq_true rfl), (Nat.le_of_ble_eq_true rfl)⟩ dX0_turnToPass_25 ?_
    refine r_if_eq C 35 dX0_turnToPass_28 (by decide) (fun c_28 => ?_) (fun c_28 => ?_)
    · have c_28 := bI_f c_28
      refine r_iconst C (v := 5) dX0_turnToPass_35 rfl ?_
      exact r_iret C rfl (Nat.le_of_ble_eq_true rfl) (Nat.le_of_ble_eq_true rfl) ⟨by simp [g_pass, g_passA, g_ref, c_4, c_28], by (try simp only [pG_pG]); exact congrArg (pG G h g) (by simp [g_pass, g_passA, g_ref, c_4, c_28]), rfl⟩ dX0_turnToPass_36
    · have c_28 := bI_t c_28
      refine r_iconst C (v := 1) dX0_turnToPass_31 rfl ?_
      refine r_goto C 36 dX0_turnToPass_32 (by decide) ?_
      exact r_iret C rfl (Nat.le_of_ble_eq_true rfl) (Nat.le_of_ble_eq_true rfl) ⟨by simp [g_pass, g_passA, g_ref, c_4, c_28], by (try simp only [pG_pG]); exact congrArg (pG G h g) (by simp [g_pass, g_passA, g_ref, c_4, c_28]), rfl⟩ dX0_turnToPass_36
  · have c_4 := bI_f c_4
    refine r_aload_n C dX0_turnToPass_7 rfl rfl ?_
    refine r_cVi C (c_X0_stockSize w) lk_X0_116 rfl (GA_o w) rfl rfl ⟨(Nat.le_of_ble_eq_true rfl), (Nat.le_of_ble_eq_true rfl), (Nat.le_of_ble_eq_true rfl), (Nat.le_of_ble_eq_true rfl), (Nat.le_of_ble_eq_true rfl)⟩ dX0_turnToPass_8 ?_
    refine r_if_le C 37 dX0_turnToPass_11 (by decide) (fun c_11 => ?_) (fun c_11 => ?_)
    · have e_11 := i32_nlt c_11
      refine r_aload_n C dX0_turnToPass_37 rfl rfl ?_
      refine r_dup C dX0_turnToPass_38 rfl ?_
      refine r_get C (j := 9) rfl in_X0 (GA_o w) (by decide) fl_X0_52 rfl rfl dX0_turnToPass_39 ?_
      refine r_iconst C (v := 1) dX0_turnToPass_42 rfl ?_
      refine r_iadd C dX0_turnToPass_43 ?_
      refine r_put C (j := 9) tyX0 tyX0_ok nmX0 rfl in_X0 (GA_o w) (by decide) fl_X0_52 rfl rfl rfl (by first | rfl | decide) (by first | rfl | decide) (Nat.le_of_ble_eq_true rfl) dX0_turnToPass_44 ?_
      refine V.heap (pG_num w 4 _ rfl) ?_
      refine r_aload_n C dX0_turnToPass_47 rfl rfl ?_
      refine r_cVi C (c_X0_endTurn GA_pG) lk_X0_108 rfl (GA_o GA_pG) rfl rfl ⟨(Nat.le_of_ble_eq_true rfl), (Nat.le_of_ble_eq_true rfl), (Nat.le_of_ble_eq_true rfl), (Nat.le_of_ble_eq_true rfl), (Nat.le_of_ble_eq_true rfl)⟩ dX0_turnToPass_48 ?_
      exact r_iret C rfl (Nat.le_of_ble_eq_true rfl) (Nat.le_of_ble_eq_true rfl) ⟨by simp [g_pass, g_passA, g_ref, c_4, c_11, e_11], by (try simp only [pG_pG]); exact congrArg (pG G h g) (by simp [g_pass, g_passA, g_ref, c_4, c_11, e_11]), rfl⟩ dX0_turnToPass_51
    · have e_11 := i32_lt c_11
      refine r_aload_n C dX0_turnToPass_14 rfl rfl ?_
      refine r_dup C dX0_turnToPass_15 rfl ?_
      refine r_get C (j := 10) rfl in_X0 (GA_o w) (by decide) fl_X0_55 rfl rfl dX0_turnToPass_16 ?_
      refine r_iconst C (v := 1) dX0_turnToPass_19 rfl ?_
      refine r_iadd C dX0_turnToPass_20 ?_
      refine r_put C (j := 10) tyX0 tyX0_ok nmX0 rfl in_X0 (GA_o w) (by decide) fl_X0_55 rfl rfl rfl (by first | rfl | decide) (by first | rfl | decide) (Nat.le_of_ble_eq_true rfl) dX0_turnToPass_21 ?_
      refine V.heap (pG_num w 5 _ rfl) ?_
      refine r_aload_n C dX0_turnToPass_24 rfl rfl ?_
      refine r_cVi C (c_X0_isOver GA_pG) lk_X0_112 rfl (GA_o GA_pG) rfl rfl ⟨(Nat.le_of_ble_eq_true rfl), (Nat.le_of_ble_eq_true rfl), (Nat.le_of_ble_eq_true rfl), (Nat.le_of_ble_eq_true rfl), (Nat.le_of_ble_eq_true rfl)⟩ dX0_turnToPass_25 ?_
      refine r_if_eq C 35 dX0_turnToPass_28 (by decide) (fun c_28 => ?_) (fun c_28 => ?_)
      · have c_28 := bI_f c_28
        refine r_iconst C (v := 5) dX0_turnToPass_35 rfl ?_
        exact r_iret C rfl (Nat.le_of_ble_eq_true rfl) (Nat.le_of_ble_eq_true rfl) ⟨by simp [g_pass, g_passA, g_ref, c_4, c_11, e_11, c_28], by (try simp only [pG_pG]); exact congrArg (pG G h g) (by simp [g_pass, g_passA, g_ref, c_4, c_11, e_11, c_28]), rfl⟩ dX0_turnToPass_36
      · have c_28 := bI_t c_28
        refine r_iconst C (v := 1) dX0_turnToPass_31 rfl ?_
        refine r_goto C 36 dX0_turnToPass_32 (by decide) ?_
        exact r_iret C rfl (Nat.le_of_ble_eq_true rfl) (Nat.le_of_ble_eq_true rfl) ⟨by simp [g_pass, g_passA, g_ref, c_4, c_11, e_11, c_28], by (try simp only [pG_pG]); exact congrArg (pG G h g) (by simp [g_pass, g_passA, g_ref, c_4, c_11, e_11, c_28]), rfl⟩ dX0_turnToPass_36

set_option maxHeartbeats 800000 in
set_option maxRecDepth 100000 in
theorem c_X0_turnToLay {G : ga_} {l : Launch} {h : HP} {sz : Nat} {g : Nat} {S : gS} {a b d : Int32}  (w : GA G h g S)  : Mf G l yX0_turnToLay cX0_turnToLay 6 (some .int) 4 92 0 0 [.ref g, .int a, .int b, .int d] h sz (some (.int (g_layA S a b d))) (pG G h g (g_lay S a b d)) sz := by
  refine Mg.ofV [(0, .ref g), (1, .int a), (2, .int b), (3, .int d)] (by decide) (Nat.le_of_ble_eq_true rfl) rfl ?_
  intro p e s m args below meth c C
  refine r_aload_n C dX0_turnToLay_0 rfl rfl ?_
  refine r_iload_n C dX0_turnToLay_1 rfl rfl ?_
  refine r_iload_n C dX0_turnToLay_2 rfl rfl ?_
  refine r_iload_n C dX0_turnToLay_3 rfl rfl ?_
  refine r_cVi C (c_X0_reasonAgainst w) lk_X0_98 rfl (GA_o w) rfl rfl ⟨(Nat.le_of_ble_eq_true rfl), (Nat.le_of_ble_eq_true rfl), (Nat.le_of_ble_eq_true rfl), (Nat.le_of_ble_eq_true rfl), (Nat.le_of_ble_eq_true rfl)⟩ dX0_turnToLay_4 ?_
  refine r_istore C dX0_turnToLay_7 (by decide) ?_
  refine r_iload C dX0_turnToLay_9 rfl ?_
  refine r_if_eq C 27 dX0_turnToLay_11 (by decide) (fun c_11 => ?_) (fun c_11 => ?_)
  · refine r_aload_n C dX0_turnToLay_27 rfl rfl ?_
    refine r_iconst C (v := 0) dX0_turnToLay_28 rfl ?_
    refine r_put C (j := 9) tyX0 tyX0_ok nmX0 rfl in_X0 (GA_o w) (by decide) fl_X0_52 rfl rfl rfl (by first | rfl | decide) (by first | rfl | decide) (Nat.le_of_ble_eq_true rfl) dX0_turnToLay_29 ?_
    refine V.heap (pG_num w 4 _ rfl) ?_
    refine r_aload_n C dX0_turnToLay_32 rfl rfl ?_
    refine r_aload_n C dX0_turnToLay_33 rfl rfl ?_
    refine r_get C (j := 6) rfl in_X0 (GA_o GA_pG) (by decide) fl_X0_43 rfl rfl dX0_turnToLay_34 ?_
    refine r_iload_n C dX0_turnToLay_37 rfl rfl ?_
    refine r_cVi C (c_X0_takeFromHand GA_pG (reason_0 c_11) (tn_lt _)) lk_X0_102 rfl (GA_o GA_pG) rfl rfl ⟨(Nat.le_of_ble_eq_true rfl), (Nat.le_of_ble_eq_true rfl), (Nat.le_of_ble_eq_true rfl), (Nat.le_of_ble_eq_true rfl), (Nat.le_of_ble_eq_true rfl)⟩ dX0_turnToLay_38 ?_
    refine r_istore C dX0_turnToLay_41 (by decide) ?_
    refine r_aload_n C dX0_turnToLay_43 rfl rfl ?_
    refine r_get C (j := 0) rfl in_X0 (GA_o GA_pG) (by decide) fl_X0_14 rfl rfl dX0_turnToLay_44 ?_
    refine r_iload C dX0_turnToLay_47 rfl ?_
    refine r_iconst C (v := 2) dX0_turnToLay_49 rfl ?_
    refine r_iconst C (v := 2) dX0_turnToLay_50 rfl ?_
    refine r_cVv C (c_put0 GA_pG) lk_X0_77 rfl (GA_t0 GA_pG) rfl rfl ⟨(Nat.le_of_ble_eq_true rfl), (Nat.le_of_ble_eq_true rfl), (Nat.le_of_ble_eq_true rfl), (Nat.le_of_ble_eq_true rfl), (Nat.le_of_ble_eq_true rfl)⟩ dX0_turnToLay_51 ?_
    refine r_aload_n C dX0_turnToLay_54 rfl rfl ?_
    refine r_get C (j := 0) rfl in_X0 (GA_o GA_pG) (by decide) fl_X0_14 rfl rfl dX0_turnToLay_55 ?_
    refine r_iload C dX0_turnToLay_58 rfl ?_
    refine r_iconst C (v := 5) dX0_turnToLay_60 rfl ?_
    refine r_iload_n C dX0_turnToLay_61 rfl rfl ?_
    refine r_cVv C (c_put0 GA_pG) lk_X0_77 rfl (GA_t0 GA_pG) rfl rfl ⟨(Nat.le_of_ble_eq_true rfl), (Nat.le_of_ble_eq_true rfl), (Nat.le_of_ble_eq_true rfl), (Nat.le_of_ble_eq_true rfl), (Nat.le_of_ble_eq_true rfl)⟩ dX0_turnToLay_62 ?_
    refine r_aload_n C dX0_turnToLay_65 rfl rfl ?_
    refine r_get C (j := 2) rfl in_X0 (GA_o GA_pG) (by decide) fl_X0_23 rfl rfl dX0_turnToLay_66 ?_
    refine r_aload_n C dX0_turnToLay_69 rfl rfl ?_
    refine r_get C (j := 6) rfl in_X0 (GA_o GA_pG) (by decide) fl_X0_43 rfl rfl dX0_turnToLay_70 ?_
    refine r_iconst C (v := 2) dX0_turnToLay_73 rfl ?_
    refine r_iconst C (v := 1) dX0_turnToLay_74 rfl ?_
    refine r_cVv C (c_increase2 GA_pG) lk_X0_95 rfl (GA_t2 GA_pG) rfl rfl ⟨(Nat.le_of_ble_eq_true rfl), (Nat.le_of_ble_eq_true rfl), (Nat.le_of_ble_eq_true rfl), (Nat.le_of_ble_eq_true rfl), (Nat.le_of_ble_eq_true rfl)⟩ dX0_turnToLay_75 ?_
    refine r_aload_n C dX0_turnToLay_78 rfl rfl ?_
    refine r_iload C dX0_turnToLay_79 rfl ?_
    refine r_iload_n C dX0_turnToLay_81 rfl rfl ?_
    refine r_iload_n C dX0_turnToLay_82 rfl rfl ?_
    refine r_cVv C (c_X0_putAtEnd GA_pG) lk_X0_105 rfl (GA_o GA_pG) rfl rfl ⟨(Nat.le_of_ble_eq_true rfl), (Nat.le_of_ble_eq_true rfl), (Nat.le_of_ble_eq_true rfl), (Nat.le_of_ble_eq_true rfl), (Nat.le_of_ble_eq_true rfl)⟩ dX0_turnToLay_83 ?_
    refine r_aload_n C dX0_turnToLay_86 rfl rfl ?_
    refine r_cVi C (c_X0_endTurn GA_pG) lk_X0_108 rfl (GA_o GA_pG) rfl rfl ⟨(Nat.le_of_ble_eq_true rfl), (Nat.le_of_ble_eq_true rfl), (Nat.le_of_ble_eq_true rfl), (Nat.le_of_ble_eq_true rfl), (Nat.le_of_ble_eq_true rfl)⟩ dX0_turnToLay_87 ?_
    exact r_iret C rfl (Nat.le_of_ble_eq_true rfl) (Nat.le_of_ble_eq_true rfl) ⟨by simp [g_lay, g_layA, g_lay3, g_lay2, g_lay1, g_layT, g_ref, c_11], by (try simp only [pG_pG]); exact congrArg (pG G h g) (by simp [g_lay, g_layA, g_lay3, g_lay2, g_lay1, g_layT, g_ref, c_11]), rfl⟩ dX0_turnToLay_90
  · refine r_aload_n C dX0_turnToLay_14 rfl rfl ?_
    refine r_dup C dX0_turnToLay_15 rfl ?_
    refine r_get C (j := 10) rfl in_X0 (GA_o w) (by decide) fl_X0_55 rfl rfl dX0_turnToLay_16 ?_
    refine r_iconst C (v := 1) dX0_turnToLay_19 rfl ?_
    refine r_iadd C dX0_turnToLay_20 ?_
    refine r_put C (j := 10) tyX0 tyX0_ok nmX0 rfl in_X0 (GA_o w) (by decide) fl_X0_55 rfl rfl rfl (by first | rfl | decide) (by first | rfl | decide) (Nat.le_of_ble_eq_true rfl) dX0_turnToLay_21 ?_
    refine V.heap (pG_num w 5 _ rfl) ?_
    refine r_iload C dX0_turnToLay_24 rfl ?_
    exact r_iret C rfl (Nat.le_of_ble_eq_true rfl) (Nat.le_of_ble_eq_true rfl) ⟨by simp [g_lay, g_layA, g_lay3, g_lay2, g_lay1, g_layT, g_ref, c_11], by (try simp only [pG_pG]); exact congrArg (pG G h g) (by simp [g_lay, g_layA, g_lay3, g_lay2, g_lay1, g_layT, g_ref, c_11]), rfl⟩ dX0_turnToLay_26

