/-! THE CONSTRUCTOR -/
theorem up_comm {h : HP} {a b : Nat} {e f : va_E} (d : a ≠ b) : up_ (up_ h a e) b f = up_ (up_ h b f) a e := by
  funext q
  by_cases c : q = b
  · rw [c, up_s, up_n (fun q => d q.symm), up_s]
  · rw [up_n c]
    by_cases c2 : q = a
    · rw [c2, up_s, up_s]
    · rw [up_n c2, up_n c2, up_n c]
theorem pT_up {G : ga_} {h : HP} {tr b : Nat} {hf of : Nat → Int32} {n : Int32} {e : va_E} (d : b < tr ∨ tr + 4 ≤ b) : pT G (up_ h b e) tr hf of n = up_ (pT G h tr hf of n) b e := by
  unfold pT
  rw [up_comm (show b ≠ tr by omega), up_comm (show b ≠ tr + 1 by omega), up_comm (show b ≠ tr + 2 by omega), up_comm (show b ≠ tr + 3 by omega)]
theorem pX_up {G : ga_} {h : HP} {tx b : Nat} {cf : Nat → Int32} {n : Int32} {e : va_E} (d : b < tx ∨ tx + 2 ≤ b) : pX G (up_ h b e) tx cf n = up_ (pX G h tx cf n) b e := by
  unfold pX
  rw [up_comm (show b ≠ tx by omega), up_comm (show b ≠ tx + 1 by omega)]
theorem pP_up {G : ga_} {h : HP} {pa b : Nat} {st : Nat → Option Nat} {nx z : Int32} {e : va_E} (d : b < pa ∨ pa + 2 ≤ b) : pP G (up_ h b e) pa st nx z = up_ (pP G h pa st nx z) b e := by
  unfold pP
  rw [up_comm (show b ≠ pa by omega), up_comm (show b ≠ pa + 1 by omega)]
theorem pT_bl {G : ga_} {h : HP} {tr : Nat} {hf of : Nat → Int32} {n : Int32} {e : va_E} : pT G (up_ h tr e) tr hf of n = pT G h tr hf of n := by
  unfold pT
  rw [up_up]
theorem pX_bl {G : ga_} {h : HP} {tx : Nat} {cf : Nat → Int32} {n : Int32} {e : va_E} : pX G (up_ h tx e) tx cf n = pX G h tx cf n := by
  unfold pX
  rw [up_up]
theorem pP_bl {G : ga_} {h : HP} {pa : Nat} {st : Nat → Option Nat} {nx z : Int32} {e : va_E} : pP G (up_ h pa e) pa st nx z = pP G h pa st nx z := by
  unfold pP
  rw [up_up]
/-- the heap as the constructor leaves it, ahead of the first game -/
def n_1 (G : ga_) (h : HP) (x : Nat) : HP := pG G h (x + 1) gS0
def n_3 (G : ga_) (h : HP) (x : Nat) : HP := pT G (n_1 G h x) (x + 12) (fun _ => 0) (fun _ => 0) 0
def n_4 (G : ga_) (h : HP) (x : Nat) : HP := pX G (n_3 G h x) (x + 16) (fun _ => 0) 0
def n_5 (G : ga_) (h : HP) (x : Nat) : HP := pP G (n_4 G h x) (x + 18) (fun _ => none) 0 0
def n_6 (G : ga_) (h : HP) (x : Nat) : HP := up_ (n_5 G h x) (x + 20) (aG_ G 2 (fun _ => none))
def n_7 (G : ga_) (h : HP) (x : Nat) : HP := up_ (n_6 G h x) x (ob_ 5 [.ref (x + 1), .ref (x + 12), .ref (x + 16), .ref (x + 18), .ref (x + 20)])
theorem n_ra {G : ga_} {h : HP} {x : Nat} {D : Nat → gS} : RA G (n_7 G h x) x (fun a => x + 21 ≤ a) (x + 21) gS0 (fun _ => none) (fun _ => none) D 0 0 (fun _ => 0) 0 := by
  have e7 : ∀ a, a ≠ x → n_7 G h x a = n_6 G h x a := fun a c => up_n c
  have e6 : ∀ a, a ≠ x + 20 → n_6 G h x a = n_5 G h x a := fun a c => up_n c
  have e5 : ∀ a, a < x + 18 → n_5 G h x a = n_4 G h x a := fun a c => pP_out (by omega)
  have e4 : ∀ a, a < x + 16 → n_4 G h x a = n_3 G h x a := fun a c => pX_out (by omega)
  have e3 : ∀ a, a < x + 12 → n_3 G h x a = n_1 G h x a := fun a c => pT_out (by omega)
  have w5 : PA G (n_5 G h x) (x + 18) (fun _ => none) (nI 0) (nI 0) := PA_pP
  have w4 : XA G (n_4 G h x) (x + 16) (fun _ => 0) (nI 0) := XA_pX
  have w3 : TA G (n_3 G h x) (x + 12) (fun _ => 0) (fun _ => 0) 0 := TA_pT
  have w1 : GA G (n_1 G h x) (x + 1) gS0 := GA_pG
  refine ⟨⟨Nat.le_refl _, fun _ q => q⟩, up_s _ _ _, w1.eq (fun a h1 h2 => ?_), trivial, ⟨fun _ => 0, fun _ => 0, 0, ?_, ?_, ?_, ?_⟩, ⟨?_, ?_⟩, ⟨?_, ?_⟩, ?_, ⟨fun _ q => q, fun i q hi hq => ?_, fun i j q r hi hj hij hq => ?_⟩, by decide, by decide, by decide⟩
  · rw [e7 _ (by omega), e6 _ (by omega), e5 _ (by omega), e4 _ (by omega), e3 _ (by omega)]
  · rw [e7 _ (by omega), e6 _ (by omega), e5 _ (by omega), e4 _ (by omega)]; exact w3.1
  · rw [e7 _ (by omega), e6 _ (by omega), e5 _ (by omega), e4 _ (by omega)]; exact w3.2.1
  · rw [e7 _ (by omega), e6 _ (by omega), e5 _ (by omega), e4 _ (by omega)]; exact w3.2.2.1
  · rw [e7 _ (by omega), e6 _ (by omega), e5 _ (by omega), e4 _ (by omega)]; exact w3.2.2.2
  · rw [e7 _ (by omega), e6 _ (by omega), e5 _ (by omega)]; exact w4.1
  · rw [e7 _ (by omega), e6 _ (by omega), e5 _ (by omega)]; exact w4.2
  · rw [e7 _ (by omega), e6 _ (by omega)]; exact w5.1
  · rw [e7 _ (by omega), e6 _ (by omega)]; exact w5.2
  · rw [e7 _ (by omega)]; unfold n_6; rw [up_s]
  · unfold gmI at hq; split at hq <;> cases hq
  · unfold gmI at hq; split at hq <;> cases hq
theorem n_out {G : ga_} {h : HP} {x a : Nat} (ha : a < x ∨ x + 21 ≤ a) : n_7 G h x a = h a := by
  unfold n_7
  rw [up_n (by omega)]
  unfold n_6
  rw [up_n (by omega)]
  unfold n_5
  rw [pP_out (by omega)]
  unfold n_4
  rw [pX_out (by omega)]
  unfold n_3
  rw [pT_out (by omega)]
  exact pG_out (by omega)
set_option maxHeartbeats 800000 in
set_option maxRecDepth 100000 in
theorem c_X5_init {G : ga_} {l : Launch} {h : HP} {x : Nat} (D : Nat → gS) (hx : h x = some (ob_ 5 [.null, .null, .null, .null, .null])) : Mg G l yX5_init cX5_init 1 none 5 110 60 1700 [.ref x] h (x + 1) (fun v h1 s1 => v = none ∧ s1 = x + 21 ∧ (∀ a, (a < x ∨ x + 21 ≤ a) → h1 a = h a) ∧ RA G h1 x (fun a => x + 21 ≤ a) (x + 21) (s_3 gS0 2 1) (fun _ => none) (fun _ => none) D 0 0 (fun _ => 0) 0) := by
  refine Mg.ofV [(0, .ref x)] (by decide) (Nat.le_of_ble_eq_true rfl) rfl ?_
  intro p e s m args below meth c C
  refine V.heap (up_id hx).symm ?_
  refine r_aload_n C dX5_init_0 rfl rfl ?_
  refine r_objInit C jl_X5_1 oi_inst oi_code (Nat.le_of_ble_eq_true rfl) (Nat.le_of_ble_eq_true rfl) dX5_init_1 ?_
  refine r_aload_n C dX5_init_4 rfl rfl ?_
  refine r_new C (ci := 0) (fs := [.null, .null, .null, .null, .null, .int 0, .int 0, .int 0, .int 0, .int 0, .int 0, .int 0, .int 0]) tyX0 tyX0_ok rfl in_X0 cl_X5_7 iz_X0 ii_X0 (fun j hj => by rcases (show j = 0 ∨ j = 1 ∨ j = 2 ∨ j = 3 ∨ j = 4 ∨ j = 5 ∨ j = 6 ∨ j = 7 ∨ j = 8 ∨ j = 9 ∨ j = 10 ∨ j = 11 ∨ j = 12 by omega) with rfl | rfl | rfl | rfl | rfl | rfl | rfl | rfl | rfl | rfl | rfl | rfl | rfl <;> rfl) (Nat.le_of_ble_eq_true rfl) (Nat.le_of_ble_eq_true rfl) dX5_init_5 ?_
  refine r_dup C dX5_init_8 rfl ?_
  refine r_cNv C (c_X0_init (up_s _ _ _)) lk_X5_9 rfl rfl ⟨(Nat.le_of_ble_eq_true rfl), (Nat.le_of_ble_eq_true rfl), (Nat.le_of_ble_eq_true rfl), (Nat.le_of_ble_eq_true rfl), (Nat.le_of_ble_eq_true rfl)⟩ dX5_init_9 ?_
  refine V.heap (show _ = (up_ (n_1 G h x) x (ob_ 5 [.null, .null, .null, .null, .null])) by rw [pG_bl, pG_up (by omega)]; rfl) ?_
  refine r_putF C (j := 0) tyX5 tyX5_ok nmX5 rfl in_X5 (up_s _ _ _) (by decide) fl_X5_10 rfl rfl rfl rfl rfl (by first | rfl | decide) (by first | rfl | decide) (Nat.le_of_ble_eq_true rfl) dX5_init_12 ?_
  refine V.heap (show _ = (up_ (n_1 G h x) x (ob_ 5 [.ref (x + 1), .null, .null, .null, .null])) from up_up _ _ _ _) ?_
  refine r_aload_n C dX5_init_15 rfl rfl ?_
  refine r_new C (ci := 4) (fs := [.null, .null, .int 0]) tyX4 tyX4_ok rfl in_X4 cl_X5_16 iz_X4 ii_X4 (fun j hj => by rcases (show j = 0 ∨ j = 1 ∨ j = 2 by omega) with rfl | rfl | rfl <;> rfl) (Nat.le_of_ble_eq_true rfl) (Nat.le_of_ble_eq_true rfl) dX5_init_16 ?_
  refine r_dup C dX5_init_19 rfl ?_
  refine r_cNv C (c_X4_init (up_s _ _ _)) lk_X5_18 rfl rfl ⟨(Nat.le_of_ble_eq_true rfl), (Nat.le_of_ble_eq_true rfl), (Nat.le_of_ble_eq_true rfl), (Nat.le_of_ble_eq_true rfl), (Nat.le_of_ble_eq_true rfl)⟩ dX5_init_20 ?_
  refine V.heap (show _ = (up_ (n_3 G h x) x (ob_ 5 [.ref (x + 1), .null, .null, .null, .null])) by rw [pT_bl, pT_up (by omega)]; rfl) ?_
  refine r_putF C (j := 1) tyX5 tyX5_ok nmX5 rfl in_X5 (up_s _ _ _) (by decide) fl_X5_19 rfl rfl rfl rfl rfl (by first | rfl | decide) (by first | rfl | decide) (Nat.le_of_ble_eq_true rfl) dX5_init_23 ?_
  refine V.heap (show _ = (up_ (n_3 G h x) x (ob_ 5 [.ref (x + 1), .ref (x + 12), .null, .null, .null])) from up_up _ _ _ _) ?_
  refine r_aload_n C dX5_init_26 rfl rfl ?_
  refine r_new C (ci := 3) (fs := [.null, .int 0]) tyX3 tyX3_ok rfl in_X3 cl_X5_23 iz_X3 ii_X3 (fun j hj => by rcases (show j = 0 ∨ j = 1 by omega) with rfl | rfl <;> rfl) (Nat.le_of_ble_eq_true rfl) (Nat.le_of_ble_eq_true rfl) dX5_init_27 ?_
  refine r_dup C dX5_init_30 rfl ?_
  refine r_cNv C (c_X3_init (up_s _ _ _)) lk_X5_25 rfl rfl ⟨(Nat.le_of_ble_eq_true rfl), (Nat.le_of_ble_eq_true rfl), (Nat.le_of_ble_eq_true rfl), (Nat.le_of_ble_eq_true rfl), (Nat.le_of_ble_eq_true rfl)⟩ dX5_init_31 ?_
  refine V.heap (show _ = (up_ (n_4 G h x) x (ob_ 5 [.ref (x + 1), .ref (x + 12), .null, .null, .null])) by rw [pX_bl, pX_up (by omega)]; rfl) ?_
  refine r_putF C (j := 2) tyX5 tyX5_ok nmX5 rfl in_X5 (up_s _ _ _) (by decide) fl_X5_26 rfl rfl rfl rfl rfl (by first | rfl | decide) (by first | rfl | decide) (Nat.le_of_ble_eq_true rfl) dX5_init_34 ?_
  refine V.heap (show _ = (up_ (n_4 G h x) x (ob_ 5 [.ref (x + 1), .ref (x + 12), .ref (x + 16), .null, .null])) from up_up _ _ _ _) ?_
  refine r_aload_n C dX5_init_37 rfl rfl ?_
  refine r_new C (ci := 1) (fs := [.null, .int 0, .int 0]) tyX1 tyX1_ok rfl in_X1 cl_X5_30 iz_X1 ii_X1 (fun j hj => by rcases (show j = 0 ∨ j = 1 ∨ j = 2 by omega) with rfl | rfl | rfl <;> rfl) (Nat.le_of_ble_eq_true rfl) (Nat.le_of_ble_eq_true rfl) dX5_init_38 ?_
  refine r_dup C dX5_init_41 rfl ?_
  refine r_cNv C (c_X1_init (up_s _ _ _)) lk_X5_32 rfl rfl ⟨(Nat.le_of_ble_eq_true rfl), (Nat.le_of_ble_eq_true rfl), (Nat.le_of_ble_eq_true rfl), (Nat.le_of_ble_eq_true rfl), (Nat.le_of_ble_eq_true rfl)⟩ dX5_init_42 ?_
  refine V.heap (show _ = (up_ (n_5 G h x) x (ob_ 5 [.ref (x + 1), .ref (x + 12), .ref (x + 16), .null, .null])) by rw [pP_bl, pP_up (by omega)]; rfl) ?_
  refine r_putF C (j := 3) tyX5 tyX5_ok nmX5 rfl in_X5 (up_s _ _ _) (by decide) fl_X5_33 rfl rfl rfl rfl rfl (by first | rfl | decide) (by first | rfl | decide) (Nat.le_of_ble_eq_true rfl) dX5_init_45 ?_
  refine V.heap (show _ = (up_ (n_5 G h x) x (ob_ 5 [.ref (x + 1), .ref (x + 12), .ref (x + 16), .ref (x + 18), .null])) from up_up _ _ _ _) ?_
  refine r_aload_n C dX5_init_48 rfl rfl ?_
  refine r_iconst C (v := 2) dX5_init_49 rfl ?_
  refine r_newG C cl_X5_7 (by decide) rfl (Nat.le_of_ble_eq_true rfl) (Nat.le_of_ble_eq_true rfl) (Nat.le_of_ble_eq_true rfl) dX5_init_50 ?_
  refine V.heap (show _ = (up_ (n_6 G h x) x (ob_ 5 [.ref (x + 1), .ref (x + 12), .ref (x + 16), .ref (x + 18), .null])) by rw [up_comm (show x ≠ x + 20 by omega)]; rfl) ?_
  refine r_putF C (j := 4) tyX5 tyX5_ok nmX5 rfl in_X5 (up_s _ _ _) (by decide) fl_X5_37 rfl rfl rfl rfl rfl (by first | rfl | decide) (by first | rfl | decide) (Nat.le_of_ble_eq_true rfl) dX5_init_53 ?_
  refine V.heap (show _ = n_7 G h x from up_up _ _ _ _) ?_
  refine r_aload_n C dX5_init_56 rfl rfl ?_
  refine r_get C (j := 0) rfl in_X5 ((n_ra (D := D)).2.1) (by decide) fl_X5_10 rfl rfl dX5_init_57 ?_
  refine r_iconst C (v := 2) dX5_init_60 rfl ?_
  refine r_iconst C (v := 1) dX5_init_61 rfl ?_
  refine r_cVv C (c_X0_start (n_ra (D := D)).2.2.1) lk_X5_41 rfl (GA_o (n_ra (D := D)).2.2.1) rfl rfl ⟨(Nat.le_of_ble_eq_true rfl), (Nat.le_of_ble_eq_true rfl), (Nat.le_of_ble_eq_true rfl), (Nat.le_of_ble_eq_true rfl), (Nat.le_of_ble_eq_true rfl)⟩ dX5_init_62 ?_
  exact r_vret C rfl (Nat.le_of_ble_eq_true rfl) (Nat.le_of_ble_eq_true rfl) ⟨rfl, rfl, fun a ha => (pG_out (by omega)).trans (n_out ha), RA_G n_ra⟩ dX5_init_65
