/-! MAKING: Table(rows, columns), Game(), Game.become -/
theorem tab_made {G : ga_} {h : HP} {t sz N : Nat} {c0 : Int32} (hts : t < sz) : up_ (up_ (up_ h t (ob_ 2 [.int c0, .null])) sz (aI_ G N (fun _ => 0))) t (ob_ 2 [.int c0, .ref sz]) = up_ (up_ h t (ob_ 2 [.int c0, .ref sz])) sz (aI_ G N (fun _ => 0)) := by
  funext q
  by_cases e1 : q = t
  · subst e1; rw [up_s, up_n (Nat.ne_of_lt hts), up_s]
  · rw [up_n e1]
    by_cases e2 : q = sz
    · subst e2; rw [up_s, up_s]
    · rw [up_n e2, up_n e2, up_n e1, up_n e1]
set_option maxHeartbeats 800000 in
set_option maxRecDepth 100000 in
theorem c_X2_init {G : ga_} {l : Launch} {h : HP} {sz : Nat} {t N : Nat} {r c0 : Int32} (hT : h t = some (ob_ 2 [.int 0, .null])) (hts : t < sz) (hN : r * c0 = nI N) (hn : N < 1000000) : Mf G l yX2_init cX2_init 3 none 1 14 1 N [.ref t, .int r, .int c0] h sz none (up_ (up_ h t (ob_ 2 [.int c0, .ref sz])) sz (aI_ G N (fun _ => 0))) (sz + 1) := by
  refine Mg.ofV [(0, .ref t), (1, .int r), (2, .int c0)] (by decide) (Nat.le_of_ble_eq_true rfl) rfl ?_
  intro p e s m args below meth c C

  have hm : (if r * c0 < 0 then (0 : Int32) else r * c0) = nI N := by rw [hN, if_neg (nI_pos (by omega))]
  refine r_aload_n C dX2_init_0 rfl rfl ?_
  refine r_objInit C jl_X2_3 oi_inst oi_code (Nat.le_of_ble_eq_true rfl) (Nat.le_of_ble_eq_true rfl) dX2_init_1 ?_
  refine r_aload_n C dX2_init_4 rfl rfl ?_
  refine r_iload_n C dX2_init_5 rfl rfl ?_
  refine r_putF C (j := 0) tyX2 tyX2_ok nmX2 rfl in_X2 (hT) (by decide) fl_X2_9 rfl rfl rfl rfl rfl (by first | rfl | decide) (by first | rfl | decide) (Nat.le_of_ble_eq_true rfl) dX2_init_6 ?_
  refine r_aload_n C dX2_init_9 rfl rfl ?_
  refine r_iload_n C dX2_init_10 rfl rfl ?_
  refine r_iload_n C dX2_init_11 rfl rfl ?_
  refine r_imul C dX2_init_12 ?_
  refine r_iconst C (v := 0) dX2_init_13 rfl ?_
  refine r_mmax C jl_X2_15 mx_st ma_ii mx_code (Nat.le_of_ble_eq_true rfl) (Nat.le_of_ble_eq_true rfl) (Nat.zero_le _) (Nat.zero_le _) dX2_init_14 ?_
  rw [hm]
  refine r_newaI C ac_int (nI_pos (by omega)) (nI_clamp (by omega)) (by omega) (by show 0 + 1 ≤ 1; omega) (by show 0 + N ≤ N; omega) dX2_init_17 ?_
  refine r_putF C (j := 1) tyX2 tyX2_ok nmX2 rfl in_X2 ((by rw [up_n (Nat.ne_of_lt hts), up_s])) (by decide) fl_X2_21 rfl rfl rfl rfl rfl (by first | rfl | decide) (by first | rfl | decide) (Nat.le_of_ble_eq_true rfl) dX2_init_19 ?_
  exact r_vret C rfl (by show 0 + 1 ≤ 1; omega) (by show 0 + N ≤ N; omega) ⟨rfl, tab_made hts, rfl⟩ dX2_init_22
/-- a game as it is made -/
def gS0 : gS := fun j k => if j = 5 ∧ k = 7 then 3 else 0
theorem gz0 {G : ga_} {g : Nat} : gC G g gS0 0 = ob_ 0 [.ref (g + 1), .ref (g + 3), .ref (g + 5), .ref (g + 7), .ref (g + 9), .int 0, .int 0, .int 0, .int 0, .int 0, .int 0, .int 0, .int 3] := rfl
theorem gz1 {G : ga_} {g : Nat} : gC G g gS0 1 = ob_ 2 [.int 7, .ref (g + 2)] := rfl
theorem gz2 {G : ga_} {g : Nat} : gC G g gS0 2 = aI_ G 196 (fun _ => 0) := rfl
theorem gz3 {G : ga_} {g : Nat} : gC G g gS0 3 = ob_ 2 [.int 28, .ref (g + 4)] := rfl
theorem gz4 {G : ga_} {g : Nat} : gC G g gS0 4 = aI_ G 112 (fun _ => 0) := rfl
theorem gz5 {G : ga_} {g : Nat} : gC G g gS0 5 = ob_ 2 [.int 4, .ref (g + 6)] := rfl
theorem gz6 {G : ga_} {g : Nat} : gC G g gS0 6 = aI_ G 16 (fun _ => 0) := rfl
theorem gz7 {G : ga_} {g : Nat} : gC G g gS0 7 = ob_ 2 [.int 4, .ref (g + 8)] := rfl
theorem gz8 {G : ga_} {g : Nat} : gC G g gS0 8 = aI_ G 12 (fun _ => 0) := rfl
theorem gz9 {G : ga_} {g : Nat} : gC G g gS0 9 = ob_ 2 [.int 28, .ref (g + 10)] := rfl
theorem gz10 {G : ga_} {g : Nat} : gC G g gS0 10 = aI_ G 28 (fun _ => 0) := rfl
theorem init_heap {G : ga_} {h : HP} {g : Nat} {f0 f1 f2 f3 f4 f5 f6 f7 f8 f9 f10 : va_E} {H : HP} (e0 : f0 = gC G g gS0 0) (e1 : f1 = gC G g gS0 1) (e2 : f2 = gC G g gS0 2) (e3 : f3 = gC G g gS0 3) (e4 : f4 = gC G g gS0 4) (e5 : f5 = gC G g gS0 5) (e6 : f6 = gC G g gS0 6) (e7 : f7 = gC G g gS0 7) (e8 : f8 = gC G g gS0 8) (e9 : f9 = gC G g gS0 9) (e10 : f10 = gC G g gS0 10)
    (hH : ∀ a, H a = if a = g then some f0 else if a = g + 1 then some f1 else if a = g + 2 then some f2 else if a = g + 3 then some f3 else if a = g + 4 then some f4 else if a = g + 5 then some f5 else if a = g + 6 then some f6 else if a = g + 7 then some f7 else if a = g + 8 then some f8 else if a = g + 9 then some f9 else if a = g + 10 then some f10 else h a) : H = pG G h g gS0 := by
  funext a
  rw [hH]
  by_cases c : g ≤ a ∧ a < g + 11
  · rw [pG_in c.1 c.2]
    obtain ⟨j, rfl⟩ : ∃ j, a = g + j := ⟨a - g, by omega⟩
    rw [Nat.add_sub_cancel_left]
    subst e0 e1 e2 e3 e4 e5 e6 e7 e8 e9 e10
    have hj : j < 11 := by omega
    revert j
    intro j _ hj
    match j, hj with
    | 0, _ => simp
    | 1, _ => simp
    | 2, _ => simp
    | 3, _ => simp
    | 4, _ => simp
    | 5, _ => simp
    | 6, _ => simp
    | 7, _ => simp
    | 8, _ => simp
    | 9, _ => simp
    | 10, _ => simp
  · rw [pG_out (by omega)]
    rw [if_neg (by omega), if_neg (by omega), if_neg (by omega), if_neg (by omega), if_neg (by omega), if_neg (by omega), if_neg (by omega), if_neg (by omega), if_neg (by omega), if_neg (by omega), if_neg (by omega)]
set_option maxHeartbeats 800000 in
set_option maxRecDepth 100000 in
theorem c_X0_init {G : ga_} {l : Launch} {h : HP} {g : Nat} (hG : h g = some (ob_ 0 [.null, .null, .null, .null, .null, .int 0, .int 0, .int 0, .int 0, .int 0, .int 0, .int 0, .int 0])) : Mf G l yX0_init cX0_init 1 none 2 36 10 374 [.ref g] h (g + 1) none (pG G h g gS0) (g + 11) := by
  refine Mg.ofV [(0, .ref g)] (by decide) (Nat.le_of_ble_eq_true rfl) rfl ?_
  intro p e s m args below meth c C

  refine r_aload_n C dX0_init_0 rfl rfl ?_
  refine r_objInit C jl_X0_3 oi_inst oi_code (Nat.le_of_ble_eq_true rfl) (Nat.le_of_ble_eq_true rfl) dX0_init_1 ?_
  refine r_aload_n C dX0_init_4 rfl rfl ?_
  refine r_new C (ci := 2) (fs := [.int 0, .null]) tyX2 tyX2_ok rfl in_X2 cl_X0_9 iz_X2 ii_X2 (fun j hj => by rcases (show j = 0 ∨ j = 1 by omega) with rfl | rfl <;> rfl) (Nat.le_of_ble_eq_true rfl) (Nat.le_of_ble_eq_true rfl) dX0_init_5 ?_
  refine r_dup C dX0_init_8 rfl ?_
  refine r_bipush C (v := 28) dX0_init_9 rfl ?_
  refine r_bipush C (v := 7) dX0_init_11 rfl ?_
  refine r_cIv C (c_X2_init (N := 196) (by simp [up_, Nat.add_assoc]) (by omega) (by decide) (by decide)) lk_X0_11 rfl rfl ⟨(Nat.le_of_ble_eq_true rfl), (Nat.le_of_ble_eq_true rfl), (Nat.le_of_ble_eq_true rfl), (Nat.le_of_ble_eq_true rfl), (Nat.le_of_ble_eq_true rfl)⟩ dX0_init_13 ?_
  refine r_putF C (j := 0) tyX0 tyX0_ok nmX0 rfl in_X0 ((show _ = some (ob_ 0 [.null, .null, .null, .null, .null, .int 0, .int 0, .int 0, .int 0, .int 0, .int 0, .int 0, .int 0]) by simp [up_, hG, Nat.add_assoc])) (by decide) fl_X0_14 rfl rfl rfl rfl rfl (by first | rfl | decide) (by first | rfl | decide) (Nat.le_of_ble_eq_true rfl) dX0_init_16 ?_
  refine r_aload_n C dX0_init_19 rfl rfl ?_
  refine r_new C (ci := 2) (fs := [.int 0, .null]) tyX2 tyX2_ok rfl in_X2 cl_X0_9 iz_X2 ii_X2 (fun j hj => by rcases (show j = 0 ∨ j = 1 by omega) with rfl | rfl <;> rfl) (Nat.le_of_ble_eq_true rfl) (Nat.le_of_ble_eq_true rfl) dX0_init_20 ?_
  refine r_dup C dX0_init_23 rfl ?_
  refine r_iconst C (v := 4) dX0_init_24 rfl ?_
  refine r_bipush C (v := 28) dX0_init_25 rfl ?_
  refine r_cIv C (c_X2_init (N := 112) (by simp [up_, Nat.add_assoc]) (by omega) (by decide) (by decide)) lk_X0_11 rfl rfl ⟨(Nat.le_of_ble_eq_true rfl), (Nat.le_of_ble_eq_true rfl), (Nat.le_of_ble_eq_true rfl), (Nat.le_of_ble_eq_true rfl), (Nat.le_of_ble_eq_true rfl)⟩ dX0_init_27 ?_
  refine r_putF C (j := 1) tyX0 tyX0_ok nmX0 rfl in_X0 ((show _ = some (ob_ 0 [.ref (g + 1), .null, .null, .null, .null, .int 0, .int 0, .int 0, .int 0, .int 0, .int 0, .int 0, .int 0]) by simp [up_, hG, Nat.add_assoc])) (by decide) fl_X0_20 rfl rfl rfl rfl rfl (by first | rfl | decide) (by first | rfl | decide) (Nat.le_of_ble_eq_true rfl) dX0_init_30 ?_
  refine r_aload_n C dX0_init_33 rfl rfl ?_
  refine r_new C (ci := 2) (fs := [.int 0, .null]) tyX2 tyX2_ok rfl in_X2 cl_X0_9 iz_X2 ii_X2 (fun j hj => by rcases (show j = 0 ∨ j = 1 by omega) with rfl | rfl <;> rfl) (Nat.le_of_ble_eq_true rfl) (Nat.le_of_ble_eq_true rfl) dX0_init_34 ?_
  refine r_dup C dX0_init_37 rfl ?_
  refine r_iconst C (v := 4) dX0_init_38 rfl ?_
  refine r_iconst C (v := 4) dX0_init_39 rfl ?_
  refine r_cIv C (c_X2_init (N := 16) (by simp [up_, Nat.add_assoc]) (by omega) (by decide) (by decide)) lk_X0_11 rfl rfl ⟨(Nat.le_of_ble_eq_true rfl), (Nat.le_of_ble_eq_true rfl), (Nat.le_of_ble_eq_true rfl), (Nat.le_of_ble_eq_true rfl), (Nat.le_of_ble_eq_true rfl)⟩ dX0_init_40 ?_
  refine r_putF C (j := 2) tyX0 tyX0_ok nmX0 rfl in_X0 ((show _ = some (ob_ 0 [.ref (g + 1), .ref (g + 3), .null, .null, .null, .int 0, .int 0, .int 0, .int 0, .int 0, .int 0, .int 0, .int 0]) by simp [up_, hG, Nat.add_assoc])) (by decide) fl_X0_23 rfl rfl rfl rfl rfl (by first | rfl | decide) (by first | rfl | decide) (Nat.le_of_ble_eq_true rfl) dX0_init_43 ?_
  refine r_aload_n C dX0_init_46 rfl rfl ?_
  refine r_new C (ci := 2) (fs := [.int 0, .null]) tyX2 tyX2_ok rfl in_X2 cl_X0_9 iz_X2 ii_X2 (fun j hj => by rcases (show j = 0 ∨ j = 1 by omega) with rfl | rfl <;> rfl) (Nat.le_of_ble_eq_true rfl) (Nat.le_of_ble_eq_true rfl) dX0_init_47 ?_
  refine r_dup C dX0_init_50 rfl ?_
  refine r_iconst C (v := 3) dX0_init_51 rfl ?_
  refine r_iconst C (v := 4) dX0_init_52 rfl ?_
  refine r_cIv C (c_X2_init (N := 12) (by simp [up_, Nat.add_assoc]) (by omega) (by decide) (by decide)) lk_X0_11 rfl rfl ⟨(Nat.le_of_ble_eq_true rfl), (Nat.le_of_ble_eq_true rfl), (Nat.le_of_ble_eq_true rfl), (Nat.le_of_ble_eq_true rfl), (Nat.le_of_ble_eq_true rfl)⟩ dX0_init_53 ?_
  refine r_putF C (j := 3) tyX0 tyX0_ok nmX0 rfl in_X0 ((show _ = some (ob_ 0 [.ref (g + 1), .ref (g + 3), .ref (g + 5), .null, .null, .int 0, .int 0, .int 0, .int 0, .int 0, .int 0, .int 0, .int 0]) by simp [up_, hG, Nat.add_assoc])) (by decide) fl_X0_26 rfl rfl rfl rfl rfl (by first | rfl | decide) (by first | rfl | decide) (Nat.le_of_ble_eq_true rfl) dX0_init_56 ?_
  refine r_aload_n C dX0_init_59 rfl rfl ?_
  refine r_new C (ci := 2) (fs := [.int 0, .null]) tyX2 tyX2_ok rfl in_X2 cl_X0_9 iz_X2 ii_X2 (fun j hj => by rcases (show j = 0 ∨ j = 1 by omega) with rfl | rfl <;> rfl) (Nat.le_of_ble_eq_true rfl) (Nat.le_of_ble_eq_true rfl) dX0_init_60 ?_
  refine r_dup C dX0_init_63 rfl ?_
  refine r_iconst C (v := 1) dX0_init_64 rfl ?_
  refine r_bipush C (v := 28) dX0_init_65 rfl ?_
  refine r_cIv C (c_X2_init (N := 28) (by simp [up_, Nat.add_assoc]) (by omega) (by decide) (by decide)) lk_X0_11 rfl rfl ⟨(Nat.le_of_ble_eq_true rfl), (Nat.le_of_ble_eq_true rfl), (Nat.le_of_ble_eq_true rfl), (Nat.le_of_ble_eq_true rfl), (Nat.le_of_ble_eq_true rfl)⟩ dX0_init_67 ?_
  refine r_putF C (j := 4) tyX0 tyX0_ok nmX0 rfl in_X0 ((show _ = some (ob_ 0 [.ref (g + 1), .ref (g + 3), .ref (g + 5), .ref (g + 7), .null, .int 0, .int 0, .int 0, .int 0, .int 0, .int 0, .int 0, .int 0]) by simp [up_, hG, Nat.add_assoc])) (by decide) fl_X0_29 rfl rfl rfl rfl rfl (by first | rfl | decide) (by first | rfl | decide) (Nat.le_of_ble_eq_true rfl) dX0_init_70 ?_
  refine r_aload_n C dX0_init_73 rfl rfl ?_
  refine r_iconst C (v := 3) dX0_init_74 rfl ?_
  refine r_put C (j := 12) tyX0 tyX0_ok nmX0 rfl in_X0 ((show _ = some (ob_ 0 [.ref (g + 1), .ref (g + 3), .ref (g + 5), .ref (g + 7), .ref (g + 9), .int 0, .int 0, .int 0, .int 0, .int 0, .int 0, .int 0, .int 0]) by simp [up_, hG, Nat.add_assoc])) (by decide) fl_X0_32 rfl rfl rfl (by first | rfl | decide) (by first | rfl | decide) (Nat.le_of_ble_eq_true rfl) dX0_init_75 ?_
  refine r_vret C rfl (Nat.le_of_ble_eq_true rfl) (Nat.le_of_ble_eq_true rfl) ⟨rfl, ?_, rfl⟩ dX0_init_78
  refine init_heap rfl rfl rfl rfl rfl rfl rfl rfl rfl rfl rfl (fun a => ?_)
  simp only [up_, gz0, gz1, gz2, gz3, gz4, gz5, gz6, gz7, gz8, gz9, gz10, Nat.add_assoc, Nat.reduceAdd]
  by_cases c0 : a = g
  · subst c0; simp
  by_cases c1 : a = g + 1
  · subst c1; simp
  by_cases c2 : a = g + 2
  · subst c2; simp
  by_cases c3 : a = g + 3
  · subst c3; simp
  by_cases c4 : a = g + 4
  · subst c4; simp
  by_cases c5 : a = g + 5
  · subst c5; simp
  by_cases c6 : a = g + 6
  · subst c6; simp
  by_cases c7 : a = g + 7
  · subst c7; simp
  by_cases c8 : a = g + 8
  · subst c8; simp
  by_cases c9 : a = g + 9
  · subst c9; simp
  by_cases c10 : a = g + 10
  · subst c10; simp
  simp [c0, c1, c2, c3, c4, c5, c6, c7, c8, c9, c10]
theorem GA_other {G : ga_} {h : HP} {g g2 : Nat} {S S2 : gS} (w2 : GA G h g2 S2) (hd : g2 + 11 ≤ g ∨ g + 11 ≤ g2) : GA G (pG G h g S) g2 S2 := fun j hj => by rw [pG_out (by omega)]; exact w2 j hj
def g_bt (S S2 : gS) : gS := gu (gu (gu (gu (gu S 0 (va_cpy (S2 0) (S 0) 0 0 196)) 1 (va_cpy (S2 1) (S 1) 0 0 112)) 2 (va_cpy (S2 2) (S 2) 0 0 16)) 3 (va_cpy (S2 3) (S 3) 0 0 12)) 4 (va_cpy (S2 4) (S 4) 0 0 28)
def g_bec (S S2 : gS) : gS := gc (gc (gc (gc (gc (gc (gc (gc (g_bt S S2) 0 (S2 5 0)) 1 (S2 5 1)) 2 (S2 5 2)) 3 (S2 5 3)) 4 (S2 5 4)) 5 (S2 5 5)) 6 (S2 5 6)) 7 (S2 5 7)
set_option maxHeartbeats 800000 in
set_option maxRecDepth 100000 in
theorem c_X0_become {G : ga_} {l : Launch} {h : HP} {sz : Nat} {g g2 : Nat} {S S2 : gS} (w : GA G h g S) (w2 : GA G h g2 S2) (hd : g2 + 11 ≤ g ∨ g + 11 ≤ g2) : Mf G l yX0_become cX0_become 2 none 2 51 0 0 [.ref g, .ref g2] h sz none (pG G h g (g_bec S S2)) sz := by
  refine Mg.ofV [(0, .ref g), (1, .ref g2)] (by decide) (Nat.le_of_ble_eq_true rfl) rfl ?_
  intro p e s m args below meth c C

  refine r_aload_n C dX0_become_0 rfl rfl ?_
  refine r_ifnonnull C 5 dX0_become_1 (by decide) ?_
  refine r_aload_n C dX0_become_5 rfl rfl ?_
  refine r_get C (j := 0) rfl in_X0 (GA_o w) (by decide) fl_X0_14 rfl rfl dX0_become_6 ?_
  refine r_aload_n C dX0_become_9 rfl rfl ?_
  refine r_get C (j := 0) rfl in_X0 (GA_o w2) (by decide) fl_X0_14 rfl rfl dX0_become_10 ?_
  refine r_cVv C (c_become0 w w2) lk_X0_36 rfl (GA_t0 w) rfl rfl ⟨(Nat.le_of_ble_eq_true rfl), (Nat.le_of_ble_eq_true rfl), (Nat.le_of_ble_eq_true rfl), (Nat.le_of_ble_eq_true rfl), (Nat.le_of_ble_eq_true rfl)⟩ dX0_become_13 ?_
  refine r_aload_n C dX0_become_16 rfl rfl ?_
  refine r_get C (j := 1) rfl in_X0 (GA_o GA_pG) (by decide) fl_X0_20 rfl rfl dX0_become_17 ?_
  refine r_aload_n C dX0_become_20 rfl rfl ?_
  refine r_get C (j := 1) rfl in_X0 (GA_o (GA_other w2 hd)) (by decide) fl_X0_20 rfl rfl dX0_become_21 ?_
  refine r_cVv C (c_become1 GA_pG (GA_other w2 hd)) lk_X0_36 rfl (GA_t1 GA_pG) rfl rfl ⟨(Nat.le_of_ble_eq_true rfl), (Nat.le_of_ble_eq_true rfl), (Nat.le_of_ble_eq_true rfl), (Nat.le_of_ble_eq_true rfl), (Nat.le_of_ble_eq_true rfl)⟩ dX0_become_24 ?_
  refine V.heap (pG_pG _ _ _ _ _) ?_
  refine r_aload_n C dX0_become_27 rfl rfl ?_
  refine r_get C (j := 2) rfl in_X0 (GA_o GA_pG) (by decide) fl_X0_23 rfl rfl dX0_become_28 ?_
  refine r_aload_n C dX0_become_31 rfl rfl ?_
  refine r_get C (j := 2) rfl in_X0 (GA_o (GA_other w2 hd)) (by decide) fl_X0_23 rfl rfl dX0_become_32 ?_
  refine r_cVv C (c_become2 GA_pG (GA_other w2 hd)) lk_X0_36 rfl (GA_t2 GA_pG) rfl rfl ⟨(Nat.le_of_ble_eq_true rfl), (Nat.le_of_ble_eq_true rfl), (Nat.le_of_ble_eq_true rfl), (Nat.le_of_ble_eq_true rfl), (Nat.le_of_ble_eq_true rfl)⟩ dX0_become_35 ?_
  refine V.heap (pG_pG _ _ _ _ _) ?_
  refine r_aload_n C dX0_become_38 rfl rfl ?_
  refine r_get C (j := 3) rfl in_X0 (GA_o GA_pG) (by decide) fl_X0_26 rfl rfl dX0_become_39 ?_
  refine r_aload_n C dX0_become_42 rfl rfl ?_
  refine r_get C (j := 3) rfl in_X0 (GA_o (GA_other w2 hd)) (by decide) fl_X0_26 rfl rfl dX0_become_43 ?_
  refine r_cVv C (c_become3 GA_pG (GA_other w2 hd)) lk_X0_36 rfl (GA_t3 GA_pG) rfl rfl ⟨(Nat.le_of_ble_eq_true rfl), (Nat.le_of_ble_eq_true rfl), (Nat.le_of_ble_eq_true rfl), (Nat.le_of_ble_eq_true rfl), (Nat.le_of_ble_eq_true rfl)⟩ dX0_become_46 ?_
  refine V.heap (pG_pG _ _ _ _ _) ?_
  refine r_aload_n C dX0_become_49 rfl rfl ?_
  refine r_get C (j := 4) rfl in_X0 (GA_o GA_pG) (by decide) fl_X0_29 rfl rfl dX0_become_50 ?_
  refine r_aload_n C dX0_become_53 rfl rfl ?_
  refine r_get C (j := 4) rfl in_X0 (GA_o (GA_other w2 hd)) (by decide) fl_X0_29 rfl rfl dX0_become_54 ?_
  refine r_cVv C (c_become4 GA_pG (GA_other w2 hd)) lk_X0_36 rfl (GA_t4 GA_pG) rfl rfl ⟨(Nat.le_of_ble_eq_true rfl), (Nat.le_of_ble_eq_true rfl), (Nat.le_of_ble_eq_true rfl), (Nat.le_of_ble_eq_true rfl), (Nat.le_of_ble_eq_true rfl)⟩ dX0_become_57 ?_
  refine V.heap (pG_pG _ _ _ _ _) ?_
  refine r_aload_n C dX0_become_60 rfl rfl ?_
  refine r_aload_n C dX0_become_61 rfl rfl ?_
  refine r_get C (j := 5) rfl in_X0 (GA_o (GA_other w2 hd)) (by decide) fl_X0_40 rfl rfl dX0_become_62 ?_
  refine r_put C (j := 5) tyX0 tyX0_ok nmX0 rfl in_X0 (GA_o GA_pG) (by decide) fl_X0_40 rfl rfl rfl (by first | rfl | decide) (by first | rfl | decide) (Nat.le_of_ble_eq_true rfl) dX0_become_65 ?_
  refine V.heap (pG_num GA_pG 0 _ rfl) ?_
  refine V.heap (pG_pG _ _ _ _ _) ?_
  refine r_aload_n C dX0_become_68 rfl rfl ?_
  refine r_aload_n C dX0_become_69 rfl rfl ?_
  refine r_get C (j := 6) rfl in_X0 (GA_o (GA_other w2 hd)) (by decide) fl_X0_43 rfl rfl dX0_become_70 ?_
  refine r_put C (j := 6) tyX0 tyX0_ok nmX0 rfl in_X0 (GA_o GA_pG) (by decide) fl_X0_43 rfl rfl rfl (by first | rfl | decide) (by first | rfl | decide) (Nat.le_of_ble_eq_true rfl) dX0_become_73 ?_
  refine V.heap (pG_num GA_pG 1 _ rfl) ?_
  refine V.heap (pG_pG _ _ _ _ _) ?_
  refine r_aload_n C dX0_become_76 rfl rfl ?_
  refine r_aload_n C dX0_become_77 rfl rfl ?_
  refine r_get C (j := 7) rfl in_X0 (GA_o (GA_other w2 hd)) (by decide) fl_X0_46 rfl rfl dX0_become_78 ?_
  refine r_put C (j := 7) tyX0 tyX0_ok nmX0 rfl in_X0 (GA_o GA_pG) (by decide) fl_X0_46 rfl rfl rfl (by first | rfl | decide) (by first | rfl | decide) (Nat.le_of_ble_eq_true rfl) dX0_become_81 ?_
  refine V.heap (pG_num GA_pG 2 _ rfl) ?_
  refine V.heap (pG_pG _ _ _ _ _) ?_
  refine r_aload_n C dX0_become_84 rfl rfl ?_
  refine r_aload_n C dX0_become_85 rfl rfl ?_
  refine r_get C (j := 8) rfl in_X0 (GA_o (GA_other w2 hd)) (by decide) fl_X0_49 rfl rfl dX0_become_86 ?_
  refine r_put C (j := 8) tyX0 tyX0_ok nmX0 rfl in_X0 (GA_o GA_pG) (by decide) fl_X0_49 rfl rfl rfl (by first | rfl | decide) (by first | rfl | decide) (Nat.le_of_ble_eq_true rfl) dX0_become_89 ?_
  refine V.heap (pG_num GA_pG 3 _ rfl) ?_
  refine V.heap (pG_pG _ _ _ _ _) ?_
  refine r_aload_n C dX0_become_92 rfl rfl ?_
  refine r_aload_n C dX0_become_93 rfl rfl ?_
  refine r_get C (j := 9) rfl in_X0 (GA_o (GA_other w2 hd)) (by decide) fl_X0_52 rfl rfl dX0_become_94 ?_
  refine r_put C (j := 9) tyX0 tyX0_ok nmX0 rfl in_X0 (GA_o GA_pG) (by decide) fl_X0_52 rfl rfl rfl (by first | rfl | decide) (by first | rfl | decide) (Nat.le_of_ble_eq_true rfl) dX0_become_97 ?_
  refine V.heap (pG_num GA_pG 4 _ rfl) ?_
  refine V.heap (pG_pG _ _ _ _ _) ?_
  refine r_aload_n C dX0_become_100 rfl rfl ?_
  refine r_aload_n C dX0_become_101 rfl rfl ?_
  refine r_get C (j := 10) rfl in_X0 (GA_o (GA_other w2 hd)) (by decide) fl_X0_55 rfl rfl dX0_become_102 ?_
  refine r_put C (j := 10) tyX0 tyX0_ok nmX0 rfl in_X0 (GA_o GA_pG) (by decide) fl_X0_55 rfl rfl rfl (by first | rfl | decide) (by first | rfl | decide) (Nat.le_of_ble_eq_true rfl) dX0_become_105 ?_
  refine V.heap (pG_num GA_pG 5 _ rfl) ?_
  refine V.heap (pG_pG _ _ _ _ _) ?_
  refine r_aload_n C dX0_become_108 rfl rfl ?_
  refine r_aload_n C dX0_become_109 rfl rfl ?_
  refine r_get C (j := 11) rfl in_X0 (GA_o (GA_other w2 hd)) (by decide) fl_X0_58 rfl rfl dX0_become_110 ?_
  refine r_put C (j := 11) tyX0 tyX0_ok nmX0 rfl in_X0 (GA_o GA_pG) (by decide) fl_X0_58 rfl rfl rfl (by first | rfl | decide) (by first | rfl | decide) (Nat.le_of_ble_eq_true rfl) dX0_become_113 ?_
  refine V.heap (pG_num GA_pG 6 _ rfl) ?_
  refine V.heap (pG_pG _ _ _ _ _) ?_
  refine r_aload_n C dX0_become_116 rfl rfl ?_
  refine r_aload_n C dX0_become_117 rfl rfl ?_
  refine r_get C (j := 12) rfl in_X0 (GA_o (GA_other w2 hd)) (by decide) fl_X0_32 rfl rfl dX0_become_118 ?_
  refine r_put C (j := 12) tyX0 tyX0_ok nmX0 rfl in_X0 (GA_o GA_pG) (by decide) fl_X0_32 rfl rfl rfl (by first | rfl | decide) (by first | rfl | decide) (Nat.le_of_ble_eq_true rfl) dX0_become_121 ?_
  refine V.heap (pG_num GA_pG 7 _ rfl) ?_
  refine V.heap (pG_pG _ _ _ _ _) ?_
  exact r_vret C rfl (Nat.le_of_ble_eq_true rfl) (Nat.le_of_ble_eq_true rfl) ⟨rfl, rfl, rfl⟩ dX0_become_124
