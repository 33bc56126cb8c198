theorem fa_or_ (a b : Nat) : nI a ||| nI b = nI (a ||| b) := by
  apply Int32.toBitVec_inj.mp
  simp [nI, Int32.toBitVec_or, Int32.toBitVec_ofNat]
/-! TRAINS at tr: the object, its table of halves (two columns, ten rows; cells hf), the row open (of), how many tiles n -/
def pT (G : ga_) (h : HP) (tr : Nat) (hf : Nat → Int32) (of : Nat → Int32) (n : Int32) : HP := up_ (up_ (up_ (up_ h tr (ob_ 4 [.ref (tr + 1), .ref (tr + 3), .int n])) (tr + 1) (ob_ 2 [.int 2, .ref (tr + 2)])) (tr + 2) (aI_ G 20 hf)) (tr + 3) (aI_ G 1024 of)
def TA (G : ga_) (h : HP) (tr : Nat) (hf : Nat → Int32) (of : Nat → Int32) (n : Int32) : Prop := h tr = some (ob_ 4 [.ref (tr + 1), .ref (tr + 3), .int n]) ∧ h (tr + 1) = some (ob_ 2 [.int 2, .ref (tr + 2)]) ∧ h (tr + 2) = some (aI_ G 20 hf) ∧ h (tr + 3) = some (aI_ G 1024 of)
theorem TA_pT {G : ga_} {h : HP} {tr : Nat} {hf of : Nat → Int32} {n : Int32} : TA G (pT G h tr hf of n) tr hf of n := by
  refine ⟨?_, ?_, ?_, ?_⟩ <;> simp [pT, up_]
theorem pT_out {G : ga_} {h : HP} {tr a : Nat} {hf of : Nat → Int32} {n : Int32} (ha : a < tr ∨ tr + 4 ≤ a) : pT G h tr hf of n a = h a := by
  unfold pT; rw [up_n (by omega), up_n (by omega), up_n (by omega), up_n (by omega)]
theorem pT_eq {G : ga_} {h H : HP} {tr : Nat} {hf of : Nat → Int32} {n : Int32} (w : TA G H tr hf of n) (ho : ∀ a, (a < tr ∨ tr + 4 ≤ a) → H a = h a) : H = pT G h tr hf of n := by
  obtain ⟨w0, w1, w2, w3⟩ := w
  funext a
  by_cases c0 : a = tr
  · subst c0; rw [w0]; simp [pT, up_]
  · by_cases c1 : a = tr + 1
    · subst c1; rw [w1]; simp [pT, up_]
    · by_cases c2 : a = tr + 2
      · subst c2; rw [w2]; simp [pT, up_]
      · by_cases c3 : a = tr + 3
        · subst c3; rw [w3]; simp [pT, up_]
        · rw [ho a (by omega), pT_out (by omega)]
theorem pT_id {G : ga_} {h : HP} {tr : Nat} {hf of : Nat → Int32} {n : Int32} (w : TA G h tr hf of n) : pT G h tr hf of n = h := (pT_eq w (fun _ _ => rfl)).symm
theorem pT_pT {G : ga_} {h : HP} {tr : Nat} {hf of hf2 of2 : Nat → Int32} {n n2 : Int32} : pT G (pT G h tr hf of n) tr hf2 of2 n2 = pT G h tr hf2 of2 n2 := pT_eq TA_pT (fun a ha => by rw [pT_out ha, pT_out ha])
theorem pT_n {G : ga_} {h : HP} {tr : Nat} {hf of : Nat → Int32} {n n2 : Int32} : up_ (pT G h tr hf of n) tr (ob_ 4 [.ref (tr + 1), .ref (tr + 3), .int n2]) = pT G h tr hf of n2 :=
  pT_eq (by refine ⟨?_, ?_, ?_, ?_⟩ <;> simp [pT, up_]) (fun a ha => by rw [up_n (by omega), pT_out ha])
theorem pT_h {G : ga_} {h : HP} {tr : Nat} {hf of f : Nat → Int32} {n : Int32} : up_ (pT G h tr hf of n) (tr + 2) (aI_ G 20 f) = pT G h tr f of n :=
  pT_eq (by refine ⟨?_, ?_, ?_, ?_⟩ <;> simp [pT, up_]) (fun a ha => by rw [up_n (by omega), pT_out ha])
theorem pT_o {G : ga_} {h : HP} {tr : Nat} {hf of f : Nat → Int32} {n : Int32} : up_ (pT G h tr hf of n) (tr + 3) (aI_ G 1024 f) = pT G h tr hf f n :=
  pT_eq (by refine ⟨?_, ?_, ?_, ?_⟩ <;> simp [pT, up_]) (fun a ha => by rw [up_n (by omega), pT_out ha])
theorem GA_T {G : ga_} {h : HP} {g tr : Nat} {S : gS} {hf of : Nat → Int32} {n : Int32} (w : GA G h g S) (d : g + 11 ≤ tr ∨ tr + 4 ≤ g) : GA G (pT G h tr hf of n) g S := fun j hj => by rw [pT_out (by omega)]; exact w j hj
def t_half (hf : Nat → Int32) (i k : Int32) : Int32 := tAt 2 20 hf i k
def t_ob (hf : Nat → Int32) (i b : Int32) : Int32 := if b &&& t_half hf i 1 = 0 then (if b &&& t_half hf i 0 = 0 then 0 else 0 ||| t_half hf i 1) else (if b &&& t_half hf i 0 = 0 then 0 else 0 ||| t_half hf i 1) ||| t_half hf i 0
def t_tk (S : gS) (p : Int32) (hf : Nat → Int32) : Nat → Nat → Int32
  | 0 => hf
  | i + 1 => tPut 2 20 (tPut 2 20 (t_tk S p hf i) (nI i) 0 (1 <<< (tAt 7 196 (S 0) (g_hand S p (nI i)) 0 &&& 31))) (nI i) 1 (1 <<< (tAt 7 196 (S 0) (g_hand S p (nI i)) 1 &&& 31))
def t_large (n : Int32) : Bool := decide (10 < n)
def t_fill (g : Int32) : Nat → (Nat → Int32) → Nat → Int32
  | 0, f => f
  | i + 1, f => upd (t_fill g i f) i (if i = 0 then 1 <<< (g &&& 31) else 0)
def t_go (hf : Nat → Int32) (c : Nat) (f : Nat → Int32) : Nat → Nat → Int32
  | 0 => f
  | i + 1 => if c ||| 2 ^ i = c then t_go hf c f i else upd (t_go hf c f i) (c ||| 2 ^ i) (t_go hf c f i (c ||| 2 ^ i) ||| t_ob hf (nI i) (t_go hf c f i c))
def t_try (hf : Nat → Int32) (k : Nat) (f : Nat → Int32) : Nat → Nat → Int32
  | 0 => f
  | c + 1 => if t_try hf k f c c = 0 then t_try hf k f c else t_go hf c (t_try hf k f c) k
def t_of (hf : Nat → Int32) (k : Nat) (g : Int32) (f : Nat → Int32) : Nat → Int32 := if 10 < k then f else t_try hf k (t_fill g (2 ^ k) f) (2 ^ k)
def j_b1 (x : Int32) : Int32 := x - ((x.toUInt32 >>> ((1 : Int32).toUInt32 &&& Int32.toUInt32 31)).toInt32 &&& 1431655765)
def j_b2 (x : Int32) : Int32 := (x &&& 858993459) + ((x.toUInt32 >>> ((2 : Int32).toUInt32 &&& Int32.toUInt32 31)).toInt32 &&& 858993459)
def j_b3 (x : Int32) : Int32 := (x + (x.toUInt32 >>> ((4 : Int32).toUInt32 &&& Int32.toUInt32 31)).toInt32) &&& 252645135
def j_b4 (x : Int32) : Int32 := x + (x.toUInt32 >>> ((8 : Int32).toUInt32 &&& Int32.toUInt32 31)).toInt32
def j_b5 (x : Int32) : Int32 := x + (x.toUInt32 >>> ((16 : Int32).toUInt32 &&& Int32.toUInt32 31)).toInt32
def j_bc (x : Int32) : Int32 := j_b5 (j_b4 (j_b3 (j_b2 (j_b1 x)))) &&& 63
def t_mx (of : Nat → Int32) : Nat → Int32
  | 0 => 0
  | c + 1 => if of c = 0 then t_mx of c else if t_mx of c < j_bc (nI c) then j_bc (nI c) else t_mx of c
def t_most (of : Nat → Int32) (k : Nat) : Int32 := if 10 < k then -1 else t_mx of (2 ^ k)
def t_whole (of : Nat → Int32) (k : Nat) : Int32 := if 10 < k then -1 else if of (2 ^ k - 1) = 0 then 0 else 1
def t_re1 (hf : Nat → Int32) (r : Int32) : Nat → Int32
  | 0 => r
  | i + 1 => t_re1 hf r i ||| t_ob hf (nI i) (t_re1 hf r i)
def t_re (hf : Nat → Int32) (k : Nat) (g : Int32) : Nat → Int32
  | 0 => 1 <<< (g &&& 31)
  | i + 1 => t_re1 hf (t_re hf k g i) k
def t_hang (hf : Nat → Int32) (k : Nat) (g : Int32) : Bool := !anyB (fun i => decide (t_ob hf (nI i) (t_re hf k g 7) = 0)) k
def t_odd (hf : Nat → Int32) : Nat → Int32
  | 0 => 0
  | i + 1 => t_odd hf i ^^^ (t_half hf (nI i) 0 ^^^ t_half hf (nI i) 1)
def t_oddOk (hf : Nat → Int32) (k : Nat) (g : Int32) : Bool := decide (t_odd hf k = 0) || (decide (j_bc (t_odd hf k) = 2) && !decide (t_odd hf k &&& (1 <<< (g &&& 31)) = 0))
def t_count (hf : Nat → Int32) (k : Nat) (g : Int32) : Int32 := if 10 < k then -1 else bI (t_hang hf k g && t_oddOk hf k g)
theorem large_ok {n : Int32} {k : Nat} (hn : n = nI k) (hk : k < 2147483648) : t_large n = decide (10 < k) := by
  subst hn
  simp only [t_large]
  rw [show (10 : Int32) = nI 10 from rfl, decide_eq_decide, nI_ltI (by decide) hk]
theorem sh_ok : ∀ k, k < 11 → (1 : Int32) <<< (nI k &&& 31) = nI (2 ^ k) := by decide +kernel
theorem or_lt {c i : Nat} (hc : c < 1024) (hi : i < 10) : c ||| 2 ^ i < 1024 := Nat.or_lt_two_pow (n := 10) hc (Nat.lt_of_lt_of_le (Nat.pow_lt_pow_right (by decide) hi) (Nat.le_refl _))
theorem p2_le {k : Nat} (h : k ≤ 10) : 2 ^ k ≤ 1024 := Nat.pow_le_pow_right (by decide) h
theorem or_ok {c i : Nat} (hi : i < 11) : nI c ||| ((1 : Int32) <<< (nI i &&& 31)) = nI (c ||| 2 ^ i) := by rw [sh_ok i hi, fa_or_]
set_option maxHeartbeats 800000 in
set_option maxRecDepth 100000 in
theorem c_J6_bitCount_0f7a4 {G : ga_} {l : Launch} {h : HP} {sz : Nat} {x : Int32}  : Mf G l yJ6_bitCount_0f7a4 cJ6_bitCount_0f7a4 1 (some .int) 0 0 0 0 [.int x] h sz (some (.int (j_bc x))) h sz := by
  refine Mg.ofV [(0, .int x)] (by decide) (Nat.le_of_ble_eq_true rfl) rfl ?_
  intro p e s m args below meth c C

  refine r_iload_n C dJ6_bitCount_0f7a4_0 rfl rfl ?_
  refine r_iload_n C dJ6_bitCount_0f7a4_1 rfl rfl ?_
  refine r_iconst C (v := 1) dJ6_bitCount_0f7a4_2 rfl ?_
  refine r_iushr C dJ6_bitCount_0f7a4_3 ?_
  refine r_ldc_w C kc_J6_265 dJ6_bitCount_0f7a4_4 ?_
  refine r_iand C dJ6_bitCount_0f7a4_7 ?_
  refine r_isub C dJ6_bitCount_0f7a4_8 ?_
  refine r_istore_n C dJ6_bitCount_0f7a4_9 rfl (by decide) ?_
  refine V.sub [(0, .int (j_b1 x))] ⟨rfl, trivial⟩ ?_
  refine r_iload_n C dJ6_bitCount_0f7a4_10 rfl rfl ?_
  refine r_ldc_w C kc_J6_266 dJ6_bitCount_0f7a4_11 ?_
  refine r_iand C dJ6_bitCount_0f7a4_14 ?_
  refine r_iload_n C dJ6_bitCount_0f7a4_15 rfl rfl ?_
  refine r_iconst C (v := 2) dJ6_bitCount_0f7a4_16 rfl ?_
  refine r_iushr C dJ6_bitCount_0f7a4_17 ?_
  refine r_ldc_w C kc_J6_266 dJ6_bitCount_0f7a4_18 ?_
  refine r_iand C dJ6_bitCount_0f7a4_21 ?_
  refine r_iadd C dJ6_bitCount_0f7a4_22 ?_
  refine r_istore_n C dJ6_bitCount_0f7a4_23 rfl (by decide) ?_
  refine V.sub [(0, .int (j_b2 (j_b1 x)))] ⟨rfl, trivial⟩ ?_
  refine r_iload_n C dJ6_bitCount_0f7a4_24 rfl rfl ?_
  refine r_iload_n C dJ6_bitCount_0f7a4_25 rfl rfl ?_
  refine r_iconst C (v := 4) dJ6_bitCount_0f7a4_26 rfl ?_
  refine r_iushr C dJ6_bitCount_0f7a4_27 ?_
  refine r_iadd C dJ6_bitCount_0f7a4_28 ?_
  refine r_ldc_w C kc_J6_267 dJ6_bitCount_0f7a4_29 ?_
  refine r_iand C dJ6_bitCount_0f7a4_32 ?_
  refine r_istore_n C dJ6_bitCount_0f7a4_33 rfl (by decide) ?_
  refine V.sub [(0, .int (j_b3 (j_b2 (j_b1 x))))] ⟨rfl, trivial⟩ ?_
  refine r_iload_n C dJ6_bitCount_0f7a4_34 rfl rfl ?_
  refine r_iload_n C dJ6_bitCount_0f7a4_35 rfl rfl ?_
  refine r_bipush C (v := 8) dJ6_bitCount_0f7a4_36 rfl ?_
  refine r_iushr C dJ6_bitCount_0f7a4_38 ?_
  refine r_iadd C dJ6_bitCount_0f7a4_39 ?_
  refine r_istore_n C dJ6_bitCount_0f7a4_40 rfl (by decide) ?_
  refine V.sub [(0, .int (j_b4 (j_b3 (j_b2 (j_b1 x)))))] ⟨rfl, trivial⟩ ?_
  refine r_iload_n C dJ6_bitCount_0f7a4_41 rfl rfl ?_
  refine r_iload_n C dJ6_bitCount_0f7a4_42 rfl rfl ?_
  refine r_bipush C (v := 16) dJ6_bitCount_0f7a4_43 rfl ?_
  refine r_iushr C dJ6_bitCount_0f7a4_45 ?_
  refine r_iadd C dJ6_bitCount_0f7a4_46 ?_
  refine r_istore_n C dJ6_bitCount_0f7a4_47 rfl (by decide) ?_
  refine V.sub [(0, .int (j_b5 (j_b4 (j_b3 (j_b2 (j_b1 x))))))] ⟨rfl, trivial⟩ ?_
  refine r_iload_n C dJ6_bitCount_0f7a4_48 rfl rfl ?_
  refine r_bipush C (v := 63) dJ6_bitCount_0f7a4_49 rfl ?_
  refine r_iand C dJ6_bitCount_0f7a4_51 ?_
  exact r_iret C rfl (Nat.le_of_ble_eq_true rfl) (Nat.le_of_ble_eq_true rfl) ⟨rfl, rfl, rfl⟩ dJ6_bitCount_0f7a4_52
set_option maxHeartbeats 800000 in
set_option maxRecDepth 100000 in
theorem c_X4_isTooLarge {G : ga_} {l : Launch} {h : HP} {sz : Nat} {tr : Nat} {hf of : Nat → Int32} {n : Int32}  (w : TA G h tr hf of n)  : Mf G l yX4_isTooLarge cX4_isTooLarge 1 (some .boolean) 0 0 0 0 [.ref tr] h sz (some (.int (bI (t_large n)))) h sz := by
  refine Mg.ofV [(0, .ref tr)] (by decide) (Nat.le_of_ble_eq_true rfl) rfl ?_
  intro p e s m args below meth c C
  refine r_aload_n C dX4_isTooLarge_0 rfl rfl ?_
  refine r_get C (j := 2) rfl in_X4 (w.1) (by decide) fl_X4_24 rfl rfl dX4_isTooLarge_1 ?_
  refine r_bipush C (v := 10) dX4_isTooLarge_4 rfl ?_
  refine r_icmp_le C 13 dX4_isTooLarge_6 (by decide) (fun c_6 => ?_) (fun c_6 => ?_)
  · have e_6 := i32_nlt c_6
    refine r_iconst C (v := 0) dX4_isTooLarge_13 rfl ?_
    exact r_zret C rfl (by first | exact Or.inl rfl | exact Or.inr rfl | exact bI_01 _) (Nat.le_of_ble_eq_true rfl) (Nat.le_of_ble_eq_true rfl) ⟨by simp [t_large, bI, c_6, e_6], rfl, rfl⟩ dX4_isTooLarge_14
  · have e_6 := i32_lt c_6
    refine r_iconst C (v := 1) dX4_isTooLarge_9 rfl ?_
    refine r_goto C 14 dX4_isTooLarge_10 (by decide) ?_
    exact r_zret C rfl (by first | exact Or.inl rfl | exact Or.inr rfl | exact bI_01 _) (Nat.le_of_ble_eq_true rfl) (Nat.le_of_ble_eq_true rfl) ⟨by simp [t_large, bI, c_6, e_6], rfl, rfl⟩ dX4_isTooLarge_14

set_option maxHeartbeats 800000 in
set_option maxRecDepth 100000 in
theorem c_X4_openBehind {G : ga_} {l : Launch} {h : HP} {sz : Nat} {tr : Nat} {hf of : Nat → Int32} {n : Int32} {a b : Int32}  (w : TA G h tr hf of n)  : Mf G l yX4_openBehind cX4_openBehind 6 (some .int) 1 23 0 0 [.ref tr, .int a, .int b] h sz (some (.int (t_ob hf a b))) h sz := by
  refine Mg.ofV [(0, .ref tr), (1, .int a), (2, .int b)] (by decide) (Nat.le_of_ble_eq_true rfl) rfl ?_
  intro p e s m args below meth c C
  refine r_aload_n C dX4_openBehind_0 rfl rfl ?_
  refine r_get C (j := 0) rfl in_X4 (w.1) (by decide) fl_X4_14 rfl rfl dX4_openBehind_1 ?_
  refine r_iload_n C dX4_openBehind_4 rfl rfl ?_
  refine r_iconst C (v := 0) dX4_openBehind_5 rfl ?_
  refine r_cVi C (c_X2_at w.2.1 w.2.2.1 (by decide)) lk_X4_37 rfl (w.2.1) rfl rfl ⟨(Nat.le_of_ble_eq_true rfl), (Nat.le_of_ble_eq_true rfl), (Nat.le_of_ble_eq_true rfl), (Nat.le_of_ble_eq_true rfl), (Nat.le_of_ble_eq_true rfl)⟩ dX4_openBehind_6 ?_
  refine r_istore_n C dX4_openBehind_9 rfl (by decide) ?_
  refine r_aload_n C dX4_openBehind_10 rfl rfl ?_
  refine r_get C (j := 0) rfl in_X4 (w.1) (by decide) fl_X4_14 rfl rfl dX4_openBehind_11 ?_
  refine r_iload_n C dX4_openBehind_14 rfl rfl ?_
  refine r_iconst C (v := 1) dX4_openBehind_15 rfl ?_
  refine r_cVi C (c_X2_at w.2.1 w.2.2.1 (by decide)) lk_X4_37 rfl (w.2.1) rfl rfl ⟨(Nat.le_of_ble_eq_true rfl), (Nat.le_of_ble_eq_true rfl), (Nat.le_of_ble_eq_true rfl), (Nat.le_of_ble_eq_true rfl), (Nat.le_of_ble_eq_true rfl)⟩ dX4_openBehind_16 ?_
  refine r_istore C dX4_openBehind_19 (by decide) ?_
  refine r_iconst C (v := 0) dX4_openBehind_21 rfl ?_
  refine r_istore C dX4_openBehind_22 (by decide) ?_
  refine r_iload_n C dX4_openBehind_24 rfl rfl ?_
  refine r_iload_n C dX4_openBehind_25 rfl rfl ?_
  refine r_iand C dX4_openBehind_26 ?_
  refine r_if_eq C 37 dX4_openBehind_27 (by decide) (fun c_27 => ?_) (fun c_27 => ?_)
  · refine r_iload_n C dX4_openBehind_37 rfl rfl ?_
    refine r_iload C dX4_openBehind_38 rfl ?_
    refine r_iand C dX4_openBehind_40 ?_
    refine r_if_eq C 50 dX4_openBehind_41 (by decide) (fun c_41 => ?_) (fun c_41 => ?_)
    · refine r_iload C dX4_openBehind_50 rfl ?_
      exact r_iret C rfl (Nat.le_of_ble_eq_true rfl) (Nat.le_of_ble_eq_true rfl) ⟨by simp [t_ob, t_half, c_27, c_41], rfl, rfl⟩ dX4_openBehind_52
    · refine r_iload C dX4_openBehind_44 rfl ?_
      refine r_iload_n C dX4_openBehind_46 rfl rfl ?_
      refine r_ior C dX4_openBehind_47 ?_
      refine r_istore C dX4_openBehind_48 (by decide) ?_
      refine r_iload C dX4_openBehind_50 rfl ?_
      exact r_iret C rfl (Nat.le_of_ble_eq_true rfl) (Nat.le_of_ble_eq_true rfl) ⟨by simp [t_ob, t_half, c_27, c_41], rfl, rfl⟩ dX4_openBehind_52
  · refine r_iload C dX4_openBehind_30 rfl ?_
    refine r_iload C dX4_openBehind_32 rfl ?_
    refine r_ior C dX4_openBehind_34 ?_
    refine r_istore C dX4_openBehind_35 (by decide) ?_
    refine r_iload_n C dX4_openBehind_37 rfl rfl ?_
    refine r_iload C dX4_openBehind_38 rfl ?_
    refine r_iand C dX4_openBehind_40 ?_
    refine r_if_eq C 50 dX4_openBehind_41 (by decide) (fun c_41 => ?_) (fun c_41 => ?_)
    · refine r_iload C dX4_openBehind_50 rfl ?_
      exact r_iret C rfl (Nat.le_of_ble_eq_true rfl) (Nat.le_of_ble_eq_true rfl) ⟨by simp [t_ob, t_half, c_27, c_41], rfl, rfl⟩ dX4_openBehind_52
    · refine r_iload C dX4_openBehind_44 rfl ?_
      refine r_iload_n C dX4_openBehind_46 rfl rfl ?_
      refine r_ior C dX4_openBehind_47 ?_
      refine r_istore C dX4_openBehind_48 (by decide) ?_
      refine r_iload C dX4_openBehind_50 rfl ?_
      exact r_iret C rfl (Nat.le_of_ble_eq_true rfl) (Nat.le_of_ble_eq_true rfl) ⟨by simp [t_ob, t_half, c_27, c_41], rfl, rfl⟩ dX4_openBehind_52

set_option maxHeartbeats 800000 in
set_option maxRecDepth 100000 in
theorem c_X4_take {G : ga_} {l : Launch} {h : HP} {sz : Nat} {tr : Nat} {hf of : Nat → Int32} {n : Int32} {a : Int32} {g : Nat} {S : gS} (w : TA G h tr hf of n) (wg : GA G h g S) (d : g + 11 ≤ tr ∨ tr + 4 ≤ g) : Mf G l yX4_take cX4_take 5 none 2 44 0 0 [.ref tr, .ref g, .int a] h sz none (pT G h tr (t_tk S a hf (min (g_held S a).toNatClampNeg 10)) of (g_held S a)) sz := by
  refine Mg.ofV [(0, .ref tr), (1, .ref g), (2, .int a)] (by decide) (Nat.le_of_ble_eq_true rfl) rfl ?_
  intro p e s m args below meth c C
  refine V.heap (pT_id w).symm ?_
  refine r_aload_n C dX4_take_0 rfl rfl ?_
  refine r_iconst C (v := 0) dX4_take_1 rfl ?_
  refine r_put C (j := 2) tyX4 tyX4_ok nmX4 rfl in_X4 (TA_pT.1) (by decide) fl_X4_24 rfl rfl rfl (by first | rfl | decide) (by first | rfl | decide) (Nat.le_of_ble_eq_true rfl) dX4_take_2 ?_
  refine V.heap pT_n ?_
  refine r_aload_n C dX4_take_5 rfl rfl ?_
  refine r_ifnonnull C 10 dX4_take_6 (by decide) ?_
  refine r_aload_n C dX4_take_10 rfl rfl ?_
  refine r_aload_n C dX4_take_11 rfl rfl ?_
  refine r_iload_n C dX4_take_12 rfl rfl ?_
  refine r_cVi C (c_X0_heldBy (GA_T wg d)) lk_X4_28 rfl (GA_o (GA_T wg d)) rfl rfl ⟨(Nat.le_of_ble_eq_true rfl), (Nat.le_of_ble_eq_true rfl), (Nat.le_of_ble_eq_true rfl), (Nat.le_of_ble_eq_true rfl), (Nat.le_of_ble_eq_true rfl)⟩ dX4_take_13 ?_
  refine r_put C (j := 2) tyX4 tyX4_ok nmX4 rfl in_X4 (TA_pT.1) (by decide) fl_X4_24 rfl rfl rfl (by first | rfl | decide) (by first | rfl | decide) (Nat.le_of_ble_eq_true rfl) dX4_take_16 ?_
  refine V.heap pT_n ?_
  refine r_iconst C (v := 0) dX4_take_19 rfl ?_
  refine r_istore_n C dX4_take_20 rfl (by decide) ?_
  refine V.sub [(0, .ref tr), (1, .ref g), (2, .int a), (3, .int (nI 0))] ⟨rfl, rfl, rfl, rfl, trivial⟩ ?_
  refine down_ (P := fun i => V p l e ⟨2, 0, 0, 44⟩ s m args below meth c G 5 (Qg G below args s 0 0 (fun v1 h1 s1 => v1 = none ∧ h1 = (pT G h tr (t_tk S a hf (min (g_held S a).toNatClampNeg 10)) of (g_held S a)) ∧ s1 = sz)) (pT G h tr (t_tk S a hf i) of (g_held S a)) sz 0 0 21 [(0, .ref tr), (1, .ref g), (2, .int a), (3, .int (nI i))] []) (min (g_held S a).toNatClampNeg 10) ?_ ?_
  · refine r_iload_n C dX4_take_21 rfl rfl ?_
    refine r_aload_n C dX4_take_22 rfl rfl ?_
    refine r_get C (j := 2) rfl in_X4 (TA_pT.1) (by decide) fl_X4_24 rfl rfl dX4_take_23 ?_
    refine r_icmp_ge C 94 dX4_take_26 (by decide) (fun c_26 => ?_) (fun c_26 => ?_)
    · have e_26 := i32_nlt c_26
      exact r_vret C rfl (Nat.le_of_ble_eq_true rfl) (Nat.le_of_ble_eq_true rfl) ⟨rfl, rfl, rfl⟩ dX4_take_94
    · have e_26 := i32_lt c_26
      refine r_iload_n C dX4_take_29 rfl rfl ?_
      refine r_bipush C (v := 10) dX4_take_30 rfl ?_
      refine r_icmp_ge C 94 dX4_take_32 (by decide) (fun _ => ?_) (fun c => absurd (nI_le (a := 10) (by have c := mt (tn_le2 (x := g_held S a) (i := min (g_held S a).toNatClampNeg 10) (by omega)) c_26; omega) (by omega)) c)
      exact r_vret C rfl (Nat.le_of_ble_eq_true rfl) (Nat.le_of_ble_eq_true rfl) ⟨rfl, rfl, rfl⟩ dX4_take_94
  · intro i h_i ih_i
    refine r_iload_n C dX4_take_21 rfl rfl ?_
    refine r_aload_n C dX4_take_22 rfl rfl ?_
    refine r_get C (j := 2) rfl in_X4 (TA_pT.1) (by decide) fl_X4_24 rfl rfl dX4_take_23 ?_
    refine r_icmp_ge C 94 dX4_take_26 (by decide) (fun c => absurd c (tn_nle (by omega))) (fun _ => ?_)
    refine r_iload_n C dX4_take_29 rfl rfl ?_
    refine r_bipush C (v := 10) dX4_take_30 rfl ?_
    refine r_icmp_ge C 94 dX4_take_32 (by decide) (fun c => absurd c (nI_ge (b := 10) (by omega) (by decide))) (fun _ => ?_)
    refine r_aload_n C dX4_take_35 rfl rfl ?_
    refine r_getN C (j := 1) rfl in_X0 (GA_o (GA_T wg d)) (by decide) fn_X4_34 rfl rfl dX4_take_36 ?_
    refine r_iload_n C dX4_take_39 rfl rfl ?_
    refine r_iload_n C dX4_take_40 rfl rfl ?_
    refine r_cVi C (c_at1 (GA_T wg d)) lk_X4_37 rfl (GA_t1 (GA_T wg d)) rfl rfl ⟨(Nat.le_of_ble_eq_true rfl), (Nat.le_of_ble_eq_true rfl), (Nat.le_of_ble_eq_true rfl), (Nat.le_of_ble_eq_true rfl), (Nat.le_of_ble_eq_true rfl)⟩ dX4_take_41 ?_
    refine r_istore C dX4_take_44 (by decide) ?_
    refine r_aload_n C dX4_take_46 rfl rfl ?_
    refine r_get C (j := 0) rfl in_X4 (TA_pT.1) (by decide) fl_X4_14 rfl rfl dX4_take_47 ?_
    refine r_iload_n C dX4_take_50 rfl rfl ?_
    refine r_iconst C (v := 0) dX4_take_51 rfl ?_
    refine r_iconst C (v := 1) dX4_take_52 rfl ?_
    refine r_aload_n C dX4_take_53 rfl rfl ?_
    refine r_getN C (j := 0) rfl in_X0 (GA_o (GA_T wg d)) (by decide) fn_X4_41 rfl rfl dX4_take_54 ?_
    refine r_iload C dX4_take_57 rfl ?_
    refine r_iconst C (v := 0) dX4_take_59 rfl ?_
    refine r_cVi C (c_at0 (GA_T wg d)) lk_X4_37 rfl (GA_t0 (GA_T wg d)) rfl rfl ⟨(Nat.le_of_ble_eq_true rfl), (Nat.le_of_ble_eq_true rfl), (Nat.le_of_ble_eq_true rfl), (Nat.le_of_ble_eq_true rfl), (Nat.le_of_ble_eq_true rfl)⟩ dX4_take_60 ?_
    refine r_ishl C dX4_take_63 ?_
    refine r_cVv C (c_X2_put TA_pT.2.1 TA_pT.2.2.1 (by decide)) lk_X4_44 rfl (TA_pT.2.1) rfl rfl ⟨(Nat.le_of_ble_eq_true rfl), (Nat.le_of_ble_eq_true rfl), (Nat.le_of_ble_eq_true rfl), (Nat.le_of_ble_eq_true rfl), (Nat.le_of_ble_eq_true rfl)⟩ dX4_take_64 ?_
    refine V.heap pT_h ?_
    refine r_aload_n C dX4_take_67 rfl rfl ?_
    refine r_get C (j := 0) rfl in_X4 (TA_pT.1) (by decide) fl_X4_14 rfl rfl dX4_take_68 ?_
    refine r_iload_n C dX4_take_71 rfl rfl ?_
    refine r_iconst C (v := 1) dX4_take_72 rfl ?_
    refine r_iconst C (v := 1) dX4_take_73 rfl ?_
    refine r_aload_n C dX4_take_74 rfl rfl ?_
    refine r_getN C (j := 0) rfl in_X0 (GA_o (GA_T wg d)) (by decide) fn_X4_41 rfl rfl dX4_take_75 ?_
    refine r_iload C dX4_take_78 rfl ?_
    refine r_iconst C (v := 1) dX4_take_80 rfl ?_
    refine r_cVi C (c_at0 (GA_T wg d)) lk_X4_37 rfl (GA_t0 (GA_T wg d)) rfl rfl ⟨(Nat.le_of_ble_eq_true rfl), (Nat.le_of_ble_eq_true rfl), (Nat.le_of_ble_eq_true rfl), (Nat.le_of_ble_eq_true rfl), (Nat.le_of_ble_eq_true rfl)⟩ dX4_take_81 ?_
    refine r_ishl C dX4_take_84 ?_
    refine r_cVv C (c_X2_put TA_pT.2.1 TA_pT.2.2.1 (by decide)) lk_X4_44 rfl (TA_pT.2.1) rfl rfl ⟨(Nat.le_of_ble_eq_true rfl), (Nat.le_of_ble_eq_true rfl), (Nat.le_of_ble_eq_true rfl), (Nat.le_of_ble_eq_true rfl), (Nat.le_of_ble_eq_true rfl)⟩ dX4_take_85 ?_
    refine V.heap pT_h ?_
    refine r_iinc C (v := 1) dX4_take_88 rfl rfl (by decide) ?_
    refine r_goto C 21 dX4_take_91 (by decide) ?_
    refine V.sub [(0, .ref tr), (1, .ref g), (2, .int a), (3, .int (nI (i + 1)))] ⟨rfl, rfl, rfl, (by rw [← nI_1 i]; rfl), trivial⟩ ?_
    exact ih_i

theorem gb_t {c i : Nat} (hc : c < 1024) (hi : i < 10) (h : nI c ||| ((1 : Int32) <<< (nI i &&& 31)) = nI c) : c ||| 2 ^ i = c := by
  rw [or_ok (by omega)] at h
  exact (nI_eq (by have := or_lt hc hi; omega) (by omega)).mp h
theorem gb_f {c i : Nat} (hc : c < 1024) (hi : i < 10) (h : ¬ nI c ||| ((1 : Int32) <<< (nI i &&& 31)) = nI c) : ¬ c ||| 2 ^ i = c := fun q => h (by rw [or_ok (by omega), q])
set_option maxHeartbeats 800000 in
set_option maxRecDepth 100000 in
theorem c_X4_goOnFrom {G : ga_} {l : Launch} {h : HP} {sz : Nat} {tr : Nat} {hf of : Nat → Int32} {n : Int32} {k c0 : Nat} (w : TA G h tr hf of n) (hn : n = nI k) (hk : k ≤ 10) (hc : c0 < 1024) : Mf G l yX4_goOnFrom cX4_goOnFrom 4 none 2 48 0 0 [.ref tr, .int (nI c0)] h sz none (pT G h tr hf (t_go hf c0 of k) n) sz := by
  refine Mg.ofV [(0, .ref tr), (1, .int (nI c0))] (by decide) (Nat.le_of_ble_eq_true rfl) rfl ?_
  intro p e s m args below meth c C
  refine r_iconst C (v := 0) dX4_goOnFrom_0 rfl ?_
  refine r_istore_n C dX4_goOnFrom_1 rfl (by decide) ?_
  refine V.heap (pT_id w).symm ?_
  refine V.sub [(0, .ref tr), (1, .int (nI c0)), (2, .int (nI 0))] ⟨rfl, rfl, rfl, trivial⟩ ?_
  refine down_ (P := fun i => V p l e ⟨2, 0, 0, 48⟩ s m args below meth c G 4 (Qg G below args s 0 0 (fun v1 h1 s1 => v1 = none ∧ h1 = (pT G h tr hf (t_go hf c0 of k) n) ∧ s1 = sz)) (pT G h tr hf (t_go hf c0 of i) n) sz 0 0 2 [(0, .ref tr), (1, .int (nI c0)), (2, .int (nI i))] []) (k) ?_ ?_
  · refine r_iload_n C dX4_goOnFrom_2 rfl rfl ?_
    refine r_aload_n C dX4_goOnFrom_3 rfl rfl ?_
    refine r_get C (j := 2) rfl in_X4 (TA_pT.1) (by decide) fl_X4_24 rfl rfl dX4_goOnFrom_4 ?_
    refine r_icmp_ge C 73 dX4_goOnFrom_7 (by decide) (fun _ => ?_) (fun c => absurd (by rw [hn]; exact Int32.le_refl _) c)
    exact r_vret C rfl (Nat.le_of_ble_eq_true rfl) (Nat.le_of_ble_eq_true rfl) ⟨rfl, rfl, rfl⟩ dX4_goOnFrom_73
  · intro i h_i ih_i
    refine r_iload_n C dX4_goOnFrom_2 rfl rfl ?_
    refine r_aload_n C dX4_goOnFrom_3 rfl rfl ?_
    refine r_get C (j := 2) rfl in_X4 (TA_pT.1) (by decide) fl_X4_24 rfl rfl dX4_goOnFrom_4 ?_
    refine r_icmp_ge C 73 dX4_goOnFrom_7 (by decide) (fun c => absurd c (by rw [hn]; exact nI_ge h_i (by omega))) (fun _ => ?_)
    refine r_iload_n C dX4_goOnFrom_10 rfl rfl ?_
    refine r_iconst C (v := 1) dX4_goOnFrom_11 rfl ?_
    refine r_iload_n C dX4_goOnFrom_12 rfl rfl ?_
    refine r_ishl C dX4_goOnFrom_13 ?_
    refine r_ior C dX4_goOnFrom_14 ?_
    refine r_istore_n C dX4_goOnFrom_15 rfl (by decide) ?_
    refine r_iload_n C dX4_goOnFrom_16 rfl rfl ?_
    refine r_iload_n C dX4_goOnFrom_17 rfl rfl ?_
    refine r_icmp_eq C 67 dX4_goOnFrom_18 (by decide) (fun c_18 => ?_) (fun c_18 => ?_)
    · refine r_iinc C (v := 1) dX4_goOnFrom_67 rfl rfl (by decide) ?_
      refine r_goto C 2 dX4_goOnFrom_70 (by decide) ?_
      refine V.heap (h2 := (pT G h tr hf (t_go hf c0 of (i + 1)) n)) (by simp only [t_go]; rw [if_pos (gb_t (by omega) (by omega) c_18)]) ?_
      refine V.sub [(0, .ref tr), (1, .int (nI c0)), (2, .int (nI (i + 1)))] ⟨rfl, rfl, (by rw [← nI_1 i]; rfl), trivial⟩ ?_
      exact ih_i
    · refine r_iload_n C dX4_goOnFrom_21 rfl rfl ?_
      refine r_if_lt C 67 dX4_goOnFrom_22 (by decide) (fun c => absurd c (nI_pos (by omega))) (fun _ => ?_)
      refine r_iload_n C dX4_goOnFrom_25 rfl rfl ?_
      refine r_aload_n C dX4_goOnFrom_26 rfl rfl ?_
      refine r_get C (j := 1) rfl in_X4 (TA_pT.1) (by decide) fl_X4_20 rfl rfl dX4_goOnFrom_27 ?_
      refine r_alenI C (TA_pT.2.2.2) dX4_goOnFrom_30 ?_
      refine r_icmp_ge C 67 dX4_goOnFrom_31 (by decide) (fun c => absurd c (nI_ge hc (by decide))) (fun _ => ?_)
      refine r_iload_n C dX4_goOnFrom_34 rfl rfl ?_
      refine r_if_lt C 67 dX4_goOnFrom_35 (by decide) (fun c => absurd c (by rw [or_ok (by omega)]; exact nI_pos (by have := or_lt hc (show i < 10 by omega); omega))) (fun _ => ?_)
      refine r_iload_n C dX4_goOnFrom_38 rfl rfl ?_
      refine r_aload_n C dX4_goOnFrom_39 rfl rfl ?_
      refine r_get C (j := 1) rfl in_X4 (TA_pT.1) (by decide) fl_X4_20 rfl rfl dX4_goOnFrom_40 ?_
      refine r_alenI C (TA_pT.2.2.2) dX4_goOnFrom_43 ?_
      refine r_icmp_ge C 67 dX4_goOnFrom_44 (by decide) (fun c => absurd c (by rw [or_ok (by omega)]; exact nI_ge (or_lt hc (show i < 10 by omega)) (by decide))) (fun _ => ?_)
      refine r_aload_n C dX4_goOnFrom_47 rfl rfl ?_
      refine r_get C (j := 1) rfl in_X4 (TA_pT.1) (by decide) fl_X4_20 rfl rfl dX4_goOnFrom_48 ?_
      refine r_iload_n C dX4_goOnFrom_51 rfl rfl ?_
      refine r_dup2 C dX4_goOnFrom_52 rfl rfl ?_
      refine r_iald C (TA_pT.2.2.2) (by rw [or_ok (by omega)]; exact vp_in_nI (or_lt hc (show i < 10 by omega)) (by decide)) dX4_goOnFrom_53 ?_
      refine r_aload_n C dX4_goOnFrom_54 rfl rfl ?_
      refine r_iload_n C dX4_goOnFrom_55 rfl rfl ?_
      refine r_aload_n C dX4_goOnFrom_56 rfl rfl ?_
      refine r_get C (j := 1) rfl in_X4 (TA_pT.1) (by decide) fl_X4_20 rfl rfl dX4_goOnFrom_57 ?_
      refine r_iload_n C dX4_goOnFrom_60 rfl rfl ?_
      refine r_iald C (TA_pT.2.2.2) (vp_in_nI hc (by decide)) dX4_goOnFrom_61 ?_
      refine r_cVi C (c_X4_openBehind TA_pT) lk_X4_56 rfl (TA_pT.1) rfl rfl ⟨(Nat.le_of_ble_eq_true rfl), (Nat.le_of_ble_eq_true rfl), (Nat.le_of_ble_eq_true rfl), (Nat.le_of_ble_eq_true rfl), (Nat.le_of_ble_eq_true rfl)⟩ dX4_goOnFrom_62 ?_
      refine r_ior C dX4_goOnFrom_65 ?_
      refine r_iast C (TA_pT.2.2.2) (by rw [or_ok (by omega)]; exact vp_in_nI (or_lt hc (show i < 10 by omega)) (by decide)) dX4_goOnFrom_66 ?_
      refine r_iinc C (v := 1) dX4_goOnFrom_67 rfl rfl (by decide) ?_
      refine r_goto C 2 dX4_goOnFrom_70 (by decide) ?_
      refine V.heap (h2 := (pT G h tr hf (t_go hf c0 of (i + 1)) n)) (by rw [pT_o, or_ok (by omega), nI_clamp (by have := or_lt hc (show i < 10 by omega); omega), nI_clamp (by omega)]; simp only [t_go]; rw [if_neg (gb_f (by omega) (by omega) c_18)]) ?_
      refine V.sub [(0, .ref tr), (1, .int (nI c0)), (2, .int (nI (i + 1)))] ⟨rfl, rfl, (by rw [← nI_1 i]; rfl), trivial⟩ ?_
      exact ih_i

set_option maxHeartbeats 800000 in
set_option maxRecDepth 100000 in
theorem c_X4_tryFrom {G : ga_} {l : Launch} {h : HP} {sz : Nat} {tr : Nat} {hf of : Nat → Int32} {n : Int32} {a : Int32} {k : Nat} (w : TA G h tr hf of n) (hn : n = nI k) (hkk : k < 2147483648) : Mf G l yX4_tryFrom cX4_tryFrom 4 none 3 71 0 0 [.ref tr, .int a] h sz none (pT G h tr hf (t_of hf k a of) n) sz := by
  refine Mg.ofV [(0, .ref tr), (1, .int a)] (by decide) (Nat.le_of_ble_eq_true rfl) rfl ?_
  intro p e s m args below meth c C
  refine r_aload_n C dX4_tryFrom_0 rfl rfl ?_
  refine r_cVi C (c_X4_isTooLarge w) lk_X4_48 rfl (w.1) rfl rfl ⟨(Nat.le_of_ble_eq_true rfl), (Nat.le_of_ble_eq_true rfl), (Nat.le_of_ble_eq_true rfl), (Nat.le_of_ble_eq_true rfl), (Nat.le_of_ble_eq_true rfl)⟩ dX4_tryFrom_1 ?_
  refine r_if_eq C 8 dX4_tryFrom_4 (by decide) (fun c_4 => ?_) (fun c_4 => ?_)
  · have c_4 := bI_f c_4
    have hk : k ≤ 10 := by
      rw [large_ok hn hkk] at c_4
      have := of_decide_eq_false c_4
      omega
    refine V.heap (pT_id w).symm ?_
    refine r_iconst C (v := 1) dX4_tryFrom_8 rfl ?_
    refine r_aload_n C dX4_tryFrom_9 rfl rfl ?_
    refine r_get C (j := 2) rfl in_X4 (TA_pT.1) (by decide) fl_X4_24 rfl rfl dX4_tryFrom_10 ?_
    refine r_ishl C dX4_tryFrom_13 ?_
    refine r_istore_n C dX4_tryFrom_14 rfl (by decide) ?_
    refine r_iconst C (v := 0) dX4_tryFrom_15 rfl ?_
    refine r_istore_n C dX4_tryFrom_16 rfl (by decide) ?_
    refine V.sub [(0, .ref tr), (1, .int a), (2, .int (nI (2 ^ k))), (3, .int (nI 0))] ⟨rfl, rfl, by rw [hn, sh_ok k (by omega)]; rfl, rfl, trivial⟩ ?_
    refine down_ (P := fun i => V p l e ⟨3, 0, 0, 71⟩ s m args below meth c G 4 (Qg G below args s 0 0 (fun v1 h1 s1 => v1 = none ∧ h1 = (pT G h tr hf (t_of hf k a of) n) ∧ s1 = sz)) (pT G h tr hf (t_fill a i of) n) sz 0 0 17 [(0, .ref tr), (1, .int a), (2, .int (nI (2 ^ k))), (3, .int (nI i))] []) (2 ^ k) ?_ ?_
    · refine r_iload_n C dX4_tryFrom_17 rfl rfl ?_
      refine r_iload_n C dX4_tryFrom_18 rfl rfl ?_
      refine r_icmp_ge C 54 dX4_tryFrom_19 (by decide) (fun _ => ?_) (fun c => absurd (Int32.le_refl _) c)
      refine r_iconst C (v := 0) dX4_tryFrom_54 rfl ?_
      refine r_istore_n C dX4_tryFrom_55 rfl (by decide) ?_
      refine V.sub [(0, .ref tr), (1, .int a), (2, .int (nI (2 ^ k))), (3, .int (nI 0))] ⟨rfl, rfl, rfl, rfl, trivial⟩ ?_
      refine down_ (P := fun j => V p l e ⟨3, 0, 0, 71⟩ s m args below meth c G 4 (Qg G below args s 0 0 (fun v1 h1 s1 => v1 = none ∧ h1 = (pT G h tr hf (t_of hf k a of) n) ∧ s1 = sz)) (pT G h tr hf (t_try hf k (t_fill a (2 ^ k) of) j) n) sz 0 0 56 [(0, .ref tr), (1, .int a), (2, .int (nI (2 ^ k))), (3, .int (nI j))] []) (2 ^ k) ?_ ?_
      · refine r_iload_n C dX4_tryFrom_56 rfl rfl ?_
        refine r_iload_n C dX4_tryFrom_57 rfl rfl ?_
        refine r_icmp_ge C 90 dX4_tryFrom_58 (by decide) (fun _ => ?_) (fun c => absurd (Int32.le_refl _) c)
        exact r_vret C rfl (Nat.le_of_ble_eq_true rfl) (Nat.le_of_ble_eq_true rfl) ⟨rfl, by rw [show t_of hf k a of = t_try hf k (t_fill a (2 ^ k) of) (2 ^ k) by simp only [t_of]; rw [if_neg (by omega)]], rfl⟩ dX4_tryFrom_90
      · intro j h_j ih_j
        refine r_iload_n C dX4_tryFrom_56 rfl rfl ?_
        refine r_iload_n C dX4_tryFrom_57 rfl rfl ?_
        refine r_icmp_ge C 90 dX4_tryFrom_58 (by decide) (fun c => absurd c (nI_ge h_j (by have := p2_le hk; omega))) (fun _ => ?_)
        refine r_iload_n C dX4_tryFrom_61 rfl rfl ?_
        refine r_aload_n C dX4_tryFrom_62 rfl rfl ?_
        refine r_get C (j := 1) rfl in_X4 (TA_pT.1) (by decide) fl_X4_20 rfl rfl dX4_tryFrom_63 ?_
        refine r_alenI C (TA_pT.2.2.2) dX4_tryFrom_66 ?_
        refine r_icmp_ge C 90 dX4_tryFrom_67 (by decide) (fun c => absurd c (nI_ge (b := 1024) (by have := p2_le hk; omega) (by decide))) (fun _ => ?_)
        refine r_aload_n C dX4_tryFrom_70 rfl rfl ?_
        refine r_get C (j := 1) rfl in_X4 (TA_pT.1) (by decide) fl_X4_20 rfl rfl dX4_tryFrom_71 ?_
        refine r_iload_n C dX4_tryFrom_74 rfl rfl ?_
        refine r_iald C (TA_pT.2.2.2) (vp_in_nI (by have := p2_le hk; omega) (by decide)) dX4_tryFrom_75 ?_
        refine r_if_eq C 84 dX4_tryFrom_76 (by decide) (fun c_76 => ?_) (fun c_76 => ?_)
        · refine r_iinc C (v := 1) dX4_tryFrom_84 rfl rfl (by decide) ?_
          refine r_goto C 56 dX4_tryFrom_87 (by decide) ?_
          refine V.heap (h2 := (pT G h tr hf (t_try hf k (t_fill a (2 ^ k) of) (j + 1)) n)) (by simp only [t_try]; rw [nI_clamp (by have := p2_le hk; omega)] at c_76; rw [if_pos c_76]) ?_
          refine V.sub [(0, .ref tr), (1, .int a), (2, .int (nI (2 ^ k))), (3, .int (nI (j + 1)))] ⟨rfl, rfl, rfl, (by rw [← nI_1 j]; rfl), trivial⟩ ?_
          exact ih_j
        · refine r_aload_n C dX4_tryFrom_79 rfl rfl ?_
          refine r_iload_n C dX4_tryFrom_80 rfl rfl ?_
          refine r_cVv C (c_X4_goOnFrom TA_pT hn hk (by have := p2_le hk; omega)) lk_X4_52 rfl (TA_pT.1) rfl rfl ⟨(Nat.le_of_ble_eq_true rfl), (Nat.le_of_ble_eq_true rfl), (Nat.le_of_ble_eq_true rfl), (Nat.le_of_ble_eq_true rfl), (Nat.le_of_ble_eq_true rfl)⟩ dX4_tryFrom_81 ?_
          refine r_iinc C (v := 1) dX4_tryFrom_84 rfl rfl (by decide) ?_
          refine r_goto C 56 dX4_tryFrom_87 (by decide) ?_
          refine V.heap (h2 := (pT G h tr hf (t_try hf k (t_fill a (2 ^ k) of) (j + 1)) n)) (by rw [pT_pT]; simp only [t_try]; rw [nI_clamp (by have := p2_le hk; omega)] at c_76; rw [if_neg c_76]) ?_
          refine V.sub [(0, .ref tr), (1, .int a), (2, .int (nI (2 ^ k))), (3, .int (nI (j + 1)))] ⟨rfl, rfl, rfl, (by rw [← nI_1 j]; rfl), trivial⟩ ?_
          exact ih_j
    · intro i h_i ih_i
      refine r_iload_n C dX4_tryFrom_17 rfl rfl ?_
      refine r_iload_n C dX4_tryFrom_18 rfl rfl ?_
      refine r_icmp_ge C 54 dX4_tryFrom_19 (by decide) (fun c => absurd c (nI_ge h_i (by have := p2_le hk; omega))) (fun _ => ?_)
      refine r_iload_n C dX4_tryFrom_22 rfl rfl ?_
      refine r_aload_n C dX4_tryFrom_23 rfl rfl ?_
      refine r_get C (j := 1) rfl in_X4 (TA_pT.1) (by decide) fl_X4_20 rfl rfl dX4_tryFrom_24 ?_
      refine r_alenI C (TA_pT.2.2.2) dX4_tryFrom_27 ?_
      refine r_icmp_ge C 54 dX4_tryFrom_28 (by decide) (fun c => absurd c (nI_ge (b := 1024) (by have := p2_le hk; omega) (by decide))) (fun _ => ?_)
      refine r_aload_n C dX4_tryFrom_31 rfl rfl ?_
      refine r_get C (j := 1) rfl in_X4 (TA_pT.1) (by decide) fl_X4_20 rfl rfl dX4_tryFrom_32 ?_
      refine r_iload_n C dX4_tryFrom_35 rfl rfl ?_
      refine r_iload_n C dX4_tryFrom_36 rfl rfl ?_
      refine r_if_ne C 46 dX4_tryFrom_37 (by decide) (fun c_37 => ?_) (fun c_37 => ?_)
      · refine r_iconst C (v := 0) dX4_tryFrom_46 rfl ?_
        refine r_iast C (TA_pT.2.2.2) (vp_in_nI (by have := p2_le hk; omega) (by decide)) dX4_tryFrom_47 ?_
        refine r_iinc C (v := 1) dX4_tryFrom_48 rfl rfl (by decide) ?_
        refine r_goto C 17 dX4_tryFrom_51 (by decide) ?_
        refine V.heap (h2 := (pT G h tr hf (t_fill a (i + 1) of) n)) (by rw [pT_o, nI_clamp (by have := p2_le hk; omega)]; simp only [t_fill]; rw [if_neg (fun q => c_37 (by rw [q]; rfl))]) ?_
        refine V.sub [(0, .ref tr), (1, .int a), (2, .int (nI (2 ^ k))), (3, .int (nI (i + 1)))] ⟨rfl, rfl, rfl, (by rw [← nI_1 i]; rfl), trivial⟩ ?_
        exact ih_i
      · refine r_iconst C (v := 1) dX4_tryFrom_40 rfl ?_
        refine r_iload_n C dX4_tryFrom_41 rfl rfl ?_
        refine r_ishl C dX4_tryFrom_42 ?_
        refine r_goto C 47 dX4_tryFrom_43 (by decide) ?_
        refine r_iast C (TA_pT.2.2.2) (vp_in_nI (by have := p2_le hk; omega) (by decide)) dX4_tryFrom_47 ?_
        refine r_iinc C (v := 1) dX4_tryFrom_48 rfl rfl (by decide) ?_
        refine r_goto C 17 dX4_tryFrom_51 (by decide) ?_
        refine V.heap (h2 := (pT G h tr hf (t_fill a (i + 1) of) n)) (by rw [pT_o, nI_clamp (by have := p2_le hk; omega)]; simp only [t_fill]; rw [if_pos ((nI_eq (b := 0) (by have := p2_le hk; omega) (by decide)).mp c_37)]) ?_
        refine V.sub [(0, .ref tr), (1, .int a), (2, .int (nI (2 ^ k))), (3, .int (nI (i + 1)))] ⟨rfl, rfl, rfl, (by rw [← nI_1 i]; rfl), trivial⟩ ?_
        exact ih_i
  · have c_4 := bI_t c_4
    exact r_vret C rfl (Nat.le_of_ble_eq_true rfl) (Nat.le_of_ble_eq_true rfl) ⟨rfl, by rw [show t_of hf k a of = of by simp only [t_of]; rw [large_ok hn hkk] at c_4; rw [if_pos (of_decide_eq_true c_4)]]; exact (pT_id w).symm, rfl⟩ dX4_tryFrom_7

set_option maxHeartbeats 800000 in
set_option maxRecDepth 100000 in
theorem c_X4_mostTiles {G : ga_} {l : Launch} {h : HP} {sz : Nat} {tr : Nat} {hf of : Nat → Int32} {n : Int32} {k : Nat} (w : TA G h tr hf of n) (hn : n = nI k) (hkk : k < 2147483648) : Mf G l yX4_mostTiles cX4_mostTiles 4 (some .int) 1 20 0 0 [.ref tr] h sz (some (.int (t_most of k))) h sz := by
  refine Mg.ofV [(0, .ref tr)] (by decide) (Nat.le_of_ble_eq_true rfl) rfl ?_
  intro p e s m args below meth c C
  refine r_aload_n C dX4_mostTiles_0 rfl rfl ?_
  refine r_cVi C (c_X4_isTooLarge w) lk_X4_48 rfl (w.1) rfl rfl ⟨(Nat.le_of_ble_eq_true rfl), (Nat.le_of_ble_eq_true rfl), (Nat.le_of_ble_eq_true rfl), (Nat.le_of_ble_eq_true rfl), (Nat.le_of_ble_eq_true rfl)⟩ dX4_mostTiles_1 ?_
  refine r_if_eq C 9 dX4_mostTiles_4 (by decide) (fun c_4 => ?_) (fun c_4 => ?_)
  · have c_4 := bI_f c_4
    have hk : k ≤ 10 := by
      rw [large_ok hn hkk] at c_4
      have := of_decide_eq_false c_4
      omega
    refine r_iconst C (v := 0) dX4_mostTiles_9 rfl ?_
    refine r_istore_n C dX4_mostTiles_10 rfl (by decide) ?_
    refine r_iconst C (v := 1) dX4_mostTiles_11 rfl ?_
    refine r_aload_n C dX4_mostTiles_12 rfl rfl ?_
    refine r_get C (j := 2) rfl in_X4 (w.1) (by decide) fl_X4_24 rfl rfl dX4_mostTiles_13 ?_
    refine r_ishl C dX4_mostTiles_16 ?_
    refine r_istore_n C dX4_mostTiles_17 rfl (by decide) ?_
    refine r_iconst C (v := 0) dX4_mostTiles_18 rfl ?_
    refine r_istore_n C dX4_mostTiles_19 rfl (by decide) ?_
    refine V.sub [(0, .ref tr), (1, .int (t_mx of 0)), (2, .int (nI (2 ^ k))), (3, .int (nI 0))] ⟨rfl, rfl, by rw [hn, sh_ok k (by omega)]; rfl, rfl, trivial⟩ ?_
    refine down_ (P := fun i => V p l e ⟨1, 0, 0, 20⟩ s m args below meth c G 4 (Qg G below args s 0 0 (fun v1 h1 s1 => v1 = (some (.int (t_most of k))) ∧ h1 = h ∧ s1 = sz)) h sz 0 0 20 [(0, .ref tr), (1, .int (t_mx of i)), (2, .int (nI (2 ^ k))), (3, .int (nI i))] []) (2 ^ k) ?_ ?_
    · refine r_iload_n C dX4_mostTiles_20 rfl rfl ?_
      refine r_iload_n C dX4_mostTiles_21 rfl rfl ?_
      refine r_icmp_ge C 58 dX4_mostTiles_22 (by decide) (fun _ => ?_) (fun c => absurd (Int32.le_refl _) c)
      refine r_iload_n C dX4_mostTiles_58 rfl rfl ?_
      exact r_iret C rfl (Nat.le_of_ble_eq_true rfl) (Nat.le_of_ble_eq_true rfl) ⟨by simp only [t_most]; rw [if_neg (by omega)], rfl, rfl⟩ dX4_mostTiles_59
    · intro i h_i ih_i
      refine r_iload_n C dX4_mostTiles_20 rfl rfl ?_
      refine r_iload_n C dX4_mostTiles_21 rfl rfl ?_
      refine r_icmp_ge C 58 dX4_mostTiles_22 (by decide) (fun c => absurd c (nI_ge h_i (by have := p2_le hk; omega))) (fun _ => ?_)
      refine r_iload_n C dX4_mostTiles_25 rfl rfl ?_
      refine r_aload_n C dX4_mostTiles_26 rfl rfl ?_
      refine r_get C (j := 1) rfl in_X4 (w.1) (by decide) fl_X4_20 rfl rfl dX4_mostTiles_27 ?_
      refine r_alenI C (w.2.2.2) dX4_mostTiles_30 ?_
      refine r_icmp_ge C 58 dX4_mostTiles_31 (by decide) (fun c => absurd c (nI_ge (b := 1024) (by have := p2_le hk; omega) (by decide))) (fun _ => ?_)
      refine r_aload_n C dX4_mostTiles_34 rfl rfl ?_
      refine r_get C (j := 1) rfl in_X4 (w.1) (by decide) fl_X4_20 rfl rfl dX4_mostTiles_35 ?_
      refine r_iload_n C dX4_mostTiles_38 rfl rfl ?_
      refine r_iald C (w.2.2.2) (vp_in_nI (by have := p2_le hk; omega) (by decide)) dX4_mostTiles_39 ?_
      refine r_if_eq C 52 dX4_mostTiles_40 (by decide) (fun c_40 => ?_) (fun c_40 => ?_)
      · refine r_iinc C (v := 1) dX4_mostTiles_52 rfl rfl (by decide) ?_
        refine r_goto C 20 dX4_mostTiles_55 (by decide) ?_
        rw [nI_clamp (by have := p2_le hk; omega)] at c_40
        refine V.sub [(0, .ref tr), (1, .int (t_mx of (i + 1))), (2, .int (nI (2 ^ k))), (3, .int (nI (i + 1)))] ⟨rfl, by simp only [t_mx]; rw [if_pos c_40]; rfl, rfl, (by rw [← nI_1 i]; rfl), trivial⟩ ?_
        exact ih_i
      · refine r_iload_n C dX4_mostTiles_43 rfl rfl ?_
        refine r_iload_n C dX4_mostTiles_44 rfl rfl ?_
        refine r_cSi C (c_J6_bitCount_0f7a4) lk_X4_59 rfl rfl ⟨(Nat.le_of_ble_eq_true rfl), (Nat.le_of_ble_eq_true rfl), (Nat.le_of_ble_eq_true rfl), (Nat.le_of_ble_eq_true rfl), (Nat.le_of_ble_eq_true rfl)⟩ dX4_mostTiles_45 ?_
        refine r_mmax C jl_X4_64 mx_st ma_ii mx_code (Nat.le_of_ble_eq_true rfl) (Nat.le_of_ble_eq_true rfl) (Nat.zero_le _) (Nat.zero_le _) dX4_mostTiles_48 ?_
        refine r_istore_n C dX4_mostTiles_51 rfl (by decide) ?_
        refine r_iinc C (v := 1) dX4_mostTiles_52 rfl rfl (by decide) ?_
        refine r_goto C 20 dX4_mostTiles_55 (by decide) ?_
        rw [nI_clamp (by have := p2_le hk; omega)] at c_40
        refine V.sub [(0, .ref tr), (1, .int (t_mx of (i + 1))), (2, .int (nI (2 ^ k))), (3, .int (nI (i + 1)))] ⟨rfl, by simp only [t_mx]; rw [if_neg c_40]; rfl, rfl, (by rw [← nI_1 i]; rfl), trivial⟩ ?_
        exact ih_i
  · have c_4 := bI_t c_4
    refine r_iconst C (v := -1) dX4_mostTiles_7 rfl ?_
    exact r_iret C rfl (Nat.le_of_ble_eq_true rfl) (Nat.le_of_ble_eq_true rfl) ⟨by rw [large_ok hn hkk] at c_4; simp only [t_most]; rw [if_pos (of_decide_eq_true c_4)], rfl, rfl⟩ dX4_mostTiles_8

