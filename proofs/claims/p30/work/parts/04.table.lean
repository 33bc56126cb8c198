theorem i32_nlt {a b : Int32} (h : b ≤ a) : ¬ a < b := Int32.not_lt.mpr h
theorem i32_lt {a b : Int32} (h : ¬ b ≤ a) : a < b := Int32.not_le.mp h
theorem i32_nle {a b : Int32} (h : b < a) : ¬ a ≤ b := Int32.not_le.mpr h
theorem i32_le {a b : Int32} (h : ¬ b < a) : a ≤ b := Int32.not_lt.mp h
theorem fb_rng_ (x : Int32) : -2147483648 ≤ x.toInt ∧ x.toInt < 2147483648 := ⟨Int32.le_toInt x, Int32.toInt_lt x⟩
/-! TABLES: a Table at t (columns co, cells at a, n cells f): at, put, increase, clear, become, mixInto. -/
def tIx (co r q : Int32) : Int32 := r * co + q
def tAt (co : Int32) (n : Nat) (f : Nat → Int32) (r q : Int32) : Int32 := if r * co + q < 0 then -1 else if nI n ≤ r * co + q then -1 else f (r * co + q).toNatClampNeg
def tPut (co : Int32) (n : Nat) (f : Nat → Int32) (r q v : Int32) : Nat → Int32 := if r * co + q < 0 then f else if nI n ≤ r * co + q then f else upd f (r * co + q).toNatClampNeg v
def tInc (co : Int32) (n : Nat) (f : Nat → Int32) (r q v : Int32) : Nat → Int32 := if r * co + q < 0 then f else if nI n ≤ r * co + q then f else upd f (r * co + q).toNatClampNeg (f (r * co + q).toNatClampNeg + v)
theorem vp_of {i : Int32} {n : Nat} (hn : n < 2147483648) (h0 : ¬ i < 0) (h1 : ¬ nI n ≤ i) : vp_in i n := by
  rcases pk_ix i (n := n) hn with c | c | ⟨j, hj, rfl⟩
  · exact absurd c h0
  · exact absurd c h1
  · exact vp_in_nI hj hn
theorem up_id {h : HP} {a : Nat} {e : va_E} (he : h a = some e) : up_ h a e = h := by
  funext q
  by_cases c : q = a
  · rw [c, up_s, he]
  · rw [up_n c]
theorem vp0_ (n : Nat) (x : Int32) : x.toNatClampNeg = x.toNatClampNeg := rfl

set_option maxHeartbeats 800000 in
set_option maxRecDepth 100000 in
theorem c_X2_at {G : ga_} {l : Launch} {h : HP} {sz : Nat} {t a n : Nat} {co r q : Int32} {f : Nat → Int32} (hT : h t = some (ob_ 2 [.int co, .ref a])) (hA : h a = some (aI_ G n f)) (hn : n < 2147483648) : Mf G l yX2_at cX2_at 4 (some .int) 0 0 0 0 [.ref t, .int r, .int q] h sz (some (.int (tAt co n f r q))) h sz := by
  refine Mg.ofV [(0, .ref t), (1, .int r), (2, .int q)] (by decide) (Nat.le_of_ble_eq_true rfl) rfl ?_
  intro p e s m args below meth c C

  refine r_iload_n C dX2_at_0 rfl rfl ?_
  refine r_aload_n C dX2_at_1 rfl rfl ?_
  refine r_get C (j := 0) rfl in_X2 (hT) (by decide) fl_X2_9 rfl rfl dX2_at_2 ?_
  refine r_imul C dX2_at_5 ?_
  refine r_iload_n C dX2_at_6 rfl rfl ?_
  refine r_iadd C dX2_at_7 ?_
  refine r_istore_n C dX2_at_8 rfl (by decide) ?_
  refine r_iload_n C dX2_at_9 rfl rfl ?_
  refine r_if_lt C 31 dX2_at_10 (by decide) (fun c_10 => ?_) (fun c_10 => ?_)
  · have e_10 := i32_nle c_10
    refine r_iconst C (v := -1) dX2_at_31 rfl ?_
    exact r_iret C rfl (Nat.le_of_ble_eq_true rfl) (Nat.le_of_ble_eq_true rfl) ⟨by simp [tAt, c_10], rfl, rfl⟩ dX2_at_32
  · have e_10 := i32_le c_10
    refine r_iload_n C dX2_at_13 rfl rfl ?_
    refine r_aload_n C dX2_at_14 rfl rfl ?_
    refine r_get C (j := 1) rfl in_X2 (hT) (by decide) fl_X2_21 rfl rfl dX2_at_15 ?_
    refine r_alenI C (hA) dX2_at_18 ?_
    refine r_icmp_ge C 31 dX2_at_19 (by decide) (fun c_19 => ?_) (fun c_19 => ?_)
    · have e_19 := i32_nlt c_19
      refine r_iconst C (v := -1) dX2_at_31 rfl ?_
      exact r_iret C rfl (Nat.le_of_ble_eq_true rfl) (Nat.le_of_ble_eq_true rfl) ⟨by simp [tAt, c_10, c_19], rfl, rfl⟩ dX2_at_32
    · have e_19 := i32_lt c_19
      refine r_aload_n C dX2_at_22 rfl rfl ?_
      refine r_get C (j := 1) rfl in_X2 (hT) (by decide) fl_X2_21 rfl rfl dX2_at_23 ?_
      refine r_iload_n C dX2_at_26 rfl rfl ?_
      refine r_iald C (hA) (vp_of hn c_10 c_19) dX2_at_27 ?_
      refine r_goto C 32 dX2_at_28 (by decide) ?_
      exact r_iret C rfl (Nat.le_of_ble_eq_true rfl) (Nat.le_of_ble_eq_true rfl) ⟨by simp [tAt, c_10, c_19], rfl, rfl⟩ dX2_at_32
set_option maxHeartbeats 800000 in
set_option maxRecDepth 100000 in
theorem c_X2_put {G : ga_} {l : Launch} {h : HP} {sz : Nat} {t a n : Nat} {co r q v : Int32} {f : Nat → Int32} (hT : h t = some (ob_ 2 [.int co, .ref a])) (hA : h a = some (aI_ G n f)) (hn : n < 2147483648) : Mf G l yX2_put cX2_put 5 none 0 0 0 0 [.ref t, .int r, .int q, .int v] h sz none (up_ h a (aI_ G n (tPut co n f r q v))) sz := by
  refine Mg.ofV [(0, .ref t), (1, .int r), (2, .int q), (3, .int v)] (by decide) (Nat.le_of_ble_eq_true rfl) rfl ?_
  intro p e s m args below meth c C

  refine r_iload_n C dX2_put_0 rfl rfl ?_
  refine r_aload_n C dX2_put_1 rfl rfl ?_
  refine r_get C (j := 0) rfl in_X2 (hT) (by decide) fl_X2_9 rfl rfl dX2_put_2 ?_
  refine r_imul C dX2_put_5 ?_
  refine r_iload_n C dX2_put_6 rfl rfl ?_
  refine r_iadd C dX2_put_7 ?_
  refine r_istore C dX2_put_8 (by decide) ?_
  refine r_iload C dX2_put_10 rfl ?_
  refine r_if_lt C 33 dX2_put_12 (by decide) (fun c_12 => ?_) (fun c_12 => ?_)
  · have e_12 := i32_nle c_12
    exact r_vret C rfl (Nat.le_of_ble_eq_true rfl) (Nat.le_of_ble_eq_true rfl) ⟨rfl, by rw [show tPut co n f r q v = f by simp [tPut, c_12]]; exact (up_id hA).symm, rfl⟩ dX2_put_33
  · have e_12 := i32_le c_12
    refine r_iload C dX2_put_15 rfl ?_
    refine r_aload_n C dX2_put_17 rfl rfl ?_
    refine r_get C (j := 1) rfl in_X2 (hT) (by decide) fl_X2_21 rfl rfl dX2_put_18 ?_
    refine r_alenI C (hA) dX2_put_21 ?_
    refine r_icmp_ge C 33 dX2_put_22 (by decide) (fun c_22 => ?_) (fun c_22 => ?_)
    · have e_22 := i32_nlt c_22
      exact r_vret C rfl (Nat.le_of_ble_eq_true rfl) (Nat.le_of_ble_eq_true rfl) ⟨rfl, by rw [show tPut co n f r q v = f by simp [tPut, c_12, c_22]]; exact (up_id hA).symm, rfl⟩ dX2_put_33
    · have e_22 := i32_lt c_22
      refine r_aload_n C dX2_put_25 rfl rfl ?_
      refine r_get C (j := 1) rfl in_X2 (hT) (by decide) fl_X2_21 rfl rfl dX2_put_26 ?_
      refine r_iload C dX2_put_29 rfl ?_
      refine r_iload_n C dX2_put_31 rfl rfl ?_
      refine r_iast C (hA) (vp_of hn c_12 c_22) dX2_put_32 ?_
      exact r_vret C rfl (Nat.le_of_ble_eq_true rfl) (Nat.le_of_ble_eq_true rfl) ⟨rfl, by simp [tPut, c_12, c_22], rfl⟩ dX2_put_33
set_option maxHeartbeats 800000 in
set_option maxRecDepth 100000 in
theorem c_X2_increase {G : ga_} {l : Launch} {h : HP} {sz : Nat} {t a n : Nat} {co r q v : Int32} {f : Nat → Int32} (hT : h t = some (ob_ 2 [.int co, .ref a])) (hA : h a = some (aI_ G n f)) (hn : n < 2147483648) : Mf G l yX2_increase cX2_increase 5 none 0 0 0 0 [.ref t, .int r, .int q, .int v] h sz none (up_ h a (aI_ G n (tInc co n f r q v))) sz := by
  refine Mg.ofV [(0, .ref t), (1, .int r), (2, .int q), (3, .int v)] (by decide) (Nat.le_of_ble_eq_true rfl) rfl ?_
  intro p e s m args below meth c C

  refine r_iload_n C dX2_increase_0 rfl rfl ?_
  refine r_aload_n C dX2_increase_1 rfl rfl ?_
  refine r_get C (j := 0) rfl in_X2 (hT) (by decide) fl_X2_9 rfl rfl dX2_increase_2 ?_
  refine r_imul C dX2_increase_5 ?_
  refine r_iload_n C dX2_increase_6 rfl rfl ?_
  refine r_iadd C dX2_increase_7 ?_
  refine r_istore C dX2_increase_8 (by decide) ?_
  refine r_iload C dX2_increase_10 rfl ?_
  refine r_if_lt C 36 dX2_increase_12 (by decide) (fun c_12 => ?_) (fun c_12 => ?_)
  · have e_12 := i32_nle c_12
    exact r_vret C rfl (Nat.le_of_ble_eq_true rfl) (Nat.le_of_ble_eq_true rfl) ⟨rfl, by rw [show tInc co n f r q v = f by simp [tInc, c_12]]; exact (up_id hA).symm, rfl⟩ dX2_increase_36
  · have e_12 := i32_le c_12
    refine r_iload C dX2_increase_15 rfl ?_
    refine r_aload_n C dX2_increase_17 rfl rfl ?_
    refine r_get C (j := 1) rfl in_X2 (hT) (by decide) fl_X2_21 rfl rfl dX2_increase_18 ?_
    refine r_alenI C (hA) dX2_increase_21 ?_
    refine r_icmp_ge C 36 dX2_increase_22 (by decide) (fun c_22 => ?_) (fun c_22 => ?_)
    · have e_22 := i32_nlt c_22
      exact r_vret C rfl (Nat.le_of_ble_eq_true rfl) (Nat.le_of_ble_eq_true rfl) ⟨rfl, by rw [show tInc co n f r q v = f by simp [tInc, c_12, c_22]]; exact (up_id hA).symm, rfl⟩ dX2_increase_36
    · have e_22 := i32_lt c_22
      refine r_aload_n C dX2_increase_25 rfl rfl ?_
      refine r_get C (j := 1) rfl in_X2 (hT) (by decide) fl_X2_21 rfl rfl dX2_increase_26 ?_
      refine r_iload C dX2_increase_29 rfl ?_
      refine r_dup2 C dX2_increase_31 rfl rfl ?_
      refine r_iald C (hA) (vp_of hn c_12 c_22) dX2_increase_32 ?_
      refine r_iload_n C dX2_increase_33 rfl rfl ?_
      refine r_iadd C dX2_increase_34 ?_
      refine r_iast C (hA) (vp_of hn c_12 c_22) dX2_increase_35 ?_
      exact r_vret C rfl (Nat.le_of_ble_eq_true rfl) (Nat.le_of_ble_eq_true rfl) ⟨rfl, by simp [tInc, c_12, c_22], rfl⟩ dX2_increase_36
set_option maxHeartbeats 800000 in
set_option maxRecDepth 100000 in
theorem c_X2_become {G : ga_} {l : Launch} {h : HP} {sz : Nat} {t a n t2 a2 : Nat} {co co2 : Int32} {f f2 : Nat → Int32} (hT : h t = some (ob_ 2 [.int co, .ref a])) (hA : h a = some (aI_ G n f)) (hT2 : h t2 = some (ob_ 2 [.int co2, .ref a2])) (hA2 : h a2 = some (aI_ G n f2)) (hn : n < 2147483648) : Mf G l yX2_become cX2_become 2 none 1 30 0 0 [.ref t, .ref t2] h sz none (up_ h a (aI_ G n (va_cpy f2 f 0 0 n))) sz := by
  refine Mg.ofV [(0, .ref t), (1, .ref t2)] (by decide) (Nat.le_of_ble_eq_true rfl) rfl ?_
  intro p e s m args below meth c C

  have hm : (if nI n < nI n then nI n else nI n) = nI n := by split <;> rfl
  refine r_aload_n C dX2_become_0 rfl rfl ?_
  refine r_ifnull C dX2_become_1 ?_
  refine r_aload_n C dX2_become_4 rfl rfl ?_
  refine r_get C (j := 1) rfl in_X2 (hT2) (by decide) fl_X2_21 rfl rfl dX2_become_5 ?_
  refine r_iconst C (v := 0) dX2_become_8 rfl ?_
  refine r_aload_n C dX2_become_9 rfl rfl ?_
  refine r_get C (j := 1) rfl in_X2 (hT) (by decide) fl_X2_21 rfl rfl dX2_become_10 ?_
  refine r_iconst C (v := 0) dX2_become_13 rfl ?_
  refine r_aload_n C dX2_become_14 rfl rfl ?_
  refine r_get C (j := 1) rfl in_X2 (hT2) (by decide) fl_X2_21 rfl rfl dX2_become_15 ?_
  refine r_alenI C (hA2) dX2_become_18 ?_
  refine r_aload_n C dX2_become_19 rfl rfl ?_
  refine r_get C (j := 1) rfl in_X2 (hT) (by decide) fl_X2_21 rfl rfl dX2_become_20 ?_
  refine r_alenI C (hA) dX2_become_23 ?_
  refine r_mmin C jl_X2_31 mn_st ma_ii mn_code (Nat.le_of_ble_eq_true rfl) (Nat.le_of_ble_eq_true rfl) (Nat.le_of_ble_eq_true rfl) (Nat.le_of_ble_eq_true rfl) dX2_become_24 ?_
  rw [hm]
  refine r_acopy C jl_X2_34 sc_nat sc_st sc_ii hA2 hA (nI_pos hn) (by rw [nI_clamp hn]; exact Nat.le_refl _) (by rw [nI_clamp hn]; exact Nat.le_refl _) (Nat.le_of_ble_eq_true rfl) (Nat.le_of_ble_eq_true rfl) dX2_become_27 ?_
  exact r_vret C rfl (Nat.le_of_ble_eq_true rfl) (Nat.le_of_ble_eq_true rfl) ⟨rfl, by rw [nI_clamp hn], rfl⟩ dX2_become_30
def mixF (f : Nat → Int32) (x : Int64) : Nat → Int64
  | 0 => x
  | i + 1 => 31 * mixF f x i + (f i).toInt64
/-- at the end of a loop that counts up to N -/
theorem down_ {P : Nat → Prop} (N : Nat) (hN : P N) (hs : ∀ i, i < N → P (i + 1) → P i) : P 0 := by
  have key : ∀ k, k ≤ N → P (N - k) := by
    intro k
    induction k with
    | zero => intro _; exact hN
    | succ k ih => intro hk; exact hs (N - (k + 1)) (by omega) (by rw [show N - (k + 1) + 1 = N - k by omega]; exact ih (by omega))
  have := key N (Nat.le_refl N)
  rwa [Nat.sub_self] at this
theorem tn_lt (x : Int32) : x.toNatClampNeg < 2147483648 := by
  have := fb_rng_ x
  show x.toInt.toNat < _
  omega
theorem tn_le (x : Int32) : x ≤ nI x.toNatClampNeg := by
  rw [Int32.le_iff_toInt_le, nI_toInt (tn_lt x)]
  show x.toInt ≤ ((x.toInt.toNat : Nat) : Int)
  omega
theorem tn_nle {x : Int32} {i : Nat} (h : i < x.toNatClampNeg) : ¬ x ≤ nI i := by
  have hl := tn_lt x
  rw [Int32.le_iff_toInt_le, nI_toInt (by omega)]
  have h2 : i < x.toInt.toNat := h
  omega
def zf (f : Nat → Int32) (v : Int32) (i : Nat) : Nat → Int32 := fun j => if j < i then v else f j
theorem zf_0 (f : Nat → Int32) (v : Int32) : zf f v 0 = f := by funext j; simp [zf]
theorem zf_s (f : Nat → Int32) (v : Int32) (i : Nat) : upd (zf f v i) i v = zf f v (i + 1) := by
  funext j
  by_cases c : j = i
  · subst c; simp [upd, zf]
  · by_cases d : j < i
    · simp [upd, zf, c, d, show j < i + 1 by omega]
    · simp [upd, zf, c, d, show ¬ j < i + 1 by omega]
set_option maxHeartbeats 800000 in
set_option maxRecDepth 100000 in
theorem c_J7_fill_53178 {G : ga_} {l : Launch} {h : HP} {sz : Nat} {a n : Nat} {f : Nat → Int32} {v : Int32} (hA : h a = some (aI_ G n f)) (hn : n < 2147483648) : Mf G l yJ7_fill_53178 cJ7_fill_53178 4 none 0 0 0 0 [.ref a, .int v] h sz none (up_ h a (aI_ G n (zf f v n))) sz := by
  refine Mg.ofV [(0, .ref a), (1, .int v)] (by decide) (Nat.le_of_ble_eq_true rfl) rfl ?_
  intro p e s m args below meth c C

  refine r_iconst C (v := 0) dJ7_fill_53178_0 rfl ?_
  refine r_istore_n C dJ7_fill_53178_1 rfl (by decide) ?_
  refine r_aload_n C dJ7_fill_53178_2 rfl rfl ?_
  refine r_alenI C (hA) dJ7_fill_53178_3 ?_
  refine r_istore_n C dJ7_fill_53178_4 rfl (by decide) ?_
  refine V.heap (show h = up_ h a (aI_ G n (zf f v 0)) by rw [zf_0]; exact (up_id hA).symm) ?_
  refine V.sub [(0, .ref a), (1, .int v), (2, .int (nI 0)), (3, .int (nI n))] ⟨rfl, rfl, rfl, rfl, trivial⟩ ?_
  refine down_ (P := fun i => V p l e ⟨0, 0, 0, 0⟩ s m args below meth c G 4 (Qg G below args s 0 0 (fun v1 h1 s1 => v1 = none ∧ h1 = (up_ h a (aI_ G n (zf f v n))) ∧ s1 = sz)) (up_ h a (aI_ G n (zf f v i))) sz 0 0 5 [(0, .ref a), (1, .int v), (2, .int (nI i)), (3, .int (nI n))] []) (n) ?_ ?_
  · refine r_iload_n C dJ7_fill_53178_5 rfl rfl ?_
    refine r_iload_n C dJ7_fill_53178_6 rfl rfl ?_
    refine r_icmp_ge C 20 dJ7_fill_53178_7 (by decide) (fun _ => ?_) (fun c => absurd (nI_le (Nat.le_refl n) hn) c)
    exact r_vret C rfl (Nat.le_of_ble_eq_true rfl) (Nat.le_of_ble_eq_true rfl) ⟨rfl, rfl, rfl⟩ dJ7_fill_53178_20
  · intro i h_i ih_i
    refine r_iload_n C dJ7_fill_53178_5 rfl rfl ?_
    refine r_iload_n C dJ7_fill_53178_6 rfl rfl ?_
    refine r_icmp_ge C 20 dJ7_fill_53178_7 (by decide) (fun c => absurd c (nI_ge h_i hn)) (fun _ => ?_)
    refine r_aload_n C dJ7_fill_53178_10 rfl rfl ?_
    refine r_iload_n C dJ7_fill_53178_11 rfl rfl ?_
    refine r_iload_n C dJ7_fill_53178_12 rfl rfl ?_
    refine r_iast C (up_s _ _ _) (vp_in_nI h_i hn) dJ7_fill_53178_13 ?_
    refine r_iinc C (v := 1) dJ7_fill_53178_14 rfl rfl (by decide) ?_
    refine r_goto C 5 dJ7_fill_53178_17 (by decide) ?_
    refine V.heap (h2 := (up_ h a (aI_ G n (zf f v (i + 1))))) (by rw [up_up, nI_clamp (by omega), zf_s]) ?_
    refine V.sub [(0, .ref a), (1, .int v), (2, .int (nI (i + 1))), (3, .int (nI n))] ⟨rfl, rfl, (by rw [← nI_1 i]; rfl), rfl, trivial⟩ ?_
    exact ih_i
set_option maxHeartbeats 800000 in
set_option maxRecDepth 100000 in
theorem c_X2_clear {G : ga_} {l : Launch} {h : HP} {sz : Nat} {t a n : Nat} {co : Int32} {f : Nat → Int32} (hT : h t = some (ob_ 2 [.int co, .ref a])) (hA : h a = some (aI_ G n f)) (hn : n < 2147483648) : Mf G l yX2_clear cX2_clear 1 none 1 23 0 0 [.ref t] h sz none (up_ h a (aI_ G n (zf f 0 n))) sz := by
  refine Mg.ofV [(0, .ref t)] (by decide) (Nat.le_of_ble_eq_true rfl) rfl ?_
  intro p e s m args below meth c C

  refine r_aload_n C dX2_clear_0 rfl rfl ?_
  refine r_get C (j := 1) rfl in_X2 (hT) (by decide) fl_X2_21 rfl rfl dX2_clear_1 ?_
  refine r_iconst C (v := 0) dX2_clear_4 rfl ?_
  refine r_cSv C (c_J7_fill_53178 hA hn) lk_X2_25 rfl rfl ⟨(Nat.le_of_ble_eq_true rfl), (Nat.le_of_ble_eq_true rfl), (Nat.le_of_ble_eq_true rfl), (Nat.le_of_ble_eq_true rfl), (Nat.le_of_ble_eq_true rfl)⟩ dX2_clear_5 ?_
  exact r_vret C rfl (Nat.le_of_ble_eq_true rfl) (Nat.le_of_ble_eq_true rfl) ⟨rfl, rfl, rfl⟩ dX2_clear_8
