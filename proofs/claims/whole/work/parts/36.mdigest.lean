/-! THE MODEL'S DIGEST -/
def mb_ok : Nat → UInt64 → Bool
  | 0, y => !b_lt y && b_fn y
  | n + 1, y => if b_lt y = true then (b_n (FP.dmul y 4611686018427387904) && mb_ok n (FP.dmul y 4611686018427387904)) else b_fn y
def mb_fin (y : UInt64) (e : Int64) : Int64 := e * 4503599627370496 + FP.d2l (FP.dmul (FP.dsub y FP.dconst1) 4841369599423283200)
def mb_res : Nat → UInt64 → Int64 → Int64
  | 0, y, e => mb_fin y e
  | n + 1, y, e => if b_lt y = true then mb_res n (FP.dmul y 4611686018427387904) (e - 1) else mb_fin y e
def mb_of (x : UInt64) : Int64 := if Op.cmpValue (FP.dcmp x FP.dconst0) .l = 0 then 0 else mb_res 60 x 1023
def mb_k (x : UInt64) : Bool := decide (Op.cmpValue (FP.dcmp x FP.dconst0) .l = 0) || mb_ok 60 x
theorem mb_k_t {x : UInt64} (h : mb_k x = true) (c : ¬ Op.cmpValue (FP.dcmp x FP.dconst0) .l = 0) : mb_ok 60 x = true := by
  unfold mb_k at h
  rw [decide_eq_false c, Bool.false_or] at h
  exact h
theorem mb_ok_s {n : Nat} {y : UInt64} (h : mb_ok (n + 1) y = true) (c : b_lt y = true) : vf_n64 (FP.dmul y 4611686018427387904) ∧ mb_ok n (FP.dmul y 4611686018427387904) = true := by
  unfold mb_ok at h
  rw [if_pos c, Bool.and_eq_true] at h
  exact ⟨b_nV h.1, h.2⟩
theorem mb_ok_t {n : Nat} {y : UInt64} (h : mb_ok n y = true) (c : ¬ b_lt y = true) : b_fn y = true := by
  cases n with
  | zero => unfold mb_ok at h; rw [Bool.and_eq_true] at h; exact h.2
  | succ n => unfold mb_ok at h; rw [if_neg c] at h; exact h
theorem mb_res_f {n : Nat} {y : UInt64} {e : Int64} (c : ¬ b_lt y = true) : mb_res n y e = mb_fin y e := by
  cases n with
  | zero => rfl
  | succ n => show (if b_lt y = true then _ else _) = _; exact if_neg c
theorem kept01 : ∀ k, k < 4 → (nI k &&& 1) = nI (k % 2) ∧ ((nI k >>> ((1 : Int32) &&& 31)) &&& 1) = nI (k / 2 % 2) := by decide +kernel
theorem okN_i {i k : Nat} (h : i < k) (hk : k < 2147483648) : okN (nI i) (nI k) = true := by
  unfold okN
  rw [decide_eq_false (nI_pos (by omega)), decide_eq_true (nI_lt h (by omega))]
  rfl
theorem nB.hk {S : gS} (h : nB S) {p : Nat} (hp : p < 4) : tAt 4 16 (S 2) (nI p) 0 = nI (k_k S (nI p)) ∧ k_k S (nI p) ≤ 28 ∧ ∀ i, i < k_k S (nI p) → ∃ t, t < 28 ∧ tAt 28 112 (S 1) (nI p) (nI i) = nI t := by
  obtain ⟨k, h1, h2, h3⟩ := h.hd hp
  have e : k_k S (nI p) = k := by unfold k_k g_held; rw [h2, nI_clamp (by omega)]
  rw [e]
  exact ⟨h2, h1, h3⟩
theorem en_0 {i : Nat} (h : i < 196) (S : gS) : en S (0 + i) = S 0 i := by
  rw [Nat.zero_add]
  unfold en
  rw [if_pos (by omega), (s_of h).1, (s_of h).2]
theorem en_3 {i : Nat} (h : i < 12) (S : gS) : en S (360 + i) = S 3 i := by
  unfold en
  rw [if_pos (by omega), (s_row h).1, (s_row h).2]
def d_F (S : gS) (u : Int32) (k : Nat) (F : Nat → Int32) : Nat → Nat → Int32
  | 0 => F
  | i + 1 => (m_lo S u (nI i) k (m_lo S u (nI i) k (m_lo S u (nI i) k (d_F S u k F i)).2).2).2
def d_3 (S : gS) (u : Int32) (k : Nat) (F : Nat → Int32) (X : Int64) : Nat → Int64
  | 0 => X
  | i + 1 => 31 * (31 * (31 * d_3 S u k F X i + (m_lo S u (nI i) k (d_F S u k F i)).1.toInt64) + (m_wh S u (nI i) k (m_lo S u (nI i) k (d_F S u k F i)).2).toInt64) + (m_wh S u (nI i) k (m_lo S u (nI i) k (m_lo S u (nI i) k (d_F S u k F i)).2).2).toInt64
def d_p (S : gS) (u : Int32) (k : Nat) (F : Nat → Int32) (X : Int64) : Int64 := d_3 S u k F (k_m2 S u (k_m1 S u X 7) k) 7
def d_PF (S : gS) (F : Nat → Int32) : Nat → Nat → Int32
  | 0 => F
  | i + 1 => d_F S (nI i) (k_k S (nI i)) (d_PF S F i) 7
def d_PX (S : gS) (F : Nat → Int32) (X : Int64) : Nat → Int64
  | 0 => X
  | i + 1 => d_p S (nI i) (k_k S (nI i)) (d_PF S F i) (d_PX S F X i)
def d_5 (S : gS) (X : Int64) : Int64 := 31 * (31 * (31 * X + (m_adv S).toInt64) + (g_cl S 6).toInt64) + mb_of (k_sh S)
def d_6 (kk : Nat) (X : Int64) : Int64 := 31 * (31 * X + (nI (kk % 2)).toInt64) + (nI (kk / 2 % 2)).toInt64
def d_dg (S : gS) (F cf : Nat → Int32) (z kk n P K : Nat) : Int64 := x_mix cf n (d_6 kk (d_5 S (k_d4 S (mixF (S 3) (d_PX S F (k_d2 S z) P) 12) (28 - K)))) n
set_option maxHeartbeats 800000 in
set_option maxRecDepth 100000 in
theorem c_X6_bitsOf {G : ga_} {l : Launch} {h : HP} {sz : Nat} {x : UInt64} (hb : mb_k x = true) : Mf G l yX6_bitsOf cX6_bitsOf 6 (some .long) 0 0 0 0 [.double x] h sz (some (.long (mb_of x))) h sz := by
  refine Mg.ofV [(0, .double x)] (by decide) (Nat.le_of_ble_eq_true rfl) rfl ?_
  intro p e s m args below meth c C

  refine r_dload_n C dX6_bitsOf_0 rfl rfl ?_
  refine r_dconst0 C dX6_bitsOf_1 ?_
  refine r_dcmp C dX6_bitsOf_2 ?_
  refine r_if_ne C 8 dX6_bitsOf_3 (by decide) (fun c_3 => ?_) (fun c_3 => ?_)
  · skip
    refine r_ldc2 C kl_X6_209 dX6_bitsOf_8 ?_
    refine r_lstore_n C dX6_bitsOf_11 rfl (by decide) ?_
    refine r_dload_n C dX6_bitsOf_12 rfl rfl ?_
    refine r_dstore C dX6_bitsOf_13 (by decide) ?_
    have K : ∀ (n : Nat) (y : UInt64) (ee : Int64), mb_ok n y = true → mb_res n y ee = mb_of x → V p l e ⟨0, 0, 0, 0⟩ s m args below meth c G 6 (Qg G below args s 0 0 (fun v1 h1 s1 => v1 = some (.long (mb_of x)) ∧ h1 = h ∧ s1 = sz)) h sz 0 0 15 [(2, .long ee), (4, .double y)] [] := by
      intro n
      induction n with
      | zero =>
        intro y ee hbo hr
        refine r_dload C dX6_bitsOf_15 rfl ?_
        refine r_dconst1 C dX6_bitsOf_17 ?_
        refine r_dcmp C dX6_bitsOf_18 ?_
        refine r_if_ge C 37 dX6_bitsOf_19 (by decide) (fun c_19 => ?_) (fun c_19 => ?_)
        · have e_19 := i32_nlt c_19
          have hlt : ¬ b_lt y = true := fun q => absurd (of_decide_eq_true q) e_19
          have hfn := b_ok_f (mb_ok_t hbo hlt)
          rw [mb_res_f hlt] at hr
          refine r_lload_n C dX6_bitsOf_37 rfl rfl ?_
          refine r_ldc2 C kl_X6_213 dX6_bitsOf_38 ?_
          refine r_lmul C dX6_bitsOf_41 ?_
          refine r_dload C dX6_bitsOf_42 rfl ?_
          refine r_dconst1 C dX6_bitsOf_44 ?_
          refine r_dsub C dX6_bitsOf_45 hfn.1 ?_
          refine r_ldcd C kd_X6_215 dX6_bitsOf_46 ?_
          refine r_dmul C dX6_bitsOf_49 hfn.2 ?_
          refine r_d2l C dX6_bitsOf_50 ?_
          refine r_ladd C dX6_bitsOf_51 ?_
          exact r_lret C rfl (Nat.le_of_ble_eq_true rfl) (Nat.le_of_ble_eq_true rfl) ⟨by rw [← hr]; rfl, rfl, rfl⟩ dX6_bitsOf_52
        · have e_19 := i32_lt c_19
          exact absurd (show b_lt y = true from decide_eq_true e_19) (by unfold mb_ok at hbo; rw [Bool.and_eq_true, Bool.not_eq_true'] at hbo; rw [show b_lt y = false from hbo.1]; decide)
      | succ n ih =>
        intro y ee hbo hr
        refine r_dload C dX6_bitsOf_15 rfl ?_
        refine r_dconst1 C dX6_bitsOf_17 ?_
        refine r_dcmp C dX6_bitsOf_18 ?_
        refine r_if_ge C 37 dX6_bitsOf_19 (by decide) (fun c_19 => ?_) (fun c_19 => ?_)
        · have e_19 := i32_nlt c_19
          have hlt : ¬ b_lt y = true := fun q => absurd (of_decide_eq_true q) e_19
          have hfn := b_ok_f (mb_ok_t hbo hlt)
          rw [mb_res_f hlt] at hr
          refine r_lload_n C dX6_bitsOf_37 rfl rfl ?_
          refine r_ldc2 C kl_X6_213 dX6_bitsOf_38 ?_
          refine r_lmul C dX6_bitsOf_41 ?_
          refine r_dload C dX6_bitsOf_42 rfl ?_
          refine r_dconst1 C dX6_bitsOf_44 ?_
          refine r_dsub C dX6_bitsOf_45 hfn.1 ?_
          refine r_ldcd C kd_X6_215 dX6_bitsOf_46 ?_
          refine r_dmul C dX6_bitsOf_49 hfn.2 ?_
          refine r_d2l C dX6_bitsOf_50 ?_
          refine r_ladd C dX6_bitsOf_51 ?_
          exact r_lret C rfl (Nat.le_of_ble_eq_true rfl) (Nat.le_of_ble_eq_true rfl) ⟨by rw [← hr]; rfl, rfl, rfl⟩ dX6_bitsOf_52
        · have e_19 := i32_lt c_19
          have hlt : b_lt y = true := decide_eq_true e_19
          have hs := mb_ok_s hbo hlt
          refine r_dload C dX6_bitsOf_22 rfl ?_
          refine r_ldcd C kd_X6_211 dX6_bitsOf_24 ?_
          refine r_dmul C dX6_bitsOf_27 hs.1 ?_
          refine r_dstore C dX6_bitsOf_28 (by decide) ?_
          refine r_lload_n C dX6_bitsOf_30 rfl rfl ?_
          refine r_lconst C (v := 1) dX6_bitsOf_31 rfl ?_
          refine r_lsub C dX6_bitsOf_32 ?_
          refine r_lstore_n C dX6_bitsOf_33 rfl (by decide) ?_
          refine r_goto C 15 dX6_bitsOf_34 (by decide) ?_
          refine V.sub [(2, .long (ee - 1)), (4, .double (FP.dmul y 4611686018427387904))] ⟨rfl, rfl, trivial⟩ ?_
          exact ih _ _ hs.2 (by rw [← hr]; show _ = mb_res (n + 1) y ee; conv => rhs; unfold mb_res; rw [if_pos hlt])
    refine V.sub [(2, .long 1023), (4, .double x)] ⟨rfl, rfl, trivial⟩ ?_
    exact K 60 x 1023 (mb_k_t hb c_3) (by unfold mb_of; rw [if_neg c_3])
  · skip
    refine r_lconst C (v := 0) dX6_bitsOf_6 rfl ?_
    exact r_lret C rfl (Nat.le_of_ble_eq_true rfl) (Nat.le_of_ble_eq_true rfl) ⟨by unfold mb_of; rw [if_pos c_3], rfl, rfl⟩ dX6_bitsOf_7
set_option maxHeartbeats 800000 in
set_option maxRecDepth 100000 in
theorem c_X6_digestOne {G : ga_} {l : Launch} {h : HP} {sz : Nat} {mo : Nat} {S A : gS} {dg : Int64} {v : Int64}  (w : MA G h mo S A dg)   : Mf G l yX6_digestOne cX6_digestOne 3 none 0 0 0 0 [.ref mo, .long v] h sz none (pM G h mo (S) (A) (31 * dg + v)) sz := by
  refine Mg.ofV [(0, .ref mo), (1, .long v)] (by decide) (Nat.le_of_ble_eq_true rfl) rfl ?_
  intro p e s m args below meth c C
  refine V.heap (pM_id w).symm ?_
  refine r_aload_n C dX6_digestOne_0 rfl rfl ?_
  refine r_ldc2 C kl_X6_217 dX6_digestOne_1 ?_
  refine r_aload_n C dX6_digestOne_4 rfl rfl ?_
  refine r_get C (j := 16) rfl in_X6 (MA_o MA_pM) (by decide) fl_X6_219 rfl rfl dX6_digestOne_5 ?_
  refine r_lmul C dX6_digestOne_8 ?_
  refine r_lload_n C dX6_digestOne_9 rfl rfl ?_
  refine r_ladd C dX6_digestOne_10 ?_
  refine r_put C (j := 16) tyX6 tyX6_ok nmX6 rfl in_X6 (MA_o MA_pM) (by decide) fl_X6_219 rfl rfl rfl (by first | rfl | decide) (by first | rfl | decide) (Nat.le_of_ble_eq_true rfl) dX6_digestOne_11 ?_
  refine V.heap (qM_dg rfl) ?_
  exact r_vret C rfl (Nat.le_of_ble_eq_true rfl) (Nat.le_of_ble_eq_true rfl) ⟨rfl, rfl, rfl⟩ dX6_digestOne_14

set_option maxHeartbeats 800000 in
set_option maxRecDepth 100000 in
theorem c_X6_digestPlayer {G : ga_} {l : Launch} {h : HP} {sz : Nat} {mo : Nat} {S A : gS} {dg : Int64} {u : Nat} {k : Nat}  (w : MA G h mo S A dg)  (hp : u < 4) (hk : tAt 4 16 (S 2) (nI u) 0 = nI k) (hk28 : k ≤ 28) (hk2 : ∀ i, i < k → ∃ t, t < 28 ∧ tAt 28 112 (S 1) (nI u) (nI i) = nI t) (hb : nB S)  : Mf G l yX6_digestPlayer cX6_digestPlayer 3 none 5 118 0 0 [.ref mo, .int (nI u)] h sz none (pM G h mo (S) (gu A 4 (d_F S (nI u) k (A 4) 7)) (d_p S (nI u) k (A 4) dg)) sz := by
  refine Mg.ofV [(0, .ref mo), (1, .int (nI u))] (by decide) (Nat.le_of_ble_eq_true rfl) rfl ?_
  intro p e s m args below meth c C
  refine V.heap (pM_id w).symm ?_
  refine r_iconst C (v := 0) dX6_digestPlayer_0 rfl ?_
  refine r_istore_n C dX6_digestPlayer_1 rfl (by decide) ?_
  refine V.heap (h2 := (pM G h mo S A (k_m1 S (nI u) dg 0))) rfl ?_
  refine V.sub [(0, .ref mo), (1, .int (nI u)), (2, .int (nI 0))] ⟨rfl, rfl, rfl, trivial⟩ ?_
  refine down_ (P := fun i => V p l e ⟨5, 0, 0, 118⟩ s m args below meth c G 3 (Qg G below args s 0 0 (fun v1 h1 s1 => v1 = none ∧ h1 = (pM G h mo (S) (gu A 4 (d_F S (nI u) k (A 4) 7)) (d_p S (nI u) k (A 4) dg)) ∧ s1 = sz)) (pM G h mo S A (k_m1 S (nI u) dg i)) sz 0 0 2 [(0, .ref mo), (1, .int (nI u)), (2, .int (nI i))] []) (7) ?_ ?_
  · refine r_iload_n C dX6_digestPlayer_2 rfl rfl ?_
    refine r_bipush C (v := 7) dX6_digestPlayer_3 rfl ?_
    refine r_icmp_ge C 25 dX6_digestPlayer_5 (by decide) (fun _ => ?_) (fun c => absurd (by decide) c)
    refine r_iconst C (v := 0) dX6_digestPlayer_25 rfl ?_
    refine r_istore_n C dX6_digestPlayer_26 rfl (by decide) ?_
    refine V.heap (h2 := (pM G h mo S A (k_m2 S (nI u) (k_m1 S (nI u) dg 7) 0))) rfl ?_
    refine V.sub [(0, .ref mo), (1, .int (nI u)), (2, .int (nI 0))] ⟨rfl, rfl, rfl, trivial⟩ ?_
    refine down_ (P := fun i => V p l e ⟨5, 0, 0, 118⟩ s m args below meth c G 3 (Qg G below args s 0 0 (fun v1 h1 s1 => v1 = none ∧ h1 = (pM G h mo (S) (gu A 4 (d_F S (nI u) k (A 4) 7)) (d_p S (nI u) k (A 4) dg)) ∧ s1 = sz)) (pM G h mo S A (k_m2 S (nI u) (k_m1 S (nI u) dg 7) i)) sz 0 0 27 [(0, .ref mo), (1, .int (nI u)), (2, .int (nI i))] []) (k) ?_ ?_
    · refine r_iload_n C dX6_digestPlayer_27 rfl rfl ?_
      refine r_aload_n C dX6_digestPlayer_28 rfl rfl ?_
      refine r_get C (j := 1) rfl in_X6 (MA_o MA_pM) (by decide) fl_X6_7 rfl rfl dX6_digestPlayer_29 ?_
      refine r_sipush C (v := 337) dX6_digestPlayer_32 rfl ?_
      refine r_iload_n C dX6_digestPlayer_35 rfl rfl ?_
      refine r_iadd C dX6_digestPlayer_36 ?_
      refine V.st0 (nI_add (337) (u)) ?_
      refine r_iald C (MA_s MA_pM) (vp_in_nI (by omega) (by decide)) dX6_digestPlayer_37 ?_
      refine V.st0 (en_tal0 (p := u) (by omega) _) ?_
      refine V.st0 (hk) ?_
      refine r_icmp_ge C 62 dX6_digestPlayer_38 (by decide) (fun _ => ?_) (fun c => absurd (nI_le (Nat.le_refl _) (by omega)) c)
      refine r_iconst C (v := 0) dX6_digestPlayer_62 rfl ?_
      refine r_istore_n C dX6_digestPlayer_63 rfl (by decide) ?_
      refine V.heap (h2 := (pM G h mo S (gu A 4 (d_F S (nI u) k (A 4) 0)) (d_3 S (nI u) k (A 4) (k_m2 S (nI u) (k_m1 S (nI u) dg 7) k) 0))) (congrArg (fun X => pM G h mo S X (k_m2 S (nI u) (k_m1 S (nI u) dg 7) k)) gu_id.symm) ?_
      refine V.sub [(0, .ref mo), (1, .int (nI u)), (2, .int (nI 0))] ⟨rfl, rfl, rfl, trivial⟩ ?_
      refine down_ (P := fun i => V p l e ⟨5, 0, 0, 118⟩ s m args below meth c G 3 (Qg G below args s 0 0 (fun v1 h1 s1 => v1 = none ∧ h1 = (pM G h mo (S) (gu A 4 (d_F S (nI u) k (A 4) 7)) (d_p S (nI u) k (A 4) dg)) ∧ s1 = sz)) (pM G h mo S (gu A 4 (d_F S (nI u) k (A 4) i)) (d_3 S (nI u) k (A 4) (k_m2 S (nI u) (k_m1 S (nI u) dg 7) k) i)) sz 0 0 64 [(0, .ref mo), (1, .int (nI u)), (2, .int (nI i))] []) (7) ?_ ?_
      · refine r_iload_n C dX6_digestPlayer_64 rfl rfl ?_
        refine r_bipush C (v := 7) dX6_digestPlayer_65 rfl ?_
        refine r_icmp_ge C 109 dX6_digestPlayer_67 (by decide) (fun _ => ?_) (fun c => absurd (by decide) c)
        exact r_vret C rfl (Nat.le_of_ble_eq_true rfl) (Nat.le_of_ble_eq_true rfl) ⟨rfl, rfl, rfl⟩ dX6_digestPlayer_109
      · intro i h_i ih_i
        refine r_iload_n C dX6_digestPlayer_64 rfl rfl ?_
        refine r_bipush C (v := 7) dX6_digestPlayer_65 rfl ?_
        refine r_icmp_ge C 109 dX6_digestPlayer_67 (by decide) (fun c => absurd c (nI_ge (b := 7) h_i (by decide))) (fun _ => ?_)
        refine r_aload_n C dX6_digestPlayer_70 rfl rfl ?_
        refine r_aload_n C dX6_digestPlayer_71 rfl rfl ?_
        refine r_iload_n C dX6_digestPlayer_72 rfl rfl ?_
        refine r_iload_n C dX6_digestPlayer_73 rfl rfl ?_
        refine r_cVi C (c_X6_longestOf (u := u) (k := k) MA_pM hp hk hk28 hk2 hb) lk_X6_185 rfl (MA_o MA_pM) rfl rfl ⟨(Nat.le_of_ble_eq_true rfl), (Nat.le_of_ble_eq_true rfl), (Nat.le_of_ble_eq_true rfl), (Nat.le_of_ble_eq_true rfl), (Nat.le_of_ble_eq_true rfl)⟩ dX6_digestPlayer_74 ?_
        refine V.heap (pM_pM _ _ _ _ _ _ _ _) ?_
        refine r_i2l C dX6_digestPlayer_77 ?_
        refine r_cVv C (c_X6_digestOne MA_pM) lk_X6_223 rfl (MA_o MA_pM) rfl rfl ⟨(Nat.le_of_ble_eq_true rfl), (Nat.le_of_ble_eq_true rfl), (Nat.le_of_ble_eq_true rfl), (Nat.le_of_ble_eq_true rfl), (Nat.le_of_ble_eq_true rfl)⟩ dX6_digestPlayer_78 ?_
        refine V.heap (pM_pM _ _ _ _ _ _ _ _) ?_
        refine r_aload_n C dX6_digestPlayer_81 rfl rfl ?_
        refine r_aload_n C dX6_digestPlayer_82 rfl rfl ?_
        refine r_iload_n C dX6_digestPlayer_83 rfl rfl ?_
        refine r_iload_n C dX6_digestPlayer_84 rfl rfl ?_
        refine r_cVi C (c_X6_wholeOf (u := u) (k := k) MA_pM hp hk hk28 hk2 hb) lk_X6_188 rfl (MA_o MA_pM) rfl rfl ⟨(Nat.le_of_ble_eq_true rfl), (Nat.le_of_ble_eq_true rfl), (Nat.le_of_ble_eq_true rfl), (Nat.le_of_ble_eq_true rfl), (Nat.le_of_ble_eq_true rfl)⟩ dX6_digestPlayer_85 ?_
        refine V.heap (pM_pM _ _ _ _ _ _ _ _) ?_
        refine r_i2l C dX6_digestPlayer_88 ?_
        refine r_cVv C (c_X6_digestOne MA_pM) lk_X6_223 rfl (MA_o MA_pM) rfl rfl ⟨(Nat.le_of_ble_eq_true rfl), (Nat.le_of_ble_eq_true rfl), (Nat.le_of_ble_eq_true rfl), (Nat.le_of_ble_eq_true rfl), (Nat.le_of_ble_eq_true rfl)⟩ dX6_digestPlayer_89 ?_
        refine V.heap (pM_pM _ _ _ _ _ _ _ _) ?_
        refine r_aload_n C dX6_digestPlayer_92 rfl rfl ?_
        refine r_aload_n C dX6_digestPlayer_93 rfl rfl ?_
        refine r_iload_n C dX6_digestPlayer_94 rfl rfl ?_
        refine r_iload_n C dX6_digestPlayer_95 rfl rfl ?_
        refine r_cVi C (c_X6_wholeOf (u := u) (k := k) MA_pM hp hk hk28 hk2 hb) lk_X6_188 rfl (MA_o MA_pM) rfl rfl ⟨(Nat.le_of_ble_eq_true rfl), (Nat.le_of_ble_eq_true rfl), (Nat.le_of_ble_eq_true rfl), (Nat.le_of_ble_eq_true rfl), (Nat.le_of_ble_eq_true rfl)⟩ dX6_digestPlayer_96 ?_
        refine V.heap (pM_pM _ _ _ _ _ _ _ _) ?_
        refine r_i2l C dX6_digestPlayer_99 ?_
        refine r_cVv C (c_X6_digestOne MA_pM) lk_X6_223 rfl (MA_o MA_pM) rfl rfl ⟨(Nat.le_of_ble_eq_true rfl), (Nat.le_of_ble_eq_true rfl), (Nat.le_of_ble_eq_true rfl), (Nat.le_of_ble_eq_true rfl), (Nat.le_of_ble_eq_true rfl)⟩ dX6_digestPlayer_100 ?_
        refine V.heap (pM_pM _ _ _ _ _ _ _ _) ?_
        refine r_iinc C (v := 1) dX6_digestPlayer_103 rfl rfl (by decide) ?_
        refine r_goto C 64 dX6_digestPlayer_106 (by decide) ?_
        refine V.heap (h2 := (pM G h mo S (gu A 4 (d_F S (nI u) k (A 4) (i + 1))) (d_3 S (nI u) k (A 4) (k_m2 S (nI u) (k_m1 S (nI u) dg 7) k) (i + 1)))) (by rw [gu_gu, gu_gu, gu_gu]; rfl) ?_
        refine V.sub [(0, .ref mo), (1, .int (nI u)), (2, .int (nI (i + 1)))] ⟨rfl, rfl, (by rw [← nI_1 i]; rfl), trivial⟩ ?_
        exact ih_i
    · intro i h_i ih_i
      refine r_iload_n C dX6_digestPlayer_27 rfl rfl ?_
      refine r_aload_n C dX6_digestPlayer_28 rfl rfl ?_
      refine r_get C (j := 1) rfl in_X6 (MA_o MA_pM) (by decide) fl_X6_7 rfl rfl dX6_digestPlayer_29 ?_
      refine r_sipush C (v := 337) dX6_digestPlayer_32 rfl ?_
      refine r_iload_n C dX6_digestPlayer_35 rfl rfl ?_
      refine r_iadd C dX6_digestPlayer_36 ?_
      refine V.st0 (nI_add (337) (u)) ?_
      refine r_iald C (MA_s MA_pM) (vp_in_nI (by omega) (by decide)) dX6_digestPlayer_37 ?_
      refine V.st0 (en_tal0 (p := u) (by omega) _) ?_
      refine V.st0 (hk) ?_
      refine r_icmp_ge C 62 dX6_digestPlayer_38 (by decide) (fun c => absurd c (nI_ge h_i (by omega))) (fun _ => ?_)
      refine r_aload_n C dX6_digestPlayer_41 rfl rfl ?_
      refine r_aload_n C dX6_digestPlayer_42 rfl rfl ?_
      refine r_get C (j := 1) rfl in_X6 (MA_o MA_pM) (by decide) fl_X6_7 rfl rfl dX6_digestPlayer_43 ?_
      refine r_iload_n C dX6_digestPlayer_46 rfl rfl ?_
      refine r_iload_n C dX6_digestPlayer_47 rfl rfl ?_
      refine r_cSi C (c_X6_inHand (a := u) (b := i)) lk_X6_48 rfl rfl ⟨(Nat.le_of_ble_eq_true rfl), (Nat.le_of_ble_eq_true rfl), (Nat.le_of_ble_eq_true rfl), (Nat.le_of_ble_eq_true rfl), (Nat.le_of_ble_eq_true rfl)⟩ dX6_digestPlayer_48 ?_
      refine r_iald C (MA_s MA_pM) (vp_in_nI (by omega) (by decide)) dX6_digestPlayer_51 ?_
      refine V.st0 (en_ih (p := u) (i := i) (by omega) (by omega) _) ?_
      refine r_i2l C dX6_digestPlayer_52 ?_
      refine r_cVv C (c_X6_digestOne MA_pM) lk_X6_223 rfl (MA_o MA_pM) rfl rfl ⟨(Nat.le_of_ble_eq_true rfl), (Nat.le_of_ble_eq_true rfl), (Nat.le_of_ble_eq_true rfl), (Nat.le_of_ble_eq_true rfl), (Nat.le_of_ble_eq_true rfl)⟩ dX6_digestPlayer_53 ?_
      refine V.heap (pM_pM _ _ _ _ _ _ _ _) ?_
      refine r_iinc C (v := 1) dX6_digestPlayer_56 rfl rfl (by decide) ?_
      refine r_goto C 27 dX6_digestPlayer_59 (by decide) ?_
      refine V.heap (h2 := (pM G h mo S A (k_m2 S (nI u) (k_m1 S (nI u) dg 7) (i + 1)))) (rfl) ?_
      refine V.sub [(0, .ref mo), (1, .int (nI u)), (2, .int (nI (i + 1)))] ⟨rfl, rfl, (by rw [← nI_1 i]; rfl), trivial⟩ ?_
      exact ih_i
  · intro i h_i ih_i
    refine r_iload_n C dX6_digestPlayer_2 rfl rfl ?_
    refine r_bipush C (v := 7) dX6_digestPlayer_3 rfl ?_
    refine r_icmp_ge C 25 dX6_digestPlayer_5 (by decide) (fun c => absurd c (nI_ge (b := 7) h_i (by decide))) (fun _ => ?_)
    refine r_aload_n C dX6_digestPlayer_8 rfl rfl ?_
    refine r_aload_n C dX6_digestPlayer_9 rfl rfl ?_
    refine r_iload_n C dX6_digestPlayer_10 rfl rfl ?_
    refine r_iload_n C dX6_digestPlayer_11 rfl rfl ?_
    refine r_cVi C (c_X6_ofPlayer (u := u) MA_pM hp hb (okN_i (k := 7) h_i (by decide))) lk_X6_164 rfl (MA_o MA_pM) rfl rfl ⟨(Nat.le_of_ble_eq_true rfl), (Nat.le_of_ble_eq_true rfl), (Nat.le_of_ble_eq_true rfl), (Nat.le_of_ble_eq_true rfl), (Nat.le_of_ble_eq_true rfl)⟩ dX6_digestPlayer_12 ?_
    refine r_i2l C dX6_digestPlayer_15 ?_
    refine r_cVv C (c_X6_digestOne MA_pM) lk_X6_223 rfl (MA_o MA_pM) rfl rfl ⟨(Nat.le_of_ble_eq_true rfl), (Nat.le_of_ble_eq_true rfl), (Nat.le_of_ble_eq_true rfl), (Nat.le_of_ble_eq_true rfl), (Nat.le_of_ble_eq_true rfl)⟩ dX6_digestPlayer_16 ?_
    refine V.heap (pM_pM _ _ _ _ _ _ _ _) ?_
    refine r_iinc C (v := 1) dX6_digestPlayer_19 rfl rfl (by decide) ?_
    refine r_goto C 2 dX6_digestPlayer_22 (by decide) ?_
    refine V.heap (h2 := (pM G h mo S A (k_m1 S (nI u) dg (i + 1)))) (rfl) ?_
    refine V.sub [(0, .ref mo), (1, .int (nI u)), (2, .int (nI (i + 1)))] ⟨rfl, rfl, (by rw [← nI_1 i]; rfl), trivial⟩ ?_
    exact ih_i

set_option maxHeartbeats 800000 in
set_option maxRecDepth 100000 in
theorem c_X6_digest {G : ga_} {l : Launch} {h : HP} {sz : Nat} {mo : Nat} {S A : gS} {dg : Int64} {z kk n P K : Nat}  (w : MA G h mo S A dg)  (hb : nB S) (hz : A 6 1 = nI z) (hkk : A 6 2 = nI kk) (hk4 : kk < 4) (hn : A 6 3 = nI n) (hn60 : n ≤ 60) (hP0 : S 5 0 = nI P) (hP4 : P ≤ 4) (hK5 : S 5 2 = nI K) (hK : K ≤ 28) (hsh : vf_n64 (FP.ddiv (FP.i2d (g_tal S 1)) 4640114991075164160)) (hbk : mb_k (k_sh S) = true) : Mf G l yX6_digest cX6_digest 2 (some .long) 7 161 0 0 [.ref mo] h sz (some (.long ((d_dg S (A 4) (A 3) z kk n P K)))) (pM G h mo (S) (gu (ac A 0 0) 4 (d_PF S (A 4) P)) ((d_dg S (A 4) (A 3) z kk n P K))) sz := by
  refine Mg.ofV [(0, .ref mo)] (by decide) (Nat.le_of_ble_eq_true rfl) rfl ?_
  intro p e s m args below meth c C
  refine V.heap (pM_id w).symm ?_
  refine r_aload_n C dX6_digest_0 rfl rfl ?_
  refine r_iconst C (v := 0) dX6_digest_1 rfl ?_
  refine r_put C (j := 0) tyX6 tyX6_ok nmX6 rfl in_X6 (MA_o MA_pM) (by decide) fl_X6_33 rfl rfl rfl (by first | rfl | decide) (by first | rfl | decide) (Nat.le_of_ble_eq_true rfl) dX6_digest_2 ?_
  refine V.heap (qM_f 0 (nI (0)) rfl) ?_
  refine r_aload_n C dX6_digest_5 rfl rfl ?_
  refine r_ldc2 C kl_X6_227 dX6_digest_6 ?_
  refine r_put C (j := 16) tyX6 tyX6_ok nmX6 rfl in_X6 (MA_o MA_pM) (by decide) fl_X6_219 rfl rfl rfl (by first | rfl | decide) (by first | rfl | decide) (Nat.le_of_ble_eq_true rfl) dX6_digest_9 ?_
  refine V.heap (qM_dg rfl) ?_
  refine r_iconst C (v := 0) dX6_digest_12 rfl ?_
  refine r_istore_n C dX6_digest_13 rfl (by decide) ?_
  refine V.heap (h2 := (pM G h mo S (ac A 0 0) (k_d1 S z 0))) rfl ?_
  refine V.sub [(0, .ref mo), (1, .int (nI 0))] ⟨rfl, rfl, trivial⟩ ?_
  refine down_ (P := fun i => V p l e ⟨7, 0, 0, 161⟩ s m args below meth c G 2 (Qg G below args s 0 0 (fun v1 h1 s1 => v1 = (some (.long ((d_dg S (A 4) (A 3) z kk n P K)))) ∧ h1 = (pM G h mo (S) (gu (ac A 0 0) 4 (d_PF S (A 4) P)) ((d_dg S (A 4) (A 3) z kk n P K))) ∧ s1 = sz)) (pM G h mo S (ac A 0 0) (k_d1 S z i)) sz 0 0 14 [(0, .ref mo), (1, .int (nI i))] []) (12) ?_ ?_
  · refine r_iload_n C dX6_digest_14 rfl rfl ?_
    refine r_bipush C (v := 12) dX6_digest_15 rfl ?_
    refine r_icmp_ge C 36 dX6_digest_17 (by decide) (fun _ => ?_) (fun c => absurd (by decide) c)
    refine r_aload_n C dX6_digest_36 rfl rfl ?_
    refine r_aload_n C dX6_digest_37 rfl rfl ?_
    refine r_get C (j := 1) rfl in_X6 (MA_o MA_pM) (by decide) fl_X6_7 rfl rfl dX6_digest_38 ?_
    refine r_sipush C (v := 359) dX6_digest_41 rfl ?_
    refine r_iald C (MA_s MA_pM) (vp_in_nI (n := 359) (by decide) (by decide)) dX6_digest_44 ?_
    refine V.st0 (en_sc7 _) ?_
    refine r_i2l C dX6_digest_45 ?_
    refine r_cVv C (c_X6_digestOne MA_pM) lk_X6_223 rfl (MA_o MA_pM) rfl rfl ⟨(Nat.le_of_ble_eq_true rfl), (Nat.le_of_ble_eq_true rfl), (Nat.le_of_ble_eq_true rfl), (Nat.le_of_ble_eq_true rfl), (Nat.le_of_ble_eq_true rfl)⟩ dX6_digest_46 ?_
    refine V.heap (pM_pM _ _ _ _ _ _ _ _) ?_
    refine r_iconst C (v := 0) dX6_digest_49 rfl ?_
    refine r_istore_n C dX6_digest_50 rfl (by decide) ?_
    refine V.heap (h2 := (pM G h mo S (ac A 0 0) (mixF (S 0) (31 * k_d1 S z 12 + (S 5 7).toInt64) 0))) rfl ?_
    refine V.sub [(0, .ref mo), (1, .int (nI 0))] ⟨rfl, rfl, trivial⟩ ?_
    refine down_ (P := fun i => V p l e ⟨7, 0, 0, 161⟩ s m args below meth c G 2 (Qg G below args s 0 0 (fun v1 h1 s1 => v1 = (some (.long ((d_dg S (A 4) (A 3) z kk n P K)))) ∧ h1 = (pM G h mo (S) (gu (ac A 0 0) 4 (d_PF S (A 4) P)) ((d_dg S (A 4) (A 3) z kk n P K))) ∧ s1 = sz)) (pM G h mo S (ac A 0 0) (mixF (S 0) (31 * k_d1 S z 12 + (S 5 7).toInt64) i)) sz 0 0 51 [(0, .ref mo), (1, .int (nI i))] []) (196) ?_ ?_
    · refine r_iload_n C dX6_digest_51 rfl rfl ?_
      refine r_sipush C (v := 196) dX6_digest_52 rfl ?_
      refine r_icmp_ge C 77 dX6_digest_55 (by decide) (fun _ => ?_) (fun c => absurd (by decide) c)
      refine r_iconst C (v := 0) dX6_digest_77 rfl ?_
      refine r_istore_n C dX6_digest_78 rfl (by decide) ?_
      refine V.heap (h2 := (pM G h mo S (gu (ac A 0 0) 4 (d_PF S (A 4) 0)) (d_PX S (A 4) (k_d2 S z) 0))) (congrArg (fun X => pM G h mo S X (k_d2 S z)) (show (ac A 0 0) = gu (ac A 0 0) 4 (A 4) from gu_id.symm)) ?_
      refine V.sub [(0, .ref mo), (1, .int (nI 0))] ⟨rfl, rfl, trivial⟩ ?_
      refine down_ (P := fun i => V p l e ⟨7, 0, 0, 161⟩ s m args below meth c G 2 (Qg G below args s 0 0 (fun v1 h1 s1 => v1 = (some (.long ((d_dg S (A 4) (A 3) z kk n P K)))) ∧ h1 = (pM G h mo (S) (gu (ac A 0 0) 4 (d_PF S (A 4) P)) ((d_dg S (A 4) (A 3) z kk n P K))) ∧ s1 = sz)) (pM G h mo S (gu (ac A 0 0) 4 (d_PF S (A 4) i)) (d_PX S (A 4) (k_d2 S z) i)) sz 0 0 79 [(0, .ref mo), (1, .int (nI i))] []) (P) ?_ ?_
      · refine r_iload_n C dX6_digest_79 rfl rfl ?_
        refine r_aload_n C dX6_digest_80 rfl rfl ?_
        refine r_get C (j := 1) rfl in_X6 (MA_o MA_pM) (by decide) fl_X6_7 rfl rfl dX6_digest_81 ?_
        refine r_sipush C (v := 341) dX6_digest_84 rfl ?_
        refine r_iald C (MA_s MA_pM) (vp_in_nI (n := 341) (by decide) (by decide)) dX6_digest_87 ?_
        refine V.st0 (en_sc0 _) ?_
        refine V.st0 (hP0) ?_
        refine r_icmp_ge C 102 dX6_digest_88 (by decide) (fun _ => ?_) (fun c => absurd (nI_le (Nat.le_refl _) (by omega)) c)
        refine r_iconst C (v := 0) dX6_digest_102 rfl ?_
        refine r_istore_n C dX6_digest_103 rfl (by decide) ?_
        refine V.heap (h2 := (pM G h mo S (gu (ac A 0 0) 4 (d_PF S (A 4) P)) (mixF (S 3) (d_PX S (A 4) (k_d2 S z) P) 0))) rfl ?_
        refine V.sub [(0, .ref mo), (1, .int (nI 0))] ⟨rfl, rfl, trivial⟩ ?_
        refine down_ (P := fun i => V p l e ⟨7, 0, 0, 161⟩ s m args below meth c G 2 (Qg G below args s 0 0 (fun v1 h1 s1 => v1 = (some (.long ((d_dg S (A 4) (A 3) z kk n P K)))) ∧ h1 = (pM G h mo (S) (gu (ac A 0 0) 4 (d_PF S (A 4) P)) ((d_dg S (A 4) (A 3) z kk n P K))) ∧ s1 = sz)) (pM G h mo S (gu (ac A 0 0) 4 (d_PF S (A 4) P)) (mixF (S 3) (d_PX S (A 4) (k_d2 S z) P) i)) sz 0 0 104 [(0, .ref mo), (1, .int (nI i))] []) (12) ?_ ?_
        · refine r_iload_n C dX6_digest_104 rfl rfl ?_
          refine r_bipush C (v := 12) dX6_digest_105 rfl ?_
          refine r_icmp_ge C 131 dX6_digest_107 (by decide) (fun _ => ?_) (fun c => absurd (by decide) c)
          refine r_aload_n C dX6_digest_131 rfl rfl ?_
          refine r_get C (j := 1) rfl in_X6 (MA_o MA_pM) (by decide) fl_X6_7 rfl rfl dX6_digest_132 ?_
          refine r_sipush C (v := 224) dX6_digest_135 rfl ?_
          refine r_iald C (MA_s MA_pM) (vp_in_nI (n := 224) (by decide) (by decide)) dX6_digest_138 ?_
          refine V.st0 (en_sc2 _) ?_
          refine V.st0 (hK5) ?_
          refine r_istore_n C dX6_digest_139 rfl (by decide) ?_
          refine V.heap (h2 := (pM G h mo S (gu (ac A 0 0) 4 (d_PF S (A 4) P)) (k_d4 S (mixF (S 3) (d_PX S (A 4) (k_d2 S z) P) 12) 0))) rfl ?_
          refine V.sub [(0, .ref mo), (1, .int (nI (K + 0)))] ⟨rfl, rfl, trivial⟩ ?_
          refine down_ (P := fun i => V p l e ⟨7, 0, 0, 161⟩ s m args below meth c G 2 (Qg G below args s 0 0 (fun v1 h1 s1 => v1 = (some (.long ((d_dg S (A 4) (A 3) z kk n P K)))) ∧ h1 = (pM G h mo (S) (gu (ac A 0 0) 4 (d_PF S (A 4) P)) ((d_dg S (A 4) (A 3) z kk n P K))) ∧ s1 = sz)) (pM G h mo S (gu (ac A 0 0) 4 (d_PF S (A 4) P)) (k_d4 S (mixF (S 3) (d_PX S (A 4) (k_d2 S z) P) 12) i)) sz 0 0 140 [(0, .ref mo), (1, .int (nI (K + i)))] []) ((28 - K)) ?_ ?_
          · refine r_iload_n C dX6_digest_140 rfl rfl ?_
            refine r_bipush C (v := 28) dX6_digest_141 rfl ?_
            refine r_icmp_ge C 167 dX6_digest_143 (by decide) (fun _ => ?_) (fun c => absurd (nI_le (a := 28) (b := K + (28 - K)) (by omega) (by omega)) c)
            refine r_aload_n C dX6_digest_167 rfl rfl ?_
            refine r_aload_n C dX6_digest_168 rfl rfl ?_
            refine r_cVi C (c_X6_advised MA_pM hb) lk_X6_194 rfl (MA_o MA_pM) rfl rfl ⟨(Nat.le_of_ble_eq_true rfl), (Nat.le_of_ble_eq_true rfl), (Nat.le_of_ble_eq_true rfl), (Nat.le_of_ble_eq_true rfl), (Nat.le_of_ble_eq_true rfl)⟩ dX6_digest_169 ?_
            refine r_i2l C dX6_digest_172 ?_
            refine r_cVv C (c_X6_digestOne MA_pM) lk_X6_223 rfl (MA_o MA_pM) rfl rfl ⟨(Nat.le_of_ble_eq_true rfl), (Nat.le_of_ble_eq_true rfl), (Nat.le_of_ble_eq_true rfl), (Nat.le_of_ble_eq_true rfl), (Nat.le_of_ble_eq_true rfl)⟩ dX6_digest_173 ?_
            refine V.heap (pM_pM _ _ _ _ _ _ _ _) ?_
            refine r_aload_n C dX6_digest_176 rfl rfl ?_
            refine r_aload_n C dX6_digest_177 rfl rfl ?_
            refine r_cVi C (c_X6_commonestGrade MA_pM) lk_X6_200 rfl (MA_o MA_pM) rfl rfl ⟨(Nat.le_of_ble_eq_true rfl), (Nat.le_of_ble_eq_true rfl), (Nat.le_of_ble_eq_true rfl), (Nat.le_of_ble_eq_true rfl), (Nat.le_of_ble_eq_true rfl)⟩ dX6_digest_178 ?_
            refine r_i2l C dX6_digest_181 ?_
            refine r_cVv C (c_X6_digestOne MA_pM) lk_X6_223 rfl (MA_o MA_pM) rfl rfl ⟨(Nat.le_of_ble_eq_true rfl), (Nat.le_of_ble_eq_true rfl), (Nat.le_of_ble_eq_true rfl), (Nat.le_of_ble_eq_true rfl), (Nat.le_of_ble_eq_true rfl)⟩ dX6_digest_182 ?_
            refine V.heap (pM_pM _ _ _ _ _ _ _ _) ?_
            refine r_aload_n C dX6_digest_185 rfl rfl ?_
            refine r_aload_n C dX6_digest_186 rfl rfl ?_
            refine r_cVd C (c_X6_share MA_pM hb hsh) lk_X6_205 rfl (MA_o MA_pM) rfl rfl ⟨(Nat.le_of_ble_eq_true rfl), (Nat.le_of_ble_eq_true rfl), (Nat.le_of_ble_eq_true rfl), (Nat.le_of_ble_eq_true rfl), (Nat.le_of_ble_eq_true rfl)⟩ dX6_digest_187 ?_
            refine r_cSl C (c_X6_bitsOf hbk) lk_X6_232 rfl rfl ⟨(Nat.le_of_ble_eq_true rfl), (Nat.le_of_ble_eq_true rfl), (Nat.le_of_ble_eq_true rfl), (Nat.le_of_ble_eq_true rfl), (Nat.le_of_ble_eq_true rfl)⟩ dX6_digest_190 ?_
            refine r_cVv C (c_X6_digestOne MA_pM) lk_X6_223 rfl (MA_o MA_pM) rfl rfl ⟨(Nat.le_of_ble_eq_true rfl), (Nat.le_of_ble_eq_true rfl), (Nat.le_of_ble_eq_true rfl), (Nat.le_of_ble_eq_true rfl), (Nat.le_of_ble_eq_true rfl)⟩ dX6_digest_193 ?_
            refine V.heap (pM_pM _ _ _ _ _ _ _ _) ?_
            refine r_aload_n C dX6_digest_196 rfl rfl ?_
            refine r_aload_n C dX6_digest_197 rfl rfl ?_
            refine r_get C (j := 5) rfl in_X6 (MA_o MA_pM) (by decide) fl_X6_149 rfl rfl dX6_digest_198 ?_
            refine V.st0 (hkk) ?_
            refine r_iconst C (v := 1) dX6_digest_201 rfl ?_
            refine r_iand C dX6_digest_202 ?_
            refine V.st0 ((kept01 kk hk4).1) ?_
            refine r_i2l C dX6_digest_203 ?_
            refine r_cVv C (c_X6_digestOne MA_pM) lk_X6_223 rfl (MA_o MA_pM) rfl rfl ⟨(Nat.le_of_ble_eq_true rfl), (Nat.le_of_ble_eq_true rfl), (Nat.le_of_ble_eq_true rfl), (Nat.le_of_ble_eq_true rfl), (Nat.le_of_ble_eq_true rfl)⟩ dX6_digest_204 ?_
            refine V.heap (pM_pM _ _ _ _ _ _ _ _) ?_
            refine r_aload_n C dX6_digest_207 rfl rfl ?_
            refine r_aload_n C dX6_digest_208 rfl rfl ?_
            refine r_get C (j := 5) rfl in_X6 (MA_o MA_pM) (by decide) fl_X6_149 rfl rfl dX6_digest_209 ?_
            refine V.st0 (hkk) ?_
            refine r_iconst C (v := 1) dX6_digest_212 rfl ?_
            refine r_ishr C dX6_digest_213 ?_
            refine r_iconst C (v := 1) dX6_digest_214 rfl ?_
            refine r_iand C dX6_digest_215 ?_
            refine V.st0 ((kept01 kk hk4).2) ?_
            refine r_i2l C dX6_digest_216 ?_
            refine r_cVv C (c_X6_digestOne MA_pM) lk_X6_223 rfl (MA_o MA_pM) rfl rfl ⟨(Nat.le_of_ble_eq_true rfl), (Nat.le_of_ble_eq_true rfl), (Nat.le_of_ble_eq_true rfl), (Nat.le_of_ble_eq_true rfl), (Nat.le_of_ble_eq_true rfl)⟩ dX6_digest_217 ?_
            refine V.heap (pM_pM _ _ _ _ _ _ _ _) ?_
            refine r_aload_n C dX6_digest_220 rfl rfl ?_
            refine r_aload_n C dX6_digest_221 rfl rfl ?_
            refine r_get C (j := 7) rfl in_X6 (MA_o MA_pM) (by decide) fl_X6_109 rfl rfl dX6_digest_222 ?_
            refine V.st0 (hn) ?_
            refine r_i2l C dX6_digest_225 ?_
            refine r_cVv C (c_X6_digestOne MA_pM) lk_X6_223 rfl (MA_o MA_pM) rfl rfl ⟨(Nat.le_of_ble_eq_true rfl), (Nat.le_of_ble_eq_true rfl), (Nat.le_of_ble_eq_true rfl), (Nat.le_of_ble_eq_true rfl), (Nat.le_of_ble_eq_true rfl)⟩ dX6_digest_226 ?_
            refine V.heap (pM_pM _ _ _ _ _ _ _ _) ?_
            refine r_iconst C (v := 0) dX6_digest_229 rfl ?_
            refine r_istore_n C dX6_digest_230 rfl (by decide) ?_
            refine V.heap (h2 := (pM G h mo S (gu (ac A 0 0) 4 (d_PF S (A 4) P)) (x_mix (A 3) n (d_6 kk (d_5 S (k_d4 S (mixF (S 3) (d_PX S (A 4) (k_d2 S z) P) 12) (28 - K)))) 0))) rfl ?_
            refine V.sub [(0, .ref mo), (1, .int (nI 0))] ⟨rfl, rfl, trivial⟩ ?_
            refine down_ (P := fun i => V p l e ⟨7, 0, 0, 161⟩ s m args below meth c G 2 (Qg G below args s 0 0 (fun v1 h1 s1 => v1 = (some (.long ((d_dg S (A 4) (A 3) z kk n P K)))) ∧ h1 = (pM G h mo (S) (gu (ac A 0 0) 4 (d_PF S (A 4) P)) ((d_dg S (A 4) (A 3) z kk n P K))) ∧ s1 = sz)) (pM G h mo S (gu (ac A 0 0) 4 (d_PF S (A 4) P)) (x_mix (A 3) n (d_6 kk (d_5 S (k_d4 S (mixF (S 3) (d_PX S (A 4) (k_d2 S z) P) 12) (28 - K)))) i)) sz 0 0 231 [(0, .ref mo), (1, .int (nI i))] []) (n) ?_ ?_
            · refine r_iload_n C dX6_digest_231 rfl rfl ?_
              refine r_aload_n C dX6_digest_232 rfl rfl ?_
              refine r_get C (j := 7) rfl in_X6 (MA_o MA_pM) (by decide) fl_X6_109 rfl rfl dX6_digest_233 ?_
              refine V.st0 (hn) ?_
              refine r_icmp_ge C 256 dX6_digest_236 (by decide) (fun _ => ?_) (fun c => absurd (nI_le (Nat.le_refl _) (by omega)) c)
              refine r_aload_n C dX6_digest_256 rfl rfl ?_
              refine r_get C (j := 16) rfl in_X6 (MA_o MA_pM) (by decide) fl_X6_219 rfl rfl dX6_digest_257 ?_
              exact r_lret C rfl (Nat.le_of_ble_eq_true rfl) (Nat.le_of_ble_eq_true rfl) ⟨rfl, rfl, rfl⟩ dX6_digest_260
            · intro i h_i ih_i
              refine r_iload_n C dX6_digest_231 rfl rfl ?_
              refine r_aload_n C dX6_digest_232 rfl rfl ?_
              refine r_get C (j := 7) rfl in_X6 (MA_o MA_pM) (by decide) fl_X6_109 rfl rfl dX6_digest_233 ?_
              refine V.st0 (hn) ?_
              refine r_icmp_ge C 256 dX6_digest_236 (by decide) (fun c => absurd c (nI_ge h_i (by omega))) (fun _ => ?_)
              refine r_aload_n C dX6_digest_239 rfl rfl ?_
              refine r_aload_n C dX6_digest_240 rfl rfl ?_
              refine r_get C (j := 6) rfl in_X6 (MA_o MA_pM) (by decide) fl_X6_19 rfl rfl dX6_digest_241 ?_
              refine r_iload_n C dX6_digest_244 rfl rfl ?_
              refine r_iald C (MA_3 MA_pM) (vp_in_nI (by omega) (by decide)) dX6_digest_245 ?_
              refine V.st0 (cl_f (by omega)) ?_
              refine r_i2l C dX6_digest_246 ?_
              refine r_cVv C (c_X6_digestOne MA_pM) lk_X6_223 rfl (MA_o MA_pM) rfl rfl ⟨(Nat.le_of_ble_eq_true rfl), (Nat.le_of_ble_eq_true rfl), (Nat.le_of_ble_eq_true rfl), (Nat.le_of_ble_eq_true rfl), (Nat.le_of_ble_eq_true rfl)⟩ dX6_digest_247 ?_
              refine V.heap (pM_pM _ _ _ _ _ _ _ _) ?_
              refine r_iinc C (v := 1) dX6_digest_250 rfl rfl (by decide) ?_
              refine r_goto C 231 dX6_digest_253 (by decide) ?_
              refine V.heap (h2 := (pM G h mo S (gu (ac A 0 0) 4 (d_PF S (A 4) P)) (x_mix (A 3) n (d_6 kk (d_5 S (k_d4 S (mixF (S 3) (d_PX S (A 4) (k_d2 S z) P) 12) (28 - K)))) (i + 1)))) (rfl) ?_
              refine V.sub [(0, .ref mo), (1, .int (nI (i + 1)))] ⟨rfl, (by rw [← nI_1 i]; rfl), trivial⟩ ?_
              exact ih_i
          · intro i h_i ih_i
            refine r_iload_n C dX6_digest_140 rfl rfl ?_
            refine r_bipush C (v := 28) dX6_digest_141 rfl ?_
            refine r_icmp_ge C 167 dX6_digest_143 (by decide) (fun c => absurd c (nI_ge (b := 28) (by omega) (by decide))) (fun _ => ?_)
            refine r_aload_n C dX6_digest_146 rfl rfl ?_
            refine r_aload_n C dX6_digest_147 rfl rfl ?_
            refine r_get C (j := 1) rfl in_X6 (MA_o MA_pM) (by decide) fl_X6_7 rfl rfl dX6_digest_148 ?_
            refine r_sipush C (v := 196) dX6_digest_151 rfl ?_
            refine r_iload_n C dX6_digest_154 rfl rfl ?_
            refine r_iadd C dX6_digest_155 ?_
            refine V.st0 (nI_add (196) ((K + i))) ?_
            refine r_iald C (MA_s MA_pM) (vp_in_nI (by omega) (by decide)) dX6_digest_156 ?_
            refine V.st0 (en_ord (i := (K + i)) (by omega) _) ?_
            refine V.st0 ((show _ = g_stile S (nI i) from by rw [← nI_add, ← hK5]; rfl)) ?_
            refine r_i2l C dX6_digest_157 ?_
            refine r_cVv C (c_X6_digestOne MA_pM) lk_X6_223 rfl (MA_o MA_pM) rfl rfl ⟨(Nat.le_of_ble_eq_true rfl), (Nat.le_of_ble_eq_true rfl), (Nat.le_of_ble_eq_true rfl), (Nat.le_of_ble_eq_true rfl), (Nat.le_of_ble_eq_true rfl)⟩ dX6_digest_158 ?_
            refine V.heap (pM_pM _ _ _ _ _ _ _ _) ?_
            refine r_iinc C (v := 1) dX6_digest_161 rfl rfl (by decide) ?_
            refine r_goto C 140 dX6_digest_164 (by decide) ?_
            refine V.heap (h2 := (pM G h mo S (gu (ac A 0 0) 4 (d_PF S (A 4) P)) (k_d4 S (mixF (S 3) (d_PX S (A 4) (k_d2 S z) P) 12) (i + 1)))) (rfl) ?_
            refine V.sub [(0, .ref mo), (1, .int (nI (K + (i + 1))))] ⟨rfl, by rw [show K + (i + 1) = K + i + 1 by omega, ← nI_1 (K + i)]; rfl, trivial⟩ ?_
            exact ih_i
        · intro i h_i ih_i
          refine r_iload_n C dX6_digest_104 rfl rfl ?_
          refine r_bipush C (v := 12) dX6_digest_105 rfl ?_
          refine r_icmp_ge C 131 dX6_digest_107 (by decide) (fun c => absurd c (nI_ge (b := 12) h_i (by decide))) (fun _ => ?_)
          refine r_aload_n C dX6_digest_110 rfl rfl ?_
          refine r_aload_n C dX6_digest_111 rfl rfl ?_
          refine r_get C (j := 1) rfl in_X6 (MA_o MA_pM) (by decide) fl_X6_7 rfl rfl dX6_digest_112 ?_
          refine r_sipush C (v := 360) dX6_digest_115 rfl ?_
          refine r_iload_n C dX6_digest_118 rfl rfl ?_
          refine r_iadd C dX6_digest_119 ?_
          refine V.st0 (nI_add (360) (i)) ?_
          refine r_iald C (MA_s MA_pM) (vp_in_nI (by omega) (by decide)) dX6_digest_120 ?_
          refine V.st0 (en_cl (by omega)) ?_
          refine V.st0 (en_3 h_i S) ?_
          refine r_i2l C dX6_digest_121 ?_
          refine r_cVv C (c_X6_digestOne MA_pM) lk_X6_223 rfl (MA_o MA_pM) rfl rfl ⟨(Nat.le_of_ble_eq_true rfl), (Nat.le_of_ble_eq_true rfl), (Nat.le_of_ble_eq_true rfl), (Nat.le_of_ble_eq_true rfl), (Nat.le_of_ble_eq_true rfl)⟩ dX6_digest_122 ?_
          refine V.heap (pM_pM _ _ _ _ _ _ _ _) ?_
          refine r_iinc C (v := 1) dX6_digest_125 rfl rfl (by decide) ?_
          refine r_goto C 104 dX6_digest_128 (by decide) ?_
          refine V.heap (h2 := (pM G h mo S (gu (ac A 0 0) 4 (d_PF S (A 4) P)) (mixF (S 3) (d_PX S (A 4) (k_d2 S z) P) (i + 1)))) (rfl) ?_
          refine V.sub [(0, .ref mo), (1, .int (nI (i + 1)))] ⟨rfl, (by rw [← nI_1 i]; rfl), trivial⟩ ?_
          exact ih_i
      · intro i h_i ih_i
        refine r_iload_n C dX6_digest_79 rfl rfl ?_
        refine r_aload_n C dX6_digest_80 rfl rfl ?_
        refine r_get C (j := 1) rfl in_X6 (MA_o MA_pM) (by decide) fl_X6_7 rfl rfl dX6_digest_81 ?_
        refine r_sipush C (v := 341) dX6_digest_84 rfl ?_
        refine r_iald C (MA_s MA_pM) (vp_in_nI (n := 341) (by decide) (by decide)) dX6_digest_87 ?_
        refine V.st0 (en_sc0 _) ?_
        refine V.st0 (hP0) ?_
        refine r_icmp_ge C 102 dX6_digest_88 (by decide) (fun c => absurd c (nI_ge h_i (by omega))) (fun _ => ?_)
        refine r_aload_n C dX6_digest_91 rfl rfl ?_
        refine r_iload_n C dX6_digest_92 rfl rfl ?_
        refine r_cVv C (c_X6_digestPlayer (u := i) (k := k_k S (nI i)) MA_pM (by omega) (hb.hk (by omega)).1 (hb.hk (by omega)).2.1 (hb.hk (by omega)).2.2 hb) lk_X6_229 rfl (MA_o MA_pM) rfl rfl ⟨(Nat.le_of_ble_eq_true rfl), (Nat.le_of_ble_eq_true rfl), (Nat.le_of_ble_eq_true rfl), (Nat.le_of_ble_eq_true rfl), (Nat.le_of_ble_eq_true rfl)⟩ dX6_digest_93 ?_
        refine V.heap (pM_pM _ _ _ _ _ _ _ _) ?_
        refine r_iinc C (v := 1) dX6_digest_96 rfl rfl (by decide) ?_
        refine r_goto C 79 dX6_digest_99 (by decide) ?_
        refine V.heap (h2 := (pM G h mo S (gu (ac A 0 0) 4 (d_PF S (A 4) (i + 1))) (d_PX S (A 4) (k_d2 S z) (i + 1)))) (by rw [gu_gu]; rfl) ?_
        refine V.sub [(0, .ref mo), (1, .int (nI (i + 1)))] ⟨rfl, (by rw [← nI_1 i]; rfl), trivial⟩ ?_
        exact ih_i
    · intro i h_i ih_i
      refine r_iload_n C dX6_digest_51 rfl rfl ?_
      refine r_sipush C (v := 196) dX6_digest_52 rfl ?_
      refine r_icmp_ge C 77 dX6_digest_55 (by decide) (fun c => absurd c (nI_ge (b := 196) h_i (by decide))) (fun _ => ?_)
      refine r_aload_n C dX6_digest_58 rfl rfl ?_
      refine r_aload_n C dX6_digest_59 rfl rfl ?_
      refine r_get C (j := 1) rfl in_X6 (MA_o MA_pM) (by decide) fl_X6_7 rfl rfl dX6_digest_60 ?_
      refine r_iconst C (v := 0) dX6_digest_63 rfl ?_
      refine r_iload_n C dX6_digest_64 rfl rfl ?_
      refine r_iadd C dX6_digest_65 ?_
      refine V.st0 (nI_add (0) (i)) ?_
      refine r_iald C (MA_s MA_pM) (vp_in_nI (by omega) (by decide)) dX6_digest_66 ?_
      refine V.st0 (en_cl (by omega)) ?_
      refine V.st0 (en_0 h_i S) ?_
      refine r_i2l C dX6_digest_67 ?_
      refine r_cVv C (c_X6_digestOne MA_pM) lk_X6_223 rfl (MA_o MA_pM) rfl rfl ⟨(Nat.le_of_ble_eq_true rfl), (Nat.le_of_ble_eq_true rfl), (Nat.le_of_ble_eq_true rfl), (Nat.le_of_ble_eq_true rfl), (Nat.le_of_ble_eq_true rfl)⟩ dX6_digest_68 ?_
      refine V.heap (pM_pM _ _ _ _ _ _ _ _) ?_
      refine r_iinc C (v := 1) dX6_digest_71 rfl rfl (by decide) ?_
      refine r_goto C 51 dX6_digest_74 (by decide) ?_
      refine V.heap (h2 := (pM G h mo S (ac A 0 0) (mixF (S 0) (31 * k_d1 S z 12 + (S 5 7).toInt64) (i + 1)))) (rfl) ?_
      refine V.sub [(0, .ref mo), (1, .int (nI (i + 1)))] ⟨rfl, (by rw [← nI_1 i]; rfl), trivial⟩ ?_
      exact ih_i
  · intro i h_i ih_i
    refine r_iload_n C dX6_digest_14 rfl rfl ?_
    refine r_bipush C (v := 12) dX6_digest_15 rfl ?_
    refine r_icmp_ge C 36 dX6_digest_17 (by decide) (fun c => absurd c (nI_ge (b := 12) h_i (by decide))) (fun _ => ?_)
    refine r_aload_n C dX6_digest_20 rfl rfl ?_
    refine r_aload_n C dX6_digest_21 rfl rfl ?_
    refine r_iload_n C dX6_digest_22 rfl rfl ?_
    refine r_cVi C (c_X6_counted MA_pM hb (okN_i (k := 12) h_i (by decide))) lk_X6_173 rfl (MA_o MA_pM) rfl rfl ⟨(Nat.le_of_ble_eq_true rfl), (Nat.le_of_ble_eq_true rfl), (Nat.le_of_ble_eq_true rfl), (Nat.le_of_ble_eq_true rfl), (Nat.le_of_ble_eq_true rfl)⟩ dX6_digest_23 ?_
    refine V.st0 ((show _ = g_num S (nI i) (nI z) from by rw [show (ac A 0 0) 6 1 = nI z from hz])) ?_
    refine r_i2l C dX6_digest_26 ?_
    refine r_cVv C (c_X6_digestOne MA_pM) lk_X6_223 rfl (MA_o MA_pM) rfl rfl ⟨(Nat.le_of_ble_eq_true rfl), (Nat.le_of_ble_eq_true rfl), (Nat.le_of_ble_eq_true rfl), (Nat.le_of_ble_eq_true rfl), (Nat.le_of_ble_eq_true rfl)⟩ dX6_digest_27 ?_
    refine V.heap (pM_pM _ _ _ _ _ _ _ _) ?_
    refine r_iinc C (v := 1) dX6_digest_30 rfl rfl (by decide) ?_
    refine r_goto C 14 dX6_digest_33 (by decide) ?_
    refine V.heap (h2 := (pM G h mo S (ac A 0 0) (k_d1 S z (i + 1)))) (rfl) ?_
    refine V.sub [(0, .ref mo), (1, .int (nI (i + 1)))] ⟨rfl, (by rw [← nI_1 i]; rfl), trivial⟩ ?_
    exact ih_i

