/-! DIGEST -/
def b_n (r : UInt64) : Bool := decide (r &&& 0x7fffffffffffffff ≤ 0x7ff0000000000000)
theorem b_nV {r : UInt64} (h : b_n r = true) : vf_n64 r := by
  unfold vf_n64
  exact of_decide_eq_true h
def b_fn (y : UInt64) : Bool := b_n (FP.dsub y FP.dconst1) && b_n (FP.dmul (FP.dsub y FP.dconst1) 4841369599423283200)
def b_lt (y : UInt64) : Bool := decide (Op.cmpValue (FP.dcmp y FP.dconst1) .g < 0)
def b_ok : Nat → UInt64 → Bool
  | 0, y => b_fn y
  | n + 1, y => if b_lt y = true then (b_n (FP.dmul y 4611686018427387904) && b_ok n (FP.dmul y 4611686018427387904)) else b_fn y
def b_fin (y : UInt64) (e : Int64) : Int64 := (e <<< ((52 : Int32).toInt64 &&& 63)) + FP.d2l (FP.dmul (FP.dsub y FP.dconst1) 4841369599423283200)
def b_res : Nat → UInt64 → Int64 → Int64
  | 0, y, e => b_fin y e
  | n + 1, y, e => if b_lt y = true then b_res n (FP.dmul y 4611686018427387904) (e - 1) else b_fin y e
def b_of (x : UInt64) : Int64 := if Op.cmpValue (FP.dcmp x FP.dconst0) .l ≤ 0 then 0 else b_res 1022 x 1023
theorem b_ok_f {y : UInt64} (h : b_fn y = true) : vf_n64 (FP.dsub y FP.dconst1) ∧ vf_n64 (FP.dmul (FP.dsub y FP.dconst1) 4841369599423283200) := by
  unfold b_fn at h
  rw [Bool.and_eq_true] at h
  exact ⟨b_nV h.1, b_nV h.2⟩
theorem b_ok_s {n : Nat} {y : UInt64} (h : b_ok (n + 1) y = true) (c : b_lt y = true) : vf_n64 (FP.dmul y 4611686018427387904) ∧ b_ok n (FP.dmul y 4611686018427387904) = true := by
  unfold b_ok at h
  rw [if_pos c, Bool.and_eq_true] at h
  exact ⟨b_nV h.1, h.2⟩
theorem b_ok_t {n : Nat} {y : UInt64} (h : b_ok (n + 1) y = true) (c : ¬ b_lt y = true) : b_fn y = true := by
  unfold b_ok at h
  rw [if_neg c] at h
  exact h
set_option maxHeartbeats 800000 in
set_option maxRecDepth 100000 in
theorem c_X5_bitsOf {G : ga_} {l : Launch} {h : HP} {sz : Nat} {x : UInt64} (hb : b_ok 1022 x = true) : Mf G l yX5_bitsOf cX5_bitsOf 7 (some .long) 0 0 0 0 [.double x] h sz (some (.long (b_of x))) h sz := by
  refine Mg.ofV [(0, .double x)] (by decide) (Nat.le_of_ble_eq_true rfl) rfl ?_
  intro p e s m args below meth c C

  refine r_dload_n C dX5_bitsOf_0 rfl rfl ?_
  refine r_dconst0 C dX5_bitsOf_1 ?_
  refine r_dcmp C dX5_bitsOf_2 ?_
  refine r_if_gt C 8 dX5_bitsOf_3 (by decide) (fun c_3 => ?_) (fun c_3 => ?_)
  · have e_3 := i32_nle c_3
    refine r_dload_n C dX5_bitsOf_8 rfl rfl ?_
    refine r_dstore_n C dX5_bitsOf_9 rfl (by decide) ?_
    refine r_ldc2 C kl_X5_250 dX5_bitsOf_10 ?_
    refine r_lstore C dX5_bitsOf_13 (by decide) ?_
    refine r_iconst C (v := 0) dX5_bitsOf_15 rfl ?_
    refine r_istore C dX5_bitsOf_16 (by decide) ?_
    have K : ∀ (n i : Nat) (y : UInt64) (ee : Int64), i + n = 1022 → b_ok n y = true → b_res n y ee = b_of x → V p l e ⟨0, 0, 0, 0⟩ s m args below meth c G 7 (Qg G below args s 0 0 (fun v1 h1 s1 => v1 = some (.long (b_of x)) ∧ h1 = h ∧ s1 = sz)) h sz 0 0 18 [(2, .double y), (4, .long ee), (6, .int (nI i))] [] := by
      intro n
      induction n with
      | zero =>
        intro i y ee hi hbo hr
        have hfn := b_ok_f hbo
        refine r_iload C dX5_bitsOf_18 rfl ?_
        refine r_sipush C (v := 1022) dX5_bitsOf_20 rfl ?_
        refine r_icmp_ge C 50 dX5_bitsOf_23 (by decide) (fun _ => ?_) (fun c => absurd (show (1022 : Int32) ≤ nI i from nI_le (b := i) (a := 1022) (by omega) (by omega)) c)
        refine r_lload C dX5_bitsOf_50 rfl ?_
        refine r_bipush C (v := 52) dX5_bitsOf_52 rfl ?_
        refine r_lshl C dX5_bitsOf_54 ?_
        refine r_dload_n C dX5_bitsOf_55 rfl rfl ?_
        refine r_dconst1 C dX5_bitsOf_56 ?_
        refine r_dsub C dX5_bitsOf_57 hfn.1 ?_
        refine r_ldcd C kd_X5_254 dX5_bitsOf_58 ?_
        refine r_dmul C dX5_bitsOf_61 hfn.2 ?_
        refine r_d2l C dX5_bitsOf_62 ?_
        refine r_ladd C dX5_bitsOf_63 ?_
        exact r_lret C rfl (Nat.le_of_ble_eq_true rfl) (Nat.le_of_ble_eq_true rfl) ⟨by rw [← hr]; rfl, rfl, rfl⟩ dX5_bitsOf_64
      | succ n ih =>
        intro i y ee hi hbo hr
        refine r_iload C dX5_bitsOf_18 rfl ?_
        refine r_sipush C (v := 1022) dX5_bitsOf_20 rfl ?_
        refine r_icmp_ge C 50 dX5_bitsOf_23 (by decide) (fun c => absurd c (show ¬ (1022 : Int32) ≤ nI i from nI_ge (b := 1022) (by omega) (by decide))) (fun _ => ?_)
        refine r_dload_n C dX5_bitsOf_26 rfl rfl ?_
        refine r_dconst1 C dX5_bitsOf_27 ?_
        refine r_dcmp C dX5_bitsOf_28 ?_
        refine r_if_ge C 50 dX5_bitsOf_29 (by decide) (fun c_29 => ?_) (fun c_29 => ?_)
        · have e_29 := i32_nlt c_29
          have hlt : ¬ b_lt y = true := fun q => absurd (of_decide_eq_true q) e_29
          have hfn := b_ok_f (b_ok_t hbo hlt)
          rw [show b_res (n + 1) y ee = b_fin y ee by unfold b_res; rw [if_neg hlt]] at hr
          refine r_lload C dX5_bitsOf_50 rfl ?_
          refine r_bipush C (v := 52) dX5_bitsOf_52 rfl ?_
          refine r_lshl C dX5_bitsOf_54 ?_
          refine r_dload_n C dX5_bitsOf_55 rfl rfl ?_
          refine r_dconst1 C dX5_bitsOf_56 ?_
          refine r_dsub C dX5_bitsOf_57 hfn.1 ?_
          refine r_ldcd C kd_X5_254 dX5_bitsOf_58 ?_
          refine r_dmul C dX5_bitsOf_61 hfn.2 ?_
          refine r_d2l C dX5_bitsOf_62 ?_
          refine r_ladd C dX5_bitsOf_63 ?_
          exact r_lret C rfl (Nat.le_of_ble_eq_true rfl) (Nat.le_of_ble_eq_true rfl) ⟨by rw [← hr]; rfl, rfl, rfl⟩ dX5_bitsOf_64
        · have e_29 := i32_lt c_29
          have hlt : b_lt y = true := decide_eq_true e_29
          have hs := b_ok_s hbo hlt
          refine r_dload_n C dX5_bitsOf_32 rfl rfl ?_
          refine r_ldcd C kd_X5_252 dX5_bitsOf_33 ?_
          refine r_dmul C dX5_bitsOf_36 hs.1 ?_
          refine r_dstore_n C dX5_bitsOf_37 rfl (by decide) ?_
          refine r_lload C dX5_bitsOf_38 rfl ?_
          refine r_lconst C (v := 1) dX5_bitsOf_40 rfl ?_
          refine r_lsub C dX5_bitsOf_41 ?_
          refine r_lstore C dX5_bitsOf_42 (by decide) ?_
          refine r_iinc C (v := 1) dX5_bitsOf_44 rfl rfl (by decide) ?_
          refine r_goto C 18 dX5_bitsOf_47 (by decide) ?_
          refine V.sub [(2, .double (FP.dmul y 4611686018427387904)), (4, .long (ee - 1)), (6, .int (nI (i + 1)))] ⟨rfl, rfl, (by rw [← nI_1 i]; rfl), trivial⟩ ?_
          exact ih (i + 1) _ _ (by omega) hs.2 (by rw [← hr]; show _ = b_res (n + 1) y ee; conv => rhs; unfold b_res; rw [if_pos hlt])
    refine V.sub [(2, .double x), (4, .long 1023), (6, .int (nI 0))] ⟨rfl, rfl, rfl, trivial⟩ ?_
    exact K 1022 0 x 1023 rfl hb (by unfold b_of; rw [if_neg e_3])
  · have e_3 := i32_le c_3
    refine r_lconst C (v := 0) dX5_bitsOf_6 rfl ?_
    exact r_lret C rfl (Nat.le_of_ble_eq_true rfl) (Nat.le_of_ble_eq_true rfl) ⟨by unfold b_of; rw [if_pos e_3], rfl, rfl⟩ dX5_bitsOf_7
def k_m1 (S : gS) (p : Int32) (X : Int64) : Nat → Int64
  | 0 => X
  | i + 1 => 31 * k_m1 S p X i + (g_prop S p (nI i)).toInt64
def k_m2 (S : gS) (p : Int32) (X : Int64) : Nat → Int64
  | 0 => X
  | i + 1 => 31 * k_m2 S p X i + (tAt 28 112 (S 1) p (nI i)).toInt64
def k_of (hf : Nat → Int32) (k : Nat) (of : Nat → Int32) : Nat → Nat → Int32
  | 0 => of
  | i + 1 => t_of hf k (nI i) (k_of hf k of i)
def k_m3 (hf : Nat → Int32) (k : Nat) (of : Nat → Int32) (X : Int64) : Nat → Int64
  | 0 => X
  | i + 1 => 31 * (31 * (31 * k_m3 hf k of X i + (t_most (k_of hf k of (i + 1)) k).toInt64) + (t_whole (k_of hf k of (i + 1)) k).toInt64) + (t_count hf k (nI i)).toInt64
def k_mp (S : gS) (p : Int32) (X : Int64) (hf of : Nat → Int32) : Int64 := k_m3 (k_hf S p hf) (k_k S p) of (k_m2 S p (k_m1 S p X 7) (k_k S p)) 7
set_option maxHeartbeats 800000 in
set_option maxRecDepth 100000 in
theorem c_X5_mixPlayer {G : ga_} {l : Launch} {h : HP} {sz : Nat} {x dyn : Nat} {S : gS} {st sl : Nat → Option Nat} {D : Nat → gS} {nx z len : Nat} {cf : Nat → Int32} {hf of : Nat → Int32} {t a : Int32} {X : Int64} (w : RA G h x dyn sz S st sl D nx z cf len) (hk : ¬ g_held S a < 0) : Mf G l yX5_mixPlayer cX5_mixPlayer 7 (some .long) 5 119 0 0 [.ref x, .long X, .int a] (pT G h (x + 12) hf of t) sz (some (.long (k_mp S a X hf of))) (pT G h (x + 12) (k_hf S a hf) (k_of (k_hf S a hf) (k_k S a) of 7) (nI (k_k S a))) sz := by
  refine Mg.ofV [(0, .ref x), (1, .long X), (3, .int a)] (by decide) (Nat.le_of_ble_eq_true rfl) rfl ?_
  intro p e s m args below meth c C
  refine r_lload_n C dX5_mixPlayer_0 rfl rfl ?_
  refine r_lstore C dX5_mixPlayer_1 (by decide) ?_
  refine r_iconst C (v := 0) dX5_mixPlayer_3 rfl ?_
  refine r_istore C dX5_mixPlayer_4 (by decide) ?_
  refine V.sub [(0, .ref x), (3, .int a), (4, .long (k_m1 S a X 0)), (6, .int (nI 0))] ⟨rfl, rfl, rfl, rfl, trivial⟩ ?_
  refine down_ (P := fun i => V p l e ⟨5, 0, 0, 119⟩ s m args below meth c G 7 (Qg G below args s 0 0 (fun v1 h1 s1 => v1 = some (.long (k_mp S a X hf of)) ∧ h1 = (pT G h (x + 12) (k_hf S a hf) (k_of (k_hf S a hf) (k_k S a) of 7) (nI (k_k S a))) ∧ s1 = sz)) (pT G h (x + 12) hf of t) sz 0 0 6 [(0, .ref x), (3, .int a), (4, .long (k_m1 S a X i)), (6, .int (nI i))] []) (7) ?_ ?_
  · refine r_iload C dX5_mixPlayer_6 rfl ?_
    refine r_bipush C (v := 7) dX5_mixPlayer_8 rfl ?_
    refine r_icmp_ge C 39 dX5_mixPlayer_10 (by decide) (fun _ => ?_) (fun c => absurd (by decide) c)
    refine r_iconst C (v := 0) dX5_mixPlayer_39 rfl ?_
    refine r_istore C dX5_mixPlayer_40 (by decide) ?_
    refine V.sub [(0, .ref x), (3, .int a), (4, .long (k_m2 S a (k_m1 S a X 7) 0)), (6, .int (nI 0))] ⟨rfl, rfl, rfl, rfl, trivial⟩ ?_
    refine down_ (P := fun i => V p l e ⟨5, 0, 0, 119⟩ s m args below meth c G 7 (Qg G below args s 0 0 (fun v1 h1 s1 => v1 = some (.long (k_mp S a X hf of)) ∧ h1 = (pT G h (x + 12) (k_hf S a hf) (k_of (k_hf S a hf) (k_k S a) of 7) (nI (k_k S a))) ∧ s1 = sz)) (pT G h (x + 12) hf of t) sz 0 0 42 [(0, .ref x), (3, .int a), (4, .long (k_m2 S a (k_m1 S a X 7) i)), (6, .int (nI i))] []) (k_k S a) ?_ ?_
    · refine r_iload C dX5_mixPlayer_42 rfl ?_
      refine r_aload_n C dX5_mixPlayer_44 rfl rfl ?_
      refine r_get C (j := 0) rfl in_X5 ((RA_T w).2.1) (by decide) fl_X5_10 rfl rfl dX5_mixPlayer_45 ?_
      refine r_iload_n C dX5_mixPlayer_48 rfl rfl ?_
      refine r_cVi C (c_X0_heldBy (RA_T w).2.2.1) lk_X5_247 rfl (GA_o (RA_T w).2.2.1) rfl rfl ⟨(Nat.le_of_ble_eq_true rfl), (Nat.le_of_ble_eq_true rfl), (Nat.le_of_ble_eq_true rfl), (Nat.le_of_ble_eq_true rfl), (Nat.le_of_ble_eq_true rfl)⟩ dX5_mixPlayer_49 ?_
      refine r_icmp_ge C 84 dX5_mixPlayer_52 (by decide) (fun _ => ?_) (fun c => absurd (tn_le _) c)
      refine r_aload_n C dX5_mixPlayer_84 rfl rfl ?_
      refine r_get C (j := 1) rfl in_X5 ((RA_T w).2.1) (by decide) fl_X5_19 rfl rfl dX5_mixPlayer_85 ?_
      refine r_aload_n C dX5_mixPlayer_88 rfl rfl ?_
      refine r_get C (j := 0) rfl in_X5 ((RA_T w).2.1) (by decide) fl_X5_10 rfl rfl dX5_mixPlayer_89 ?_
      refine r_iload_n C dX5_mixPlayer_92 rfl rfl ?_
      refine r_cVv C (c_takeR (RA_T w) hk) lk_X5_185 rfl (TA_pT.1) rfl rfl ⟨(Nat.le_of_ble_eq_true rfl), (Nat.le_of_ble_eq_true rfl), (Nat.le_of_ble_eq_true rfl), (Nat.le_of_ble_eq_true rfl), (Nat.le_of_ble_eq_true rfl)⟩ dX5_mixPlayer_93 ?_
      refine r_iconst C (v := 0) dX5_mixPlayer_96 rfl ?_
      refine r_istore C dX5_mixPlayer_97 (by decide) ?_
      refine V.sub [(0, .ref x), (3, .int a), (4, .long (k_m3 (k_hf S a hf) (k_k S a) of (k_m2 S a (k_m1 S a X 7) (k_k S a)) 0)), (6, .int (nI 0))] ⟨rfl, rfl, rfl, rfl, trivial⟩ ?_
      refine down_ (P := fun i => V p l e ⟨5, 0, 0, 119⟩ s m args below meth c G 7 (Qg G below args s 0 0 (fun v1 h1 s1 => v1 = some (.long (k_mp S a X hf of)) ∧ h1 = (pT G h (x + 12) (k_hf S a hf) (k_of (k_hf S a hf) (k_k S a) of 7) (nI (k_k S a))) ∧ s1 = sz)) (pT G h (x + 12) (k_hf S a hf) (k_of (k_hf S a hf) (k_k S a) of i) (nI (k_k S a))) sz 0 0 99 [(0, .ref x), (3, .int a), (4, .long (k_m3 (k_hf S a hf) (k_k S a) of (k_m2 S a (k_m1 S a X 7) (k_k S a)) i)), (6, .int (nI i))] []) (7) ?_ ?_
      · refine r_iload C dX5_mixPlayer_99 rfl ?_
        refine r_bipush C (v := 7) dX5_mixPlayer_101 rfl ?_
        refine r_icmp_ge C 174 dX5_mixPlayer_103 (by decide) (fun _ => ?_) (fun c => absurd (by decide) c)
        refine r_lload C dX5_mixPlayer_174 rfl ?_
        exact r_lret C rfl (Nat.le_of_ble_eq_true rfl) (Nat.le_of_ble_eq_true rfl) ⟨rfl, rfl, rfl⟩ dX5_mixPlayer_176
      · intro i h_i ih_i
        refine r_iload C dX5_mixPlayer_99 rfl ?_
        refine r_bipush C (v := 7) dX5_mixPlayer_101 rfl ?_
        refine r_icmp_ge C 174 dX5_mixPlayer_103 (by decide) (fun c => absurd c (nI_ge (b := 7) h_i (by decide))) (fun _ => ?_)
        refine r_aload_n C dX5_mixPlayer_106 rfl rfl ?_
        refine r_get C (j := 1) rfl in_X5 ((RA_T w).2.1) (by decide) fl_X5_19 rfl rfl dX5_mixPlayer_107 ?_
        refine r_iload C dX5_mixPlayer_110 rfl ?_
        refine r_cVv C (c_X4_tryFrom TA_pT rfl (tn_lt _)) lk_X5_189 rfl (TA_pT.1) rfl rfl ⟨(Nat.le_of_ble_eq_true rfl), (Nat.le_of_ble_eq_true rfl), (Nat.le_of_ble_eq_true rfl), (Nat.le_of_ble_eq_true rfl), (Nat.le_of_ble_eq_true rfl)⟩ dX5_mixPlayer_112 ?_
        refine V.heap pT_pT ?_
        refine r_ldc2 C kl_X5_213 dX5_mixPlayer_115 ?_
        refine r_lload C dX5_mixPlayer_118 rfl ?_
        refine r_lmul C dX5_mixPlayer_120 ?_
        refine r_aload_n C dX5_mixPlayer_121 rfl rfl ?_
        refine r_get C (j := 1) rfl in_X5 ((RA_T w).2.1) (by decide) fl_X5_19 rfl rfl dX5_mixPlayer_122 ?_
        refine r_cVi C (c_X4_mostTiles TA_pT rfl (tn_lt _)) lk_X5_192 rfl (TA_pT.1) rfl rfl ⟨(Nat.le_of_ble_eq_true rfl), (Nat.le_of_ble_eq_true rfl), (Nat.le_of_ble_eq_true rfl), (Nat.le_of_ble_eq_true rfl), (Nat.le_of_ble_eq_true rfl)⟩ dX5_mixPlayer_125 ?_
        refine r_i2l C dX5_mixPlayer_128 ?_
        refine r_ladd C dX5_mixPlayer_129 ?_
        refine r_lstore C dX5_mixPlayer_130 (by decide) ?_
        refine r_ldc2 C kl_X5_213 dX5_mixPlayer_132 ?_
        refine r_lload C dX5_mixPlayer_135 rfl ?_
        refine r_lmul C dX5_mixPlayer_137 ?_
        refine r_aload_n C dX5_mixPlayer_138 rfl rfl ?_
        refine r_get C (j := 1) rfl in_X5 ((RA_T w).2.1) (by decide) fl_X5_19 rfl rfl dX5_mixPlayer_139 ?_
        refine r_cVi C (c_X4_wholeByTrying TA_pT rfl (tn_lt _)) lk_X5_198 rfl (TA_pT.1) rfl rfl ⟨(Nat.le_of_ble_eq_true rfl), (Nat.le_of_ble_eq_true rfl), (Nat.le_of_ble_eq_true rfl), (Nat.le_of_ble_eq_true rfl), (Nat.le_of_ble_eq_true rfl)⟩ dX5_mixPlayer_142 ?_
        refine r_i2l C dX5_mixPlayer_145 ?_
        refine r_ladd C dX5_mixPlayer_146 ?_
        refine r_lstore C dX5_mixPlayer_147 (by decide) ?_
        refine r_ldc2 C kl_X5_213 dX5_mixPlayer_149 ?_
        refine r_lload C dX5_mixPlayer_152 rfl ?_
        refine r_lmul C dX5_mixPlayer_154 ?_
        refine r_aload_n C dX5_mixPlayer_155 rfl rfl ?_
        refine r_get C (j := 1) rfl in_X5 ((RA_T w).2.1) (by decide) fl_X5_19 rfl rfl dX5_mixPlayer_156 ?_
        refine r_iload C dX5_mixPlayer_159 rfl ?_
        refine r_cVi C (c_X4_wholeByCounting TA_pT rfl (tn_lt _)) lk_X5_195 rfl (TA_pT.1) rfl rfl ⟨(Nat.le_of_ble_eq_true rfl), (Nat.le_of_ble_eq_true rfl), (Nat.le_of_ble_eq_true rfl), (Nat.le_of_ble_eq_true rfl), (Nat.le_of_ble_eq_true rfl)⟩ dX5_mixPlayer_161 ?_
        refine r_i2l C dX5_mixPlayer_164 ?_
        refine r_ladd C dX5_mixPlayer_165 ?_
        refine r_lstore C dX5_mixPlayer_166 (by decide) ?_
        refine r_iinc C (v := 1) dX5_mixPlayer_168 rfl rfl (by decide) ?_
        refine r_goto C 99 dX5_mixPlayer_171 (by decide) ?_
        refine V.sub [(0, .ref x), (3, .int a), (4, .long (k_m3 (k_hf S a hf) (k_k S a) of (k_m2 S a (k_m1 S a X 7) (k_k S a)) (i + 1))), (6, .int (nI (i + 1)))] ⟨rfl, rfl, rfl, by rw [← nI_1 i]; rfl, trivial⟩ ?_
        exact ih_i
    · intro i h_i ih_i
      refine r_iload C dX5_mixPlayer_42 rfl ?_
      refine r_aload_n C dX5_mixPlayer_44 rfl rfl ?_
      refine r_get C (j := 0) rfl in_X5 ((RA_T w).2.1) (by decide) fl_X5_10 rfl rfl dX5_mixPlayer_45 ?_
      refine r_iload_n C dX5_mixPlayer_48 rfl rfl ?_
      refine r_cVi C (c_X0_heldBy (RA_T w).2.2.1) lk_X5_247 rfl (GA_o (RA_T w).2.2.1) rfl rfl ⟨(Nat.le_of_ble_eq_true rfl), (Nat.le_of_ble_eq_true rfl), (Nat.le_of_ble_eq_true rfl), (Nat.le_of_ble_eq_true rfl), (Nat.le_of_ble_eq_true rfl)⟩ dX5_mixPlayer_49 ?_
      refine r_icmp_ge C 84 dX5_mixPlayer_52 (by decide) (fun c => absurd c (tn_nle h_i)) (fun _ => ?_)
      refine r_ldc2 C kl_X5_213 dX5_mixPlayer_55 ?_
      refine r_lload C dX5_mixPlayer_58 rfl ?_
      refine r_lmul C dX5_mixPlayer_60 ?_
      refine r_aload_n C dX5_mixPlayer_61 rfl rfl ?_
      refine r_get C (j := 0) rfl in_X5 ((RA_T w).2.1) (by decide) fl_X5_10 rfl rfl dX5_mixPlayer_62 ?_
      refine r_getN C (j := 1) rfl in_X0 (GA_o (RA_T w).2.2.1) (by decide) fn_X5_164 rfl rfl dX5_mixPlayer_65 ?_
      refine r_iload_n C dX5_mixPlayer_68 rfl rfl ?_
      refine r_iload C dX5_mixPlayer_69 rfl ?_
      refine r_cVi C (c_at1 (RA_T w).2.2.1) lk_X5_152 rfl (GA_t1 (RA_T w).2.2.1) rfl rfl ⟨(Nat.le_of_ble_eq_true rfl), (Nat.le_of_ble_eq_true rfl), (Nat.le_of_ble_eq_true rfl), (Nat.le_of_ble_eq_true rfl), (Nat.le_of_ble_eq_true rfl)⟩ dX5_mixPlayer_71 ?_
      refine r_i2l C dX5_mixPlayer_74 ?_
      refine r_ladd C dX5_mixPlayer_75 ?_
      refine r_lstore C dX5_mixPlayer_76 (by decide) ?_
      refine r_iinc C (v := 1) dX5_mixPlayer_78 rfl rfl (by decide) ?_
      refine r_goto C 42 dX5_mixPlayer_81 (by decide) ?_
      refine V.sub [(0, .ref x), (3, .int a), (4, .long (k_m2 S a (k_m1 S a X 7) (i + 1))), (6, .int (nI (i + 1)))] ⟨rfl, rfl, rfl, by rw [← nI_1 i]; rfl, trivial⟩ ?_
      exact ih_i
  · intro i h_i ih_i
    refine r_iload C dX5_mixPlayer_6 rfl ?_
    refine r_bipush C (v := 7) dX5_mixPlayer_8 rfl ?_
    refine r_icmp_ge C 39 dX5_mixPlayer_10 (by decide) (fun c => absurd c (nI_ge (b := 7) h_i (by decide))) (fun _ => ?_)
    refine r_ldc2 C kl_X5_213 dX5_mixPlayer_13 ?_
    refine r_lload C dX5_mixPlayer_16 rfl ?_
    refine r_lmul C dX5_mixPlayer_18 ?_
    refine r_aload_n C dX5_mixPlayer_19 rfl rfl ?_
    refine r_get C (j := 0) rfl in_X5 ((RA_T w).2.1) (by decide) fl_X5_10 rfl rfl dX5_mixPlayer_20 ?_
    refine r_iload_n C dX5_mixPlayer_23 rfl rfl ?_
    refine r_iload C dX5_mixPlayer_24 rfl ?_
    refine r_cVi C (c_X0_playerProperty (RA_T w).2.2.1) lk_X5_170 rfl (GA_o (RA_T w).2.2.1) rfl rfl ⟨(Nat.le_of_ble_eq_true rfl), (Nat.le_of_ble_eq_true rfl), (Nat.le_of_ble_eq_true rfl), (Nat.le_of_ble_eq_true rfl), (Nat.le_of_ble_eq_true rfl)⟩ dX5_mixPlayer_26 ?_
    refine r_i2l C dX5_mixPlayer_29 ?_
    refine r_ladd C dX5_mixPlayer_30 ?_
    refine r_lstore C dX5_mixPlayer_31 (by decide) ?_
    refine r_iinc C (v := 1) dX5_mixPlayer_33 rfl rfl (by decide) ?_
    refine r_goto C 6 dX5_mixPlayer_36 (by decide) ?_
    refine V.sub [(0, .ref x), (3, .int a), (4, .long (k_m1 S a X (i + 1))), (6, .int (nI (i + 1)))] ⟨rfl, rfl, rfl, by rw [← nI_1 i]; rfl, trivial⟩ ?_
    exact ih_i
def k_d1 (S : gS) (z : Nat) : Nat → Int64
  | 0 => 3463
  | i + 1 => 31 * k_d1 S z i + (g_num S (nI i) (nI z)).toInt64
def k_d2 (S : gS) (z : Nat) : Int64 := mixF (S 0) (31 * k_d1 S z 12 + (S 5 7).toInt64) 196
def k_pX (S : gS) (X : Int64) (hf of : Nat → Int32) (t : Int32) : Nat → Int64 × (Nat → Int32) × (Nat → Int32) × Int32
  | 0 => (X, hf, of, t)
  | i + 1 => (k_mp S (nI i) (k_pX S X hf of t i).1 (k_pX S X hf of t i).2.1 (k_pX S X hf of t i).2.2.1, k_hf S (nI i) (k_pX S X hf of t i).2.1, k_of (k_hf S (nI i) (k_pX S X hf of t i).2.1) (k_k S (nI i)) (k_pX S X hf of t i).2.2.1 7, nI (k_k S (nI i)))
def k_d3 (S : gS) (X : Int64) : Int64 := mixF (S 3) X 12
def k_d4 (S : gS) (X : Int64) : Nat → Int64
  | 0 => X
  | i + 1 => 31 * k_d4 S X i + (g_stile S (nI i)).toInt64
def k_sh (S : gS) : UInt64 := FP.ddiv (FP.i2d (g_tal S 1)) 4640114991075164160
def k_d5 (S : gS) (X : Int64) : Int64 := 31 * (31 * (31 * X + (g_adv S).toInt64) + (g_cl S 6).toInt64) + b_of (k_sh S)
def k_d6 (sl : Nat → Option Nat) (X : Int64) : Nat → Int64
  | 0 => X
  | i + 1 => 31 * k_d6 sl X i + (if (sl i).isSome then (1 : Int32) else 0).toInt64
def k_p2 (S : gS) (z : Nat) (hf of : Nat → Int32) (t : Int32) : Nat → Int64 × (Nat → Int32) × (Nat → Int32) × Int32 := k_pX S (k_d2 S z) hf of t
def k_dg (S : gS) (sl : Nat → Option Nat) (z : Nat) (cf : Nat → Int32) (len : Nat) (hf of : Nat → Int32) (t : Int32) : Int64 := x_mix cf len (k_d6 sl (k_d5 S (k_d4 S (k_d3 S (k_p2 S z hf of t (S 5 0).toNatClampNeg).1) (g_stock S).toNatClampNeg)) 2) len
set_option maxHeartbeats 800000 in
set_option maxRecDepth 100000 in
theorem c_X5_digest {G : ga_} {l : Launch} {h : HP} {sz : Nat} {x dyn : Nat} {S : gS} {st sl : Nat → Option Nat} {D : Nat → gS} {nx z len : Nat} {cf : Nat → Int32} (w : RA G h x dyn sz S st sl D nx z cf len) (hh : ∀ i, i < (S 5 0).toNatClampNeg → ¬ g_held S (nI i) < 0) (hz : vf_n64 (FP.ddiv (FP.i2d (g_tal S 1)) 4640114991075164160)) (hb : b_ok 1022 (k_sh S) = true) : Mg G l yX5_digest cX5_digest 4 (some .long) 6 145 0 0 [.ref x] h sz (fun v h1 s1 => s1 = sz ∧ fr_ h h1 x dyn ∧ RA G h1 x dyn s1 S st sl D nx z cf len ∧ ∃ hf of t, v = some (.long (k_dg S sl z cf len hf of t))) := by
  refine Mg.ofV [(0, .ref x)] (by decide) (Nat.le_of_ble_eq_true rfl) rfl ?_
  intro p e s m args below meth c C
  obtain ⟨hf, of, t, wt⟩ := RA_ta w
  refine V.heap (pT_id wt).symm ?_
  refine r_ldc2 C kl_X5_211 dX5_digest_0 ?_
  refine r_lstore_n C dX5_digest_3 rfl (by decide) ?_
  refine r_iconst C (v := 0) dX5_digest_4 rfl ?_
  refine r_istore_n C dX5_digest_5 rfl (by decide) ?_
  refine V.sub [(0, .ref x), (1, .long (k_d1 S z 0)), (3, .int (nI 0))] ⟨rfl, rfl, rfl, trivial⟩ ?_
  refine down_ (P := fun i => V p l e ⟨6, 0, 0, 145⟩ s m args below meth c G 4 (Qg G below args s 0 0 (fun v h1 s1 => s1 = sz ∧ fr_ h h1 x dyn ∧ RA G h1 x dyn s1 S st sl D nx z cf len ∧ ∃ hf of t, v = some (.long (k_dg S sl z cf len hf of t)))) (pT G h (x + 12) hf of t) sz 0 0 6 [(0, .ref x), (1, .long (k_d1 S z i)), (3, .int (nI i))] []) (12) ?_ ?_
  · refine r_iload_n C dX5_digest_6 rfl rfl ?_
    refine r_bipush C (v := 12) dX5_digest_7 rfl ?_
    refine r_icmp_ge C 41 dX5_digest_9 (by decide) (fun _ => ?_) (fun c => absurd (by decide) c)
    refine r_ldc2 C kl_X5_213 dX5_digest_41 ?_
    refine r_lload_n C dX5_digest_44 rfl rfl ?_
    refine r_lmul C dX5_digest_45 ?_
    refine r_aload_n C dX5_digest_46 rfl rfl ?_
    refine r_get C (j := 0) rfl in_X5 ((RA_T w).2.1) (by decide) fl_X5_10 rfl rfl dX5_digest_47 ?_
    refine r_getN C (j := 12) rfl in_X0 (GA_o (RA_T w).2.2.1) (by decide) fn_X5_100 rfl rfl dX5_digest_50 ?_
    refine r_i2l C dX5_digest_53 ?_
    refine r_ladd C dX5_digest_54 ?_
    refine r_lstore_n C dX5_digest_55 rfl (by decide) ?_
    refine r_aload_n C dX5_digest_56 rfl rfl ?_
    refine r_get C (j := 0) rfl in_X5 ((RA_T w).2.1) (by decide) fl_X5_10 rfl rfl dX5_digest_57 ?_
    refine r_getN C (j := 0) rfl in_X0 (GA_o (RA_T w).2.2.1) (by decide) fn_X5_148 rfl rfl dX5_digest_60 ?_
    refine r_lload_n C dX5_digest_63 rfl rfl ?_
    refine r_cVl C (c_X2_mixInto (GA_t0 (RA_T w).2.2.1) (GA_a0 (RA_T w).2.2.1) (by decide)) lk_X5_215 rfl (GA_t0 (RA_T w).2.2.1) rfl rfl ⟨(Nat.le_of_ble_eq_true rfl), (Nat.le_of_ble_eq_true rfl), (Nat.le_of_ble_eq_true rfl), (Nat.le_of_ble_eq_true rfl), (Nat.le_of_ble_eq_true rfl)⟩ dX5_digest_64 ?_
    refine r_lstore_n C dX5_digest_67 rfl (by decide) ?_
    refine r_iconst C (v := 0) dX5_digest_68 rfl ?_
    refine r_istore_n C dX5_digest_69 rfl (by decide) ?_
    refine V.sub [(0, .ref x), (1, .long (k_p2 S z hf of t 0).1), (3, .int (nI 0))] ⟨rfl, rfl, rfl, trivial⟩ ?_
    refine down_ (P := fun i => V p l e ⟨6, 0, 0, 145⟩ s m args below meth c G 4 (Qg G below args s 0 0 (fun v h1 s1 => s1 = sz ∧ fr_ h h1 x dyn ∧ RA G h1 x dyn s1 S st sl D nx z cf len ∧ ∃ hf of t, v = some (.long (k_dg S sl z cf len hf of t)))) (pT G h (x + 12) (k_p2 S z hf of t i).2.1 (k_p2 S z hf of t i).2.2.1 (k_p2 S z hf of t i).2.2.2) sz 0 0 70 [(0, .ref x), (1, .long (k_p2 S z hf of t i).1), (3, .int (nI i))] []) ((S 5 0).toNatClampNeg) ?_ ?_
    · refine r_iload_n C dX5_digest_70 rfl rfl ?_
      refine r_aload_n C dX5_digest_71 rfl rfl ?_
      refine r_get C (j := 0) rfl in_X5 ((RA_T w).2.1) (by decide) fl_X5_10 rfl rfl dX5_digest_72 ?_
      refine r_getN C (j := 5) rfl in_X0 (GA_o (RA_T w).2.2.1) (by decide) fn_X5_219 rfl rfl dX5_digest_75 ?_
      refine r_icmp_ge C 94 dX5_digest_78 (by decide) (fun _ => ?_) (fun c => absurd (tn_le _) c)
      refine r_aload_n C dX5_digest_94 rfl rfl ?_
      refine r_get C (j := 0) rfl in_X5 ((RA_T w).2.1) (by decide) fl_X5_10 rfl rfl dX5_digest_95 ?_
      refine r_getN C (j := 3) rfl in_X0 (GA_o (RA_T w).2.2.1) (by decide) fn_X5_173 rfl rfl dX5_digest_98 ?_
      refine r_lload_n C dX5_digest_101 rfl rfl ?_
      refine r_cVl C (c_X2_mixInto (GA_t3 (RA_T w).2.2.1) (GA_a3 (RA_T w).2.2.1) (by decide)) lk_X5_215 rfl (GA_t3 (RA_T w).2.2.1) rfl rfl ⟨(Nat.le_of_ble_eq_true rfl), (Nat.le_of_ble_eq_true rfl), (Nat.le_of_ble_eq_true rfl), (Nat.le_of_ble_eq_true rfl), (Nat.le_of_ble_eq_true rfl)⟩ dX5_digest_102 ?_
      refine r_lstore_n C dX5_digest_105 rfl (by decide) ?_
      refine r_iconst C (v := 0) dX5_digest_106 rfl ?_
      refine r_istore_n C dX5_digest_107 rfl (by decide) ?_
      refine V.sub [(0, .ref x), (1, .long (k_d4 S (k_d3 S (k_p2 S z hf of t (S 5 0).toNatClampNeg).1) 0)), (3, .int (nI 0))] ⟨rfl, rfl, rfl, trivial⟩ ?_
      refine down_ (P := fun i => V p l e ⟨6, 0, 0, 145⟩ s m args below meth c G 4 (Qg G below args s 0 0 (fun v h1 s1 => s1 = sz ∧ fr_ h h1 x dyn ∧ RA G h1 x dyn s1 S st sl D nx z cf len ∧ ∃ hf of t, v = some (.long (k_dg S sl z cf len hf of t)))) (pT G h (x + 12) (k_p2 S z hf of t (S 5 0).toNatClampNeg).2.1 (k_p2 S z hf of t (S 5 0).toNatClampNeg).2.2.1 (k_p2 S z hf of t (S 5 0).toNatClampNeg).2.2.2) sz 0 0 108 [(0, .ref x), (1, .long (k_d4 S (k_d3 S (k_p2 S z hf of t (S 5 0).toNatClampNeg).1) i)), (3, .int (nI i))] []) ((g_stock S).toNatClampNeg) ?_ ?_
      · refine r_iload_n C dX5_digest_108 rfl rfl ?_
        refine r_aload_n C dX5_digest_109 rfl rfl ?_
        refine r_get C (j := 0) rfl in_X5 ((RA_T w).2.1) (by decide) fl_X5_10 rfl rfl dX5_digest_110 ?_
        refine r_cVi C (c_X0_stockSize (RA_T w).2.2.1) lk_X5_56 rfl (GA_o (RA_T w).2.2.1) rfl rfl ⟨(Nat.le_of_ble_eq_true rfl), (Nat.le_of_ble_eq_true rfl), (Nat.le_of_ble_eq_true rfl), (Nat.le_of_ble_eq_true rfl), (Nat.le_of_ble_eq_true rfl)⟩ dX5_digest_113 ?_
        refine r_icmp_ge C 141 dX5_digest_116 (by decide) (fun _ => ?_) (fun c => absurd (tn_le _) c)
        refine r_ldc2 C kl_X5_213 dX5_digest_141 ?_
        refine r_lload_n C dX5_digest_144 rfl rfl ?_
        refine r_lmul C dX5_digest_145 ?_
        refine r_aload_n C dX5_digest_146 rfl rfl ?_
        refine r_get C (j := 0) rfl in_X5 ((RA_T w).2.1) (by decide) fl_X5_10 rfl rfl dX5_digest_147 ?_
        refine r_cVi C (c_X0_bestPlace (RA_T w).2.2.1) lk_X5_201 rfl (GA_o (RA_T w).2.2.1) rfl rfl ⟨(Nat.le_of_ble_eq_true rfl), (Nat.le_of_ble_eq_true rfl), (Nat.le_of_ble_eq_true rfl), (Nat.le_of_ble_eq_true rfl), (Nat.le_of_ble_eq_true rfl)⟩ dX5_digest_150 ?_
        refine r_i2l C dX5_digest_153 ?_
        refine r_ladd C dX5_digest_154 ?_
        refine r_lstore_n C dX5_digest_155 rfl (by decide) ?_
        refine r_ldc2 C kl_X5_213 dX5_digest_156 ?_
        refine r_lload_n C dX5_digest_159 rfl rfl ?_
        refine r_lmul C dX5_digest_160 ?_
        refine r_aload_n C dX5_digest_161 rfl rfl ?_
        refine r_get C (j := 0) rfl in_X5 ((RA_T w).2.1) (by decide) fl_X5_10 rfl rfl dX5_digest_162 ?_
        refine r_cVi C (c_X0_commonestGrade (RA_T w).2.2.1) lk_X5_204 rfl (GA_o (RA_T w).2.2.1) rfl rfl ⟨(Nat.le_of_ble_eq_true rfl), (Nat.le_of_ble_eq_true rfl), (Nat.le_of_ble_eq_true rfl), (Nat.le_of_ble_eq_true rfl), (Nat.le_of_ble_eq_true rfl)⟩ dX5_digest_165 ?_
        refine r_i2l C dX5_digest_168 ?_
        refine r_ladd C dX5_digest_169 ?_
        refine r_lstore_n C dX5_digest_170 rfl (by decide) ?_
        refine r_ldc2 C kl_X5_213 dX5_digest_171 ?_
        refine r_lload_n C dX5_digest_174 rfl rfl ?_
        refine r_lmul C dX5_digest_175 ?_
        refine r_aload_n C dX5_digest_176 rfl rfl ?_
        refine r_get C (j := 0) rfl in_X5 ((RA_T w).2.1) (by decide) fl_X5_10 rfl rfl dX5_digest_177 ?_
        refine r_cVd C (c_X0_shareOfRust (RA_T w).2.2.1 hz) lk_X5_207 rfl (GA_o (RA_T w).2.2.1) rfl rfl ⟨(Nat.le_of_ble_eq_true rfl), (Nat.le_of_ble_eq_true rfl), (Nat.le_of_ble_eq_true rfl), (Nat.le_of_ble_eq_true rfl), (Nat.le_of_ble_eq_true rfl)⟩ dX5_digest_180 ?_
        refine r_cSl C (c_X5_bitsOf hb) lk_X5_226 rfl rfl ⟨(Nat.le_of_ble_eq_true rfl), (Nat.le_of_ble_eq_true rfl), (Nat.le_of_ble_eq_true rfl), (Nat.le_of_ble_eq_true rfl), (Nat.le_of_ble_eq_true rfl)⟩ dX5_digest_183 ?_
        refine r_ladd C dX5_digest_186 ?_
        refine r_lstore_n C dX5_digest_187 rfl (by decide) ?_
        refine r_iconst C (v := 0) dX5_digest_188 rfl ?_
        refine r_istore_n C dX5_digest_189 rfl (by decide) ?_
        refine V.sub [(0, .ref x), (1, .long (k_d6 sl (k_d5 S (k_d4 S (k_d3 S (k_p2 S z hf of t (S 5 0).toNatClampNeg).1) (g_stock S).toNatClampNeg)) 0)), (3, .int (nI 0))] ⟨rfl, rfl, rfl, trivial⟩ ?_
        refine down_ (P := fun i => V p l e ⟨6, 0, 0, 145⟩ s m args below meth c G 4 (Qg G below args s 0 0 (fun v h1 s1 => s1 = sz ∧ fr_ h h1 x dyn ∧ RA G h1 x dyn s1 S st sl D nx z cf len ∧ ∃ hf of t, v = some (.long (k_dg S sl z cf len hf of t)))) (pT G h (x + 12) (k_p2 S z hf of t (S 5 0).toNatClampNeg).2.1 (k_p2 S z hf of t (S 5 0).toNatClampNeg).2.2.1 (k_p2 S z hf of t (S 5 0).toNatClampNeg).2.2.2) sz 0 0 190 [(0, .ref x), (1, .long (k_d6 sl (k_d5 S (k_d4 S (k_d3 S (k_p2 S z hf of t (S 5 0).toNatClampNeg).1) (g_stock S).toNatClampNeg)) i)), (3, .int (nI i))] []) (2) ?_ ?_
        · refine r_iload_n C dX5_digest_190 rfl rfl ?_
          refine r_aload_n C dX5_digest_191 rfl rfl ?_
          refine r_get C (j := 4) rfl in_X5 ((RA_T w).2.1) (by decide) fl_X5_37 rfl rfl dX5_digest_192 ?_
          refine r_alenG C (RA_sl (RA_T w)) dX5_digest_195 ?_
          refine r_icmp_ge C 227 dX5_digest_196 (by decide) (fun _ => ?_) (fun c => absurd (by decide) c)
          refine r_aload_n C dX5_digest_227 rfl rfl ?_
          refine r_get C (j := 2) rfl in_X5 ((RA_T w).2.1) (by decide) fl_X5_26 rfl rfl dX5_digest_228 ?_
          refine r_lload_n C dX5_digest_231 rfl rfl ?_
          refine r_cVl C (c_X3_mixInto (RA_xa (RA_T w)) (RA_len w)) lk_X5_230 rfl ((RA_xa (RA_T w)).1) rfl rfl ⟨(Nat.le_of_ble_eq_true rfl), (Nat.le_of_ble_eq_true rfl), (Nat.le_of_ble_eq_true rfl), (Nat.le_of_ble_eq_true rfl), (Nat.le_of_ble_eq_true rfl)⟩ dX5_digest_232 ?_
          exact r_lret C rfl (Nat.le_of_ble_eq_true rfl) (Nat.le_of_ble_eq_true rfl) ⟨rfl, fr_T, (RA_T w), hf, of, t, rfl⟩ dX5_digest_235
        · intro i h_i ih_i
          refine r_iload_n C dX5_digest_190 rfl rfl ?_
          refine r_aload_n C dX5_digest_191 rfl rfl ?_
          refine r_get C (j := 4) rfl in_X5 ((RA_T w).2.1) (by decide) fl_X5_37 rfl rfl dX5_digest_192 ?_
          refine r_alenG C (RA_sl (RA_T w)) dX5_digest_195 ?_
          refine r_icmp_ge C 227 dX5_digest_196 (by decide) (fun c => absurd c (nI_ge (b := 2) h_i (by decide))) (fun _ => ?_)
          refine r_ldc2 C kl_X5_213 dX5_digest_199 ?_
          refine r_lload_n C dX5_digest_202 rfl rfl ?_
          refine r_lmul C dX5_digest_203 ?_
          refine r_aload_n C dX5_digest_204 rfl rfl ?_
          refine r_get C (j := 4) rfl in_X5 ((RA_T w).2.1) (by decide) fl_X5_37 rfl rfl dX5_digest_205 ?_
          refine r_iload_n C dX5_digest_208 rfl rfl ?_
          refine r_aald C (RA_sl (RA_T w)) (vp_in_nI h_i (by decide)) dX5_digest_209 ?_
          rw [nI_clamp (by omega)]
          rcases hc : sl i with _ | r
          · skip
            have ek : (if (sl i).isSome then (1 : Int32) else 0) = 0 := by rw [hc]; rfl
            refine r_ifnonnullN C dX5_digest_210 ?_
            refine r_iconst C (v := 0) dX5_digest_213 rfl ?_
            refine r_goto C 218 dX5_digest_214 (by decide) ?_
            refine r_i2l C dX5_digest_218 ?_
            refine r_ladd C dX5_digest_219 ?_
            refine r_lstore_n C dX5_digest_220 rfl (by decide) ?_
            refine r_iinc C (v := 1) dX5_digest_221 rfl rfl (by decide) ?_
            refine r_goto C 190 dX5_digest_224 (by decide) ?_
            refine V.sub [(0, .ref x), (1, .long (k_d6 sl (k_d5 S (k_d4 S (k_d3 S (k_p2 S z hf of t (S 5 0).toNatClampNeg).1) (g_stock S).toNatClampNeg)) (i + 1))), (3, .int (nI (i + 1)))] ⟨rfl, (by show _ = some (Value.long (31 * k_d6 sl (k_d5 S (k_d4 S (k_d3 S (k_p2 S z hf of t (S 5 0).toNatClampNeg).1) (g_stock S).toNatClampNeg)) i + (if (sl i).isSome then (1 : Int32) else 0).toInt64)); rw [ek]; rfl), by rw [← nI_1 i]; rfl, trivial⟩ ?_
            exact ih_i
          · skip
            have ek : (if (sl i).isSome then (1 : Int32) else 0) = 1 := by rw [hc]; rfl
            refine r_ifnonnull C 217 dX5_digest_210 (by decide) ?_
            refine r_iconst C (v := 1) dX5_digest_217 rfl ?_
            refine r_i2l C dX5_digest_218 ?_
            refine r_ladd C dX5_digest_219 ?_
            refine r_lstore_n C dX5_digest_220 rfl (by decide) ?_
            refine r_iinc C (v := 1) dX5_digest_221 rfl rfl (by decide) ?_
            refine r_goto C 190 dX5_digest_224 (by decide) ?_
            refine V.sub [(0, .ref x), (1, .long (k_d6 sl (k_d5 S (k_d4 S (k_d3 S (k_p2 S z hf of t (S 5 0).toNatClampNeg).1) (g_stock S).toNatClampNeg)) (i + 1))), (3, .int (nI (i + 1)))] ⟨rfl, (by show _ = some (Value.long (31 * k_d6 sl (k_d5 S (k_d4 S (k_d3 S (k_p2 S z hf of t (S 5 0).toNatClampNeg).1) (g_stock S).toNatClampNeg)) i + (if (sl i).isSome then (1 : Int32) else 0).toInt64)); rw [ek]; rfl), by rw [← nI_1 i]; rfl, trivial⟩ ?_
            exact ih_i
      · intro i h_i ih_i
        refine r_iload_n C dX5_digest_108 rfl rfl ?_
        refine r_aload_n C dX5_digest_109 rfl rfl ?_
        refine r_get C (j := 0) rfl in_X5 ((RA_T w).2.1) (by decide) fl_X5_10 rfl rfl dX5_digest_110 ?_
        refine r_cVi C (c_X0_stockSize (RA_T w).2.2.1) lk_X5_56 rfl (GA_o (RA_T w).2.2.1) rfl rfl ⟨(Nat.le_of_ble_eq_true rfl), (Nat.le_of_ble_eq_true rfl), (Nat.le_of_ble_eq_true rfl), (Nat.le_of_ble_eq_true rfl), (Nat.le_of_ble_eq_true rfl)⟩ dX5_digest_113 ?_
        refine r_icmp_ge C 141 dX5_digest_116 (by decide) (fun c => absurd c (tn_nle h_i)) (fun _ => ?_)
        refine r_ldc2 C kl_X5_213 dX5_digest_119 ?_
        refine r_lload_n C dX5_digest_122 rfl rfl ?_
        refine r_lmul C dX5_digest_123 ?_
        refine r_aload_n C dX5_digest_124 rfl rfl ?_
        refine r_get C (j := 0) rfl in_X5 ((RA_T w).2.1) (by decide) fl_X5_10 rfl rfl dX5_digest_125 ?_
        refine r_iload_n C dX5_digest_128 rfl rfl ?_
        refine r_cVi C (c_X0_stockTile (RA_T w).2.2.1) lk_X5_167 rfl (GA_o (RA_T w).2.2.1) rfl rfl ⟨(Nat.le_of_ble_eq_true rfl), (Nat.le_of_ble_eq_true rfl), (Nat.le_of_ble_eq_true rfl), (Nat.le_of_ble_eq_true rfl), (Nat.le_of_ble_eq_true rfl)⟩ dX5_digest_129 ?_
        refine r_i2l C dX5_digest_132 ?_
        refine r_ladd C dX5_digest_133 ?_
        refine r_lstore_n C dX5_digest_134 rfl (by decide) ?_
        refine r_iinc C (v := 1) dX5_digest_135 rfl rfl (by decide) ?_
        refine r_goto C 108 dX5_digest_138 (by decide) ?_
        refine V.sub [(0, .ref x), (1, .long (k_d4 S (k_d3 S (k_p2 S z hf of t (S 5 0).toNatClampNeg).1) (i + 1))), (3, .int (nI (i + 1)))] ⟨rfl, rfl, by rw [← nI_1 i]; rfl, trivial⟩ ?_
        exact ih_i
    · intro i h_i ih_i
      refine r_iload_n C dX5_digest_70 rfl rfl ?_
      refine r_aload_n C dX5_digest_71 rfl rfl ?_
      refine r_get C (j := 0) rfl in_X5 ((RA_T w).2.1) (by decide) fl_X5_10 rfl rfl dX5_digest_72 ?_
      refine r_getN C (j := 5) rfl in_X0 (GA_o (RA_T w).2.2.1) (by decide) fn_X5_219 rfl rfl dX5_digest_75 ?_
      refine r_icmp_ge C 94 dX5_digest_78 (by decide) (fun c => absurd c (tn_nle h_i)) (fun _ => ?_)
      refine r_aload_n C dX5_digest_81 rfl rfl ?_
      refine r_lload_n C dX5_digest_82 rfl rfl ?_
      refine r_iload_n C dX5_digest_83 rfl rfl ?_
      refine r_cVl C (c_X5_mixPlayer w (hh i h_i)) lk_X5_222 rfl ((RA_T w).2.1) rfl rfl ⟨(Nat.le_of_ble_eq_true rfl), (Nat.le_of_ble_eq_true rfl), (Nat.le_of_ble_eq_true rfl), (Nat.le_of_ble_eq_true rfl), (Nat.le_of_ble_eq_true rfl)⟩ dX5_digest_84 ?_
      refine r_lstore_n C dX5_digest_87 rfl (by decide) ?_
      refine r_iinc C (v := 1) dX5_digest_88 rfl rfl (by decide) ?_
      refine r_goto C 70 dX5_digest_91 (by decide) ?_
      refine V.sub [(0, .ref x), (1, .long (k_p2 S z hf of t (i + 1)).1), (3, .int (nI (i + 1)))] ⟨rfl, rfl, by rw [← nI_1 i]; rfl, trivial⟩ ?_
      exact ih_i
  · intro i h_i ih_i
    refine r_iload_n C dX5_digest_6 rfl rfl ?_
    refine r_bipush C (v := 12) dX5_digest_7 rfl ?_
    refine r_icmp_ge C 41 dX5_digest_9 (by decide) (fun c => absurd c (nI_ge (b := 12) h_i (by decide))) (fun _ => ?_)
    refine r_ldc2 C kl_X5_213 dX5_digest_12 ?_
    refine r_lload_n C dX5_digest_15 rfl rfl ?_
    refine r_lmul C dX5_digest_16 ?_
    refine r_aload_n C dX5_digest_17 rfl rfl ?_
    refine r_get C (j := 0) rfl in_X5 ((RA_T w).2.1) (by decide) fl_X5_10 rfl rfl dX5_digest_18 ?_
    refine r_iload_n C dX5_digest_21 rfl rfl ?_
    refine r_aload_n C dX5_digest_22 rfl rfl ?_
    refine r_get C (j := 3) rfl in_X5 ((RA_T w).2.1) (by decide) fl_X5_33 rfl rfl dX5_digest_23 ?_
    refine r_getN C (j := 2) rfl in_X1 ((RA_pa (RA_T w)).1) (by decide) fn_X5_135 rfl rfl dX5_digest_26 ?_
    refine r_cVi C (c_X0_numberOf (RA_T w).2.2.1) lk_X5_176 rfl (GA_o (RA_T w).2.2.1) rfl rfl ⟨(Nat.le_of_ble_eq_true rfl), (Nat.le_of_ble_eq_true rfl), (Nat.le_of_ble_eq_true rfl), (Nat.le_of_ble_eq_true rfl), (Nat.le_of_ble_eq_true rfl)⟩ dX5_digest_29 ?_
    refine r_i2l C dX5_digest_32 ?_
    refine r_ladd C dX5_digest_33 ?_
    refine r_lstore_n C dX5_digest_34 rfl (by decide) ?_
    refine r_iinc C (v := 1) dX5_digest_35 rfl rfl (by decide) ?_
    refine r_goto C 6 dX5_digest_38 (by decide) ?_
    refine V.sub [(0, .ref x), (1, .long (k_d1 S z (i + 1))), (3, .int (nI (i + 1)))] ⟨rfl, rfl, by rw [← nI_1 i]; rfl, trivial⟩ ?_
    exact ih_i
