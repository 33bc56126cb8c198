/-! THE MODEL BEGINS -/
theorem dv7 : ∀ i, i < 49 → nI i / 7 = nI (i / 7) ∧ nI i - nI i / 7 * 7 = nI (i % 7) := by decide +kernel
theorem dv5 : ∀ i, i < 20 → nI i / 5 = nI (i / 5) := by decide +kernel
def m_tc : Nat → Nat
  | 0 => 0
  | k + 1 => if k / 7 ≤ k % 7 then m_tc k + 1 else m_tc k
theorem tc_lt : ∀ i, i < 49 → i / 7 ≤ i % 7 → m_tc i < 28 := by decide +kernel
def m_t1 (S : gS) (t a b : Int32) : gS := gP (gP (gP (gP (gP (gP (gP S 0 t 0 a) 0 t 1 b) 0 t 2 0) 0 t 3 (-1)) 0 t 4 0) 0 t 5 (-1)) 0 t 6 0
def m_tl (S : gS) : Nat → gS
  | 0 => S
  | k + 1 => if k / 7 ≤ k % 7 then m_t1 (m_tl S k) (nI (m_tc k)) (nI (k / 7)) (nI (k % 7)) else m_tl S k
def m_lt (x : Int32) : Nat → Int32
  | 0 => x
  | k + 1 => i_lot (m_lt x k)
def m_la (x : Int32) (f : Nat → Int32) : Nat → Nat → Int32
  | 0 => f
  | k + 1 => upd (m_la x f k) k (m_lt x (k + 1))
def m_ls (f : Nat → Int32) (t o : Nat) : Bool := decide (f o < f t) || (decide (f o = f t) && decide (o < t))
def m_rk (f : Nat → Int32) (t : Nat) : Nat → Nat
  | 0 => 0
  | o + 1 => m_rk f t o + (if m_ls f t o then 1 else 0)
theorem rk_le (f : Nat → Int32) (t : Nat) : ∀ o, m_rk f t o ≤ o := by
  intro o
  induction o with
  | zero => exact Nat.le_refl _
  | succ o ih => show m_rk f t o + (if m_ls f t o then 1 else 0) ≤ o + 1; split <;> omega
theorem ls_self (f : Nat → Int32) (t : Nat) : m_ls f t t = false := by
  unfold m_ls
  rw [decide_eq_false (show ¬ f t < f t from fun h => Int32.lt_irrefl h), decide_eq_false (Nat.lt_irrefl t), Bool.and_false, Bool.or_false]
theorem rk_lt (f : Nat → Int32) (t : Nat) : ∀ o, t < o → m_rk f t o < o := by
  intro o
  induction o with
  | zero => intro h; omega
  | succ o ih =>
    intro h
    show m_rk f t o + (if m_ls f t o then 1 else 0) < o + 1
    by_cases c : t = o
    · subst c
      rw [ls_self]
      have := rk_le f t t
      simp only [Bool.false_eq_true, if_false]
      omega
    · have := ih (by omega)
      split <;> omega
def m_or (f : Nat → Int32) (S : gS) : Nat → gS
  | 0 => S
  | t + 1 => gP (m_or f S t) 4 0 (nI (m_rk f t 28)) (nI t)
def m_sh (f : Nat → Int32) (S : gS) (x : Int32) : gS := gc (m_or (m_la x f 28) (gc S 6 (m_lt x 28)) 28) 2 0
theorem gc_gc {S : gS} {k : Nat} {a b : Int32} : gc (gc S k a) k b = gc S k b := by
  unfold gc
  rw [gu_gu, gu_s]
  congr 1
  funext c
  by_cases d : c = k
  · rw [if_pos d, if_pos d]
  · rw [if_neg d, if_neg d, if_neg d]
def m_z1 (S : gS) (p : Int32) : gS := gP (gP (gP (gP S 2 p 0 0) 2 p 1 0) 2 p 2 0) 2 p 3 0
def m_zz (S : gS) : Nat → gS
  | 0 => S
  | i + 1 => m_z1 (m_zz S i) (nI i)
def m_dl (S : gS) : Nat → gS
  | 0 => S
  | k + 1 => g_take (m_dl S k) (nI (k / 5))
def m_b1 (f : Nat → Int32) (S : gS) (u : Nat) (x : Int32) : gS := m_zz (gc (gc (gc (gc (m_sh f (m_tl S 49) x) 0 (nI u)) 1 0) 4 0) 3 0) 4
def m_bg (f : Nat → Int32) (S : gS) (u : Nat) (x : Int32) : gS := g_mr (m_dl (m_b1 f S u x) (5 * u)) 3
theorem or_raw (f : Nat → Int32) (S : gS) : ∀ t, t ≤ 28 → (∀ j, j ≠ 4 → (m_or f S t) j = S j) ∧ (∀ i, i < 28 → (∃ q, q < t ∧ (m_or f S t) 4 i = nI q) ∨ (m_or f S t) 4 i = S 4 i) := by
  intro t
  induction t with
  | zero => intro _; exact ⟨fun _ _ => rfl, fun _ _ => Or.inr rfl⟩
  | succ t ih =>
    intro ht
    obtain ⟨h1, h2⟩ := ih (by omega)
    have hr := rk_lt f t 28 (by omega)
    have e : m_or f S (t + 1) = gu (m_or f S t) 4 (upd ((m_or f S t) 4) (m_rk f t 28) (nI t)) := by
      show gu (m_or f S t) 4 (tPut (nI 28) 28 ((m_or f S t) 4) (nI 0) (nI (m_rk f t 28)) (nI t)) = _
      rw [tPut_in (by omega) (by decide), Nat.zero_mul, Nat.zero_add]
    rw [e]
    refine ⟨fun j hj => by rw [gu_n hj]; exact h1 j hj, fun i hi => ?_⟩
    rw [gu_s]
    by_cases c : i = m_rk f t 28
    · subst c; exact Or.inl ⟨t, by omega, by rw [upd_s]⟩
    · rw [upd_n c]
      rcases h2 i hi with ⟨q, hq, e⟩ | e
      · exact Or.inl ⟨q, by omega, e⟩
      · exact Or.inr e
theorem zz_raw (S : gS) : ∀ i, i ≤ 4 → (∀ j, j ≠ 2 → (m_zz S i) j = S j) ∧ ∀ x, (m_zz S i) 2 x = if x < i * 4 then 0 else S 2 x := by
  intro i
  induction i with
  | zero => intro _; exact ⟨fun _ _ => rfl, fun x => by rw [if_neg (by omega)]; rfl⟩
  | succ i ih =>
    intro hi
    obtain ⟨h1, h2⟩ := ih (by omega)
    have e : m_zz S (i + 1) = gu (m_zz S i) 2 (upd (upd (upd (upd ((m_zz S i) 2) (i * 4 + 0) 0) (i * 4 + 1) 0) (i * 4 + 2) 0) (i * 4 + 3) 0) := by
      show m_z1 (m_zz S i) (nI i) = _
      unfold m_z1
      rw [show ∀ X : gS, gP X 2 (nI i) 0 0 = _ from fun X => put2 (S := X) (w := 0) (by omega) (by decide), show ∀ X : gS, gP X 2 (nI i) 1 0 = _ from fun X => put2 (S := X) (w := 1) (by omega) (by decide), show ∀ X : gS, gP X 2 (nI i) 2 0 = _ from fun X => put2 (S := X) (w := 2) (by omega) (by decide), show ∀ X : gS, gP X 2 (nI i) 3 0 = _ from fun X => put2 (S := X) (w := 3) (by omega) (by decide)]
      rw [gu_gu, gu_gu, gu_gu, gu_s, gu_s, gu_s]
    rw [e]
    refine ⟨fun j hj => by rw [gu_n hj]; exact h1 j hj, fun x => ?_⟩
    rw [gu_s]
    by_cases c : x < i * 4
    · rw [upd_n (by omega), upd_n (by omega), upd_n (by omega), upd_n (by omega), h2, if_pos c, if_pos (by omega)]
    · by_cases d : x < (i + 1) * 4
      · rw [if_pos d]
        rcases (show x = i * 4 + 0 ∨ x = i * 4 + 1 ∨ x = i * 4 + 2 ∨ x = i * 4 + 3 by omega) with rfl | rfl | rfl | rfl
        · rw [upd_n (by omega), upd_n (by omega), upd_n (by omega), upd_s]
        · rw [upd_n (by omega), upd_n (by omega), upd_s]
        · rw [upd_n (by omega), upd_s]
        · rw [upd_s]
      · rw [upd_n (by omega), upd_n (by omega), upd_n (by omega), upd_n (by omega), h2, if_neg c, if_neg d]
theorem take_2 (S : gS) (p : Nat) (hp : p < 4) : (g_take S (nI p)) 2 = upd (S 2) (p * 4) (S 2 (p * 4) + 1) ∧ (g_take S (nI p)) 4 = S 4 ∧ (g_take S (nI p)) 5 = (gc S 2 (S 5 2 + 1)) 5 := by
  refine ⟨?_, rfl, rfl⟩
  show tInc (nI 4) 16 (S 2) (nI p) (nI 0) 1 = _
  rw [tInc_in (by omega) (by decide)]
  rfl
/-- dealing, raw: who has how many -/
theorem dl_raw (S : gS) (h2 : ∀ p, p < 4 → S 2 (p * 4) = 0) (h5 : S 5 2 = 0) : ∀ k, k ≤ 20 → (m_dl S k) 4 = S 4 ∧ (m_dl S k) 5 2 = nI k ∧ (∀ j, j ≠ 2 → (m_dl S k) 5 j = S 5 j) ∧ ∀ p, p < 4 → (m_dl S k) 2 (p * 4) = nI (if k / 5 < p then 0 else if k / 5 = p then k - 5 * p else 5) := by
  intro k
  induction k with
  | zero => intro _; exact ⟨rfl, h5, fun _ _ => rfl, fun p hp => by rw [show (m_dl S 0) 2 (p * 4) = 0 from h2 p hp]; rcases (show p = 0 ∨ p = 1 ∨ p = 2 ∨ p = 3 by omega) with rfl | rfl | rfl | rfl <;> rfl⟩
  | succ k ih =>
    intro hk
    obtain ⟨a1, a2, a4, a3⟩ := ih (by omega)
    obtain ⟨b1, b2, b3⟩ := take_2 (m_dl S k) (k / 5) (by omega)
    refine ⟨b2.trans a1, ?_, fun j hj => ?_, fun p hp => ?_⟩
    · show (g_take (m_dl S k) (nI (k / 5))) 5 2 = _
      rw [b3]
      show (m_dl S k) 5 2 + 1 = _
      rw [a2, nI_1]
    · show (g_take (m_dl S k) (nI (k / 5))) 5 j = _
      rw [b3]
      show (if j = 2 then _ else (m_dl S k) 5 j) = _
      rw [if_neg hj, a4 j hj]
    · show (g_take (m_dl S k) (nI (k / 5))) 2 (p * 4) = _
      rw [b1]
      by_cases c : p = k / 5
      · subst c
        rw [upd_s, a3 _ hp, if_neg (by omega), if_pos rfl, nI_1]
        congr 1
        split
        · omega
        · split <;> omega
      · rw [upd_n (by omega), a3 p hp]
        congr 1
        split
        · split
          · rfl
          · split <;> omega
        · split
          · omega
          · split
            · omega
            · split <;> omega
set_option maxHeartbeats 800000 in
set_option maxRecDepth 100000 in
theorem c_X6_laysTiles {G : ga_} {l : Launch} {h : HP} {sz : Nat} {mo : Nat} {S A : gS} {dg : Int64}  (w : MA G h mo S A dg)   : Mf G l yX6_laysTiles cX6_laysTiles 3 none 1 21 0 0 [.ref mo] h sz none (pM G h mo (m_tl S 49) (A) (dg)) sz := by
  refine Mg.ofV [(0, .ref mo)] (by decide) (Nat.le_of_ble_eq_true rfl) rfl ?_
  intro p e s m args below meth c C
  refine V.heap (pM_id w).symm ?_
  refine r_iconst C (v := 0) dX6_laysTiles_0 rfl ?_
  refine r_istore_n C dX6_laysTiles_1 rfl (by decide) ?_
  refine r_iconst C (v := 0) dX6_laysTiles_2 rfl ?_
  refine r_istore_n C dX6_laysTiles_3 rfl (by decide) ?_
  refine V.sub [(0, .ref mo), (1, .int (nI (m_tc 0))), (2, .int (nI 0))] ⟨rfl, rfl, rfl, trivial⟩ ?_
  refine down_ (P := fun i => V p l e ⟨1, 0, 0, 21⟩ s m args below meth c G 3 (Qg G below args s 0 0 (fun v1 h1 s1 => v1 = none ∧ h1 = (pM G h mo (m_tl S 49) (A) (dg)) ∧ s1 = sz)) (pM G h mo (m_tl S i) A dg) sz 0 0 4 [(0, .ref mo), (1, .int (nI (m_tc i))), (2, .int (nI i))] []) (49) ?_ ?_
  · refine r_iload_n C dX6_laysTiles_4 rfl rfl ?_
    refine r_bipush C (v := 49) dX6_laysTiles_5 rfl ?_
    refine r_icmp_ge C 114 dX6_laysTiles_7 (by decide) (fun _ => ?_) (fun c => absurd (by decide) c)
    exact r_vret C rfl (Nat.le_of_ble_eq_true rfl) (Nat.le_of_ble_eq_true rfl) ⟨rfl, rfl, rfl⟩ dX6_laysTiles_114
  · intro i h_i ih_i
    refine r_iload_n C dX6_laysTiles_4 rfl rfl ?_
    refine r_bipush C (v := 49) dX6_laysTiles_5 rfl ?_
    refine r_icmp_ge C 114 dX6_laysTiles_7 (by decide) (fun c => absurd c (nI_ge (b := 49) h_i (by decide))) (fun _ => ?_)
    refine r_iload_n C dX6_laysTiles_10 rfl rfl ?_
    refine r_bipush C (v := 7) dX6_laysTiles_11 rfl ?_
    refine r_irem C dX6_laysTiles_13 (by decide) ?_
    refine V.st0 ((dv7 i h_i).2) ?_
    refine r_iload_n C dX6_laysTiles_14 rfl rfl ?_
    refine r_bipush C (v := 7) dX6_laysTiles_15 rfl ?_
    refine r_idiv C dX6_laysTiles_17 (by decide) ?_
    refine V.st0 ((dv7 i h_i).1) ?_
    refine r_icmp_lt C 108 dX6_laysTiles_18 (by decide) (fun c_18 => ?_) (fun c_18 => ?_)
    · have e_18 := i32_nle c_18
      have c18 : ¬ i / 7 ≤ i % 7 := Nat.not_le.mpr ((nI_ltI (by omega) (by omega)).mp c_18)
      refine r_iinc C (v := 1) dX6_laysTiles_108 rfl rfl (by decide) ?_
      refine r_goto C 4 dX6_laysTiles_111 (by decide) ?_
      refine V.heap (h2 := (pM G h mo (m_tl S (i + 1)) A dg)) (congrArg (fun X => pM G h mo X A dg) (by show _ = (if i / 7 ≤ i % 7 then m_t1 (m_tl S i) (nI (m_tc i)) (nI (i / 7)) (nI (i % 7)) else m_tl S i); rw [if_neg c18])) ?_
      refine V.sub [(0, .ref mo), (1, .int (nI (m_tc (i + 1)))), (2, .int (nI (i + 1)))] ⟨rfl, by rw [show m_tc (i + 1) = (if i / 7 ≤ i % 7 then m_tc i + 1 else m_tc i) from rfl, if_neg c18]; rfl, by rw [← nI_1 i]; rfl, trivial⟩ ?_
      exact ih_i
    · have e_18 := i32_le c_18
      have c18 : i / 7 ≤ i % 7 := Nat.not_lt.mp (fun q => c_18 (nI_lt q (by omega)))
      have htc := tc_lt i h_i c18
      refine r_aload_n C dX6_laysTiles_21 rfl rfl ?_
      refine r_get C (j := 1) rfl in_X6 (MA_o MA_pM) (by decide) fl_X6_7 rfl rfl dX6_laysTiles_22 ?_
      refine r_iload_n C dX6_laysTiles_25 rfl rfl ?_
      refine r_iconst C (v := 0) dX6_laysTiles_26 rfl ?_
      refine r_cSi C (c_X6_of (a := (m_tc i)) (b := 0)) lk_X6_44 rfl rfl ⟨(Nat.le_of_ble_eq_true rfl), (Nat.le_of_ble_eq_true rfl), (Nat.le_of_ble_eq_true rfl), (Nat.le_of_ble_eq_true rfl), (Nat.le_of_ble_eq_true rfl)⟩ dX6_laysTiles_27 ?_
      refine r_iload_n C dX6_laysTiles_30 rfl rfl ?_
      refine r_bipush C (v := 7) dX6_laysTiles_31 rfl ?_
      refine r_idiv C dX6_laysTiles_33 (by decide) ?_
      refine V.st0 ((dv7 i h_i).1) ?_
      refine r_iast C (MA_s MA_pM) (vp_in_nI (by omega) (by decide)) dX6_laysTiles_34 ?_
      refine V.heap (qP_of (t := (m_tc i)) (w := 0) (wi := 0) (by omega) (by omega) rfl) ?_
      refine r_aload_n C dX6_laysTiles_35 rfl rfl ?_
      refine r_get C (j := 1) rfl in_X6 (MA_o MA_pM) (by decide) fl_X6_7 rfl rfl dX6_laysTiles_36 ?_
      refine r_iload_n C dX6_laysTiles_39 rfl rfl ?_
      refine r_iconst C (v := 1) dX6_laysTiles_40 rfl ?_
      refine r_cSi C (c_X6_of (a := (m_tc i)) (b := 1)) lk_X6_44 rfl rfl ⟨(Nat.le_of_ble_eq_true rfl), (Nat.le_of_ble_eq_true rfl), (Nat.le_of_ble_eq_true rfl), (Nat.le_of_ble_eq_true rfl), (Nat.le_of_ble_eq_true rfl)⟩ dX6_laysTiles_41 ?_
      refine r_iload_n C dX6_laysTiles_44 rfl rfl ?_
      refine r_bipush C (v := 7) dX6_laysTiles_45 rfl ?_
      refine r_irem C dX6_laysTiles_47 (by decide) ?_
      refine V.st0 ((dv7 i h_i).2) ?_
      refine r_iast C (MA_s MA_pM) (vp_in_nI (by omega) (by decide)) dX6_laysTiles_48 ?_
      refine V.heap (qP_of (t := (m_tc i)) (w := 1) (wi := 1) (by omega) (by omega) rfl) ?_
      refine r_aload_n C dX6_laysTiles_49 rfl rfl ?_
      refine r_get C (j := 1) rfl in_X6 (MA_o MA_pM) (by decide) fl_X6_7 rfl rfl dX6_laysTiles_50 ?_
      refine r_iload_n C dX6_laysTiles_53 rfl rfl ?_
      refine r_iconst C (v := 2) dX6_laysTiles_54 rfl ?_
      refine r_cSi C (c_X6_of (a := (m_tc i)) (b := 2)) lk_X6_44 rfl rfl ⟨(Nat.le_of_ble_eq_true rfl), (Nat.le_of_ble_eq_true rfl), (Nat.le_of_ble_eq_true rfl), (Nat.le_of_ble_eq_true rfl), (Nat.le_of_ble_eq_true rfl)⟩ dX6_laysTiles_55 ?_
      refine r_iconst C (v := 0) dX6_laysTiles_58 rfl ?_
      refine r_iast C (MA_s MA_pM) (vp_in_nI (by omega) (by decide)) dX6_laysTiles_59 ?_
      refine V.heap (qP_of (t := (m_tc i)) (w := 2) (wi := 2) (by omega) (by omega) rfl) ?_
      refine r_aload_n C dX6_laysTiles_60 rfl rfl ?_
      refine r_get C (j := 1) rfl in_X6 (MA_o MA_pM) (by decide) fl_X6_7 rfl rfl dX6_laysTiles_61 ?_
      refine r_iload_n C dX6_laysTiles_64 rfl rfl ?_
      refine r_iconst C (v := 3) dX6_laysTiles_65 rfl ?_
      refine r_cSi C (c_X6_of (a := (m_tc i)) (b := 3)) lk_X6_44 rfl rfl ⟨(Nat.le_of_ble_eq_true rfl), (Nat.le_of_ble_eq_true rfl), (Nat.le_of_ble_eq_true rfl), (Nat.le_of_ble_eq_true rfl), (Nat.le_of_ble_eq_true rfl)⟩ dX6_laysTiles_66 ?_
      refine r_iconst C (v := -1) dX6_laysTiles_69 rfl ?_
      refine r_iast C (MA_s MA_pM) (vp_in_nI (by omega) (by decide)) dX6_laysTiles_70 ?_
      refine V.heap (qP_of (t := (m_tc i)) (w := 3) (wi := 3) (by omega) (by omega) rfl) ?_
      refine r_aload_n C dX6_laysTiles_71 rfl rfl ?_
      refine r_get C (j := 1) rfl in_X6 (MA_o MA_pM) (by decide) fl_X6_7 rfl rfl dX6_laysTiles_72 ?_
      refine r_iload_n C dX6_laysTiles_75 rfl rfl ?_
      refine r_iconst C (v := 4) dX6_laysTiles_76 rfl ?_
      refine r_cSi C (c_X6_of (a := (m_tc i)) (b := 4)) lk_X6_44 rfl rfl ⟨(Nat.le_of_ble_eq_true rfl), (Nat.le_of_ble_eq_true rfl), (Nat.le_of_ble_eq_true rfl), (Nat.le_of_ble_eq_true rfl), (Nat.le_of_ble_eq_true rfl)⟩ dX6_laysTiles_77 ?_
      refine r_iconst C (v := 0) dX6_laysTiles_80 rfl ?_
      refine r_iast C (MA_s MA_pM) (vp_in_nI (by omega) (by decide)) dX6_laysTiles_81 ?_
      refine V.heap (qP_of (t := (m_tc i)) (w := 4) (wi := 4) (by omega) (by omega) rfl) ?_
      refine r_aload_n C dX6_laysTiles_82 rfl rfl ?_
      refine r_get C (j := 1) rfl in_X6 (MA_o MA_pM) (by decide) fl_X6_7 rfl rfl dX6_laysTiles_83 ?_
      refine r_iload_n C dX6_laysTiles_86 rfl rfl ?_
      refine r_iconst C (v := 5) dX6_laysTiles_87 rfl ?_
      refine r_cSi C (c_X6_of (a := (m_tc i)) (b := 5)) lk_X6_44 rfl rfl ⟨(Nat.le_of_ble_eq_true rfl), (Nat.le_of_ble_eq_true rfl), (Nat.le_of_ble_eq_true rfl), (Nat.le_of_ble_eq_true rfl), (Nat.le_of_ble_eq_true rfl)⟩ dX6_laysTiles_88 ?_
      refine r_iconst C (v := -1) dX6_laysTiles_91 rfl ?_
      refine r_iast C (MA_s MA_pM) (vp_in_nI (by omega) (by decide)) dX6_laysTiles_92 ?_
      refine V.heap (qP_of (t := (m_tc i)) (w := 5) (wi := 5) (by omega) (by omega) rfl) ?_
      refine r_aload_n C dX6_laysTiles_93 rfl rfl ?_
      refine r_get C (j := 1) rfl in_X6 (MA_o MA_pM) (by decide) fl_X6_7 rfl rfl dX6_laysTiles_94 ?_
      refine r_iload_n C dX6_laysTiles_97 rfl rfl ?_
      refine r_bipush C (v := 6) dX6_laysTiles_98 rfl ?_
      refine r_cSi C (c_X6_of (a := (m_tc i)) (b := 6)) lk_X6_44 rfl rfl ⟨(Nat.le_of_ble_eq_true rfl), (Nat.le_of_ble_eq_true rfl), (Nat.le_of_ble_eq_true rfl), (Nat.le_of_ble_eq_true rfl), (Nat.le_of_ble_eq_true rfl)⟩ dX6_laysTiles_100 ?_
      refine r_iconst C (v := 0) dX6_laysTiles_103 rfl ?_
      refine r_iast C (MA_s MA_pM) (vp_in_nI (by omega) (by decide)) dX6_laysTiles_104 ?_
      refine V.heap (qP_of (t := (m_tc i)) (w := 6) (wi := 6) (by omega) (by omega) rfl) ?_
      refine r_iinc C (v := 1) dX6_laysTiles_105 rfl rfl (by decide) ?_
      refine r_iinc C (v := 1) dX6_laysTiles_108 rfl rfl (by decide) ?_
      refine r_goto C 4 dX6_laysTiles_111 (by decide) ?_
      refine V.heap (h2 := (pM G h mo (m_tl S (i + 1)) A dg)) (congrArg (fun X => pM G h mo X A dg) (by show _ = (if i / 7 ≤ i % 7 then m_t1 (m_tl S i) (nI (m_tc i)) (nI (i / 7)) (nI (i % 7)) else m_tl S i); rw [if_pos c18]; rfl)) ?_
      refine V.sub [(0, .ref mo), (1, .int (nI (m_tc (i + 1)))), (2, .int (nI (i + 1)))] ⟨rfl, by rw [show m_tc (i + 1) = (if i / 7 ≤ i % 7 then m_tc i + 1 else m_tc i) from rfl, if_pos c18, ← nI_1 (m_tc i)]; rfl, by rw [← nI_1 i]; rfl, trivial⟩ ?_
      exact ih_i

theorem nI_ge_ {a b : Nat} (hb : a < 2147483648 ∧ b < 2147483648) (h : nI b ≤ nI a) : ¬ a < b := fun q => by
  have h2 := Int32.le_iff_toInt_le.mp h
  rw [nI_toInt hb.1, nI_toInt hb.2] at h2
  omega
theorem nI_nge_ {a b : Nat} (ha : a < 2147483648) (hb : b < 2147483648) (h : ¬ nI b ≤ nI a) : a < b := (nI_ltI ha hb).mp (Int32.not_le.mp h)
theorem rk_step {a : Nat} {c : Bool} : nI (a + (if c = true then 1 else 0)) = nI a + (if c = true then 1 else 0) := by
  cases c
  · show nI (a + 0) = nI a + 0
    rw [Nat.add_zero, Int32.add_zero]
  · show nI (a + 1) = nI a + 1
    rw [nI_1]
set_option maxHeartbeats 800000 in
set_option maxRecDepth 100000 in
theorem c_X6_shuffles {G : ga_} {l : Launch} {h : HP} {sz : Nat} {mo : Nat} {S A : gS} {dg : Int64} {x : Int32}  (w : MA G h mo S A dg)   : Mf G l yX6_shuffles cX6_shuffles 5 none 0 0 0 0 [.ref mo, .int x] h sz none (pM G h mo (m_sh (A 5) S x) (gu A 5 (m_la x (A 5) 28)) (dg)) sz := by
  refine Mg.ofV [(0, .ref mo), (1, .int x)] (by decide) (Nat.le_of_ble_eq_true rfl) rfl ?_
  intro p e s m args below meth c C
  refine V.heap (pM_id w).symm ?_
  refine r_aload_n C dX6_shuffles_0 rfl rfl ?_
  refine r_get C (j := 1) rfl in_X6 (MA_o MA_pM) (by decide) fl_X6_7 rfl rfl dX6_shuffles_1 ?_
  refine r_sipush C (v := 343) dX6_shuffles_4 rfl ?_
  refine r_iload_n C dX6_shuffles_7 rfl rfl ?_
  refine r_iast C (MA_s MA_pM) (vp_in_nI (n := 343) (by decide) (by decide)) dX6_shuffles_8 ?_
  refine V.heap (qM_sc6 _) ?_
  refine r_iconst C (v := 0) dX6_shuffles_9 rfl ?_
  refine r_istore_n C dX6_shuffles_10 rfl (by decide) ?_
  refine V.heap (h2 := pM G h mo (gc S 6 (m_lt x 0)) (gu A 5 (m_la x (A 5) 0)) dg) (congrArg (fun X => pM G h mo _ X dg) gu_id.symm) ?_
  refine V.sub [(0, .ref mo), (1, .int x), (2, .int (nI 0))] ⟨rfl, rfl, rfl, trivial⟩ ?_
  refine down_ (P := fun i => V p l e ⟨0, 0, 0, 0⟩ s m args below meth c G 5 (Qg G below args s 0 0 (fun v1 h1 s1 => v1 = none ∧ h1 = (pM G h mo (m_sh (A 5) S x) (gu A 5 (m_la x (A 5) 28)) (dg)) ∧ s1 = sz)) (pM G h mo (gc S 6 (m_lt x i)) (gu A 5 (m_la x (A 5) i)) dg) sz 0 0 11 [(0, .ref mo), (1, .int x), (2, .int (nI i))] []) (28) ?_ ?_
  · refine r_iload_n C dX6_shuffles_11 rfl rfl ?_
    refine r_bipush C (v := 28) dX6_shuffles_12 rfl ?_
    refine r_icmp_ge C 65 dX6_shuffles_14 (by decide) (fun _ => ?_) (fun c => absurd (by decide) c)
    refine r_iconst C (v := 0) dX6_shuffles_65 rfl ?_
    refine r_istore_n C dX6_shuffles_66 rfl (by decide) ?_
    refine V.heap (h2 := pM G h mo (m_or (m_la x (A 5) 28) (gc S 6 (m_lt x 28)) 0) (gu A 5 (m_la x (A 5) 28)) dg) rfl ?_
    refine V.sub [(0, .ref mo), (1, .int x), (2, .int (nI 0))] ⟨rfl, rfl, rfl, trivial⟩ ?_
    refine down_ (P := fun t => V p l e ⟨0, 0, 0, 0⟩ s m args below meth c G 5 (Qg G below args s 0 0 (fun v1 h1 s1 => v1 = none ∧ h1 = (pM G h mo (m_sh (A 5) S x) (gu A 5 (m_la x (A 5) 28)) (dg)) ∧ s1 = sz)) (pM G h mo (m_or (m_la x (A 5) 28) (gc S 6 (m_lt x 28)) t) (gu A 5 (m_la x (A 5) 28)) dg) sz 0 0 67 [(0, .ref mo), (1, .int x), (2, .int (nI t))] []) (28) ?_ ?_
    · refine r_iload_n C dX6_shuffles_67 rfl rfl ?_
      refine r_bipush C (v := 28) dX6_shuffles_68 rfl ?_
      refine r_icmp_ge C 154 dX6_shuffles_70 (by decide) (fun _ => ?_) (fun c => absurd (by decide) c)
      refine r_aload_n C dX6_shuffles_154 rfl rfl ?_
      refine r_get C (j := 1) rfl in_X6 (MA_o MA_pM) (by decide) fl_X6_7 rfl rfl dX6_shuffles_155 ?_
      refine r_sipush C (v := 224) dX6_shuffles_158 rfl ?_
      refine r_iconst C (v := 0) dX6_shuffles_161 rfl ?_
      refine r_iast C (MA_s MA_pM) (vp_in_nI (n := 224) (by decide) (by decide)) dX6_shuffles_162 ?_
      refine V.heap (qM_sc2 _) ?_
      exact r_vret C rfl (Nat.le_of_ble_eq_true rfl) (Nat.le_of_ble_eq_true rfl) ⟨rfl, rfl, rfl⟩ dX6_shuffles_163
    · intro t h_t ih_t
      refine r_iload_n C dX6_shuffles_67 rfl rfl ?_
      refine r_bipush C (v := 28) dX6_shuffles_68 rfl ?_
      refine r_icmp_ge C 154 dX6_shuffles_70 (by decide) (fun c => absurd c (nI_ge (b := 28) h_t (by decide))) (fun _ => ?_)
      refine r_iconst C (v := 0) dX6_shuffles_73 rfl ?_
      refine r_istore_n C dX6_shuffles_74 rfl (by decide) ?_
      refine r_iconst C (v := 0) dX6_shuffles_75 rfl ?_
      refine r_istore C dX6_shuffles_76 (by decide) ?_
      refine V.sub [(0, .ref mo), (1, .int x), (2, .int (nI t)), (3, .int (nI (m_rk (m_la x (A 5) 28) t 0))), (4, .int (nI 0))] ⟨rfl, rfl, rfl, rfl, rfl, trivial⟩ ?_
      refine down_ (P := fun o => V p l e ⟨0, 0, 0, 0⟩ s m args below meth c G 5 (Qg G below args s 0 0 (fun v1 h1 s1 => v1 = none ∧ h1 = (pM G h mo (m_sh (A 5) S x) (gu A 5 (m_la x (A 5) 28)) (dg)) ∧ s1 = sz)) (pM G h mo (m_or (m_la x (A 5) 28) (gc S 6 (m_lt x 28)) t) (gu A 5 (m_la x (A 5) 28)) dg) sz 0 0 78 [(0, .ref mo), (1, .int x), (2, .int (nI t)), (3, .int (nI (m_rk (m_la x (A 5) 28) t o))), (4, .int (nI o))] []) (28) ?_ ?_
      · have hrk := rk_lt (m_la x (A 5) 28) t 28 h_t
        refine r_iload C dX6_shuffles_78 rfl ?_
        refine r_bipush C (v := 28) dX6_shuffles_80 rfl ?_
        refine r_icmp_ge C 137 dX6_shuffles_82 (by decide) (fun _ => ?_) (fun c => absurd (by decide) c)
        refine r_aload_n C dX6_shuffles_137 rfl rfl ?_
        refine r_get C (j := 1) rfl in_X6 (MA_o MA_pM) (by decide) fl_X6_7 rfl rfl dX6_shuffles_138 ?_
        refine r_sipush C (v := 196) dX6_shuffles_141 rfl ?_
        refine r_iload_n C dX6_shuffles_144 rfl rfl ?_
        refine r_iadd C dX6_shuffles_145 ?_
        refine V.st0 (nI_add (196) ((m_rk (m_la x (A 5) 28) t 28))) ?_
        refine r_iload_n C dX6_shuffles_146 rfl rfl ?_
        refine r_iast C (MA_s MA_pM) (vp_in_nI (by omega) (by decide)) dX6_shuffles_147 ?_
        refine V.heap (qP_ord (i := (m_rk (m_la x (A 5) 28) t 28)) (by omega)) ?_
        refine r_iinc C (v := 1) dX6_shuffles_148 rfl rfl (by decide) ?_
        refine r_goto C 67 dX6_shuffles_151 (by decide) ?_
        refine V.heap (h2 := pM G h mo (m_or (m_la x (A 5) 28) (gc S 6 (m_lt x 28)) (t + 1)) (gu A 5 (m_la x (A 5) 28)) dg) rfl ?_
        refine V.sub [(0, .ref mo), (1, .int x), (2, .int (nI (t + 1)))] ⟨rfl, rfl, by rw [← nI_1 t]; rfl, trivial⟩ ?_
        exact ih_t
      · intro o h_o ih_o
        refine r_iload C dX6_shuffles_78 rfl ?_
        refine r_bipush C (v := 28) dX6_shuffles_80 rfl ?_
        refine r_icmp_ge C 137 dX6_shuffles_82 (by decide) (fun c => absurd c (nI_ge (b := 28) h_o (by decide))) (fun _ => ?_)
        refine r_iload_n C dX6_shuffles_85 rfl rfl ?_
        apply V.cut 129 ((if m_ls (m_la x (A 5) 28) t o = true then 1 else 0))
        · intro K_129
          refine r_aload_n C dX6_shuffles_86 rfl rfl ?_
          refine r_get C (j := 9) rfl in_X6 (MA_o MA_pM) (by decide) fl_X6_26 rfl rfl dX6_shuffles_87 ?_
          refine r_iload C dX6_shuffles_90 rfl ?_
          refine r_iald C (MA_5 MA_pM) (vp_in_nI (by omega) (by decide)) dX6_shuffles_92 ?_
          refine V.st0 (cl_f (by omega)) ?_
          refine r_aload_n C dX6_shuffles_93 rfl rfl ?_
          refine r_get C (j := 9) rfl in_X6 (MA_o MA_pM) (by decide) fl_X6_26 rfl rfl dX6_shuffles_94 ?_
          refine r_iload_n C dX6_shuffles_97 rfl rfl ?_
          refine r_iald C (MA_5 MA_pM) (vp_in_nI (by omega) (by decide)) dX6_shuffles_98 ?_
          refine V.st0 (cl_f (by omega)) ?_
          refine r_icmp_lt C 124 dX6_shuffles_99 (by decide) (fun c_99 => ?_) (fun c_99 => ?_)
          · have e_99 := i32_nle c_99
            refine r_iconst C (v := 1) dX6_shuffles_124 rfl ?_
            refine r_goto C 129 dX6_shuffles_125 (by decide) ?_
            refine V.st0 (show _ = ((if m_ls (m_la x (A 5) 28) t o = true then 1 else 0)) from by unfold m_ls; rw [decide_eq_true (show (m_la x (A 5) 28) o < (m_la x (A 5) 28) t from c_99)]; rfl) ?_
            exact K_129
          · have e_99 := i32_le c_99
            refine r_aload_n C dX6_shuffles_102 rfl rfl ?_
            refine r_get C (j := 9) rfl in_X6 (MA_o MA_pM) (by decide) fl_X6_26 rfl rfl dX6_shuffles_103 ?_
            refine r_iload C dX6_shuffles_106 rfl ?_
            refine r_iald C (MA_5 MA_pM) (vp_in_nI (by omega) (by decide)) dX6_shuffles_108 ?_
            refine V.st0 (cl_f (by omega)) ?_
            refine r_aload_n C dX6_shuffles_109 rfl rfl ?_
            refine r_get C (j := 9) rfl in_X6 (MA_o MA_pM) (by decide) fl_X6_26 rfl rfl dX6_shuffles_110 ?_
            refine r_iload_n C dX6_shuffles_113 rfl rfl ?_
            refine r_iald C (MA_5 MA_pM) (vp_in_nI (by omega) (by decide)) dX6_shuffles_114 ?_
            refine V.st0 (cl_f (by omega)) ?_
            refine r_icmp_ne C 128 dX6_shuffles_115 (by decide) (fun c_115 => ?_) (fun c_115 => ?_)
            · skip
              refine r_iconst C (v := 0) dX6_shuffles_128 rfl ?_
              refine V.st0 (show _ = ((if m_ls (m_la x (A 5) 28) t o = true then 1 else 0)) from by unfold m_ls; rw [decide_eq_false (show ¬ (m_la x (A 5) 28) o < (m_la x (A 5) 28) t from c_99), Bool.false_or, decide_eq_false (show ¬ (m_la x (A 5) 28) o = (m_la x (A 5) 28) t from c_115)]; rfl) ?_
              exact K_129
            · skip
              refine r_iload C dX6_shuffles_118 rfl ?_
              refine r_iload_n C dX6_shuffles_120 rfl rfl ?_
              refine r_icmp_ge C 128 dX6_shuffles_121 (by decide) (fun c_121 => ?_) (fun c_121 => ?_)
              · have e_121 := i32_nlt c_121
                refine r_iconst C (v := 0) dX6_shuffles_128 rfl ?_
                refine V.st0 (show _ = ((if m_ls (m_la x (A 5) 28) t o = true then 1 else 0)) from by unfold m_ls; rw [decide_eq_false (show ¬ (m_la x (A 5) 28) o < (m_la x (A 5) 28) t from c_99), Bool.false_or, decide_eq_true (show (m_la x (A 5) 28) o = (m_la x (A 5) 28) t from c_115), decide_eq_false (fun q => (nI_ge_ ⟨by omega, by omega⟩ c_121) q)]; rfl) ?_
                exact K_129
              · have e_121 := i32_lt c_121
                refine r_iconst C (v := 1) dX6_shuffles_124 rfl ?_
                refine r_goto C 129 dX6_shuffles_125 (by decide) ?_
                refine V.st0 (show _ = ((if m_ls (m_la x (A 5) 28) t o = true then 1 else 0)) from by unfold m_ls; rw [decide_eq_false (show ¬ (m_la x (A 5) 28) o < (m_la x (A 5) 28) t from c_99), Bool.false_or, decide_eq_true (show (m_la x (A 5) 28) o = (m_la x (A 5) 28) t from c_115), decide_eq_true (nI_nge_ (by omega) (by omega) c_121)]; rfl) ?_
                exact K_129
        · skip
          refine r_iadd C dX6_shuffles_129 ?_
          refine r_istore_n C dX6_shuffles_130 rfl (by decide) ?_
          refine r_iinc C (v := 1) dX6_shuffles_131 rfl rfl (by decide) ?_
          refine r_goto C 78 dX6_shuffles_134 (by decide) ?_
          refine V.sub [(0, .ref mo), (1, .int x), (2, .int (nI t)), (3, .int (nI (m_rk (m_la x (A 5) 28) t (o + 1)))), (4, .int (nI (o + 1)))] ⟨rfl, rfl, rfl, by rw [show m_rk (m_la x (A 5) 28) t (o + 1) = m_rk (m_la x (A 5) 28) t o + (if m_ls (m_la x (A 5) 28) t o = true then 1 else 0) from rfl, rk_step]; rfl, by rw [← nI_1 o]; rfl, trivial⟩ ?_
          exact ih_o
  · intro i h_i ih_i
    refine r_iload_n C dX6_shuffles_11 rfl rfl ?_
    refine r_bipush C (v := 28) dX6_shuffles_12 rfl ?_
    refine r_icmp_ge C 65 dX6_shuffles_14 (by decide) (fun c => absurd c (nI_ge (b := 28) h_i (by decide))) (fun _ => ?_)
    refine r_aload_n C dX6_shuffles_17 rfl rfl ?_
    refine r_get C (j := 1) rfl in_X6 (MA_o MA_pM) (by decide) fl_X6_7 rfl rfl dX6_shuffles_18 ?_
    refine r_sipush C (v := 343) dX6_shuffles_21 rfl ?_
    refine r_aload_n C dX6_shuffles_24 rfl rfl ?_
    refine r_get C (j := 1) rfl in_X6 (MA_o MA_pM) (by decide) fl_X6_7 rfl rfl dX6_shuffles_25 ?_
    refine r_sipush C (v := 343) dX6_shuffles_28 rfl ?_
    refine r_iald C (MA_s MA_pM) (vp_in_nI (n := 343) (by decide) (by decide)) dX6_shuffles_31 ?_
    refine V.st0 (en_sc6 _) ?_
    refine r_sipush C (v := 421) dX6_shuffles_32 rfl ?_
    refine r_imul C dX6_shuffles_35 ?_
    refine r_sipush C (v := 1663) dX6_shuffles_36 rfl ?_
    refine r_iadd C dX6_shuffles_39 ?_
    refine r_sipush C (v := 10000) dX6_shuffles_40 rfl ?_
    refine r_irem C dX6_shuffles_43 (by decide) ?_
    refine r_iast C (MA_s MA_pM) (vp_in_nI (n := 343) (by decide) (by decide)) dX6_shuffles_44 ?_
    refine V.heap (qM_sc6 _) ?_
    refine r_aload_n C dX6_shuffles_45 rfl rfl ?_
    refine r_get C (j := 9) rfl in_X6 (MA_o MA_pM) (by decide) fl_X6_26 rfl rfl dX6_shuffles_46 ?_
    refine r_iload_n C dX6_shuffles_49 rfl rfl ?_
    refine r_aload_n C dX6_shuffles_50 rfl rfl ?_
    refine r_get C (j := 1) rfl in_X6 (MA_o MA_pM) (by decide) fl_X6_7 rfl rfl dX6_shuffles_51 ?_
    refine r_sipush C (v := 343) dX6_shuffles_54 rfl ?_
    refine r_iald C (MA_s MA_pM) (vp_in_nI (n := 343) (by decide) (by decide)) dX6_shuffles_57 ?_
    refine V.st0 (en_sc6 _) ?_
    refine r_iast C (MA_5 MA_pM) (vp_in_nI (by omega) (by decide)) dX6_shuffles_58 ?_
    refine V.heap (qM_a5 (by omega)) ?_
    refine r_iinc C (v := 1) dX6_shuffles_59 rfl rfl (by decide) ?_
    refine r_goto C 11 dX6_shuffles_62 (by decide) ?_
    refine V.heap (h2 := (pM G h mo (gc S 6 (m_lt x (i + 1))) (gu A 5 (m_la x (A 5) (i + 1))) dg)) (by rw [gc_gc, gu_gu]; rfl) ?_
    refine V.sub [(0, .ref mo), (1, .int x), (2, .int (nI (i + 1)))] ⟨rfl, rfl, (by rw [← nI_1 i]; rfl), trivial⟩ ?_
    exact ih_i

