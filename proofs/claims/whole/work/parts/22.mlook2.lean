/-! THE MODEL'S LOOKS, THE REST -/
theorem nI_le0 {k : Nat} (hk : k < 2147483648) (h : nI k ≤ 0) : nI k = 0 := by
  have h2 := Int32.le_iff_toInt_le.mp h
  rw [nI_toInt hk] at h2
  have h3 : (0 : Int32).toInt = 0 := rfl
  have h4 : k = 0 := by omega
  rw [h4]; rfl
theorem nI_nle0 {k : Nat} (h : ¬ nI k ≤ 0) : ¬ nI k = 0 := fun e => h (by rw [e]; decide)
theorem dv2 : ∀ i, i < 56 → nI i / 2 = nI (i / 2) ∧ nI i - nI i / 2 * 2 = nI (i % 2) := by decide +kernel
theorem ends_step (S : gS) (p : Int32) (i : Nat) : l_sum (fun r => l_sum (fun q => bI (g_can S p (nI r) (nI q))) (g_told S (nI r))) (i + 1) = l_sum (fun r => l_sum (fun q => bI (g_can S p (nI r) (nI q))) (g_told S (nI r))) i + bI (g_can S p (nI i) 0) + (if g_told S (nI i) = 2 then bI (g_can S p (nI i) 1) else 0) := by
  show l_sum (fun r => l_sum (fun q => bI (g_can S p (nI r) (nI q))) (g_told S (nI r))) i + l_sum (fun q => bI (g_can S p (nI i) (nI q))) (g_told S (nI i)) = _
  by_cases c : g_told S (nI i) = 2
  · rw [c, if_pos rfl]
    show _ + (0 + bI (g_can S p (nI i) 0) + bI (g_can S p (nI i) 1)) = _
    rw [Int32.zero_add, Int32.add_assoc]
  · have c1 : g_told S (nI i) = 1 := by unfold g_told at c ⊢; split <;> simp_all
    rw [c1, if_neg (by decide)]
    show _ + (0 + bI (g_can S p (nI i) 0)) = _
    rw [Int32.zero_add, Int32.add_zero]
theorem en_t0 {p : Nat} (h : p < 4) (S : gS) : en S (337 + p) = tAt 4 16 (S 2) (nI p) 0 := by have e := en_tal0 h S; rw [nI_clamp (by omega)] at e; exact e
theorem en_t1 {p : Nat} (h : p < 4) (S : gS) : en S (346 + p) = tAt 4 16 (S 2) (nI p) 1 := by have e := en_tal1 h S; rw [nI_clamp (by omega)] at e; exact e
theorem en_t2 {p : Nat} (h : p < 4) (S : gS) : en S (350 + p) = tAt 4 16 (S 2) (nI p) 2 := by have e := en_tal2 h S; rw [nI_clamp (by omega)] at e; exact e
theorem tal_m {S : gS} (hb : nB S) {q : Nat} (hq : q < 4) : tAt 4 16 (S 2) (nI 0) (nI q) + tAt 4 16 (S 2) (nI 1) (nI q) + tAt 4 16 (S 2) (nI 2) (nI q) + tAt 4 16 (S 2) (nI 3) (nI q) = g_tal S (nI q) := by
  obtain ⟨P, h1, h2, h3, -, h4⟩ := hb.pl
  unfold g_tal
  rw [h3, nI_clamp (by omega)]
  rcases (show P = 2 ∨ P = 3 ∨ P = 4 by omega) with rfl | rfl | rfl
  · rw [h4 2 (by decide) (by decide) q hq, h4 3 (by decide) (by decide) q hq]
    show _ = 0 + tAt 4 16 (S 2) (nI 0) (nI q) + tAt 4 16 (S 2) (nI 1) (nI q)
    rw [Int32.add_zero, Int32.add_zero, Int32.zero_add]
  · rw [h4 3 (by decide) (by decide) q hq]
    show _ = 0 + tAt 4 16 (S 2) (nI 0) (nI q) + tAt 4 16 (S 2) (nI 1) (nI q) + tAt 4 16 (S 2) (nI 2) (nI q)
    rw [Int32.add_zero, Int32.zero_add]
  · show _ = 0 + tAt 4 16 (S 2) (nI 0) (nI q) + tAt 4 16 (S 2) (nI 1) (nI q) + tAt 4 16 (S 2) (nI 2) (nI q) + tAt 4 16 (S 2) (nI 3) (nI q)
    rw [Int32.zero_add]
theorem tal_m0 {S : gS} (hb : nB S) : en S 337 + en S (337 + 1) + en S (337 + 2) + en S (337 + 3) = g_tal S 0 := by
  rw [show en S 337 = _ from en_t0 (p := 0) (by decide) S, en_t0 (p := 1) (by decide) S, en_t0 (p := 2) (by decide) S, en_t0 (p := 3) (by decide) S]
  exact tal_m hb (q := 0) (by decide)
theorem tal_m1 {S : gS} (hb : nB S) : en S 346 + en S (346 + 1) + en S (346 + 2) + en S (346 + 3) = g_tal S 1 := by
  rw [show en S 346 = _ from en_t1 (p := 0) (by decide) S, en_t1 (p := 1) (by decide) S, en_t1 (p := 2) (by decide) S, en_t1 (p := 3) (by decide) S]
  exact tal_m hb (q := 1) (by decide)
theorem tal_m2 {S : gS} (hb : nB S) : en S 350 + en S (350 + 1) + en S (350 + 2) + en S (350 + 3) = g_tal S 2 := by
  rw [show en S 350 = _ from en_t2 (p := 0) (by decide) S, en_t2 (p := 1) (by decide) S, en_t2 (p := 2) (by decide) S, en_t2 (p := 3) (by decide) S]
  exact tal_m hb (q := 2) (by decide)
theorem ok7 {v : Int32} (h : okN v 7 = true) (c0 : ¬ v = 0) (c1 : ¬ v = 1) (c2 : ¬ v = 2) (c3 : ¬ v = 3) (c4 : ¬ v = 4) (c5 : ¬ v = 5) : v = 6 := by
  obtain ⟨i, hi, rfl⟩ := okN_nat (k := 7) (by decide) h
  rcases (show i = 0 ∨ i = 1 ∨ i = 2 ∨ i = 3 ∨ i = 4 ∨ i = 5 ∨ i = 6 by omega) with rfl | rfl | rfl | rfl | rfl | rfl | rfl
  · exact absurd rfl c0
  · exact absurd rfl c1
  · exact absurd rfl c2
  · exact absurd rfl c3
  · exact absurd rfl c4
  · exact absurd rfl c5
  · rfl
theorem ok12 {v : Int32} (h : okN v 12 = true) (c0 : ¬ v = 0) (c1 : ¬ v = 1) (c2 : ¬ v = 2) (c3 : ¬ v = 3) (c4 : ¬ v = 4) (c5 : ¬ v = 5) (c6 : ¬ v = 6) (c7 : ¬ v = 7) (c8 : ¬ v = 8) (c9 : ¬ v = 9) (c10 : ¬ v = 10) : v = 11 := by
  obtain ⟨i, hi, rfl⟩ := okN_nat (k := 12) (by decide) h
  rcases (show i = 0 ∨ i = 1 ∨ i = 2 ∨ i = 3 ∨ i = 4 ∨ i = 5 ∨ i = 6 ∨ i = 7 ∨ i = 8 ∨ i = 9 ∨ i = 10 ∨ i = 11 by omega) with rfl | rfl | rfl | rfl | rfl | rfl | rfl | rfl | rfl | rfl | rfl | rfl
  · exact absurd rfl c0
  · exact absurd rfl c1
  · exact absurd rfl c2
  · exact absurd rfl c3
  · exact absurd rfl c4
  · exact absurd rfl c5
  · exact absurd rfl c6
  · exact absurd rfl c7
  · exact absurd rfl c8
  · exact absurd rfl c9
  · exact absurd rfl c10
  · rfl
theorem wl_nat (S : gS) : ∀ i, ∃ q, q ≤ i ∧ g_wl S i = nI q := by
  intro i
  induction i with
  | zero => exact ⟨0, Nat.le_refl _, rfl⟩
  | succ i ih =>
    obtain ⟨q, h1, h2⟩ := ih
    by_cases c : g_sum S (nI (i + 1)) < g_sum S (g_wl S i)
    · exact ⟨i + 1, Nat.le_refl _, by unfold g_wl; rw [if_pos c]⟩
    · exact ⟨q, by omega, by unfold g_wl; rw [if_neg c]; exact h2⟩
theorem lt_s_11 {x : Int32} (h0 : ¬ x = 0) (h1 : ¬ x = 1) (h2 : ¬ x = 2) (h3 : ¬ x = 3) (h4 : ¬ x = 4) (h5 : ¬ x = 5) (h6 : ¬ x = 6) (h7 : ¬ x = 7) (h8 : ¬ x = 8) (h9 : ¬ x = 9) (h10 : ¬ x = 10) : ∀ j, j < 11 → x ≠ nI j := by
  intro j hj
  rcases (show j = 0 ∨ j = 1 ∨ j = 2 ∨ j = 3 ∨ j = 4 ∨ j = 5 ∨ j = 6 ∨ j = 7 ∨ j = 8 ∨ j = 9 ∨ j = 10 by omega) with rfl | rfl | rfl | rfl | rfl | rfl | rfl | rfl | rfl | rfl | rfl
  · exact h0
  · exact h1
  · exact h2
  · exact h3
  · exact h4
  · exact h5
  · exact h6
  · exact h7
  · exact h8
  · exact h9
  · exact h10
def m_wf (S : gS) : Nat → Int32
  | 0 => -1
  | i + 1 => g_wl S i
def m_wl (S : gS) : Nat → Int32
  | 0 => 0
  | i + 1 => g_sum S (g_wl S i)
def m_ws (S : gS) (i : Nat) : Bool := decide (m_wf S i = -1) || decide (g_sum S (nI i) < m_wl S i)
theorem m_w_t {S : gS} {i : Nat} (h : m_ws S i = true) (hi : i < 4) : m_wf S (i + 1) = nI i ∧ m_wl S (i + 1) = g_sum S (nI i) := by
  cases i with
  | zero => exact ⟨rfl, rfl⟩
  | succ j =>
    obtain ⟨q, h1, h2⟩ := wl_nat S j
    have h3 : ¬ m_wf S (j + 1) = -1 := by show ¬ g_wl S j = -1; rw [h2]; exact nI_ne1 (by omega)
    unfold m_ws at h
    rw [decide_eq_false h3, Bool.false_or] at h
    have h4 : g_wl S (j + 1) = nI (j + 1) := by unfold g_wl; exact if_pos (of_decide_eq_true h)
    exact ⟨h4, by show g_sum S (g_wl S (j + 1)) = _; rw [h4]⟩
theorem m_w_f {S : gS} {i : Nat} (h : m_ws S i = false) : m_wf S (i + 1) = m_wf S i ∧ m_wl S (i + 1) = m_wl S i := by
  cases i with
  | zero => exact absurd h (by unfold m_ws; simp [m_wf])
  | succ j =>
    unfold m_ws at h
    rw [Bool.or_eq_false_iff] at h
    have h4 : g_wl S (j + 1) = g_wl S j := by
      have h5 : ¬ g_sum S (nI (j + 1)) < g_sum S (g_wl S j) := of_decide_eq_false h.2
      show (if g_sum S (nI (j + 1)) < g_sum S (g_wl S j) then nI (j + 1) else g_wl S j) = _
      rw [if_neg h5]
    exact ⟨h4, by show g_sum S (g_wl S (j + 1)) = g_sum S (g_wl S j); rw [h4]⟩
def m_its (S : gS) (t : Int32) : Int32 := 1000 * g_grades S t + tAt 7 196 (S 0) t 4
def m_as (S : gS) (f : Int32 × Int32) (i : Nat) : Bool := g_some S (g_hand S (S 5 1) (nI i)) && (decide (f.1 = -1) || decide (f.2 < m_its S (g_hand S (S 5 1) (nI i))))
def m_fb (S : gS) : Nat → Int32 × Int32
  | 0 => (-1, 0)
  | i + 1 => if m_as S (m_fb S i) i then (nI i, m_its S (g_hand S (S 5 1) (nI i))) else m_fb S i
def m_adv (S : gS) : Int32 := if g_over S then -1 else (m_fb S (g_held S (S 5 1)).toNatClampNeg).1
def m_hv (S : gS) (a : Int32) (k : Nat) : Bool := !decide (tAt 7 196 (S 0) (nI (k / 2)) 2 = 2) && decide (tAt 7 196 (S 0) (nI (k / 2)) (nI (k % 2)) = a)
theorem l_pair (f g : Nat → Int32) : ∀ N, (∀ k, k < N → f (2 * k) + f (2 * k + 1) = g k) → l_sum f (2 * N) = l_sum g N := by
  intro N
  induction N with
  | zero => intro _; rfl
  | succ N ih =>
    intro h
    show l_sum f (2 * N) + f (2 * N) + f (2 * N + 1) = l_sum g N + g N
    rw [Int32.add_assoc, h N (by omega), ih (fun k hk => h k (by omega))]
theorem m_half (S : gS) (a : Int32) : l_sum (fun k => bI (m_hv S a k)) 56 = g_half S a := by
  unfold g_half
  refine l_pair _ _ 28 (fun k _ => ?_)
  show bI (m_hv S a (2 * k)) + bI (m_hv S a (2 * k + 1)) = _
  unfold m_hv
  rw [show 2 * k / 2 = k by omega, show (2 * k + 1) / 2 = k by omega, show 2 * k % 2 = 0 by omega, show (2 * k + 1) % 2 = 1 by omega]
  by_cases c : tAt 7 196 (S 0) (nI k) 2 = 2
  · simp [c, bI]
  · rw [if_neg c, decide_eq_false c]; rfl
set_option maxHeartbeats 800000 in
set_option maxRecDepth 100000 in
theorem c_X6_sumOf {G : ga_} {l : Launch} {h : HP} {sz : Nat} {mo : Nat} {S A : gS} {dg : Int64} {a : Nat}  (w : MA G h mo S A dg)  (ha : a + 3 < 372) : Mf G l yX6_sumOf cX6_sumOf 2 (some .int) 0 0 0 0 [.ref mo, .int (nI a)] h sz (some (.int (en S a + en S (a + 1) + en S (a + 2) + en S (a + 3)))) h sz := by
  refine Mg.ofV [(0, .ref mo), (1, .int (nI a))] (by decide) (Nat.le_of_ble_eq_true rfl) rfl ?_
  intro p e s m args below meth c C
  refine r_aload_n C dX6_sumOf_0 rfl rfl ?_
  refine r_get C (j := 1) rfl in_X6 (MA_o w) (by decide) fl_X6_7 rfl rfl dX6_sumOf_1 ?_
  refine r_iload_n C dX6_sumOf_4 rfl rfl ?_
  refine r_iald C (MA_s w) (vp_in_nI (by omega) (by decide)) dX6_sumOf_5 ?_
  refine V.st0 (en_cl (by omega)) ?_
  refine r_aload_n C dX6_sumOf_6 rfl rfl ?_
  refine r_get C (j := 1) rfl in_X6 (MA_o w) (by decide) fl_X6_7 rfl rfl dX6_sumOf_7 ?_
  refine r_iload_n C dX6_sumOf_10 rfl rfl ?_
  refine r_iconst C (v := 1) dX6_sumOf_11 rfl ?_
  refine r_iadd C dX6_sumOf_12 ?_
  refine V.st0 (nI_add (a) (1)) ?_
  refine r_iald C (MA_s w) (vp_in_nI (by omega) (by decide)) dX6_sumOf_13 ?_
  refine V.st0 (en_cl (by omega)) ?_
  refine r_iadd C dX6_sumOf_14 ?_
  refine r_aload_n C dX6_sumOf_15 rfl rfl ?_
  refine r_get C (j := 1) rfl in_X6 (MA_o w) (by decide) fl_X6_7 rfl rfl dX6_sumOf_16 ?_
  refine r_iload_n C dX6_sumOf_19 rfl rfl ?_
  refine r_iconst C (v := 2) dX6_sumOf_20 rfl ?_
  refine r_iadd C dX6_sumOf_21 ?_
  refine V.st0 (nI_add (a) (2)) ?_
  refine r_iald C (MA_s w) (vp_in_nI (by omega) (by decide)) dX6_sumOf_22 ?_
  refine V.st0 (en_cl (by omega)) ?_
  refine r_iadd C dX6_sumOf_23 ?_
  refine r_aload_n C dX6_sumOf_24 rfl rfl ?_
  refine r_get C (j := 1) rfl in_X6 (MA_o w) (by decide) fl_X6_7 rfl rfl dX6_sumOf_25 ?_
  refine r_iload_n C dX6_sumOf_28 rfl rfl ?_
  refine r_iconst C (v := 3) dX6_sumOf_29 rfl ?_
  refine r_iadd C dX6_sumOf_30 ?_
  refine V.st0 (nI_add (a) (3)) ?_
  refine r_iald C (MA_s w) (vp_in_nI (by omega) (by decide)) dX6_sumOf_31 ?_
  refine V.st0 (en_cl (by omega)) ?_
  refine r_iadd C dX6_sumOf_32 ?_
  exact r_iret C rfl (Nat.le_of_ble_eq_true rfl) (Nat.le_of_ble_eq_true rfl) ⟨rfl, rfl, rfl⟩ dX6_sumOf_33

set_option maxHeartbeats 800000 in
set_option maxRecDepth 100000 in
theorem c_X6_endsFor {G : ga_} {l : Launch} {h : HP} {sz : Nat} {mo : Nat} {S A : gS} {dg : Int64} {u : Nat}  (w : MA G h mo S A dg)  (hp : u < 4) (hb : nB S) : Mf G l yX6_endsFor cX6_endsFor 4 (some .int) 3 70 0 0 [.ref mo, .int (nI u)] h sz (some (.int (g_ends S (nI u)))) h sz := by
  refine Mg.ofV [(0, .ref mo), (1, .int (nI u))] (by decide) (Nat.le_of_ble_eq_true rfl) rfl ?_
  intro p e s m args below meth c C
  refine r_iconst C (v := 0) dX6_endsFor_0 rfl ?_
  refine r_istore_n C dX6_endsFor_1 rfl (by decide) ?_
  refine r_iconst C (v := 0) dX6_endsFor_2 rfl ?_
  refine r_istore_n C dX6_endsFor_3 rfl (by decide) ?_
  refine V.sub [(0, .ref mo), (1, .int (nI u)), (2, .int (l_sum (fun r => l_sum (fun q => bI (g_can S (nI u) (nI r) (nI q))) (g_told S (nI r))) 0)), (3, .int (nI 0))] ⟨rfl, rfl, rfl, rfl, trivial⟩ ?_
  refine down_ (P := fun i => V p l e ⟨3, 0, 0, 70⟩ s m args below meth c G 4 (Qg G below args s 0 0 (fun v1 h1 s1 => v1 = (some (.int (g_ends S (nI u)))) ∧ h1 = h ∧ s1 = sz)) h sz 0 0 4 [(0, .ref mo), (1, .int (nI u)), (2, .int (l_sum (fun r => l_sum (fun q => bI (g_can S (nI u) (nI r) (nI q))) (g_told S (nI r))) i)), (3, .int (nI i))] []) (3) ?_ ?_
  · refine r_iload_n C dX6_endsFor_4 rfl rfl ?_
    refine r_iconst C (v := 3) dX6_endsFor_5 rfl ?_
    refine r_icmp_ge C 64 dX6_endsFor_6 (by decide) (fun _ => ?_) (fun c => absurd (by decide) c)
    refine r_iload_n C dX6_endsFor_64 rfl rfl ?_
    exact r_iret C rfl (Nat.le_of_ble_eq_true rfl) (Nat.le_of_ble_eq_true rfl) ⟨rfl, rfl, rfl⟩ dX6_endsFor_65
  · intro i h_i ih_i
    obtain ⟨k, hk28, hk⟩ := hb.row h_i
    refine r_iload_n C dX6_endsFor_4 rfl rfl ?_
    refine r_iconst C (v := 3) dX6_endsFor_5 rfl ?_
    refine r_icmp_ge C 64 dX6_endsFor_6 (by decide) (fun c => absurd c (nI_ge (b := 3) h_i (by decide))) (fun _ => ?_)
    refine r_iload_n C dX6_endsFor_9 rfl rfl ?_
    refine r_aload_n C dX6_endsFor_10 rfl rfl ?_
    refine r_iload_n C dX6_endsFor_11 rfl rfl ?_
    refine r_iload_n C dX6_endsFor_12 rfl rfl ?_
    refine r_iconst C (v := 0) dX6_endsFor_13 rfl ?_
    refine r_cVi C (c_X6_canLay (u := u) (r := i) (d := 0) w rfl hp h_i (by decide) hb) lk_X6_155 rfl (MA_o w) rfl rfl ⟨(Nat.le_of_ble_eq_true rfl), (Nat.le_of_ble_eq_true rfl), (Nat.le_of_ble_eq_true rfl), (Nat.le_of_ble_eq_true rfl), (Nat.le_of_ble_eq_true rfl)⟩ dX6_endsFor_14 ?_
    apply V.cut 25 (bI (g_can S (nI u) (nI i) (nI 0)))
    · intro K_25
      refine r_if_eq C 24 dX6_endsFor_17 (by decide) (fun c_17 => ?_) (fun c_17 => ?_)
      · have c_17 := bI_f c_17
        refine r_iconst C (v := 0) dX6_endsFor_24 rfl ?_
        refine V.st0 (show _ = (bI (g_can S (nI u) (nI i) (nI 0))) from by rw [c_17]; rfl) ?_
        exact K_25
      · have c_17 := bI_t c_17
        refine r_iconst C (v := 1) dX6_endsFor_20 rfl ?_
        refine r_goto C 25 dX6_endsFor_21 (by decide) ?_
        refine V.st0 (show _ = (bI (g_can S (nI u) (nI i) (nI 0))) from by rw [c_17]; rfl) ?_
        exact K_25
    · skip
      refine r_iadd C dX6_endsFor_25 ?_
      refine r_istore_n C dX6_endsFor_26 rfl (by decide) ?_
      refine r_iload_n C dX6_endsFor_27 rfl rfl ?_
      refine r_aload_n C dX6_endsFor_28 rfl rfl ?_
      refine r_get C (j := 1) rfl in_X6 (MA_o w) (by decide) fl_X6_7 rfl rfl dX6_endsFor_29 ?_
      refine r_iload_n C dX6_endsFor_32 rfl rfl ?_
      refine r_iconst C (v := 0) dX6_endsFor_33 rfl ?_
      refine r_cSi C (c_X6_ofRow (a := i) (b := 0)) lk_X6_62 rfl rfl ⟨(Nat.le_of_ble_eq_true rfl), (Nat.le_of_ble_eq_true rfl), (Nat.le_of_ble_eq_true rfl), (Nat.le_of_ble_eq_true rfl), (Nat.le_of_ble_eq_true rfl)⟩ dX6_endsFor_34 ?_
      refine r_iald C (MA_s w) (vp_in_nI (by omega) (by decide)) dX6_endsFor_37 ?_
      refine V.st0 (en_row (r := i) (w := 0) (wi := 0) (by omega) (by omega) rfl _) ?_
      refine V.st0 (hk) ?_
      apply V.cut 56 ((if g_told S (nI i) = 2 then bI (g_can S (nI u) (nI i) (nI 1)) else 0))
      · intro K_56
        refine r_if_le C 55 dX6_endsFor_38 (by decide) (fun c_38 => ?_) (fun c_38 => ?_)
        · have e_38 := i32_nlt c_38
          refine r_iconst C (v := 0) dX6_endsFor_55 rfl ?_
          refine V.st0 (show _ = ((if g_told S (nI i) = 2 then bI (g_can S (nI u) (nI i) (nI 1)) else 0)) from by rw [if_neg (show ¬ g_told S (nI i) = 2 by unfold g_told; rw [hk, if_pos (nI_le0 (by omega) c_38)]; decide)]) ?_
          exact K_56
        · have e_38 := i32_lt c_38
          refine r_aload_n C dX6_endsFor_41 rfl rfl ?_
          refine r_iload_n C dX6_endsFor_42 rfl rfl ?_
          refine r_iload_n C dX6_endsFor_43 rfl rfl ?_
          refine r_iconst C (v := 1) dX6_endsFor_44 rfl ?_
          refine r_cVi C (c_X6_canLay (u := u) (r := i) (d := 1) w rfl hp h_i (by decide) hb) lk_X6_155 rfl (MA_o w) rfl rfl ⟨(Nat.le_of_ble_eq_true rfl), (Nat.le_of_ble_eq_true rfl), (Nat.le_of_ble_eq_true rfl), (Nat.le_of_ble_eq_true rfl), (Nat.le_of_ble_eq_true rfl)⟩ dX6_endsFor_45 ?_
          refine r_if_eq C 55 dX6_endsFor_48 (by decide) (fun c_48 => ?_) (fun c_48 => ?_)
          · have c_48 := bI_f c_48
            refine r_iconst C (v := 0) dX6_endsFor_55 rfl ?_
            refine V.st0 (show _ = ((if g_told S (nI i) = 2 then bI (g_can S (nI u) (nI i) (nI 1)) else 0)) from by rw [if_pos (show g_told S (nI i) = 2 by unfold g_told; rw [hk, if_neg (nI_nle0 c_38)]), c_48]; rfl) ?_
            exact K_56
          · have c_48 := bI_t c_48
            refine r_iconst C (v := 1) dX6_endsFor_51 rfl ?_
            refine r_goto C 56 dX6_endsFor_52 (by decide) ?_
            refine V.st0 (show _ = ((if g_told S (nI i) = 2 then bI (g_can S (nI u) (nI i) (nI 1)) else 0)) from by rw [if_pos (show g_told S (nI i) = 2 by unfold g_told; rw [hk, if_neg (nI_nle0 c_38)]), c_48]; rfl) ?_
            exact K_56
      · skip
        refine r_iadd C dX6_endsFor_56 ?_
        refine r_istore_n C dX6_endsFor_57 rfl (by decide) ?_
        refine r_iinc C (v := 1) dX6_endsFor_58 rfl rfl (by decide) ?_
        refine r_goto C 4 dX6_endsFor_61 (by decide) ?_
        refine V.sub [(0, .ref mo), (1, .int (nI u)), (2, .int (l_sum (fun r => l_sum (fun q => bI (g_can S (nI u) (nI r) (nI q))) (g_told S (nI r))) (i + 1))), (3, .int (nI (i + 1)))] ⟨rfl, rfl, by rw [ends_step]; rfl, by rw [← nI_1 i]; rfl, trivial⟩ ?_
        exact ih_i

set_option maxHeartbeats 800000 in
set_option maxRecDepth 100000 in
theorem c_X6_ofPlayer {G : ga_} {l : Launch} {h : HP} {sz : Nat} {mo : Nat} {S A : gS} {dg : Int64} {u : Nat} {v : Int32}  (w : MA G h mo S A dg)  (hp : u < 4) (hb : nB S) (hv : okN v 7 = true) : Mf G l yX6_ofPlayer cX6_ofPlayer 3 (some .int) 4 93 0 0 [.ref mo, .int (nI u), .int v] h sz (some (.int (g_prop S (nI u) v))) h sz := by
  refine Mg.ofV [(0, .ref mo), (1, .int (nI u)), (2, .int v)] (by decide) (Nat.le_of_ble_eq_true rfl) rfl ?_
  intro p e s m args below meth c C
  refine r_iload_n C dX6_ofPlayer_0 rfl rfl ?_
  by_cases c_1_0 : v = 0
  · subst c_1_0
    refine r_tsw C 40 dX6_ofPlayer_1 (by decide) (by decide) rfl (by decide) ?_
    refine r_aload_n C dX6_ofPlayer_40 rfl rfl ?_
    refine r_get C (j := 1) rfl in_X6 (MA_o w) (by decide) fl_X6_7 rfl rfl dX6_ofPlayer_41 ?_
    refine r_sipush C (v := 337) dX6_ofPlayer_44 rfl ?_
    refine r_iload_n C dX6_ofPlayer_47 rfl rfl ?_
    refine r_iadd C dX6_ofPlayer_48 ?_
    refine V.st0 (nI_add (337) (u)) ?_
    refine r_iald C (MA_s w) (vp_in_nI (by omega) (by decide)) dX6_ofPlayer_49 ?_
    refine V.st0 (en_tal0 (p := u) (by omega) _) ?_
    exact r_iret C rfl (Nat.le_of_ble_eq_true rfl) (Nat.le_of_ble_eq_true rfl) ⟨by simp [g_prop, g_held, g_sum], rfl, rfl⟩ dX6_ofPlayer_50
  by_cases c_1_1 : v = 1
  · subst c_1_1
    refine r_tsw C 51 dX6_ofPlayer_1 (by decide) (by decide) rfl (by decide) ?_
    refine r_aload_n C dX6_ofPlayer_51 rfl rfl ?_
    refine r_iload_n C dX6_ofPlayer_52 rfl rfl ?_
    refine r_cVi C (c_X6_gradesOf (u := u) w hp hb) lk_X6_158 rfl (MA_o w) rfl rfl ⟨(Nat.le_of_ble_eq_true rfl), (Nat.le_of_ble_eq_true rfl), (Nat.le_of_ble_eq_true rfl), (Nat.le_of_ble_eq_true rfl), (Nat.le_of_ble_eq_true rfl)⟩ dX6_ofPlayer_53 ?_
    exact r_iret C rfl (Nat.le_of_ble_eq_true rfl) (Nat.le_of_ble_eq_true rfl) ⟨by simp [g_prop, g_held, g_sum], rfl, rfl⟩ dX6_ofPlayer_56
  by_cases c_1_2 : v = 2
  · subst c_1_2
    refine r_tsw C 57 dX6_ofPlayer_1 (by decide) (by decide) rfl (by decide) ?_
    refine r_aload_n C dX6_ofPlayer_57 rfl rfl ?_
    refine r_get C (j := 1) rfl in_X6 (MA_o w) (by decide) fl_X6_7 rfl rfl dX6_ofPlayer_58 ?_
    refine r_sipush C (v := 346) dX6_ofPlayer_61 rfl ?_
    refine r_iload_n C dX6_ofPlayer_64 rfl rfl ?_
    refine r_iadd C dX6_ofPlayer_65 ?_
    refine V.st0 (nI_add (346) (u)) ?_
    refine r_iald C (MA_s w) (vp_in_nI (by omega) (by decide)) dX6_ofPlayer_66 ?_
    refine V.st0 (en_tal1 (p := u) (by omega) _) ?_
    exact r_iret C rfl (Nat.le_of_ble_eq_true rfl) (Nat.le_of_ble_eq_true rfl) ⟨by simp [g_prop, g_held, g_sum], rfl, rfl⟩ dX6_ofPlayer_67
  by_cases c_1_3 : v = 3
  · subst c_1_3
    refine r_tsw C 68 dX6_ofPlayer_1 (by decide) (by decide) rfl (by decide) ?_
    refine r_aload_n C dX6_ofPlayer_68 rfl rfl ?_
    refine r_iload_n C dX6_ofPlayer_69 rfl rfl ?_
    refine r_cVi C (c_X6_gradesOf (u := u) w hp hb) lk_X6_158 rfl (MA_o w) rfl rfl ⟨(Nat.le_of_ble_eq_true rfl), (Nat.le_of_ble_eq_true rfl), (Nat.le_of_ble_eq_true rfl), (Nat.le_of_ble_eq_true rfl), (Nat.le_of_ble_eq_true rfl)⟩ dX6_ofPlayer_70 ?_
    refine r_aload_n C dX6_ofPlayer_73 rfl rfl ?_
    refine r_get C (j := 1) rfl in_X6 (MA_o w) (by decide) fl_X6_7 rfl rfl dX6_ofPlayer_74 ?_
    refine r_sipush C (v := 346) dX6_ofPlayer_77 rfl ?_
    refine r_iload_n C dX6_ofPlayer_80 rfl rfl ?_
    refine r_iadd C dX6_ofPlayer_81 ?_
    refine V.st0 (nI_add (346) (u)) ?_
    refine r_iald C (MA_s w) (vp_in_nI (by omega) (by decide)) dX6_ofPlayer_82 ?_
    refine V.st0 (en_tal1 (p := u) (by omega) _) ?_
    refine r_iadd C dX6_ofPlayer_83 ?_
    exact r_iret C rfl (Nat.le_of_ble_eq_true rfl) (Nat.le_of_ble_eq_true rfl) ⟨by simp [g_prop, g_held, g_sum], rfl, rfl⟩ dX6_ofPlayer_84
  by_cases c_1_4 : v = 4
  · subst c_1_4
    refine r_tsw C 85 dX6_ofPlayer_1 (by decide) (by decide) rfl (by decide) ?_
    refine r_aload_n C dX6_ofPlayer_85 rfl rfl ?_
    refine r_get C (j := 1) rfl in_X6 (MA_o w) (by decide) fl_X6_7 rfl rfl dX6_ofPlayer_86 ?_
    refine r_sipush C (v := 350) dX6_ofPlayer_89 rfl ?_
    refine r_iload_n C dX6_ofPlayer_92 rfl rfl ?_
    refine r_iadd C dX6_ofPlayer_93 ?_
    refine V.st0 (nI_add (350) (u)) ?_
    refine r_iald C (MA_s w) (vp_in_nI (by omega) (by decide)) dX6_ofPlayer_94 ?_
    refine V.st0 (en_tal2 (p := u) (by omega) _) ?_
    exact r_iret C rfl (Nat.le_of_ble_eq_true rfl) (Nat.le_of_ble_eq_true rfl) ⟨by simp [g_prop, g_held, g_sum], rfl, rfl⟩ dX6_ofPlayer_95
  by_cases c_1_5 : v = 5
  · subst c_1_5
    refine r_tsw C 96 dX6_ofPlayer_1 (by decide) (by decide) rfl (by decide) ?_
    refine r_aload_n C dX6_ofPlayer_96 rfl rfl ?_
    refine r_get C (j := 1) rfl in_X6 (MA_o w) (by decide) fl_X6_7 rfl rfl dX6_ofPlayer_97 ?_
    refine r_sipush C (v := 354) dX6_ofPlayer_100 rfl ?_
    refine r_iload_n C dX6_ofPlayer_103 rfl rfl ?_
    refine r_iadd C dX6_ofPlayer_104 ?_
    refine V.st0 (nI_add (354) (u)) ?_
    refine r_iald C (MA_s w) (vp_in_nI (by omega) (by decide)) dX6_ofPlayer_105 ?_
    refine V.st0 (en_tal3 (p := u) (by omega) _) ?_
    exact r_iret C rfl (Nat.le_of_ble_eq_true rfl) (Nat.le_of_ble_eq_true rfl) ⟨by simp [g_prop, g_held, g_sum], rfl, rfl⟩ dX6_ofPlayer_106
  refine r_tswO C 107 dX6_ofPlayer_1 (sw_out 6 (by decide) (lt_s_6 c_1_0 c_1_1 c_1_2 c_1_3 c_1_4 c_1_5)) (by decide) ?_
  refine r_aload_n C dX6_ofPlayer_107 rfl rfl ?_
  refine r_iload_n C dX6_ofPlayer_108 rfl rfl ?_
  refine r_cVi C (c_X6_endsFor (u := u) w hp hb) lk_X6_161 rfl (MA_o w) rfl rfl ⟨(Nat.le_of_ble_eq_true rfl), (Nat.le_of_ble_eq_true rfl), (Nat.le_of_ble_eq_true rfl), (Nat.le_of_ble_eq_true rfl), (Nat.le_of_ble_eq_true rfl)⟩ dX6_ofPlayer_109 ?_
  exact r_iret C rfl (Nat.le_of_ble_eq_true rfl) (Nat.le_of_ble_eq_true rfl) ⟨by rw [ok7 hv c_1_0 c_1_1 c_1_2 c_1_3 c_1_4 c_1_5]; rfl, rfl, rfl⟩ dX6_ofPlayer_112

set_option maxHeartbeats 800000 in
set_option maxRecDepth 100000 in
theorem c_X6_winner {G : ga_} {l : Launch} {h : HP} {sz : Nat} {mo : Nat} {S A : gS} {dg : Int64}  (w : MA G h mo S A dg)  (hb : nB S) : Mf G l yX6_winner cX6_winner 6 (some .int) 5 115 0 0 [.ref mo] h sz (some (.int (g_win S))) h sz := by
  refine Mg.ofV [(0, .ref mo)] (by decide) (Nat.le_of_ble_eq_true rfl) rfl ?_
  intro p e s m args below meth c C
  obtain ⟨P, hP2, hP4, hP0, hmv, -⟩ := hb.pl
  by_cases hm : S 5 1 = -1
  · skip
    refine r_iconst C (v := -1) dX6_winner_0 rfl ?_
    refine r_istore_n C dX6_winner_1 rfl (by decide) ?_
    refine r_iconst C (v := 0) dX6_winner_2 rfl ?_
    refine r_istore_n C dX6_winner_3 rfl (by decide) ?_
    refine r_iconst C (v := 0) dX6_winner_4 rfl ?_
    refine r_istore_n C dX6_winner_5 rfl (by decide) ?_
    refine V.sub [(0, .ref mo), (1, .int (m_wf S 0)), (2, .int (m_wl S 0)), (3, .int (nI 0))] ⟨rfl, rfl, rfl, rfl, trivial⟩ ?_
    refine down_ (P := fun i => V p l e ⟨5, 0, 0, 115⟩ s m args below meth c G 6 (Qg G below args s 0 0 (fun v1 h1 s1 => v1 = (some (.int (g_win S))) ∧ h1 = h ∧ s1 = sz)) h sz 0 0 6 [(0, .ref mo), (1, .int (m_wf S i)), (2, .int (m_wl S i)), (3, .int (nI i))] []) (P) ?_ ?_
    · refine r_iload_n C dX6_winner_6 rfl rfl ?_
      refine r_aload_n C dX6_winner_7 rfl rfl ?_
      refine r_get C (j := 1) rfl in_X6 (MA_o w) (by decide) fl_X6_7 rfl rfl dX6_winner_8 ?_
      refine r_sipush C (v := 341) dX6_winner_11 rfl ?_
      refine r_iald C (MA_s w) (vp_in_nI (n := 341) (by decide) (by decide)) dX6_winner_14 ?_
      refine V.st0 (en_sc0 _) ?_
      refine V.st0 (hP0) ?_
      refine r_icmp_ge C 85 dX6_winner_15 (by decide) (fun _ => ?_) (fun c => absurd (nI_le (Nat.le_refl P) (by omega)) c)
      refine r_iload_n C dX6_winner_85 rfl rfl ?_
      exact r_iret C rfl (Nat.le_of_ble_eq_true rfl) (Nat.le_of_ble_eq_true rfl) ⟨by unfold g_win g_over; rw [decide_eq_true hm, if_pos rfl, hP0, nI_clamp (by omega)]; obtain ⟨q, rfl⟩ : ∃ q, P = q + 1 := ⟨P - 1, by omega⟩; rfl, rfl, rfl⟩ dX6_winner_86
    · intro i h_i ih_i
      refine r_iload_n C dX6_winner_6 rfl rfl ?_
      refine r_aload_n C dX6_winner_7 rfl rfl ?_
      refine r_get C (j := 1) rfl in_X6 (MA_o w) (by decide) fl_X6_7 rfl rfl dX6_winner_8 ?_
      refine r_sipush C (v := 341) dX6_winner_11 rfl ?_
      refine r_iald C (MA_s w) (vp_in_nI (n := 341) (by decide) (by decide)) dX6_winner_14 ?_
      refine V.st0 (en_sc0 _) ?_
      refine V.st0 (hP0) ?_
      refine r_icmp_ge C 85 dX6_winner_15 (by decide) (fun c => absurd c (nI_ge h_i (by omega))) (fun _ => ?_)
      refine r_aload_n C dX6_winner_18 rfl rfl ?_
      refine r_get C (j := 1) rfl in_X6 (MA_o w) (by decide) fl_X6_7 rfl rfl dX6_winner_19 ?_
      refine r_sipush C (v := 342) dX6_winner_22 rfl ?_
      refine r_iald C (MA_s w) (vp_in_nI (n := 342) (by decide) (by decide)) dX6_winner_25 ?_
      refine V.st0 (en_sc1 _) ?_
      refine r_iconst C (v := -1) dX6_winner_26 rfl ?_
      refine r_icmp_ne C 85 dX6_winner_27 (by decide) (fun c => absurd hm c) (fun _ => ?_)
      refine r_aload_n C dX6_winner_30 rfl rfl ?_
      refine r_iload_n C dX6_winner_31 rfl rfl ?_
      refine r_iconst C (v := 3) dX6_winner_32 rfl ?_
      refine r_cVi C (c_X6_ofPlayer (u := i) w (by omega) hb (by decide)) lk_X6_164 rfl (MA_o w) rfl rfl ⟨(Nat.le_of_ble_eq_true rfl), (Nat.le_of_ble_eq_true rfl), (Nat.le_of_ble_eq_true rfl), (Nat.le_of_ble_eq_true rfl), (Nat.le_of_ble_eq_true rfl)⟩ dX6_winner_33 ?_
      refine r_istore C dX6_winner_36 (by decide) ?_
      apply V.cut 54 (bI (m_ws S i))
      · intro K_54
        refine r_iload_n C dX6_winner_38 rfl rfl ?_
        refine r_iconst C (v := -1) dX6_winner_39 rfl ?_
        refine r_icmp_eq C 49 dX6_winner_40 (by decide) (fun c_40 => ?_) (fun c_40 => ?_)
        · skip
          refine r_iconst C (v := 1) dX6_winner_49 rfl ?_
          refine r_goto C 54 dX6_winner_50 (by decide) ?_
          refine V.st0 (show _ = (bI (m_ws S i)) from by unfold m_ws; rw [decide_eq_true c_40]; rfl) ?_
          exact K_54
        · skip
          refine r_iload C dX6_winner_43 rfl ?_
          refine r_iload_n C dX6_winner_45 rfl rfl ?_
          refine r_icmp_ge C 53 dX6_winner_46 (by decide) (fun c_46 => ?_) (fun c_46 => ?_)
          · have e_46 := i32_nlt c_46
            refine r_iconst C (v := 0) dX6_winner_53 rfl ?_
            refine V.st0 (show _ = (bI (m_ws S i)) from by unfold m_ws; rw [decide_eq_false c_40, decide_eq_false (show ¬ g_sum S (nI i) < m_wl S i from e_46)]; rfl) ?_
            exact K_54
          · have e_46 := i32_lt c_46
            refine r_iconst C (v := 1) dX6_winner_49 rfl ?_
            refine r_goto C 54 dX6_winner_50 (by decide) ?_
            refine V.st0 (show _ = (bI (m_ws S i)) from by unfold m_ws; rw [decide_eq_false c_40, decide_eq_true (show g_sum S (nI i) < m_wl S i from e_46)]; rfl) ?_
            exact K_54
      · skip
        refine r_istore C dX6_winner_54 (by decide) ?_
        refine r_iload C dX6_winner_56 rfl ?_
        apply V.cut 66 (m_wf S (i + 1))
        · intro K_66
          refine r_if_eq C 65 dX6_winner_58 (by decide) (fun c_58 => ?_) (fun c_58 => ?_)
          · have c_58 := bI_f c_58
            refine r_iload_n C dX6_winner_65 rfl rfl ?_
            refine V.st0 (show _ = (m_wf S (i + 1)) from by rw [(m_w_f c_58).1]) ?_
            exact K_66
          · have c_58 := bI_t c_58
            refine r_iload_n C dX6_winner_61 rfl rfl ?_
            refine r_goto C 66 dX6_winner_62 (by decide) ?_
            refine V.st0 (show _ = (m_wf S (i + 1)) from by rw [(m_w_t c_58 (by omega)).1]) ?_
            exact K_66
        · skip
          refine r_istore_n C dX6_winner_66 rfl (by decide) ?_
          refine r_iload C dX6_winner_67 rfl ?_
          apply V.cut 78 (m_wl S (i + 1))
          · intro K_78
            refine r_if_eq C 77 dX6_winner_69 (by decide) (fun c_69 => ?_) (fun c_69 => ?_)
            · have c_69 := bI_f c_69
              refine r_iload_n C dX6_winner_77 rfl rfl ?_
              refine V.st0 (show _ = (m_wl S (i + 1)) from by rw [(m_w_f c_69).2]) ?_
              exact K_78
            · have c_69 := bI_t c_69
              refine r_iload C dX6_winner_72 rfl ?_
              refine r_goto C 78 dX6_winner_74 (by decide) ?_
              refine V.st0 (show _ = (m_wl S (i + 1)) from by rw [(m_w_t c_69 (by omega)).2]; rfl) ?_
              exact K_78
          · skip
            refine r_istore_n C dX6_winner_78 rfl (by decide) ?_
            refine r_iinc C (v := 1) dX6_winner_79 rfl rfl (by decide) ?_
            refine r_goto C 6 dX6_winner_82 (by decide) ?_
            refine V.sub [(0, .ref mo), (1, .int (m_wf S (i + 1))), (2, .int (m_wl S (i + 1))), (3, .int (nI (i + 1)))] ⟨rfl, rfl, rfl, by rw [← nI_1 i]; rfl, trivial⟩ ?_
            exact ih_i
  · skip
    refine r_iconst C (v := -1) dX6_winner_0 rfl ?_
    refine r_istore_n C dX6_winner_1 rfl (by decide) ?_
    refine r_iconst C (v := 0) dX6_winner_2 rfl ?_
    refine r_istore_n C dX6_winner_3 rfl (by decide) ?_
    refine r_iconst C (v := 0) dX6_winner_4 rfl ?_
    refine r_istore_n C dX6_winner_5 rfl (by decide) ?_
    refine r_iload_n C dX6_winner_6 rfl rfl ?_
    refine r_aload_n C dX6_winner_7 rfl rfl ?_
    refine r_get C (j := 1) rfl in_X6 (MA_o w) (by decide) fl_X6_7 rfl rfl dX6_winner_8 ?_
    refine r_sipush C (v := 341) dX6_winner_11 rfl ?_
    refine r_iald C (MA_s w) (vp_in_nI (n := 341) (by decide) (by decide)) dX6_winner_14 ?_
    refine V.st0 (en_sc0 _) ?_
    refine V.st0 (hP0) ?_
    refine r_icmp_ge C 85 dX6_winner_15 (by decide) (fun c => absurd c (nI_ge (a := 0) (b := P) (by omega) (by omega))) (fun _ => ?_)
    refine r_aload_n C dX6_winner_18 rfl rfl ?_
    refine r_get C (j := 1) rfl in_X6 (MA_o w) (by decide) fl_X6_7 rfl rfl dX6_winner_19 ?_
    refine r_sipush C (v := 342) dX6_winner_22 rfl ?_
    refine r_iald C (MA_s w) (vp_in_nI (n := 342) (by decide) (by decide)) dX6_winner_25 ?_
    refine V.st0 (en_sc1 _) ?_
    refine r_iconst C (v := -1) dX6_winner_26 rfl ?_
    refine r_icmp_ne C 85 dX6_winner_27 (by decide) (fun _ => ?_) (fun c => absurd c hm)
    refine r_iload_n C dX6_winner_85 rfl rfl ?_
    exact r_iret C rfl (Nat.le_of_ble_eq_true rfl) (Nat.le_of_ble_eq_true rfl) ⟨by unfold g_win g_over; rw [decide_eq_false hm]; rfl, rfl, rfl⟩ dX6_winner_86


set_option maxHeartbeats 800000 in
set_option maxRecDepth 100000 in
theorem c_X6_counted {G : ga_} {l : Launch} {h : HP} {sz : Nat} {mo : Nat} {S A : gS} {dg : Int64} {v : Int32}  (w : MA G h mo S A dg)  (hb : nB S) (hv : okN v 12 = true) : Mf G l yX6_counted cX6_counted 2 (some .int) 6 140 0 0 [.ref mo, .int v] h sz (some (.int (g_num S v (A 6 1)))) h sz := by
  refine Mg.ofV [(0, .ref mo), (1, .int v)] (by decide) (Nat.le_of_ble_eq_true rfl) rfl ?_
  intro p e s m args below meth c C
  refine r_iload_n C dX6_counted_0 rfl rfl ?_
  by_cases c_1_0 : v = 0
  · subst c_1_0
    refine r_tsw C 60 dX6_counted_1 (by decide) (by decide) rfl (by decide) ?_
    refine r_aload_n C dX6_counted_60 rfl rfl ?_
    refine r_get C (j := 1) rfl in_X6 (MA_o w) (by decide) fl_X6_7 rfl rfl dX6_counted_61 ?_
    refine r_sipush C (v := 341) dX6_counted_64 rfl ?_
    refine r_iald C (MA_s w) (vp_in_nI (n := 341) (by decide) (by decide)) dX6_counted_67 ?_
    refine V.st0 (en_sc0 _) ?_
    exact r_iret C rfl (Nat.le_of_ble_eq_true rfl) (Nat.le_of_ble_eq_true rfl) ⟨by simp [g_num], rfl, rfl⟩ dX6_counted_68
  by_cases c_1_1 : v = 1
  · subst c_1_1
    refine r_tsw C 69 dX6_counted_1 (by decide) (by decide) rfl (by decide) ?_
    refine r_aload_n C dX6_counted_69 rfl rfl ?_
    refine r_get C (j := 1) rfl in_X6 (MA_o w) (by decide) fl_X6_7 rfl rfl dX6_counted_70 ?_
    refine r_sipush C (v := 342) dX6_counted_73 rfl ?_
    refine r_iald C (MA_s w) (vp_in_nI (n := 342) (by decide) (by decide)) dX6_counted_76 ?_
    refine V.st0 (en_sc1 _) ?_
    exact r_iret C rfl (Nat.le_of_ble_eq_true rfl) (Nat.le_of_ble_eq_true rfl) ⟨by simp [g_num], rfl, rfl⟩ dX6_counted_77
  by_cases c_1_2 : v = 2
  · subst c_1_2
    refine r_tsw C 78 dX6_counted_1 (by decide) (by decide) rfl (by decide) ?_
    refine r_aload_n C dX6_counted_78 rfl rfl ?_
    refine r_cVi C (c_X6_inStock w) lk_X6_72 rfl (MA_o w) rfl rfl ⟨(Nat.le_of_ble_eq_true rfl), (Nat.le_of_ble_eq_true rfl), (Nat.le_of_ble_eq_true rfl), (Nat.le_of_ble_eq_true rfl), (Nat.le_of_ble_eq_true rfl)⟩ dX6_counted_79 ?_
    exact r_iret C rfl (Nat.le_of_ble_eq_true rfl) (Nat.le_of_ble_eq_true rfl) ⟨by simp [g_num], rfl, rfl⟩ dX6_counted_82
  by_cases c_1_3 : v = 3
  · subst c_1_3
    refine r_tsw C 83 dX6_counted_1 (by decide) (by decide) rfl (by decide) ?_
    refine r_aload_n C dX6_counted_83 rfl rfl ?_
    refine r_sipush C (v := 337) dX6_counted_84 rfl ?_
    refine r_cVi C (c_X6_sumOf (a := 337) w (by decide)) lk_X6_167 rfl (MA_o w) rfl rfl ⟨(Nat.le_of_ble_eq_true rfl), (Nat.le_of_ble_eq_true rfl), (Nat.le_of_ble_eq_true rfl), (Nat.le_of_ble_eq_true rfl), (Nat.le_of_ble_eq_true rfl)⟩ dX6_counted_87 ?_
    refine V.st0 (tal_m0 hb) ?_
    exact r_iret C rfl (Nat.le_of_ble_eq_true rfl) (Nat.le_of_ble_eq_true rfl) ⟨by simp [g_num], rfl, rfl⟩ dX6_counted_90
  by_cases c_1_4 : v = 4
  · subst c_1_4
    refine r_tsw C 91 dX6_counted_1 (by decide) (by decide) rfl (by decide) ?_
    refine r_aload_n C dX6_counted_91 rfl rfl ?_
    refine r_sipush C (v := 350) dX6_counted_92 rfl ?_
    refine r_cVi C (c_X6_sumOf (a := 350) w (by decide)) lk_X6_167 rfl (MA_o w) rfl rfl ⟨(Nat.le_of_ble_eq_true rfl), (Nat.le_of_ble_eq_true rfl), (Nat.le_of_ble_eq_true rfl), (Nat.le_of_ble_eq_true rfl), (Nat.le_of_ble_eq_true rfl)⟩ dX6_counted_95 ?_
    refine V.st0 (tal_m2 hb) ?_
    exact r_iret C rfl (Nat.le_of_ble_eq_true rfl) (Nat.le_of_ble_eq_true rfl) ⟨by simp [g_num], rfl, rfl⟩ dX6_counted_98
  by_cases c_1_5 : v = 5
  · subst c_1_5
    refine r_tsw C 99 dX6_counted_1 (by decide) (by decide) rfl (by decide) ?_
    refine r_aload_n C dX6_counted_99 rfl rfl ?_
    refine r_get C (j := 1) rfl in_X6 (MA_o w) (by decide) fl_X6_7 rfl rfl dX6_counted_100 ?_
    refine r_sipush C (v := 345) dX6_counted_103 rfl ?_
    refine r_iald C (MA_s w) (vp_in_nI (n := 345) (by decide) (by decide)) dX6_counted_106 ?_
    refine V.st0 (en_sc3 _) ?_
    exact r_iret C rfl (Nat.le_of_ble_eq_true rfl) (Nat.le_of_ble_eq_true rfl) ⟨by simp [g_num], rfl, rfl⟩ dX6_counted_107
  by_cases c_1_6 : v = 6
  · subst c_1_6
    refine r_tsw C 108 dX6_counted_1 (by decide) (by decide) rfl (by decide) ?_
    refine r_aload_n C dX6_counted_108 rfl rfl ?_
    refine r_get C (j := 1) rfl in_X6 (MA_o w) (by decide) fl_X6_7 rfl rfl dX6_counted_109 ?_
    refine r_sipush C (v := 344) dX6_counted_112 rfl ?_
    refine r_iald C (MA_s w) (vp_in_nI (n := 344) (by decide) (by decide)) dX6_counted_115 ?_
    refine V.st0 (en_sc4 _) ?_
    exact r_iret C rfl (Nat.le_of_ble_eq_true rfl) (Nat.le_of_ble_eq_true rfl) ⟨by simp [g_num], rfl, rfl⟩ dX6_counted_116
  by_cases c_1_7 : v = 7
  · subst c_1_7
    refine r_tsw C 117 dX6_counted_1 (by decide) (by decide) rfl (by decide) ?_
    refine r_aload_n C dX6_counted_117 rfl rfl ?_
    refine r_sipush C (v := 346) dX6_counted_118 rfl ?_
    refine r_cVi C (c_X6_sumOf (a := 346) w (by decide)) lk_X6_167 rfl (MA_o w) rfl rfl ⟨(Nat.le_of_ble_eq_true rfl), (Nat.le_of_ble_eq_true rfl), (Nat.le_of_ble_eq_true rfl), (Nat.le_of_ble_eq_true rfl), (Nat.le_of_ble_eq_true rfl)⟩ dX6_counted_121 ?_
    refine V.st0 (tal_m1 hb) ?_
    exact r_iret C rfl (Nat.le_of_ble_eq_true rfl) (Nat.le_of_ble_eq_true rfl) ⟨by simp [g_num], rfl, rfl⟩ dX6_counted_124
  by_cases c_1_8 : v = 8
  · subst c_1_8
    refine r_tsw C 125 dX6_counted_1 (by decide) (by decide) rfl (by decide) ?_
    refine r_aload_n C dX6_counted_125 rfl rfl ?_
    refine r_cVi C (c_X6_winner w hb) lk_X6_170 rfl (MA_o w) rfl rfl ⟨(Nat.le_of_ble_eq_true rfl), (Nat.le_of_ble_eq_true rfl), (Nat.le_of_ble_eq_true rfl), (Nat.le_of_ble_eq_true rfl), (Nat.le_of_ble_eq_true rfl)⟩ dX6_counted_126 ?_
    exact r_iret C rfl (Nat.le_of_ble_eq_true rfl) (Nat.le_of_ble_eq_true rfl) ⟨by simp [g_num], rfl, rfl⟩ dX6_counted_129
  by_cases c_1_9 : v = 9
  · subst c_1_9
    refine r_tsw C 130 dX6_counted_1 (by decide) (by decide) rfl (by decide) ?_
    refine r_aload_n C dX6_counted_130 rfl rfl ?_
    refine r_get C (j := 1) rfl in_X6 (MA_o w) (by decide) fl_X6_7 rfl rfl dX6_counted_131 ?_
    refine r_sipush C (v := 358) dX6_counted_134 rfl ?_
    refine r_iald C (MA_s w) (vp_in_nI (n := 358) (by decide) (by decide)) dX6_counted_137 ?_
    refine V.st0 (en_sc5 _) ?_
    exact r_iret C rfl (Nat.le_of_ble_eq_true rfl) (Nat.le_of_ble_eq_true rfl) ⟨by simp [g_num], rfl, rfl⟩ dX6_counted_138
  by_cases c_1_10 : v = 10
  · subst c_1_10
    refine r_tsw C 139 dX6_counted_1 (by decide) (by decide) rfl (by decide) ?_
    refine r_aload_n C dX6_counted_139 rfl rfl ?_
    refine r_get C (j := 1) rfl in_X6 (MA_o w) (by decide) fl_X6_7 rfl rfl dX6_counted_140 ?_
    refine r_sipush C (v := 343) dX6_counted_143 rfl ?_
    refine r_iald C (MA_s w) (vp_in_nI (n := 343) (by decide) (by decide)) dX6_counted_146 ?_
    refine V.st0 (en_sc6 _) ?_
    exact r_iret C rfl (Nat.le_of_ble_eq_true rfl) (Nat.le_of_ble_eq_true rfl) ⟨by simp [g_num], rfl, rfl⟩ dX6_counted_147
  refine r_tswO C 148 dX6_counted_1 (sw_out 11 (by decide) (lt_s_11 c_1_0 c_1_1 c_1_2 c_1_3 c_1_4 c_1_5 c_1_6 c_1_7 c_1_8 c_1_9 c_1_10)) (by decide) ?_
  refine r_aload_n C dX6_counted_148 rfl rfl ?_
  refine r_get C (j := 3) rfl in_X6 (MA_o w) (by decide) fl_X6_41 rfl rfl dX6_counted_149 ?_
  exact r_iret C rfl (Nat.le_of_ble_eq_true rfl) (Nat.le_of_ble_eq_true rfl) ⟨by rw [ok12 hv c_1_0 c_1_1 c_1_2 c_1_3 c_1_4 c_1_5 c_1_6 c_1_7 c_1_8 c_1_9 c_1_10]; rfl, rfl, rfl⟩ dX6_counted_152

set_option maxHeartbeats 800000 in
set_option maxRecDepth 100000 in
theorem c_X6_fitsSomewhere {G : ga_} {l : Launch} {h : HP} {sz : Nat} {mo : Nat} {S A : gS} {dg : Int64} {t : Nat}  (w : MA G h mo S A dg)  (ht : t < 28) : Mf G l yX6_fitsSomewhere cX6_fitsSomewhere 4 (some .boolean) 2 45 0 0 [.ref mo, .int (nI t)] h sz (some (.int (bI (g_some S (nI t))))) h sz := by
  refine Mg.ofV [(0, .ref mo), (1, .int (nI t))] (by decide) (Nat.le_of_ble_eq_true rfl) rfl ?_
  intro p e s m args below meth c C
  refine r_iconst C (v := 0) dX6_fitsSomewhere_0 rfl ?_
  refine r_istore_n C dX6_fitsSomewhere_1 rfl (by decide) ?_
  refine r_iconst C (v := 0) dX6_fitsSomewhere_2 rfl ?_
  refine r_istore_n C dX6_fitsSomewhere_3 rfl (by decide) ?_
  refine V.sub [(0, .ref mo), (1, .int (nI t)), (2, .int (bI (anyB (fun k => g_fits S (nI t) (nI (k / 2)) (nI (k % 2))) 0))), (3, .int (nI 0))] ⟨rfl, rfl, rfl, rfl, trivial⟩ ?_
  refine down_ (P := fun i => V p l e ⟨2, 0, 0, 45⟩ s m args below meth c G 4 (Qg G below args s 0 0 (fun v1 h1 s1 => v1 = (some (.int (bI (g_some S (nI t))))) ∧ h1 = h ∧ s1 = sz)) h sz 0 0 4 [(0, .ref mo), (1, .int (nI t)), (2, .int (bI (anyB (fun k => g_fits S (nI t) (nI (k / 2)) (nI (k % 2))) i))), (3, .int (nI i))] []) (6) ?_ ?_
  · refine r_iload_n C dX6_fitsSomewhere_4 rfl rfl ?_
    refine r_bipush C (v := 6) dX6_fitsSomewhere_5 rfl ?_
    refine r_icmp_ge C 40 dX6_fitsSomewhere_7 (by decide) (fun _ => ?_) (fun c => absurd (by decide) c)
    refine r_iload_n C dX6_fitsSomewhere_40 rfl rfl ?_
    exact r_zret C rfl (by first | exact Or.inl rfl | exact Or.inr rfl | exact bI_01 _) (Nat.le_of_ble_eq_true rfl) (Nat.le_of_ble_eq_true rfl) ⟨by rw [show g_some S (nI t) = anyB (fun k => g_fits S (nI t) (nI (k / 2)) (nI (k % 2))) 6 by unfold g_some; simp only [anyB, Bool.or_assoc]; rfl], rfl, rfl⟩ dX6_fitsSomewhere_41
  · intro i h_i ih_i
    refine r_iload_n C dX6_fitsSomewhere_4 rfl rfl ?_
    refine r_bipush C (v := 6) dX6_fitsSomewhere_5 rfl ?_
    refine r_icmp_ge C 40 dX6_fitsSomewhere_7 (by decide) (fun c => absurd c (nI_ge (b := 6) h_i (by decide))) (fun _ => ?_)
    apply V.cut 33 (bI (anyB (fun k => g_fits S (nI t) (nI (k / 2)) (nI (k % 2))) (i + 1)))
    · intro K_33
      refine r_iload_n C dX6_fitsSomewhere_10 rfl rfl ?_
      refine r_if_ne C 28 dX6_fitsSomewhere_11 (by decide) (fun c_11 => ?_) (fun c_11 => ?_)
      · have c_11 := bI_t c_11
        refine r_iconst C (v := 1) dX6_fitsSomewhere_28 rfl ?_
        refine r_goto C 33 dX6_fitsSomewhere_29 (by decide) ?_
        refine V.st0 (show _ = (bI (anyB (fun k => g_fits S (nI t) (nI (k / 2)) (nI (k % 2))) (i + 1))) from by show _ = bI (anyB (fun k => g_fits S (nI t) (nI (k / 2)) (nI (k % 2))) i || (fun k => g_fits S (nI t) (nI (k / 2)) (nI (k % 2))) i); simp [c_11, bI]) ?_
        exact K_33
      · have c_11 := bI_f c_11
        refine r_aload_n C dX6_fitsSomewhere_14 rfl rfl ?_
        refine r_iload_n C dX6_fitsSomewhere_15 rfl rfl ?_
        refine r_iload_n C dX6_fitsSomewhere_16 rfl rfl ?_
        refine r_iconst C (v := 2) dX6_fitsSomewhere_17 rfl ?_
        refine r_idiv C dX6_fitsSomewhere_18 (by decide) ?_
        refine V.st0 ((dv2 i (by omega)).1) ?_
        refine r_iload_n C dX6_fitsSomewhere_19 rfl rfl ?_
        refine r_iconst C (v := 2) dX6_fitsSomewhere_20 rfl ?_
        refine r_irem C dX6_fitsSomewhere_21 (by decide) ?_
        refine V.st0 ((dv2 i (by omega)).2) ?_
        refine r_cVi C (c_X6_fits (t := t) (r := i / 2) (d := i % 2) w rfl ht (by omega) (by omega)) lk_X6_76 rfl (MA_o w) rfl rfl ⟨(Nat.le_of_ble_eq_true rfl), (Nat.le_of_ble_eq_true rfl), (Nat.le_of_ble_eq_true rfl), (Nat.le_of_ble_eq_true rfl), (Nat.le_of_ble_eq_true rfl)⟩ dX6_fitsSomewhere_22 ?_
        refine r_if_eq C 32 dX6_fitsSomewhere_25 (by decide) (fun c_25 => ?_) (fun c_25 => ?_)
        · have c_25 := bI_f c_25
          refine r_iconst C (v := 0) dX6_fitsSomewhere_32 rfl ?_
          refine V.st0 (show _ = (bI (anyB (fun k => g_fits S (nI t) (nI (k / 2)) (nI (k % 2))) (i + 1))) from by show _ = bI (anyB (fun k => g_fits S (nI t) (nI (k / 2)) (nI (k % 2))) i || (fun k => g_fits S (nI t) (nI (k / 2)) (nI (k % 2))) i); simp [c_11, c_25, bI]) ?_
          exact K_33
        · have c_25 := bI_t c_25
          refine r_iconst C (v := 1) dX6_fitsSomewhere_28 rfl ?_
          refine r_goto C 33 dX6_fitsSomewhere_29 (by decide) ?_
          refine V.st0 (show _ = (bI (anyB (fun k => g_fits S (nI t) (nI (k / 2)) (nI (k % 2))) (i + 1))) from by show _ = bI (anyB (fun k => g_fits S (nI t) (nI (k / 2)) (nI (k % 2))) i || (fun k => g_fits S (nI t) (nI (k / 2)) (nI (k % 2))) i); simp [c_11, c_25, bI]) ?_
          exact K_33
    · skip
      refine r_istore_n C dX6_fitsSomewhere_33 rfl (by decide) ?_
      refine r_iinc C (v := 1) dX6_fitsSomewhere_34 rfl rfl (by decide) ?_
      refine r_goto C 4 dX6_fitsSomewhere_37 (by decide) ?_
      refine V.sub [(0, .ref mo), (1, .int (nI t)), (2, .int (bI (anyB (fun k => g_fits S (nI t) (nI (k / 2)) (nI (k % 2))) (i + 1)))), (3, .int (nI (i + 1)))] ⟨rfl, rfl, rfl, by rw [← nI_1 i]; rfl, trivial⟩ ?_
      exact ih_i

set_option maxHeartbeats 800000 in
set_option maxRecDepth 100000 in
theorem c_X6_advised {G : ga_} {l : Launch} {h : HP} {sz : Nat} {mo : Nat} {S A : gS} {dg : Int64}  (w : MA G h mo S A dg)  (hb : nB S) : Mf G l yX6_advised cX6_advised 7 (some .int) 3 68 0 0 [.ref mo] h sz (some (.int (m_adv S))) h sz := by
  refine Mg.ofV [(0, .ref mo)] (by decide) (Nat.le_of_ble_eq_true rfl) rfl ?_
  intro p e s m args below meth c C
  rcases hb.mv with hm | ⟨q, hm4, hm⟩
  · skip
    refine r_iconst C (v := -1) dX6_advised_0 rfl ?_
    refine r_istore_n C dX6_advised_1 rfl (by decide) ?_
    refine r_iconst C (v := 0) dX6_advised_2 rfl ?_
    refine r_istore_n C dX6_advised_3 rfl (by decide) ?_
    refine r_iconst C (v := 0) dX6_advised_4 rfl ?_
    refine r_istore_n C dX6_advised_5 rfl (by decide) ?_
    refine r_aload_n C dX6_advised_6 rfl rfl ?_
    refine r_get C (j := 1) rfl in_X6 (MA_o w) (by decide) fl_X6_7 rfl rfl dX6_advised_7 ?_
    refine r_sipush C (v := 342) dX6_advised_10 rfl ?_
    refine r_iald C (MA_s w) (vp_in_nI (n := 342) (by decide) (by decide)) dX6_advised_13 ?_
    refine V.st0 (en_sc1 _) ?_
    refine r_iconst C (v := -1) dX6_advised_14 rfl ?_
    refine r_icmp_eq C 155 dX6_advised_15 (by decide) (fun _ => ?_) (fun c => absurd hm c)
    refine r_iload_n C dX6_advised_155 rfl rfl ?_
    exact r_iret C rfl (Nat.le_of_ble_eq_true rfl) (Nat.le_of_ble_eq_true rfl) ⟨by unfold m_adv g_over; rw [decide_eq_true hm]; rfl, rfl, rfl⟩ dX6_advised_156
  · obtain ⟨k, hk28, hk, hk2⟩ := hb.hd hm4
    refine r_iconst C (v := -1) dX6_advised_0 rfl ?_
    refine r_istore_n C dX6_advised_1 rfl (by decide) ?_
    refine r_iconst C (v := 0) dX6_advised_2 rfl ?_
    refine r_istore_n C dX6_advised_3 rfl (by decide) ?_
    refine r_iconst C (v := 0) dX6_advised_4 rfl ?_
    refine r_istore_n C dX6_advised_5 rfl (by decide) ?_
    refine V.sub [(0, .ref mo), (1, .int (m_fb S 0).1), (2, .int (m_fb S 0).2), (3, .int (nI 0))] ⟨rfl, rfl, rfl, rfl, trivial⟩ ?_
    refine down_ (P := fun i => V p l e ⟨3, 0, 0, 68⟩ s m args below meth c G 7 (Qg G below args s 0 0 (fun v1 h1 s1 => v1 = (some (.int (m_adv S))) ∧ h1 = h ∧ s1 = sz)) h sz 0 0 6 [(0, .ref mo), (1, .int (m_fb S i).1), (2, .int (m_fb S i).2), (3, .int (nI i))] []) (k) ?_ ?_
    · refine r_aload_n C dX6_advised_6 rfl rfl ?_
      refine r_get C (j := 1) rfl in_X6 (MA_o w) (by decide) fl_X6_7 rfl rfl dX6_advised_7 ?_
      refine r_sipush C (v := 342) dX6_advised_10 rfl ?_
      refine r_iald C (MA_s w) (vp_in_nI (n := 342) (by decide) (by decide)) dX6_advised_13 ?_
      refine V.st0 (en_sc1 _) ?_
      refine V.st0 (hm) ?_
      refine r_iconst C (v := -1) dX6_advised_14 rfl ?_
      refine r_icmp_eq C 155 dX6_advised_15 (by decide) (fun c => absurd c (nI_ne1 (by omega))) (fun _ => ?_)
      refine r_iload_n C dX6_advised_18 rfl rfl ?_
      refine r_aload_n C dX6_advised_19 rfl rfl ?_
      refine r_get C (j := 1) rfl in_X6 (MA_o w) (by decide) fl_X6_7 rfl rfl dX6_advised_20 ?_
      refine r_sipush C (v := 337) dX6_advised_23 rfl ?_
      refine r_aload_n C dX6_advised_26 rfl rfl ?_
      refine r_get C (j := 1) rfl in_X6 (MA_o w) (by decide) fl_X6_7 rfl rfl dX6_advised_27 ?_
      refine r_sipush C (v := 342) dX6_advised_30 rfl ?_
      refine r_iald C (MA_s w) (vp_in_nI (n := 342) (by decide) (by decide)) dX6_advised_33 ?_
      refine V.st0 (en_sc1 _) ?_
      refine V.st0 (hm) ?_
      refine r_iadd C dX6_advised_34 ?_
      refine V.st0 (nI_add (337) (q)) ?_
      refine r_iald C (MA_s w) (vp_in_nI (by omega) (by decide)) dX6_advised_35 ?_
      refine V.st0 (en_tal0 (p := q) (by omega) _) ?_
      refine V.st0 (hk) ?_
      refine r_icmp_ge C 155 dX6_advised_36 (by decide) (fun _ => ?_) (fun c => absurd (nI_le (Nat.le_refl k) (by omega)) c)
      refine r_iload_n C dX6_advised_155 rfl rfl ?_
      exact r_iret C rfl (Nat.le_of_ble_eq_true rfl) (Nat.le_of_ble_eq_true rfl) ⟨by unfold m_adv g_over; rw [decide_eq_false (show ¬ S 5 1 = -1 by rw [hm]; exact nI_ne1 (by omega)), hm, show g_held S (nI q) = nI k from hk, nI_clamp (by omega)]; rfl, rfl, rfl⟩ dX6_advised_156
    · intro i h_i ih_i
      refine r_aload_n C dX6_advised_6 rfl rfl ?_
      refine r_get C (j := 1) rfl in_X6 (MA_o w) (by decide) fl_X6_7 rfl rfl dX6_advised_7 ?_
      refine r_sipush C (v := 342) dX6_advised_10 rfl ?_
      refine r_iald C (MA_s w) (vp_in_nI (n := 342) (by decide) (by decide)) dX6_advised_13 ?_
      refine V.st0 (en_sc1 _) ?_
      refine V.st0 (hm) ?_
      refine r_iconst C (v := -1) dX6_advised_14 rfl ?_
      refine r_icmp_eq C 155 dX6_advised_15 (by decide) (fun c => absurd c (nI_ne1 (by omega))) (fun _ => ?_)
      refine r_iload_n C dX6_advised_18 rfl rfl ?_
      refine r_aload_n C dX6_advised_19 rfl rfl ?_
      refine r_get C (j := 1) rfl in_X6 (MA_o w) (by decide) fl_X6_7 rfl rfl dX6_advised_20 ?_
      refine r_sipush C (v := 337) dX6_advised_23 rfl ?_
      refine r_aload_n C dX6_advised_26 rfl rfl ?_
      refine r_get C (j := 1) rfl in_X6 (MA_o w) (by decide) fl_X6_7 rfl rfl dX6_advised_27 ?_
      refine r_sipush C (v := 342) dX6_advised_30 rfl ?_
      refine r_iald C (MA_s w) (vp_in_nI (n := 342) (by decide) (by decide)) dX6_advised_33 ?_
      refine V.st0 (en_sc1 _) ?_
      refine V.st0 (hm) ?_
      refine r_iadd C dX6_advised_34 ?_
      refine V.st0 (nI_add (337) (q)) ?_
      refine r_iald C (MA_s w) (vp_in_nI (by omega) (by decide)) dX6_advised_35 ?_
      refine V.st0 (en_tal0 (p := q) (by omega) _) ?_
      refine V.st0 (hk) ?_
      refine r_icmp_ge C 155 dX6_advised_36 (by decide) (fun c => absurd c (nI_ge h_i (by omega))) (fun _ => ?_)
      refine r_aload_n C dX6_advised_39 rfl rfl ?_
      refine r_get C (j := 1) rfl in_X6 (MA_o w) (by decide) fl_X6_7 rfl rfl dX6_advised_40 ?_
      refine r_aload_n C dX6_advised_43 rfl rfl ?_
      refine r_get C (j := 1) rfl in_X6 (MA_o w) (by decide) fl_X6_7 rfl rfl dX6_advised_44 ?_
      refine r_sipush C (v := 342) dX6_advised_47 rfl ?_
      refine r_iald C (MA_s w) (vp_in_nI (n := 342) (by decide) (by decide)) dX6_advised_50 ?_
      refine V.st0 (en_sc1 _) ?_
      refine V.st0 (hm) ?_
      refine r_iload_n C dX6_advised_51 rfl rfl ?_
      refine r_cSi C (c_X6_inHand (a := q) (b := i)) lk_X6_48 rfl rfl ⟨(Nat.le_of_ble_eq_true rfl), (Nat.le_of_ble_eq_true rfl), (Nat.le_of_ble_eq_true rfl), (Nat.le_of_ble_eq_true rfl), (Nat.le_of_ble_eq_true rfl)⟩ dX6_advised_52 ?_
      refine r_iald C (MA_s w) (vp_in_nI (by omega) (by decide)) dX6_advised_55 ?_
      refine V.st0 (en_ih (p := q) (i := i) (by omega) (by omega) _) ?_
      obtain ⟨t, ht, et⟩ := hk2 i h_i
      have hT : g_hand S (S 5 1) (nI i) = nI t := by rw [hm]; exact et
      refine V.st0 (et) ?_
      refine r_istore C dX6_advised_56 (by decide) ?_
      refine r_sipush C (v := 1000) dX6_advised_58 rfl ?_
      refine r_aload_n C dX6_advised_61 rfl rfl ?_
      refine r_get C (j := 1) rfl in_X6 (MA_o w) (by decide) fl_X6_7 rfl rfl dX6_advised_62 ?_
      refine r_iload C dX6_advised_65 rfl ?_
      refine r_iconst C (v := 0) dX6_advised_67 rfl ?_
      refine r_cSi C (c_X6_of (a := t) (b := 0)) lk_X6_44 rfl rfl ⟨(Nat.le_of_ble_eq_true rfl), (Nat.le_of_ble_eq_true rfl), (Nat.le_of_ble_eq_true rfl), (Nat.le_of_ble_eq_true rfl), (Nat.le_of_ble_eq_true rfl)⟩ dX6_advised_68 ?_
      refine r_iald C (MA_s w) (vp_in_nI (by omega) (by decide)) dX6_advised_71 ?_
      refine V.st0 (en_of (t := t) (w := 0) (wi := 0) (by omega) (by omega) rfl _) ?_
      refine r_aload_n C dX6_advised_72 rfl rfl ?_
      refine r_get C (j := 1) rfl in_X6 (MA_o w) (by decide) fl_X6_7 rfl rfl dX6_advised_73 ?_
      refine r_iload C dX6_advised_76 rfl ?_
      refine r_iconst C (v := 1) dX6_advised_78 rfl ?_
      refine r_cSi C (c_X6_of (a := t) (b := 1)) lk_X6_44 rfl rfl ⟨(Nat.le_of_ble_eq_true rfl), (Nat.le_of_ble_eq_true rfl), (Nat.le_of_ble_eq_true rfl), (Nat.le_of_ble_eq_true rfl), (Nat.le_of_ble_eq_true rfl)⟩ dX6_advised_79 ?_
      refine r_iald C (MA_s w) (vp_in_nI (by omega) (by decide)) dX6_advised_82 ?_
      refine V.st0 (en_of (t := t) (w := 1) (wi := 1) (by omega) (by omega) rfl _) ?_
      refine r_iadd C dX6_advised_83 ?_
      refine r_imul C dX6_advised_84 ?_
      refine r_aload_n C dX6_advised_85 rfl rfl ?_
      refine r_get C (j := 1) rfl in_X6 (MA_o w) (by decide) fl_X6_7 rfl rfl dX6_advised_86 ?_
      refine r_iload C dX6_advised_89 rfl ?_
      refine r_iconst C (v := 4) dX6_advised_91 rfl ?_
      refine r_cSi C (c_X6_of (a := t) (b := 4)) lk_X6_44 rfl rfl ⟨(Nat.le_of_ble_eq_true rfl), (Nat.le_of_ble_eq_true rfl), (Nat.le_of_ble_eq_true rfl), (Nat.le_of_ble_eq_true rfl), (Nat.le_of_ble_eq_true rfl)⟩ dX6_advised_92 ?_
      refine r_iald C (MA_s w) (vp_in_nI (by omega) (by decide)) dX6_advised_95 ?_
      refine V.st0 (en_of (t := t) (w := 4) (wi := 4) (by omega) (by omega) rfl _) ?_
      refine r_iadd C dX6_advised_96 ?_
      refine r_istore C dX6_advised_97 (by decide) ?_
      refine r_aload_n C dX6_advised_99 rfl rfl ?_
      refine r_iload C dX6_advised_100 rfl ?_
      refine r_cVi C (c_X6_fitsSomewhere (t := t) w ht) lk_X6_191 rfl (MA_o w) rfl rfl ⟨(Nat.le_of_ble_eq_true rfl), (Nat.le_of_ble_eq_true rfl), (Nat.le_of_ble_eq_true rfl), (Nat.le_of_ble_eq_true rfl), (Nat.le_of_ble_eq_true rfl)⟩ dX6_advised_102 ?_
      apply V.cut 124 (bI (m_as S (m_fb S i) i))
      · intro K_124
        refine r_if_eq C 123 dX6_advised_105 (by decide) (fun c_105 => ?_) (fun c_105 => ?_)
        · have c_105 := bI_f c_105
          refine r_iconst C (v := 0) dX6_advised_123 rfl ?_
          refine V.st0 (show _ = (bI (m_as S (m_fb S i) i)) from by unfold m_as; rw [hT]; unfold m_its g_grades; simp [bI, c_105]) ?_
          exact K_124
        · have c_105 := bI_t c_105
          refine r_iload_n C dX6_advised_108 rfl rfl ?_
          refine r_iconst C (v := -1) dX6_advised_109 rfl ?_
          refine r_icmp_eq C 119 dX6_advised_110 (by decide) (fun c_110 => ?_) (fun c_110 => ?_)
          · skip
            refine r_iconst C (v := 1) dX6_advised_119 rfl ?_
            refine r_goto C 124 dX6_advised_120 (by decide) ?_
            refine V.st0 (show _ = (bI (m_as S (m_fb S i) i)) from by unfold m_as; rw [hT]; unfold m_its g_grades; simp [bI, c_105, c_110]) ?_
            exact K_124
          · skip
            refine r_iload C dX6_advised_113 rfl ?_
            refine r_iload_n C dX6_advised_115 rfl rfl ?_
            refine r_icmp_le C 123 dX6_advised_116 (by decide) (fun c_116 => ?_) (fun c_116 => ?_)
            · have e_116 := i32_nlt c_116
              refine r_iconst C (v := 0) dX6_advised_123 rfl ?_
              refine V.st0 (show _ = (bI (m_as S (m_fb S i) i)) from by unfold m_as; rw [hT]; unfold m_its g_grades; simp [bI, c_105, c_110, c_116, e_116]) ?_
              exact K_124
            · have e_116 := i32_lt c_116
              refine r_iconst C (v := 1) dX6_advised_119 rfl ?_
              refine r_goto C 124 dX6_advised_120 (by decide) ?_
              refine V.st0 (show _ = (bI (m_as S (m_fb S i) i)) from by unfold m_as; rw [hT]; unfold m_its g_grades; simp [bI, c_105, c_110, c_116, e_116]) ?_
              exact K_124
      · skip
        refine r_istore C dX6_advised_124 (by decide) ?_
        refine r_iload C dX6_advised_126 rfl ?_
        apply V.cut 136 ((m_fb S (i + 1)).1)
        · intro K_136
          refine r_if_eq C 135 dX6_advised_128 (by decide) (fun c_128 => ?_) (fun c_128 => ?_)
          · have c_128 := bI_f c_128
            refine r_iload_n C dX6_advised_135 rfl rfl ?_
            refine V.st0 (show _ = ((m_fb S (i + 1)).1) from by simp [m_fb, c_128]) ?_
            exact K_136
          · have c_128 := bI_t c_128
            refine r_iload_n C dX6_advised_131 rfl rfl ?_
            refine r_goto C 136 dX6_advised_132 (by decide) ?_
            refine V.st0 (show _ = ((m_fb S (i + 1)).1) from by simp [m_fb, c_128]) ?_
            exact K_136
        · skip
          refine r_istore_n C dX6_advised_136 rfl (by decide) ?_
          refine r_iload C dX6_advised_137 rfl ?_
          apply V.cut 148 ((m_fb S (i + 1)).2)
          · intro K_148
            refine r_if_eq C 147 dX6_advised_139 (by decide) (fun c_139 => ?_) (fun c_139 => ?_)
            · have c_139 := bI_f c_139
              refine r_iload_n C dX6_advised_147 rfl rfl ?_
              refine V.st0 (show _ = ((m_fb S (i + 1)).2) from by simp [m_fb, c_139, hT, m_its, g_grades]) ?_
              exact K_148
            · have c_139 := bI_t c_139
              refine r_iload C dX6_advised_142 rfl ?_
              refine r_goto C 148 dX6_advised_144 (by decide) ?_
              refine V.st0 (show _ = ((m_fb S (i + 1)).2) from by simp [m_fb, c_139, hT, m_its, g_grades]) ?_
              exact K_148
          · skip
            refine r_istore_n C dX6_advised_148 rfl (by decide) ?_
            refine r_iinc C (v := 1) dX6_advised_149 rfl rfl (by decide) ?_
            refine r_goto C 6 dX6_advised_152 (by decide) ?_
            refine V.sub [(0, .ref mo), (1, .int (m_fb S (i + 1)).1), (2, .int (m_fb S (i + 1)).2), (3, .int (nI (i + 1)))] ⟨rfl, rfl, rfl, by rw [← nI_1 i]; rfl, trivial⟩ ?_
            exact ih_i


set_option maxHeartbeats 800000 in
set_option maxRecDepth 100000 in
theorem c_X6_halvesOf {G : ga_} {l : Launch} {h : HP} {sz : Nat} {mo : Nat} {S A : gS} {dg : Int64} {a : Int32}  (w : MA G h mo S A dg)   : Mf G l yX6_halvesOf cX6_halvesOf 4 (some .int) 1 21 0 0 [.ref mo, .int a] h sz (some (.int (g_half S a))) h sz := by
  refine Mg.ofV [(0, .ref mo), (1, .int a)] (by decide) (Nat.le_of_ble_eq_true rfl) rfl ?_
  intro p e s m args below meth c C
  refine r_iconst C (v := 0) dX6_halvesOf_0 rfl ?_
  refine r_istore_n C dX6_halvesOf_1 rfl (by decide) ?_
  refine r_iconst C (v := 0) dX6_halvesOf_2 rfl ?_
  refine r_istore_n C dX6_halvesOf_3 rfl (by decide) ?_
  refine V.sub [(0, .ref mo), (1, .int a), (2, .int (l_sum (fun k => bI (m_hv S a k)) 0)), (3, .int (nI 0))] ⟨rfl, rfl, rfl, rfl, trivial⟩ ?_
  refine down_ (P := fun i => V p l e ⟨1, 0, 0, 21⟩ s m args below meth c G 4 (Qg G below args s 0 0 (fun v1 h1 s1 => v1 = (some (.int (g_half S a))) ∧ h1 = h ∧ s1 = sz)) h sz 0 0 4 [(0, .ref mo), (1, .int a), (2, .int (l_sum (fun k => bI (m_hv S a k)) i)), (3, .int (nI i))] []) (56) ?_ ?_
  · refine r_iload_n C dX6_halvesOf_4 rfl rfl ?_
    refine r_bipush C (v := 56) dX6_halvesOf_5 rfl ?_
    refine r_icmp_ge C 58 dX6_halvesOf_7 (by decide) (fun _ => ?_) (fun c => absurd (by decide) c)
    refine r_iload_n C dX6_halvesOf_58 rfl rfl ?_
    exact r_iret C rfl (Nat.le_of_ble_eq_true rfl) (Nat.le_of_ble_eq_true rfl) ⟨by rw [← m_half], rfl, rfl⟩ dX6_halvesOf_59
  · intro i h_i ih_i
    refine r_iload_n C dX6_halvesOf_4 rfl rfl ?_
    refine r_bipush C (v := 56) dX6_halvesOf_5 rfl ?_
    refine r_icmp_ge C 58 dX6_halvesOf_7 (by decide) (fun c => absurd c (nI_ge (b := 56) h_i (by decide))) (fun _ => ?_)
    refine r_iload_n C dX6_halvesOf_10 rfl rfl ?_
    apply V.cut 50 (bI (m_hv S a i))
    · intro K_50
      refine r_aload_n C dX6_halvesOf_11 rfl rfl ?_
      refine r_get C (j := 1) rfl in_X6 (MA_o w) (by decide) fl_X6_7 rfl rfl dX6_halvesOf_12 ?_
      refine r_iload_n C dX6_halvesOf_15 rfl rfl ?_
      refine r_iconst C (v := 2) dX6_halvesOf_16 rfl ?_
      refine r_idiv C dX6_halvesOf_17 (by decide) ?_
      refine V.st0 ((dv2 i h_i).1) ?_
      refine r_iconst C (v := 2) dX6_halvesOf_18 rfl ?_
      refine r_cSi C (c_X6_of (a := (i / 2)) (b := 2)) lk_X6_44 rfl rfl ⟨(Nat.le_of_ble_eq_true rfl), (Nat.le_of_ble_eq_true rfl), (Nat.le_of_ble_eq_true rfl), (Nat.le_of_ble_eq_true rfl), (Nat.le_of_ble_eq_true rfl)⟩ dX6_halvesOf_19 ?_
      refine r_iald C (MA_s w) (vp_in_nI (by omega) (by decide)) dX6_halvesOf_22 ?_
      refine V.st0 (en_of (t := (i / 2)) (w := 2) (wi := 2) (by omega) (by omega) rfl _) ?_
      refine r_iconst C (v := 2) dX6_halvesOf_23 rfl ?_
      refine r_icmp_eq C 49 dX6_halvesOf_24 (by decide) (fun c_24 => ?_) (fun c_24 => ?_)
      · skip
        refine r_iconst C (v := 0) dX6_halvesOf_49 rfl ?_
        refine V.st0 (show _ = (bI (m_hv S a i)) from by simp [bI, m_hv, c_24]) ?_
        exact K_50
      · skip
        refine r_aload_n C dX6_halvesOf_27 rfl rfl ?_
        refine r_get C (j := 1) rfl in_X6 (MA_o w) (by decide) fl_X6_7 rfl rfl dX6_halvesOf_28 ?_
        refine r_iload_n C dX6_halvesOf_31 rfl rfl ?_
        refine r_iconst C (v := 2) dX6_halvesOf_32 rfl ?_
        refine r_idiv C dX6_halvesOf_33 (by decide) ?_
        refine V.st0 ((dv2 i h_i).1) ?_
        refine r_iload_n C dX6_halvesOf_34 rfl rfl ?_
        refine r_iconst C (v := 2) dX6_halvesOf_35 rfl ?_
        refine r_irem C dX6_halvesOf_36 (by decide) ?_
        refine V.st0 ((dv2 i h_i).2) ?_
        refine r_cSi C (c_X6_of (a := (i / 2)) (b := (i % 2))) lk_X6_44 rfl rfl ⟨(Nat.le_of_ble_eq_true rfl), (Nat.le_of_ble_eq_true rfl), (Nat.le_of_ble_eq_true rfl), (Nat.le_of_ble_eq_true rfl), (Nat.le_of_ble_eq_true rfl)⟩ dX6_halvesOf_37 ?_
        refine r_iald C (MA_s w) (vp_in_nI (by omega) (by decide)) dX6_halvesOf_40 ?_
        refine V.st0 (en_of (t := (i / 2)) (w := (i % 2)) (wi := nI ((i % 2))) (by omega) (by omega) rfl _) ?_
        refine r_iload_n C dX6_halvesOf_41 rfl rfl ?_
        refine r_icmp_ne C 49 dX6_halvesOf_42 (by decide) (fun c_42 => ?_) (fun c_42 => ?_)
        · skip
          refine r_iconst C (v := 0) dX6_halvesOf_49 rfl ?_
          refine V.st0 (show _ = (bI (m_hv S a i)) from by simp [bI, m_hv, c_24, c_42]) ?_
          exact K_50
        · skip
          refine r_iconst C (v := 1) dX6_halvesOf_45 rfl ?_
          refine r_goto C 50 dX6_halvesOf_46 (by decide) ?_
          refine V.st0 (show _ = (bI (m_hv S a i)) from by simp [bI, m_hv, c_24, c_42]) ?_
          exact K_50
    · skip
      refine r_iadd C dX6_halvesOf_50 ?_
      refine r_istore_n C dX6_halvesOf_51 rfl (by decide) ?_
      refine r_iinc C (v := 1) dX6_halvesOf_52 rfl rfl (by decide) ?_
      refine r_goto C 4 dX6_halvesOf_55 (by decide) ?_
      refine V.sub [(0, .ref mo), (1, .int a), (2, .int (l_sum (fun k => bI (m_hv S a k)) (i + 1))), (3, .int (nI (i + 1)))] ⟨rfl, rfl, rfl, by rw [← nI_1 i]; rfl, trivial⟩ ?_
      exact ih_i

set_option maxHeartbeats 800000 in
set_option maxRecDepth 100000 in
theorem c_X6_commonestGrade {G : ga_} {l : Launch} {h : HP} {sz : Nat} {mo : Nat} {S A : gS} {dg : Int64}  (w : MA G h mo S A dg)   : Mf G l yX6_commonestGrade cX6_commonestGrade 3 (some .int) 2 44 0 0 [.ref mo] h sz (some (.int (g_cl S 6))) h sz := by
  refine Mg.ofV [(0, .ref mo)] (by decide) (Nat.le_of_ble_eq_true rfl) rfl ?_
  intro p e s m args below meth c C
  refine r_iconst C (v := 0) dX6_commonestGrade_0 rfl ?_
  refine r_istore_n C dX6_commonestGrade_1 rfl (by decide) ?_
  refine r_iconst C (v := 1) dX6_commonestGrade_2 rfl ?_
  refine r_istore_n C dX6_commonestGrade_3 rfl (by decide) ?_
  refine V.sub [(0, .ref mo), (1, .int (g_cl S 0)), (2, .int (nI (0 + 1)))] ⟨rfl, rfl, rfl, trivial⟩ ?_
  refine down_ (P := fun i => V p l e ⟨2, 0, 0, 44⟩ s m args below meth c G 3 (Qg G below args s 0 0 (fun v1 h1 s1 => v1 = (some (.int (g_cl S 6))) ∧ h1 = h ∧ s1 = sz)) h sz 0 0 4 [(0, .ref mo), (1, .int (g_cl S i)), (2, .int (nI (i + 1)))] []) (6) ?_ ?_
  · refine r_iload_n C dX6_commonestGrade_4 rfl rfl ?_
    refine r_bipush C (v := 7) dX6_commonestGrade_5 rfl ?_
    refine r_icmp_ge C 35 dX6_commonestGrade_7 (by decide) (fun _ => ?_) (fun c => absurd (by decide) c)
    refine r_iload_n C dX6_commonestGrade_35 rfl rfl ?_
    exact r_iret C rfl (Nat.le_of_ble_eq_true rfl) (Nat.le_of_ble_eq_true rfl) ⟨rfl, rfl, rfl⟩ dX6_commonestGrade_36
  · intro i h_i ih_i
    refine r_iload_n C dX6_commonestGrade_4 rfl rfl ?_
    refine r_bipush C (v := 7) dX6_commonestGrade_5 rfl ?_
    refine r_icmp_ge C 35 dX6_commonestGrade_7 (by decide) (fun c => absurd c (nI_ge (b := 7) (by omega) (by decide))) (fun _ => ?_)
    refine r_aload_n C dX6_commonestGrade_10 rfl rfl ?_
    refine r_iload_n C dX6_commonestGrade_11 rfl rfl ?_
    refine r_cVi C (c_X6_halvesOf w) lk_X6_197 rfl (MA_o w) rfl rfl ⟨(Nat.le_of_ble_eq_true rfl), (Nat.le_of_ble_eq_true rfl), (Nat.le_of_ble_eq_true rfl), (Nat.le_of_ble_eq_true rfl), (Nat.le_of_ble_eq_true rfl)⟩ dX6_commonestGrade_12 ?_
    refine r_aload_n C dX6_commonestGrade_15 rfl rfl ?_
    refine r_iload_n C dX6_commonestGrade_16 rfl rfl ?_
    refine r_cVi C (c_X6_halvesOf w) lk_X6_197 rfl (MA_o w) rfl rfl ⟨(Nat.le_of_ble_eq_true rfl), (Nat.le_of_ble_eq_true rfl), (Nat.le_of_ble_eq_true rfl), (Nat.le_of_ble_eq_true rfl), (Nat.le_of_ble_eq_true rfl)⟩ dX6_commonestGrade_17 ?_
    apply V.cut 28 (g_cl S (i + 1))
    · intro K_28
      refine r_icmp_lt C 27 dX6_commonestGrade_20 (by decide) (fun c_20 => ?_) (fun c_20 => ?_)
      · have e_20 := i32_nle c_20
        refine r_iload_n C dX6_commonestGrade_27 rfl rfl ?_
        refine V.st0 (show _ = (g_cl S (i + 1)) from by simp only [g_cl]; rw [if_pos c_20]) ?_
        exact K_28
      · have e_20 := i32_le c_20
        refine r_iload_n C dX6_commonestGrade_23 rfl rfl ?_
        refine r_goto C 28 dX6_commonestGrade_24 (by decide) ?_
        refine V.st0 (show _ = (g_cl S (i + 1)) from by simp only [g_cl]; rw [if_neg c_20]) ?_
        exact K_28
    · skip
      refine r_istore_n C dX6_commonestGrade_28 rfl (by decide) ?_
      refine r_iinc C (v := 1) dX6_commonestGrade_29 rfl rfl (by decide) ?_
      refine r_goto C 4 dX6_commonestGrade_32 (by decide) ?_
      refine V.sub [(0, .ref mo), (1, .int (g_cl S (i + 1))), (2, .int (nI ((i + 1) + 1)))] ⟨rfl, rfl, by rw [← nI_1 (i + 1)]; rfl, trivial⟩ ?_
      exact ih_i

set_option maxHeartbeats 800000 in
set_option maxRecDepth 100000 in
theorem c_X6_share {G : ga_} {l : Launch} {h : HP} {sz : Nat} {mo : Nat} {S A : gS} {dg : Int64}  (w : MA G h mo S A dg)  (hb : nB S) (hz : vf_n64 (FP.ddiv (FP.i2d (g_tal S 1)) 4640114991075164160)) : Mf G l yX6_share cX6_share 1 (some .double) 1 21 0 0 [.ref mo] h sz (some (.double (FP.ddiv (FP.i2d (g_tal S 1)) 4640114991075164160))) h sz := by
  refine Mg.ofV [(0, .ref mo)] (by decide) (Nat.le_of_ble_eq_true rfl) rfl ?_
  intro p e s m args below meth c C
  refine r_aload_n C dX6_share_0 rfl rfl ?_
  refine r_sipush C (v := 346) dX6_share_1 rfl ?_
  refine r_cVi C (c_X6_sumOf (a := 346) w (by decide)) lk_X6_167 rfl (MA_o w) rfl rfl ⟨(Nat.le_of_ble_eq_true rfl), (Nat.le_of_ble_eq_true rfl), (Nat.le_of_ble_eq_true rfl), (Nat.le_of_ble_eq_true rfl), (Nat.le_of_ble_eq_true rfl)⟩ dX6_share_4 ?_
  refine V.st0 (tal_m1 hb) ?_
  refine r_i2d C dX6_share_7 ?_
  refine r_ldcd C kd_X6_203 dX6_share_8 ?_
  refine r_ddiv C dX6_share_11 hz ?_
  exact r_dret C rfl (Nat.le_of_ble_eq_true rfl) (Nat.le_of_ble_eq_true rfl) ⟨rfl, rfl, rfl⟩ dX6_share_12

