/-! THE MODEL'S TRAINS -/
def m_ones (x : Int32) : Int32 := l_sum (fun k => (x >>> (nI k &&& 31)) &&& 1) 10
set_option maxRecDepth 100000 in
theorem bit_ok : ∀ c, c < 1024 → ∀ i, i < 10 → ((nI c >>> (nI i &&& 31)) &&& 1) = nI (c / 2 ^ i % 2) := by decide +kernel
theorem sh7_ok : ∀ k, k < 11 → (7 : Int32) <<< (nI k &&& 31) = nI (7 * 2 ^ k) := by decide +kernel
def m_gh (S : gS) (t : Int32) (c b i : Nat) (F : Nat → Int32) (h : Nat) : Nat → Int32 := if c / 2 ^ i % 2 = 0 ∧ tAt 7 196 (S 0) t (nI h) = nI b then upd F (7 * (c ||| 2 ^ i) + (tAt 7 196 (S 0) t (nI (1 - h))).toNatClampNeg) (vp_nar .boolean 1) else F
def m_gl (S : gS) (t : Int32) (c b i : Nat) (F : Nat → Int32) : Nat → Nat → Int32
  | 0 => F
  | h + 1 => m_gh S t c b i (m_gl S t c b i F h) h
def m_go (S : gS) (u : Int32) (c b : Nat) (F : Nat → Int32) : Nat → Nat → Int32
  | 0 => F
  | i + 1 => m_gl S (g_hand S u (nI i)) c b i (m_go S u c b F i) 2
theorem gh_t {S : gS} {t : Int32} {c b i h g : Nat} {F : Nat → Int32} (h1 : c / 2 ^ i % 2 = 0) (h2 : tAt 7 196 (S 0) t (nI h) = nI b) (h3 : tAt 7 196 (S 0) t (nI (1 - h)) = nI g) (hg : g < 7) : m_gh S t c b i F h = upd F (7 * (c ||| 2 ^ i) + g) (vp_nar .boolean 1) := by
  unfold m_gh
  rw [if_pos ⟨h1, h2⟩, h3, nI_clamp (by omega)]
theorem gh_1 {S : gS} {t : Int32} {c b i h : Nat} {F : Nat → Int32} (h1 : ¬ c / 2 ^ i % 2 = 0) : m_gh S t c b i F h = F := if_neg (fun q => h1 q.1)
theorem gh_2 {S : gS} {t : Int32} {c b i h : Nat} {F : Nat → Int32} (h2 : ¬ tAt 7 196 (S 0) t (nI h) = nI b) : m_gh S t c b i F h = F := if_neg (fun q => h2 q.2)
def m_f0 (g : Int32) (F : Nat → Int32) : Nat → Nat → Int32
  | 0 => F
  | i + 1 => upd (m_f0 g F i) i (vp_nar .boolean (bI (decide (nI i = g))))
def m_ts (S : gS) (u : Int32) (c k : Nat) (q : Int32 × (Nat → Int32)) (b : Nat) : Int32 × (Nat → Int32) := if q.2 (7 * c + b) = 0 then q else (if q.1 < m_ones (nI c) then m_ones (nI c) else q.1, m_go S u c b q.2 k)
def m_tb (S : gS) (u : Int32) (c k : Nat) (q : Int32 × (Nat → Int32)) : Nat → Int32 × (Nat → Int32)
  | 0 => q
  | b + 1 => m_ts S u c k (m_tb S u c k q b) b
def m_tr (S : gS) (u : Int32) (k : Nat) (q : Int32 × (Nat → Int32)) : Nat → Int32 × (Nat → Int32)
  | 0 => q
  | c + 1 => m_tb S u c k (m_tr S u k q c) 7
def m_try (S : gS) (u g : Int32) (k : Nat) (F : Nat → Int32) : Int32 × (Nat → Int32) := m_tr S u k (0, m_f0 g F (7 * 2 ^ k)) (2 ^ k)
def m_lo (S : gS) (u g : Int32) (k : Nat) (F : Nat → Int32) : Int32 × (Nat → Int32) := if 10 < k then (-1, F) else m_try S u g k F
def m_wh (S : gS) (u g : Int32) (k : Nat) (F : Nat → Int32) : Int32 := if (m_lo S u g k F).1 = -1 then -1 else if (m_lo S u g k F).1 = nI k then 1 else 0
set_option maxHeartbeats 800000 in
set_option maxRecDepth 100000 in
theorem c_X6_ones {G : ga_} {l : Launch} {h : HP} {sz : Nat} {x : Int32}    : Mf G l yX6_ones cX6_ones 3 (some .int) 0 0 0 0 [.int x] h sz (some (.int (m_ones x))) h sz := by
  refine Mg.ofV [(0, .int x)] (by decide) (Nat.le_of_ble_eq_true rfl) rfl ?_
  intro p e s m args below meth c C
  refine r_iconst C (v := 0) dX6_ones_0 rfl ?_
  refine r_istore_n C dX6_ones_1 rfl (by decide) ?_
  refine r_iconst C (v := 0) dX6_ones_2 rfl ?_
  refine r_istore_n C dX6_ones_3 rfl (by decide) ?_
  refine V.sub [(0, .int x), (1, .int (l_sum (fun k => (x >>> (nI k &&& 31)) &&& 1) 0)), (2, .int (nI 0))] ⟨rfl, rfl, rfl, trivial⟩ ?_
  refine down_ (P := fun i => V p l e ⟨0, 0, 0, 0⟩ s m args below meth c G 3 (Qg G below args s 0 0 (fun v1 h1 s1 => v1 = (some (.int (m_ones x))) ∧ h1 = h ∧ s1 = sz)) h sz 0 0 4 [(0, .int x), (1, .int (l_sum (fun k => (x >>> (nI k &&& 31)) &&& 1) i)), (2, .int (nI i))] []) (10) ?_ ?_
  · refine r_iload_n C dX6_ones_4 rfl rfl ?_
    refine r_bipush C (v := 10) dX6_ones_5 rfl ?_
    refine r_icmp_ge C 24 dX6_ones_7 (by decide) (fun _ => ?_) (fun c => absurd (by decide) c)
    refine r_iload_n C dX6_ones_24 rfl rfl ?_
    exact r_iret C rfl (Nat.le_of_ble_eq_true rfl) (Nat.le_of_ble_eq_true rfl) ⟨rfl, rfl, rfl⟩ dX6_ones_25
  · intro i h_i ih_i
    refine r_iload_n C dX6_ones_4 rfl rfl ?_
    refine r_bipush C (v := 10) dX6_ones_5 rfl ?_
    refine r_icmp_ge C 24 dX6_ones_7 (by decide) (fun c => absurd c (nI_ge (b := 10) h_i (by decide))) (fun _ => ?_)
    refine r_iload_n C dX6_ones_10 rfl rfl ?_
    refine r_iload_n C dX6_ones_11 rfl rfl ?_
    refine r_iload_n C dX6_ones_12 rfl rfl ?_
    refine r_ishr C dX6_ones_13 ?_
    refine r_iconst C (v := 1) dX6_ones_14 rfl ?_
    refine r_iand C dX6_ones_15 ?_
    refine r_iadd C dX6_ones_16 ?_
    refine r_istore_n C dX6_ones_17 rfl (by decide) ?_
    refine r_iinc C (v := 1) dX6_ones_18 rfl rfl (by decide) ?_
    refine r_goto C 4 dX6_ones_21 (by decide) ?_
    refine V.sub [(0, .int x), (1, .int (l_sum (fun k => (x >>> (nI k &&& 31)) &&& 1) (i + 1))), (2, .int (nI (i + 1)))] ⟨rfl, rfl, (by rw [← nI_1 i]; rfl), trivial⟩ ?_
    exact ih_i

set_option maxHeartbeats 800000 in
set_option maxRecDepth 100000 in
theorem c_X6_goesOn {G : ga_} {l : Launch} {h : HP} {sz : Nat} {mo : Nat} {S A : gS} {dg : Int64} {u : Nat} {v : Nat} {b : Nat} {k : Nat}  (w : MA G h mo S A dg)  (hp : u < 4) (hk : tAt 4 16 (S 2) (nI u) 0 = nI k) (hk2 : ∀ i, i < k → ∃ t, t < 28 ∧ tAt 28 112 (S 1) (nI u) (nI i) = nI t) (hb : nB S) (hk10 : k ≤ 10) (hc : v < 1024) : Mf G l yX6_goesOn cX6_goesOn 7 none 1 21 0 0 [.ref mo, .int (nI u), .int (nI v), .int (nI b)] h sz none (pM G h mo (S) (gu A 4 (m_go S (nI u) v b (A 4) k)) (dg)) sz := by
  refine Mg.ofV [(0, .ref mo), (1, .int (nI u)), (2, .int (nI v)), (3, .int (nI b))] (by decide) (Nat.le_of_ble_eq_true rfl) rfl ?_
  intro p e s m args below meth c C
  refine V.heap (pM_id w).symm ?_
  refine r_iconst C (v := 0) dX6_goesOn_0 rfl ?_
  refine r_istore C dX6_goesOn_1 (by decide) ?_
  refine V.heap (h2 := pM G h mo S (gu A 4 (m_go S (nI u) v b (A 4) 0)) dg) (congrArg (fun X => pM G h mo S X dg) gu_id.symm) ?_
  refine V.sub [(0, .ref mo), (1, .int (nI u)), (2, .int (nI v)), (3, .int (nI b)), (4, .int (nI 0))] ⟨rfl, rfl, rfl, rfl, rfl, trivial⟩ ?_
  refine down_ (P := fun i => V p l e ⟨1, 0, 0, 21⟩ s m args below meth c G 7 (Qg G below args s 0 0 (fun v1 h1 s1 => v1 = none ∧ h1 = (pM G h mo (S) (gu A 4 (m_go S (nI u) v b (A 4) k)) (dg)) ∧ s1 = sz)) (pM G h mo S (gu A 4 (m_go S (nI u) v b (A 4) i)) dg) sz 0 0 3 [(0, .ref mo), (1, .int (nI u)), (2, .int (nI v)), (3, .int (nI b)), (4, .int (nI i))] []) (k) ?_ ?_
  · refine r_iload C dX6_goesOn_3 rfl ?_
    refine r_aload_n C dX6_goesOn_5 rfl rfl ?_
    refine r_get C (j := 1) rfl in_X6 (MA_o MA_pM) (by decide) fl_X6_7 rfl rfl dX6_goesOn_6 ?_
    refine r_sipush C (v := 337) dX6_goesOn_9 rfl ?_
    refine r_iload_n C dX6_goesOn_12 rfl rfl ?_
    refine r_iadd C dX6_goesOn_13 ?_
    refine V.st0 (nI_add (337) (u)) ?_
    refine r_iald C (MA_s MA_pM) (vp_in_nI (by omega) (by decide)) dX6_goesOn_14 ?_
    refine V.st0 (en_tal0 (p := u) (by omega) _) ?_
    refine V.st0 (hk) ?_
    refine r_icmp_ge C 107 dX6_goesOn_15 (by decide) (fun _ => ?_) (fun c => absurd (nI_le (Nat.le_refl _) (by omega)) c)
    exact r_vret C rfl (Nat.le_of_ble_eq_true rfl) (Nat.le_of_ble_eq_true rfl) ⟨rfl, rfl, rfl⟩ dX6_goesOn_107
  · intro i h_i ih_i
    obtain ⟨t, ht, et⟩ := hk2 i h_i
    have hor := or_lt hc (show i < 10 by omega)
    refine r_iload C dX6_goesOn_3 rfl ?_
    refine r_aload_n C dX6_goesOn_5 rfl rfl ?_
    refine r_get C (j := 1) rfl in_X6 (MA_o MA_pM) (by decide) fl_X6_7 rfl rfl dX6_goesOn_6 ?_
    refine r_sipush C (v := 337) dX6_goesOn_9 rfl ?_
    refine r_iload_n C dX6_goesOn_12 rfl rfl ?_
    refine r_iadd C dX6_goesOn_13 ?_
    refine V.st0 (nI_add (337) (u)) ?_
    refine r_iald C (MA_s MA_pM) (vp_in_nI (by omega) (by decide)) dX6_goesOn_14 ?_
    refine V.st0 (en_tal0 (p := u) (by omega) _) ?_
    refine V.st0 (hk) ?_
    refine r_icmp_ge C 107 dX6_goesOn_15 (by decide) (fun c => absurd c (nI_ge h_i (by omega))) (fun _ => ?_)
    refine r_aload_n C dX6_goesOn_18 rfl rfl ?_
    refine r_get C (j := 1) rfl in_X6 (MA_o MA_pM) (by decide) fl_X6_7 rfl rfl dX6_goesOn_19 ?_
    refine r_iload_n C dX6_goesOn_22 rfl rfl ?_
    refine r_iload C dX6_goesOn_23 rfl ?_
    refine r_cSi C (c_X6_inHand (a := u) (b := i)) lk_X6_48 rfl rfl ⟨(Nat.le_of_ble_eq_true rfl), (Nat.le_of_ble_eq_true rfl), (Nat.le_of_ble_eq_true rfl), (Nat.le_of_ble_eq_true rfl), (Nat.le_of_ble_eq_true rfl)⟩ dX6_goesOn_25 ?_
    refine r_iald C (MA_s MA_pM) (vp_in_nI (by omega) (by decide)) dX6_goesOn_28 ?_
    refine V.st0 (en_ih (p := u) (i := i) (by omega) (by omega) _) ?_
    refine V.st0 (et) ?_
    refine r_istore C dX6_goesOn_29 (by decide) ?_
    refine r_iconst C (v := 0) dX6_goesOn_31 rfl ?_
    refine r_istore C dX6_goesOn_32 (by decide) ?_
    refine V.heap (h2 := pM G h mo S (gu A 4 (m_gl S (nI t) v b i (m_go S (nI u) v b (A 4) i) 0)) dg) rfl ?_
    refine V.sub [(0, .ref mo), (1, .int (nI u)), (2, .int (nI v)), (3, .int (nI b)), (4, .int (nI i)), (5, .int (nI t)), (6, .int (nI 0))] ⟨rfl, rfl, rfl, rfl, rfl, rfl, rfl, trivial⟩ ?_
    refine down_ (P := fun j => V p l e ⟨1, 0, 0, 21⟩ s m args below meth c G 7 (Qg G below args s 0 0 (fun v1 h1 s1 => v1 = none ∧ h1 = (pM G h mo (S) (gu A 4 (m_go S (nI u) v b (A 4) k)) (dg)) ∧ s1 = sz)) (pM G h mo S (gu A 4 (m_gl S (nI t) v b i (m_go S (nI u) v b (A 4) i) j)) dg) sz 0 0 34 [(0, .ref mo), (1, .int (nI u)), (2, .int (nI v)), (3, .int (nI b)), (4, .int (nI i)), (5, .int (nI t)), (6, .int (nI j))] []) (2) ?_ ?_
    · refine r_iload C dX6_goesOn_34 rfl ?_
      refine r_iconst C (v := 2) dX6_goesOn_36 rfl ?_
      refine r_icmp_ge C 101 dX6_goesOn_37 (by decide) (fun _ => ?_) (fun c => absurd (by decide) c)
      refine r_iinc C (v := 1) dX6_goesOn_101 rfl rfl (by decide) ?_
      refine r_goto C 3 dX6_goesOn_104 (by decide) ?_
      refine V.heap (h2 := pM G h mo S (gu A 4 (m_go S (nI u) v b (A 4) (i + 1))) dg) (congrArg (fun X => pM G h mo S (gu A 4 X) dg) (by show _ = m_gl S (g_hand S (nI u) (nI i)) v b i (m_go S (nI u) v b (A 4) i) 2; rw [show g_hand S (nI u) (nI i) = nI t from et])) ?_
      refine V.sub [(0, .ref mo), (1, .int (nI u)), (2, .int (nI v)), (3, .int (nI b)), (4, .int (nI (i + 1)))] ⟨rfl, rfl, rfl, rfl, by rw [← nI_1 i]; rfl, trivial⟩ ?_
      exact ih_i
    · intro j h_j ih_j
      obtain ⟨g, hg7, eg⟩ := hb.gr ht (w := 1 - j) (by omega)
      refine r_iload C dX6_goesOn_34 rfl ?_
      refine r_iconst C (v := 2) dX6_goesOn_36 rfl ?_
      refine r_icmp_ge C 101 dX6_goesOn_37 (by decide) (fun c => absurd c (nI_ge (b := 2) h_j (by decide))) (fun _ => ?_)
      refine r_iload_n C dX6_goesOn_40 rfl rfl ?_
      refine r_iload C dX6_goesOn_41 rfl ?_
      refine r_ishr C dX6_goesOn_43 ?_
      refine r_iconst C (v := 1) dX6_goesOn_44 rfl ?_
      refine r_iand C dX6_goesOn_45 ?_
      refine V.st0 (bit_ok v hc i (by omega)) ?_
      refine r_if_ne C 95 dX6_goesOn_46 (by decide) (fun c_46 => ?_) (fun c_46 => ?_)
      · skip
        have c46 : ¬ v / 2 ^ i % 2 = 0 := fun e => c_46 (by rw [e]; rfl)
        refine r_iinc C (v := 1) dX6_goesOn_95 rfl rfl (by decide) ?_
        refine r_goto C 34 dX6_goesOn_98 (by decide) ?_
        refine V.heap (h2 := (pM G h mo S (gu A 4 (m_gl S (nI t) v b i (m_go S (nI u) v b (A 4) i) (j + 1))) dg)) (congrArg (fun X => pM G h mo S (gu A 4 X) dg) (gh_1 c46).symm) ?_
        refine V.sub [(0, .ref mo), (1, .int (nI u)), (2, .int (nI v)), (3, .int (nI b)), (4, .int (nI i)), (5, .int (nI t)), (6, .int (nI (j + 1)))] ⟨rfl, rfl, rfl, rfl, rfl, rfl, by rw [← nI_1 j]; rfl, trivial⟩ ?_
        exact ih_j
      · skip
        have c46 : v / 2 ^ i % 2 = 0 := nI_inj (b := 0) (by omega) (by decide) c_46
        refine r_aload_n C dX6_goesOn_49 rfl rfl ?_
        refine r_get C (j := 1) rfl in_X6 (MA_o MA_pM) (by decide) fl_X6_7 rfl rfl dX6_goesOn_50 ?_
        refine r_iload C dX6_goesOn_53 rfl ?_
        refine r_iload C dX6_goesOn_55 rfl ?_
        refine r_cSi C (c_X6_of (a := t) (b := j)) lk_X6_44 rfl rfl ⟨(Nat.le_of_ble_eq_true rfl), (Nat.le_of_ble_eq_true rfl), (Nat.le_of_ble_eq_true rfl), (Nat.le_of_ble_eq_true rfl), (Nat.le_of_ble_eq_true rfl)⟩ dX6_goesOn_57 ?_
        refine r_iald C (MA_s MA_pM) (vp_in_nI (by omega) (by decide)) dX6_goesOn_60 ?_
        refine V.st0 (en_of (t := t) (w := j) (wi := nI (j)) (by omega) (by omega) rfl _) ?_
        refine r_iload_n C dX6_goesOn_61 rfl rfl ?_
        refine r_icmp_ne C 95 dX6_goesOn_62 (by decide) (fun c_62 => ?_) (fun c_62 => ?_)
        · skip
          refine r_iinc C (v := 1) dX6_goesOn_95 rfl rfl (by decide) ?_
          refine r_goto C 34 dX6_goesOn_98 (by decide) ?_
          refine V.heap (h2 := (pM G h mo S (gu A 4 (m_gl S (nI t) v b i (m_go S (nI u) v b (A 4) i) (j + 1))) dg)) (congrArg (fun X => pM G h mo S (gu A 4 X) dg) (gh_2 c_62).symm) ?_
          refine V.sub [(0, .ref mo), (1, .int (nI u)), (2, .int (nI v)), (3, .int (nI b)), (4, .int (nI i)), (5, .int (nI t)), (6, .int (nI (j + 1)))] ⟨rfl, rfl, rfl, rfl, rfl, rfl, by rw [← nI_1 j]; rfl, trivial⟩ ?_
          exact ih_j
        · skip
          refine r_aload_n C dX6_goesOn_65 rfl rfl ?_
          refine r_get C (j := 8) rfl in_X6 (MA_o MA_pM) (by decide) fl_X6_22 rfl rfl dX6_goesOn_66 ?_
          refine r_bipush C (v := 7) dX6_goesOn_69 rfl ?_
          refine r_iload_n C dX6_goesOn_71 rfl rfl ?_
          refine r_iconst C (v := 1) dX6_goesOn_72 rfl ?_
          refine r_iload C dX6_goesOn_73 rfl ?_
          refine r_ishl C dX6_goesOn_75 ?_
          refine r_ior C dX6_goesOn_76 ?_
          refine V.st0 (or_ok (by omega)) ?_
          refine r_imul C dX6_goesOn_77 ?_
          refine V.st0 (nI_mul (7) ((v ||| 2 ^ i))) ?_
          refine r_aload_n C dX6_goesOn_78 rfl rfl ?_
          refine r_get C (j := 1) rfl in_X6 (MA_o MA_pM) (by decide) fl_X6_7 rfl rfl dX6_goesOn_79 ?_
          refine r_iload C dX6_goesOn_82 rfl ?_
          refine r_iconst C (v := 1) dX6_goesOn_84 rfl ?_
          refine r_iload C dX6_goesOn_85 rfl ?_
          refine r_isub C dX6_goesOn_87 ?_
          refine V.st0 (pk_sub (a := 1) (b := j) (by omega)) ?_
          refine r_cSi C (c_X6_of (a := t) (b := (1 - j))) lk_X6_44 rfl rfl ⟨(Nat.le_of_ble_eq_true rfl), (Nat.le_of_ble_eq_true rfl), (Nat.le_of_ble_eq_true rfl), (Nat.le_of_ble_eq_true rfl), (Nat.le_of_ble_eq_true rfl)⟩ dX6_goesOn_88 ?_
          refine r_iald C (MA_s MA_pM) (vp_in_nI (by omega) (by decide)) dX6_goesOn_91 ?_
          refine V.st0 (en_of (t := t) (w := (1 - j)) (wi := nI ((1 - j))) (by omega) (by omega) rfl _) ?_
          refine V.st0 (eg) ?_
          refine r_iadd C dX6_goesOn_92 ?_
          refine V.st0 (nI_add ((7 * (v ||| 2 ^ i))) (g)) ?_
          refine r_iconst C (v := 1) dX6_goesOn_93 rfl ?_
          refine r_zast C (MA_4 MA_pM) (vp_in_nI (by omega) (by decide)) dX6_goesOn_94 ?_
          refine V.heap (qM_a4 (by omega)) ?_
          refine r_iinc C (v := 1) dX6_goesOn_95 rfl rfl (by decide) ?_
          refine r_goto C 34 dX6_goesOn_98 (by decide) ?_
          refine V.heap (h2 := (pM G h mo S (gu A 4 (m_gl S (nI t) v b i (m_go S (nI u) v b (A 4) i) (j + 1))) dg)) (congrArg (fun X => pM G h mo S X dg) (by rw [gu_gu, gu_s]; exact congrArg (gu A 4) (gh_t c46 c_62 eg hg7).symm)) ?_
          refine V.sub [(0, .ref mo), (1, .int (nI u)), (2, .int (nI v)), (3, .int (nI b)), (4, .int (nI i)), (5, .int (nI t)), (6, .int (nI (j + 1)))] ⟨rfl, rfl, rfl, rfl, rfl, rfl, by rw [← nI_1 j]; rfl, trivial⟩ ?_
          exact ih_j

set_option maxHeartbeats 800000 in
set_option maxRecDepth 100000 in
theorem c_X6_tries {G : ga_} {l : Launch} {h : HP} {sz : Nat} {mo : Nat} {S A : gS} {dg : Int64} {u : Nat} {g : Int32} {k : Nat}  (w : MA G h mo S A dg)  (hp : u < 4) (hk : tAt 4 16 (S 2) (nI u) 0 = nI k) (hk2 : ∀ i, i < k → ∃ t, t < 28 ∧ tAt 28 112 (S 1) (nI u) (nI i) = nI t) (hb : nB S) (hk10 : k ≤ 10)  : Mf G l yX6_tries cX6_tries 7 (some .int) 2 47 0 0 [.ref mo, .int (nI u), .int g] h sz (some (.int ((m_try S (nI u) g k (A 4)).1))) (pM G h mo (S) (gu A 4 (m_try S (nI u) g k (A 4)).2) (dg)) sz := by
  refine Mg.ofV [(0, .ref mo), (1, .int (nI u)), (2, .int g)] (by decide) (Nat.le_of_ble_eq_true rfl) rfl ?_
  intro p e s m args below meth c C
  refine V.heap (pM_id w).symm ?_
  have hpk := p2_le hk10
  refine r_aload_n C dX6_tries_0 rfl rfl ?_
  refine r_get C (j := 1) rfl in_X6 (MA_o MA_pM) (by decide) fl_X6_7 rfl rfl dX6_tries_1 ?_
  refine r_sipush C (v := 337) dX6_tries_4 rfl ?_
  refine r_iload_n C dX6_tries_7 rfl rfl ?_
  refine r_iadd C dX6_tries_8 ?_
  refine V.st0 (nI_add (337) (u)) ?_
  refine r_iald C (MA_s MA_pM) (vp_in_nI (by omega) (by decide)) dX6_tries_9 ?_
  refine V.st0 (en_tal0 (p := u) (by omega) _) ?_
  refine V.st0 (hk) ?_
  refine r_istore_n C dX6_tries_10 rfl (by decide) ?_
  refine r_iconst C (v := 0) dX6_tries_11 rfl ?_
  refine r_istore C dX6_tries_12 (by decide) ?_
  refine V.heap (h2 := pM G h mo S (gu A 4 (m_f0 g (A 4) 0)) dg) (congrArg (fun X => pM G h mo S X dg) gu_id.symm) ?_
  refine V.sub [(0, .ref mo), (1, .int (nI u)), (2, .int g), (3, .int (nI k)), (4, .int (nI 0))] ⟨rfl, rfl, rfl, rfl, rfl, trivial⟩ ?_
  refine down_ (P := fun i => V p l e ⟨2, 0, 0, 47⟩ s m args below meth c G 7 (Qg G below args s 0 0 (fun v1 h1 s1 => v1 = (some (.int ((m_try S (nI u) g k (A 4)).1))) ∧ h1 = (pM G h mo (S) (gu A 4 (m_try S (nI u) g k (A 4)).2) (dg)) ∧ s1 = sz)) (pM G h mo S (gu A 4 (m_f0 g (A 4) i)) dg) sz 0 0 14 [(0, .ref mo), (1, .int (nI u)), (2, .int g), (3, .int (nI k)), (4, .int (nI i))] []) ((7 * 2 ^ k)) ?_ ?_
  · refine r_iload C dX6_tries_14 rfl ?_
    refine r_bipush C (v := 7) dX6_tries_16 rfl ?_
    refine r_iload_n C dX6_tries_18 rfl rfl ?_
    refine r_ishl C dX6_tries_19 ?_
    refine V.st0 (sh7_ok k (by omega)) ?_
    refine r_icmp_ge C 47 dX6_tries_20 (by decide) (fun _ => ?_) (fun c => absurd (nI_le (Nat.le_refl _) (by omega)) c)
    refine r_iconst C (v := 0) dX6_tries_47 rfl ?_
    refine r_istore C dX6_tries_48 (by decide) ?_
    refine r_iconst C (v := 0) dX6_tries_50 rfl ?_
    refine r_istore C dX6_tries_51 (by decide) ?_
    refine V.heap (h2 := pM G h mo S (gu A 4 (m_tr S (nI u) k (0, (m_f0 g (A 4) (7 * 2 ^ k))) 0).2) dg) rfl ?_
    refine V.sub [(0, .ref mo), (1, .int (nI u)), (2, .int g), (3, .int (nI k)), (4, .int (m_tr S (nI u) k (0, (m_f0 g (A 4) (7 * 2 ^ k))) 0).1), (5, .int (nI 0))] ⟨rfl, rfl, rfl, rfl, rfl, rfl, trivial⟩ ?_
    refine down_ (P := fun v => V p l e ⟨2, 0, 0, 47⟩ s m args below meth c G 7 (Qg G below args s 0 0 (fun v1 h1 s1 => v1 = (some (.int ((m_try S (nI u) g k (A 4)).1))) ∧ h1 = (pM G h mo (S) (gu A 4 (m_try S (nI u) g k (A 4)).2) (dg)) ∧ s1 = sz)) (pM G h mo S (gu A 4 (m_tr S (nI u) k (0, (m_f0 g (A 4) (7 * 2 ^ k))) v).2) dg) sz 0 0 53 [(0, .ref mo), (1, .int (nI u)), (2, .int g), (3, .int (nI k)), (4, .int (m_tr S (nI u) k (0, (m_f0 g (A 4) (7 * 2 ^ k))) v).1), (5, .int (nI v))] []) ((2 ^ k)) ?_ ?_
    · refine r_iload C dX6_tries_53 rfl ?_
      refine r_iconst C (v := 1) dX6_tries_55 rfl ?_
      refine r_iload_n C dX6_tries_56 rfl rfl ?_
      refine r_ishl C dX6_tries_57 ?_
      refine V.st0 (sh_ok k (by omega)) ?_
      refine r_icmp_ge C 130 dX6_tries_58 (by decide) (fun _ => ?_) (fun c => absurd (nI_le (Nat.le_refl _) (by omega)) c)
      refine r_iload C dX6_tries_130 rfl ?_
      exact r_iret C rfl (Nat.le_of_ble_eq_true rfl) (Nat.le_of_ble_eq_true rfl) ⟨rfl, rfl, rfl⟩ dX6_tries_132
    · intro v h_v ih_v
      refine r_iload C dX6_tries_53 rfl ?_
      refine r_iconst C (v := 1) dX6_tries_55 rfl ?_
      refine r_iload_n C dX6_tries_56 rfl rfl ?_
      refine r_ishl C dX6_tries_57 ?_
      refine V.st0 (sh_ok k (by omega)) ?_
      refine r_icmp_ge C 130 dX6_tries_58 (by decide) (fun c => absurd c (nI_ge h_v (by omega))) (fun _ => ?_)
      refine r_iconst C (v := 0) dX6_tries_61 rfl ?_
      refine r_istore C dX6_tries_62 (by decide) ?_
      refine V.heap (h2 := pM G h mo S (gu A 4 ((m_tb S (nI u) v k (m_tr S (nI u) k (0, (m_f0 g (A 4) (7 * 2 ^ k))) v) 0)).2) dg) rfl ?_
      refine V.sub [(0, .ref mo), (1, .int (nI u)), (2, .int g), (3, .int (nI k)), (4, .int ((m_tb S (nI u) v k (m_tr S (nI u) k (0, (m_f0 g (A 4) (7 * 2 ^ k))) v) 0)).1), (5, .int (nI v)), (6, .int (nI 0))] ⟨rfl, rfl, rfl, rfl, rfl, rfl, rfl, trivial⟩ ?_
      refine down_ (P := fun b => V p l e ⟨2, 0, 0, 47⟩ s m args below meth c G 7 (Qg G below args s 0 0 (fun v1 h1 s1 => v1 = (some (.int ((m_try S (nI u) g k (A 4)).1))) ∧ h1 = (pM G h mo (S) (gu A 4 (m_try S (nI u) g k (A 4)).2) (dg)) ∧ s1 = sz)) (pM G h mo S (gu A 4 ((m_tb S (nI u) v k (m_tr S (nI u) k (0, (m_f0 g (A 4) (7 * 2 ^ k))) v) b)).2) dg) sz 0 0 64 [(0, .ref mo), (1, .int (nI u)), (2, .int g), (3, .int (nI k)), (4, .int ((m_tb S (nI u) v k (m_tr S (nI u) k (0, (m_f0 g (A 4) (7 * 2 ^ k))) v) b)).1), (5, .int (nI v)), (6, .int (nI b))] []) (7) ?_ ?_
      · refine r_iload C dX6_tries_64 rfl ?_
        refine r_bipush C (v := 7) dX6_tries_66 rfl ?_
        refine r_icmp_ge C 124 dX6_tries_68 (by decide) (fun _ => ?_) (fun c => absurd (by decide) c)
        refine r_iinc C (v := 1) dX6_tries_124 rfl rfl (by decide) ?_
        refine r_goto C 53 dX6_tries_127 (by decide) ?_
        refine V.heap (h2 := pM G h mo S (gu A 4 (m_tr S (nI u) k (0, (m_f0 g (A 4) (7 * 2 ^ k))) (v + 1)).2) dg) rfl ?_
        refine V.sub [(0, .ref mo), (1, .int (nI u)), (2, .int g), (3, .int (nI k)), (4, .int (m_tr S (nI u) k (0, (m_f0 g (A 4) (7 * 2 ^ k))) (v + 1)).1), (5, .int (nI (v + 1)))] ⟨rfl, rfl, rfl, rfl, rfl, by rw [← nI_1 v]; rfl, trivial⟩ ?_
        exact ih_v
      · intro b h_b ih_b
        refine r_iload C dX6_tries_64 rfl ?_
        refine r_bipush C (v := 7) dX6_tries_66 rfl ?_
        refine r_icmp_ge C 124 dX6_tries_68 (by decide) (fun c => absurd c (nI_ge (b := 7) h_b (by decide))) (fun _ => ?_)
        refine r_aload_n C dX6_tries_71 rfl rfl ?_
        refine r_get C (j := 8) rfl in_X6 (MA_o MA_pM) (by decide) fl_X6_22 rfl rfl dX6_tries_72 ?_
        refine r_bipush C (v := 7) dX6_tries_75 rfl ?_
        refine r_iload C dX6_tries_77 rfl ?_
        refine r_imul C dX6_tries_79 ?_
        refine V.st0 (nI_mul (7) (v)) ?_
        refine r_iload C dX6_tries_80 rfl ?_
        refine r_iadd C dX6_tries_82 ?_
        refine V.st0 (nI_add ((7 * v)) (b)) ?_
        refine r_zald C (MA_4 MA_pM) (vp_in_nI (by omega) (by decide)) dX6_tries_83 ?_
        refine V.st0 (cl_f (by omega)) ?_
        refine r_if_eq C 118 dX6_tries_84 (by decide) (fun c_84 => ?_) (fun c_84 => ?_)
        · skip
          refine r_iinc C (v := 1) dX6_tries_118 rfl rfl (by decide) ?_
          refine r_goto C 64 dX6_tries_121 (by decide) ?_
          refine V.heap (h2 := (pM G h mo S (gu A 4 ((m_tb S (nI u) v k (m_tr S (nI u) k (0, (m_f0 g (A 4) (7 * 2 ^ k))) v) (b + 1))).2) dg)) (congrArg (fun X => pM G h mo S (gu A 4 X) dg) (congrArg Prod.snd (show m_ts S (nI u) v k (m_tb S (nI u) v k (m_tr S (nI u) k (0, (m_f0 g (A 4) (7 * 2 ^ k))) v) b) b = _ from if_pos c_84)).symm) ?_
          refine V.sub [(0, .ref mo), (1, .int (nI u)), (2, .int g), (3, .int (nI k)), (4, .int ((m_tb S (nI u) v k (m_tr S (nI u) k (0, (m_f0 g (A 4) (7 * 2 ^ k))) v) (b + 1))).1), (5, .int (nI v)), (6, .int (nI (b + 1)))] ⟨rfl, rfl, rfl, rfl, by rw [show m_tb S (nI u) v k (m_tr S (nI u) k (0, (m_f0 g (A 4) (7 * 2 ^ k))) v) (b + 1) = m_ts S (nI u) v k (m_tb S (nI u) v k (m_tr S (nI u) k (0, (m_f0 g (A 4) (7 * 2 ^ k))) v) b) b from rfl]; unfold m_ts; rw [if_pos (show ((m_tb S (nI u) v k (m_tr S (nI u) k (0, (m_f0 g (A 4) (7 * 2 ^ k))) v) b)).2 (7 * v + b) = 0 from c_84)]; rfl, rfl, by rw [← nI_1 b]; rfl, trivial⟩ ?_
          exact ih_b
        · skip
          apply V.cut 107 ((if ((m_tb S (nI u) v k (m_tr S (nI u) k (0, (m_f0 g (A 4) (7 * 2 ^ k))) v) b)).1 < m_ones (nI v) then m_ones (nI v) else ((m_tb S (nI u) v k (m_tr S (nI u) k (0, (m_f0 g (A 4) (7 * 2 ^ k))) v) b)).1))
          · intro K_107
            refine r_iload C dX6_tries_87 rfl ?_
            refine r_cSi C (c_X6_ones) lk_X6_176 rfl rfl ⟨(Nat.le_of_ble_eq_true rfl), (Nat.le_of_ble_eq_true rfl), (Nat.le_of_ble_eq_true rfl), (Nat.le_of_ble_eq_true rfl), (Nat.le_of_ble_eq_true rfl)⟩ dX6_tries_89 ?_
            refine r_iload C dX6_tries_92 rfl ?_
            refine r_icmp_le C 105 dX6_tries_94 (by decide) (fun c_94 => ?_) (fun c_94 => ?_)
            · have e_94 := i32_nlt c_94
              refine r_iload C dX6_tries_105 rfl ?_
              refine V.st0 (show _ = ((if ((m_tb S (nI u) v k (m_tr S (nI u) k (0, (m_f0 g (A 4) (7 * 2 ^ k))) v) b)).1 < m_ones (nI v) then m_ones (nI v) else ((m_tb S (nI u) v k (m_tr S (nI u) k (0, (m_f0 g (A 4) (7 * 2 ^ k))) v) b)).1)) from by rw [if_neg e_94]) ?_
              exact K_107
            · have e_94 := i32_lt c_94
              refine r_iload C dX6_tries_97 rfl ?_
              refine r_cSi C (c_X6_ones) lk_X6_176 rfl rfl ⟨(Nat.le_of_ble_eq_true rfl), (Nat.le_of_ble_eq_true rfl), (Nat.le_of_ble_eq_true rfl), (Nat.le_of_ble_eq_true rfl), (Nat.le_of_ble_eq_true rfl)⟩ dX6_tries_99 ?_
              refine r_goto C 107 dX6_tries_102 (by decide) ?_
              refine V.st0 (show _ = ((if ((m_tb S (nI u) v k (m_tr S (nI u) k (0, (m_f0 g (A 4) (7 * 2 ^ k))) v) b)).1 < m_ones (nI v) then m_ones (nI v) else ((m_tb S (nI u) v k (m_tr S (nI u) k (0, (m_f0 g (A 4) (7 * 2 ^ k))) v) b)).1)) from by rw [if_pos e_94]) ?_
              exact K_107
          · skip
            refine r_istore C dX6_tries_107 (by decide) ?_
            refine r_aload_n C dX6_tries_109 rfl rfl ?_
            refine r_iload_n C dX6_tries_110 rfl rfl ?_
            refine r_iload C dX6_tries_111 rfl ?_
            refine r_iload C dX6_tries_113 rfl ?_
            refine r_cVv C (c_X6_goesOn (u := u) (v := v) (b := b) (k := k) MA_pM hp hk hk2 hb hk10 (by omega)) lk_X6_179 rfl (MA_o MA_pM) rfl rfl ⟨(Nat.le_of_ble_eq_true rfl), (Nat.le_of_ble_eq_true rfl), (Nat.le_of_ble_eq_true rfl), (Nat.le_of_ble_eq_true rfl), (Nat.le_of_ble_eq_true rfl)⟩ dX6_tries_115 ?_
            refine V.heap (pM_pM _ _ _ _ _ _ _ _) ?_
            refine r_iinc C (v := 1) dX6_tries_118 rfl rfl (by decide) ?_
            refine r_goto C 64 dX6_tries_121 (by decide) ?_
            refine V.heap (h2 := (pM G h mo S (gu A 4 ((m_tb S (nI u) v k (m_tr S (nI u) k (0, (m_f0 g (A 4) (7 * 2 ^ k))) v) (b + 1))).2) dg)) (congrArg (fun X => pM G h mo S X dg) (by rw [gu_gu, gu_s]; exact congrArg (gu A 4) (congrArg Prod.snd (show m_ts S (nI u) v k (m_tb S (nI u) v k (m_tr S (nI u) k (0, (m_f0 g (A 4) (7 * 2 ^ k))) v) b) b = _ from if_neg c_84)).symm)) ?_
            refine V.sub [(0, .ref mo), (1, .int (nI u)), (2, .int g), (3, .int (nI k)), (4, .int ((m_tb S (nI u) v k (m_tr S (nI u) k (0, (m_f0 g (A 4) (7 * 2 ^ k))) v) (b + 1))).1), (5, .int (nI v)), (6, .int (nI (b + 1)))] ⟨rfl, rfl, rfl, rfl, by rw [show m_tb S (nI u) v k (m_tr S (nI u) k (0, (m_f0 g (A 4) (7 * 2 ^ k))) v) (b + 1) = m_ts S (nI u) v k (m_tb S (nI u) v k (m_tr S (nI u) k (0, (m_f0 g (A 4) (7 * 2 ^ k))) v) b) b from rfl]; unfold m_ts; rw [if_neg (show ¬ ((m_tb S (nI u) v k (m_tr S (nI u) k (0, (m_f0 g (A 4) (7 * 2 ^ k))) v) b)).2 (7 * v + b) = 0 from c_84)]; rfl, rfl, by rw [← nI_1 b]; rfl, trivial⟩ ?_
            exact ih_b
  · intro i h_i ih_i
    refine r_iload C dX6_tries_14 rfl ?_
    refine r_bipush C (v := 7) dX6_tries_16 rfl ?_
    refine r_iload_n C dX6_tries_18 rfl rfl ?_
    refine r_ishl C dX6_tries_19 ?_
    refine V.st0 (sh7_ok k (by omega)) ?_
    refine r_icmp_ge C 47 dX6_tries_20 (by decide) (fun c => absurd c (nI_ge h_i (by omega))) (fun _ => ?_)
    refine r_aload_n C dX6_tries_23 rfl rfl ?_
    refine r_get C (j := 8) rfl in_X6 (MA_o MA_pM) (by decide) fl_X6_22 rfl rfl dX6_tries_24 ?_
    refine r_iload C dX6_tries_27 rfl ?_
    apply V.cut 40 (bI (decide (nI i = g)))
    · intro K_40
      refine r_iload C dX6_tries_29 rfl ?_
      refine r_iload_n C dX6_tries_31 rfl rfl ?_
      refine r_icmp_ne C 39 dX6_tries_32 (by decide) (fun c_32 => ?_) (fun c_32 => ?_)
      · skip
        refine r_iconst C (v := 0) dX6_tries_39 rfl ?_
        refine V.st0 (show _ = (bI (decide (nI i = g))) from by rw [decide_eq_false c_32]; rfl) ?_
        exact K_40
      · skip
        refine r_iconst C (v := 1) dX6_tries_35 rfl ?_
        refine r_goto C 40 dX6_tries_36 (by decide) ?_
        refine V.st0 (show _ = (bI (decide (nI i = g))) from by rw [decide_eq_true c_32]; rfl) ?_
        exact K_40
    · skip
      refine r_zast C (MA_4 MA_pM) (vp_in_nI (by omega) (by decide)) dX6_tries_40 ?_
      refine V.heap (qM_a4 (by omega)) ?_
      refine r_iinc C (v := 1) dX6_tries_41 rfl rfl (by decide) ?_
      refine r_goto C 14 dX6_tries_44 (by decide) ?_
      refine V.heap (h2 := (pM G h mo S (gu A 4 (m_f0 g (A 4) (i + 1))) dg)) (congrArg (fun X => pM G h mo S X dg) (by rw [gu_gu, gu_s]; rfl)) ?_
      refine V.sub [(0, .ref mo), (1, .int (nI u)), (2, .int g), (3, .int (nI k)), (4, .int (nI (i + 1)))] ⟨rfl, rfl, rfl, rfl, (by rw [← nI_1 i]; rfl), trivial⟩ ?_
      exact ih_i

set_option maxHeartbeats 800000 in
set_option maxRecDepth 100000 in
theorem c_X6_longestOf {G : ga_} {l : Launch} {h : HP} {sz : Nat} {mo : Nat} {S A : gS} {dg : Int64} {u : Nat} {g : Int32} {k : Nat}  (w : MA G h mo S A dg)  (hp : u < 4) (hk : tAt 4 16 (S 2) (nI u) 0 = nI k) (hk28 : k ≤ 28) (hk2 : ∀ i, i < k → ∃ t, t < 28 ∧ tAt 28 112 (S 1) (nI u) (nI i) = nI t) (hb : nB S)  : Mf G l yX6_longestOf cX6_longestOf 3 (some .int) 3 73 0 0 [.ref mo, .int (nI u), .int g] h sz (some (.int ((m_lo S (nI u) g k (A 4)).1))) (pM G h mo (S) (gu A 4 (m_lo S (nI u) g k (A 4)).2) (dg)) sz := by
  refine Mg.ofV [(0, .ref mo), (1, .int (nI u)), (2, .int g)] (by decide) (Nat.le_of_ble_eq_true rfl) rfl ?_
  intro p e s m args below meth c C
  refine V.heap (pM_id w).symm ?_
  by_cases h10 : 10 < k
  · skip
    refine r_aload_n C dX6_longestOf_0 rfl rfl ?_
    refine r_get C (j := 1) rfl in_X6 (MA_o MA_pM) (by decide) fl_X6_7 rfl rfl dX6_longestOf_1 ?_
    refine r_sipush C (v := 337) dX6_longestOf_4 rfl ?_
    refine r_iload_n C dX6_longestOf_7 rfl rfl ?_
    refine r_iadd C dX6_longestOf_8 ?_
    refine V.st0 (nI_add (337) (u)) ?_
    refine r_iald C (MA_s MA_pM) (vp_in_nI (by omega) (by decide)) dX6_longestOf_9 ?_
    refine V.st0 (en_tal0 (p := u) (by omega) _) ?_
    refine V.st0 (hk) ?_
    refine r_bipush C (v := 10) dX6_longestOf_10 rfl ?_
    refine r_icmp_le C 19 dX6_longestOf_12 (by decide) (fun c => absurd c (nI_ge (a := 10) h10 (by omega))) (fun _ => ?_)
    refine r_iconst C (v := -1) dX6_longestOf_15 rfl ?_
    refine r_goto C 25 dX6_longestOf_16 (by decide) ?_
    exact r_iret C rfl (Nat.le_of_ble_eq_true rfl) (Nat.le_of_ble_eq_true rfl) ⟨by unfold m_lo; rw [if_pos h10], congrArg (fun X => pM G h mo S X dg) (by unfold m_lo; rw [if_pos h10, gu_id]), rfl⟩ dX6_longestOf_25
  · skip
    refine r_aload_n C dX6_longestOf_0 rfl rfl ?_
    refine r_get C (j := 1) rfl in_X6 (MA_o MA_pM) (by decide) fl_X6_7 rfl rfl dX6_longestOf_1 ?_
    refine r_sipush C (v := 337) dX6_longestOf_4 rfl ?_
    refine r_iload_n C dX6_longestOf_7 rfl rfl ?_
    refine r_iadd C dX6_longestOf_8 ?_
    refine V.st0 (nI_add (337) (u)) ?_
    refine r_iald C (MA_s MA_pM) (vp_in_nI (by omega) (by decide)) dX6_longestOf_9 ?_
    refine V.st0 (en_tal0 (p := u) (by omega) _) ?_
    refine V.st0 (hk) ?_
    refine r_bipush C (v := 10) dX6_longestOf_10 rfl ?_
    refine r_icmp_le C 19 dX6_longestOf_12 (by decide) (fun _ => ?_) (fun c => absurd (nI_le (b := 10) (Nat.not_lt.mp h10) (by decide)) c)
    refine r_aload_n C dX6_longestOf_19 rfl rfl ?_
    refine r_iload_n C dX6_longestOf_20 rfl rfl ?_
    refine r_iload_n C dX6_longestOf_21 rfl rfl ?_
    refine r_cVi C (c_X6_tries (u := u) (k := k) MA_pM hp hk hk2 hb (Nat.not_lt.mp h10)) lk_X6_182 rfl (MA_o MA_pM) rfl rfl ⟨(Nat.le_of_ble_eq_true rfl), (Nat.le_of_ble_eq_true rfl), (Nat.le_of_ble_eq_true rfl), (Nat.le_of_ble_eq_true rfl), (Nat.le_of_ble_eq_true rfl)⟩ dX6_longestOf_22 ?_
    refine V.heap (pM_pM _ _ _ _ _ _ _ _) ?_
    exact r_iret C rfl (Nat.le_of_ble_eq_true rfl) (Nat.le_of_ble_eq_true rfl) ⟨by unfold m_lo; rw [if_neg h10], congrArg (fun X => pM G h mo S X dg) (by unfold m_lo; rw [if_neg h10]), rfl⟩ dX6_longestOf_25


set_option maxHeartbeats 800000 in
set_option maxRecDepth 100000 in
theorem c_X6_wholeOf {G : ga_} {l : Launch} {h : HP} {sz : Nat} {mo : Nat} {S A : gS} {dg : Int64} {u : Nat} {g : Int32} {k : Nat}  (w : MA G h mo S A dg)  (hp : u < 4) (hk : tAt 4 16 (S 2) (nI u) 0 = nI k) (hk28 : k ≤ 28) (hk2 : ∀ i, i < k → ∃ t, t < 28 ∧ tAt 28 112 (S 1) (nI u) (nI i) = nI t) (hb : nB S)  : Mf G l yX6_wholeOf cX6_wholeOf 4 (some .int) 4 95 0 0 [.ref mo, .int (nI u), .int g] h sz (some (.int (m_wh S (nI u) g k (A 4)))) (pM G h mo (S) (gu A 4 (m_lo S (nI u) g k (A 4)).2) (dg)) sz := by
  refine Mg.ofV [(0, .ref mo), (1, .int (nI u)), (2, .int g)] (by decide) (Nat.le_of_ble_eq_true rfl) rfl ?_
  intro p e s m args below meth c C
  refine V.heap (pM_id w).symm ?_
  refine r_aload_n C dX6_wholeOf_0 rfl rfl ?_
  refine r_iload_n C dX6_wholeOf_1 rfl rfl ?_
  refine r_iload_n C dX6_wholeOf_2 rfl rfl ?_
  refine r_cVi C (c_X6_longestOf (u := u) (k := k) MA_pM hp hk hk28 hk2 hb) lk_X6_185 rfl (MA_o MA_pM) rfl rfl ⟨(Nat.le_of_ble_eq_true rfl), (Nat.le_of_ble_eq_true rfl), (Nat.le_of_ble_eq_true rfl), (Nat.le_of_ble_eq_true rfl), (Nat.le_of_ble_eq_true rfl)⟩ dX6_wholeOf_3 ?_
  refine V.heap (pM_pM _ _ _ _ _ _ _ _) ?_
  refine r_istore_n C dX6_wholeOf_6 rfl (by decide) ?_
  refine r_iload_n C dX6_wholeOf_7 rfl rfl ?_
  refine r_iconst C (v := -1) dX6_wholeOf_8 rfl ?_
  refine r_icmp_ne C 16 dX6_wholeOf_9 (by decide) (fun c_9 => ?_) (fun c_9 => ?_)
  · skip
    refine r_iload_n C dX6_wholeOf_16 rfl rfl ?_
    refine r_aload_n C dX6_wholeOf_17 rfl rfl ?_
    refine r_get C (j := 1) rfl in_X6 (MA_o MA_pM) (by decide) fl_X6_7 rfl rfl dX6_wholeOf_18 ?_
    refine r_sipush C (v := 337) dX6_wholeOf_21 rfl ?_
    refine r_iload_n C dX6_wholeOf_24 rfl rfl ?_
    refine r_iadd C dX6_wholeOf_25 ?_
    refine V.st0 (nI_add (337) (u)) ?_
    refine r_iald C (MA_s MA_pM) (vp_in_nI (by omega) (by decide)) dX6_wholeOf_26 ?_
    refine V.st0 (en_tal0 (p := u) (by omega) _) ?_
    refine V.st0 (hk) ?_
    refine r_icmp_ne C 34 dX6_wholeOf_27 (by decide) (fun c_27 => ?_) (fun c_27 => ?_)
    · skip
      refine r_iconst C (v := 0) dX6_wholeOf_34 rfl ?_
      exact r_iret C rfl (Nat.le_of_ble_eq_true rfl) (Nat.le_of_ble_eq_true rfl) ⟨by unfold m_wh; rw [if_neg c_9, if_neg c_27], rfl, rfl⟩ dX6_wholeOf_35
    · skip
      refine r_iconst C (v := 1) dX6_wholeOf_30 rfl ?_
      refine r_goto C 35 dX6_wholeOf_31 (by decide) ?_
      exact r_iret C rfl (Nat.le_of_ble_eq_true rfl) (Nat.le_of_ble_eq_true rfl) ⟨by unfold m_wh; rw [if_neg c_9, if_pos c_27], rfl, rfl⟩ dX6_wholeOf_35
  · skip
    refine r_iconst C (v := -1) dX6_wholeOf_12 rfl ?_
    refine r_goto C 35 dX6_wholeOf_13 (by decide) ?_
    exact r_iret C rfl (Nat.le_of_ble_eq_true rfl) (Nat.le_of_ble_eq_true rfl) ⟨by unfold m_wh; rw [if_pos c_9], rfl, rfl⟩ dX6_wholeOf_35

set_option maxHeartbeats 800000 in
set_option maxRecDepth 100000 in
theorem c_X6_longest_t {G : ga_} {l : Launch} {h : HP} {sz : Nat} {mo : Nat} {S A : gS} {dg : Int64} {u : Nat} {g : Int32} {k : Nat}  (w : MA G h mo S A dg)  (hp : u < 4) (hk : tAt 4 16 (S 2) (nI u) 0 = nI k) (hk28 : k ≤ 28) (hk2 : ∀ i, i < k → ∃ t, t < 28 ∧ tAt 28 112 (S 1) (nI u) (nI i) = nI t) (hb : nB S) (hpl : m_in (nI u) 0 (S 5 0 - 1) = true) (hg : m_in g 0 6 = true) : Mf G l yX6_longest cX6_longest 3 (some .int) 4 95 0 0 [.ref mo, .int (nI u), .int g] h sz (some (.int ((m_lo S (nI u) g k (A 4)).1))) (pM G h mo (S) (gu (ac A 0 0) 4 (m_lo S (nI u) g k (A 4)).2) (dg)) sz := by
  refine Mg.ofV [(0, .ref mo), (1, .int (nI u)), (2, .int g)] (by decide) (Nat.le_of_ble_eq_true rfl) rfl ?_
  intro p e s m args below meth c C
  refine V.heap (pM_id w).symm ?_
  refine r_aload_n C dX6_longest_0 rfl rfl ?_
  refine r_aload_n C dX6_longest_1 rfl rfl ?_
  refine r_iload_n C dX6_longest_2 rfl rfl ?_
  refine r_cVi C (c_X6_isPlayer MA_pM) lk_X6_152 rfl (MA_o MA_pM) rfl rfl ⟨(Nat.le_of_ble_eq_true rfl), (Nat.le_of_ble_eq_true rfl), (Nat.le_of_ble_eq_true rfl), (Nat.le_of_ble_eq_true rfl), (Nat.le_of_ble_eq_true rfl)⟩ dX6_longest_3 ?_
  refine r_if_ne C 13 dX6_longest_6 (by decide) (fun _ => ?_) (fun c => absurd c (by rw [hpl]; decide))
  refine r_iload_n C dX6_longest_13 rfl rfl ?_
  refine r_iconst C (v := 0) dX6_longest_14 rfl ?_
  refine r_bipush C (v := 6) dX6_longest_15 rfl ?_
  refine r_cSi C (c_X6_in) lk_X6_37 rfl rfl ⟨(Nat.le_of_ble_eq_true rfl), (Nat.le_of_ble_eq_true rfl), (Nat.le_of_ble_eq_true rfl), (Nat.le_of_ble_eq_true rfl), (Nat.le_of_ble_eq_true rfl)⟩ dX6_longest_17 ?_
  refine r_if_eq C 27 dX6_longest_20 (by decide) (fun c => absurd c (by rw [hg]; decide)) (fun _ => ?_)
  refine r_iconst C (v := 0) dX6_longest_23 rfl ?_
  refine r_goto C 28 dX6_longest_24 (by decide) ?_
  refine r_cVi C (c_X6_holds MA_pM) lk_X6_65 rfl (MA_o MA_pM) rfl rfl ⟨(Nat.le_of_ble_eq_true rfl), (Nat.le_of_ble_eq_true rfl), (Nat.le_of_ble_eq_true rfl), (Nat.le_of_ble_eq_true rfl), (Nat.le_of_ble_eq_true rfl)⟩ dX6_longest_28 ?_
  refine V.heap (pM_pM _ _ _ _ _ _ _ _) ?_
  refine r_if_eq C 43 dX6_longest_31 (by decide) (fun c => absurd c (by decide)) (fun _ => ?_)
  refine r_aload_n C dX6_longest_34 rfl rfl ?_
  refine r_iload_n C dX6_longest_35 rfl rfl ?_
  refine r_iload_n C dX6_longest_36 rfl rfl ?_
  refine r_cVi C (c_X6_longestOf (u := u) (k := k) MA_pM hp hk hk28 hk2 hb) lk_X6_185 rfl (MA_o MA_pM) rfl rfl ⟨(Nat.le_of_ble_eq_true rfl), (Nat.le_of_ble_eq_true rfl), (Nat.le_of_ble_eq_true rfl), (Nat.le_of_ble_eq_true rfl), (Nat.le_of_ble_eq_true rfl)⟩ dX6_longest_37 ?_
  refine V.heap (pM_pM _ _ _ _ _ _ _ _) ?_
  refine r_goto C 44 dX6_longest_40 (by decide) ?_
  exact r_iret C rfl (Nat.le_of_ble_eq_true rfl) (Nat.le_of_ble_eq_true rfl) ⟨rfl, rfl, rfl⟩ dX6_longest_44

set_option maxHeartbeats 800000 in
set_option maxRecDepth 100000 in
theorem c_X6_longest_f {G : ga_} {l : Launch} {h : HP} {sz : Nat} {mo : Nat} {S A : gS} {dg : Int64} {a : Int32} {g : Int32}  (w : MA G h mo S A dg)  (hpl : m_in a 0 (S 5 0 - 1) = false) : Mf G l yX6_longest cX6_longest 3 (some .int) 4 95 0 0 [.ref mo, .int a, .int g] h sz (some (.int (0))) (pM G h mo (S) (ac A 0 1) (dg)) sz := by
  refine Mg.ofV [(0, .ref mo), (1, .int a), (2, .int g)] (by decide) (Nat.le_of_ble_eq_true rfl) rfl ?_
  intro p e s m args below meth c C
  refine V.heap (pM_id w).symm ?_
  refine r_aload_n C dX6_longest_0 rfl rfl ?_
  refine r_aload_n C dX6_longest_1 rfl rfl ?_
  refine r_iload_n C dX6_longest_2 rfl rfl ?_
  refine r_cVi C (c_X6_isPlayer MA_pM) lk_X6_152 rfl (MA_o MA_pM) rfl rfl ⟨(Nat.le_of_ble_eq_true rfl), (Nat.le_of_ble_eq_true rfl), (Nat.le_of_ble_eq_true rfl), (Nat.le_of_ble_eq_true rfl), (Nat.le_of_ble_eq_true rfl)⟩ dX6_longest_3 ?_
  refine r_if_ne C 13 dX6_longest_6 (by decide) (fun c => absurd (by rw [hpl]; rfl) c) (fun _ => ?_)
  refine r_iconst C (v := 1) dX6_longest_9 rfl ?_
  refine r_goto C 28 dX6_longest_10 (by decide) ?_
  refine r_cVi C (c_X6_holds MA_pM) lk_X6_65 rfl (MA_o MA_pM) rfl rfl ⟨(Nat.le_of_ble_eq_true rfl), (Nat.le_of_ble_eq_true rfl), (Nat.le_of_ble_eq_true rfl), (Nat.le_of_ble_eq_true rfl), (Nat.le_of_ble_eq_true rfl)⟩ dX6_longest_28 ?_
  refine V.heap (pM_pM _ _ _ _ _ _ _ _) ?_
  refine r_if_eq C 43 dX6_longest_31 (by decide) (fun _ => ?_) (fun c => absurd (by decide) c)
  refine r_iconst C (v := 0) dX6_longest_43 rfl ?_
  exact r_iret C rfl (Nat.le_of_ble_eq_true rfl) (Nat.le_of_ble_eq_true rfl) ⟨rfl, rfl, rfl⟩ dX6_longest_44

set_option maxHeartbeats 800000 in
set_option maxRecDepth 100000 in
theorem c_X6_longest_n {G : ga_} {l : Launch} {h : HP} {sz : Nat} {mo : Nat} {S A : gS} {dg : Int64} {a : Int32} {g : Int32}  (w : MA G h mo S A dg)  (hpl : m_in a 0 (S 5 0 - 1) = true) (hg : m_in g 0 6 = false) : Mf G l yX6_longest cX6_longest 3 (some .int) 4 95 0 0 [.ref mo, .int a, .int g] h sz (some (.int (0))) (pM G h mo (S) (ac A 0 2) (dg)) sz := by
  refine Mg.ofV [(0, .ref mo), (1, .int a), (2, .int g)] (by decide) (Nat.le_of_ble_eq_true rfl) rfl ?_
  intro p e s m args below meth c C
  refine V.heap (pM_id w).symm ?_
  refine r_aload_n C dX6_longest_0 rfl rfl ?_
  refine r_aload_n C dX6_longest_1 rfl rfl ?_
  refine r_iload_n C dX6_longest_2 rfl rfl ?_
  refine r_cVi C (c_X6_isPlayer MA_pM) lk_X6_152 rfl (MA_o MA_pM) rfl rfl ⟨(Nat.le_of_ble_eq_true rfl), (Nat.le_of_ble_eq_true rfl), (Nat.le_of_ble_eq_true rfl), (Nat.le_of_ble_eq_true rfl), (Nat.le_of_ble_eq_true rfl)⟩ dX6_longest_3 ?_
  refine r_if_ne C 13 dX6_longest_6 (by decide) (fun _ => ?_) (fun c => absurd c (by rw [hpl]; decide))
  refine r_iload_n C dX6_longest_13 rfl rfl ?_
  refine r_iconst C (v := 0) dX6_longest_14 rfl ?_
  refine r_bipush C (v := 6) dX6_longest_15 rfl ?_
  refine r_cSi C (c_X6_in) lk_X6_37 rfl rfl ⟨(Nat.le_of_ble_eq_true rfl), (Nat.le_of_ble_eq_true rfl), (Nat.le_of_ble_eq_true rfl), (Nat.le_of_ble_eq_true rfl), (Nat.le_of_ble_eq_true rfl)⟩ dX6_longest_17 ?_
  refine r_if_eq C 27 dX6_longest_20 (by decide) (fun _ => ?_) (fun c => absurd (by rw [hg]; rfl) c)
  refine r_iconst C (v := 2) dX6_longest_27 rfl ?_
  refine r_cVi C (c_X6_holds MA_pM) lk_X6_65 rfl (MA_o MA_pM) rfl rfl ⟨(Nat.le_of_ble_eq_true rfl), (Nat.le_of_ble_eq_true rfl), (Nat.le_of_ble_eq_true rfl), (Nat.le_of_ble_eq_true rfl), (Nat.le_of_ble_eq_true rfl)⟩ dX6_longest_28 ?_
  refine V.heap (pM_pM _ _ _ _ _ _ _ _) ?_
  refine r_if_eq C 43 dX6_longest_31 (by decide) (fun _ => ?_) (fun c => absurd (by decide) c)
  refine r_iconst C (v := 0) dX6_longest_43 rfl ?_
  exact r_iret C rfl (Nat.le_of_ble_eq_true rfl) (Nat.le_of_ble_eq_true rfl) ⟨rfl, rfl, rfl⟩ dX6_longest_44

set_option maxHeartbeats 800000 in
set_option maxRecDepth 100000 in
theorem c_X6_whole_t {G : ga_} {l : Launch} {h : HP} {sz : Nat} {mo : Nat} {S A : gS} {dg : Int64} {u : Nat} {g : Int32} {d : Int32} {k : Nat}  (w : MA G h mo S A dg)  (hp : u < 4) (hk : tAt 4 16 (S 2) (nI u) 0 = nI k) (hk28 : k ≤ 28) (hk2 : ∀ i, i < k → ∃ t, t < 28 ∧ tAt 28 112 (S 1) (nI u) (nI i) = nI t) (hb : nB S) (hpl : m_in (nI u) 0 (S 5 0 - 1) = true) (hg : m_in g 0 6 = true) (hd : m_in d 0 1 = true) : Mf G l yX6_whole cX6_whole 5 (some .int) 5 118 0 0 [.ref mo, .int (nI u), .int g, .int d] h sz (some (.int (m_wh S (nI u) g k (A 4)))) (pM G h mo (S) (gu (ac A 0 0) 4 (m_lo S (nI u) g k (A 4)).2) (dg)) sz := by
  refine Mg.ofV [(0, .ref mo), (1, .int (nI u)), (2, .int g), (3, .int d)] (by decide) (Nat.le_of_ble_eq_true rfl) rfl ?_
  intro p e s m args below meth c C
  refine V.heap (pM_id w).symm ?_
  refine r_iload_n C dX6_whole_0 rfl rfl ?_
  refine r_iconst C (v := 0) dX6_whole_1 rfl ?_
  refine r_bipush C (v := 6) dX6_whole_2 rfl ?_
  refine r_cSi C (c_X6_in) lk_X6_37 rfl rfl ⟨(Nat.le_of_ble_eq_true rfl), (Nat.le_of_ble_eq_true rfl), (Nat.le_of_ble_eq_true rfl), (Nat.le_of_ble_eq_true rfl), (Nat.le_of_ble_eq_true rfl)⟩ dX6_whole_4 ?_
  refine r_if_eq C 23 dX6_whole_7 (by decide) (fun c => absurd c (by rw [hg]; decide)) (fun _ => ?_)
  refine r_iload_n C dX6_whole_10 rfl rfl ?_
  refine r_iconst C (v := 0) dX6_whole_11 rfl ?_
  refine r_iconst C (v := 1) dX6_whole_12 rfl ?_
  refine r_cSi C (c_X6_in) lk_X6_37 rfl rfl ⟨(Nat.le_of_ble_eq_true rfl), (Nat.le_of_ble_eq_true rfl), (Nat.le_of_ble_eq_true rfl), (Nat.le_of_ble_eq_true rfl), (Nat.le_of_ble_eq_true rfl)⟩ dX6_whole_13 ?_
  refine r_if_eq C 23 dX6_whole_16 (by decide) (fun c => absurd c (by rw [hd]; decide)) (fun _ => ?_)
  refine r_iconst C (v := 1) dX6_whole_19 rfl ?_
  refine r_goto C 24 dX6_whole_20 (by decide) ?_
  refine r_istore C dX6_whole_24 (by decide) ?_
  refine r_aload_n C dX6_whole_26 rfl rfl ?_
  refine r_aload_n C dX6_whole_27 rfl rfl ?_
  refine r_iload_n C dX6_whole_28 rfl rfl ?_
  refine r_cVi C (c_X6_isPlayer MA_pM) lk_X6_152 rfl (MA_o MA_pM) rfl rfl ⟨(Nat.le_of_ble_eq_true rfl), (Nat.le_of_ble_eq_true rfl), (Nat.le_of_ble_eq_true rfl), (Nat.le_of_ble_eq_true rfl), (Nat.le_of_ble_eq_true rfl)⟩ dX6_whole_29 ?_
  refine r_if_ne C 39 dX6_whole_32 (by decide) (fun _ => ?_) (fun c => absurd c (by rw [hpl]; decide))
  refine r_iload C dX6_whole_39 rfl ?_
  refine r_if_eq C 48 dX6_whole_41 (by decide) (fun c => absurd c (by decide)) (fun _ => ?_)
  refine r_iconst C (v := 0) dX6_whole_44 rfl ?_
  refine r_goto C 49 dX6_whole_45 (by decide) ?_
  refine r_cVi C (c_X6_holds MA_pM) lk_X6_65 rfl (MA_o MA_pM) rfl rfl ⟨(Nat.le_of_ble_eq_true rfl), (Nat.le_of_ble_eq_true rfl), (Nat.le_of_ble_eq_true rfl), (Nat.le_of_ble_eq_true rfl), (Nat.le_of_ble_eq_true rfl)⟩ dX6_whole_49 ?_
  refine V.heap (pM_pM _ _ _ _ _ _ _ _) ?_
  refine r_if_eq C 64 dX6_whole_52 (by decide) (fun c => absurd c (by decide)) (fun _ => ?_)
  refine r_aload_n C dX6_whole_55 rfl rfl ?_
  refine r_iload_n C dX6_whole_56 rfl rfl ?_
  refine r_iload_n C dX6_whole_57 rfl rfl ?_
  refine r_cVi C (c_X6_wholeOf (u := u) (k := k) MA_pM hp hk hk28 hk2 hb) lk_X6_188 rfl (MA_o MA_pM) rfl rfl ⟨(Nat.le_of_ble_eq_true rfl), (Nat.le_of_ble_eq_true rfl), (Nat.le_of_ble_eq_true rfl), (Nat.le_of_ble_eq_true rfl), (Nat.le_of_ble_eq_true rfl)⟩ dX6_whole_58 ?_
  refine V.heap (pM_pM _ _ _ _ _ _ _ _) ?_
  refine r_goto C 65 dX6_whole_61 (by decide) ?_
  exact r_iret C rfl (Nat.le_of_ble_eq_true rfl) (Nat.le_of_ble_eq_true rfl) ⟨rfl, rfl, rfl⟩ dX6_whole_65

set_option maxHeartbeats 800000 in
set_option maxRecDepth 100000 in
theorem c_X6_whole_f0 {G : ga_} {l : Launch} {h : HP} {sz : Nat} {mo : Nat} {S A : gS} {dg : Int64} {a : Int32} {g : Int32} {d : Int32}  (w : MA G h mo S A dg)  (hpl : m_in a 0 (S 5 0 - 1) = false) (hg : m_in g 0 6 = false) : Mf G l yX6_whole cX6_whole 5 (some .int) 5 118 0 0 [.ref mo, .int a, .int g, .int d] h sz (some (.int (0))) (pM G h mo (S) (ac A 0 1) (dg)) sz := by
  refine Mg.ofV [(0, .ref mo), (1, .int a), (2, .int g), (3, .int d)] (by decide) (Nat.le_of_ble_eq_true rfl) rfl ?_
  intro p e s m args below meth c C
  refine V.heap (pM_id w).symm ?_
  refine r_iload_n C dX6_whole_0 rfl rfl ?_
  refine r_iconst C (v := 0) dX6_whole_1 rfl ?_
  refine r_bipush C (v := 6) dX6_whole_2 rfl ?_
  refine r_cSi C (c_X6_in) lk_X6_37 rfl rfl ⟨(Nat.le_of_ble_eq_true rfl), (Nat.le_of_ble_eq_true rfl), (Nat.le_of_ble_eq_true rfl), (Nat.le_of_ble_eq_true rfl), (Nat.le_of_ble_eq_true rfl)⟩ dX6_whole_4 ?_
  refine r_if_eq C 23 dX6_whole_7 (by decide) (fun _ => ?_) (fun c => absurd (by rw [hg]; rfl) c)
  refine r_iconst C (v := 0) dX6_whole_23 rfl ?_
  refine r_istore C dX6_whole_24 (by decide) ?_
  refine r_aload_n C dX6_whole_26 rfl rfl ?_
  refine r_aload_n C dX6_whole_27 rfl rfl ?_
  refine r_iload_n C dX6_whole_28 rfl rfl ?_
  refine r_cVi C (c_X6_isPlayer MA_pM) lk_X6_152 rfl (MA_o MA_pM) rfl rfl ⟨(Nat.le_of_ble_eq_true rfl), (Nat.le_of_ble_eq_true rfl), (Nat.le_of_ble_eq_true rfl), (Nat.le_of_ble_eq_true rfl), (Nat.le_of_ble_eq_true rfl)⟩ dX6_whole_29 ?_
  refine r_if_ne C 39 dX6_whole_32 (by decide) (fun c => absurd (by rw [hpl]; rfl) c) (fun _ => ?_)
  refine r_iconst C (v := 1) dX6_whole_35 rfl ?_
  refine r_goto C 49 dX6_whole_36 (by decide) ?_
  refine r_cVi C (c_X6_holds MA_pM) lk_X6_65 rfl (MA_o MA_pM) rfl rfl ⟨(Nat.le_of_ble_eq_true rfl), (Nat.le_of_ble_eq_true rfl), (Nat.le_of_ble_eq_true rfl), (Nat.le_of_ble_eq_true rfl), (Nat.le_of_ble_eq_true rfl)⟩ dX6_whole_49 ?_
  refine V.heap (pM_pM _ _ _ _ _ _ _ _) ?_
  refine r_if_eq C 64 dX6_whole_52 (by decide) (fun _ => ?_) (fun c => absurd (by decide) c)
  refine r_iconst C (v := 0) dX6_whole_64 rfl ?_
  exact r_iret C rfl (Nat.le_of_ble_eq_true rfl) (Nat.le_of_ble_eq_true rfl) ⟨rfl, rfl, rfl⟩ dX6_whole_65

set_option maxHeartbeats 800000 in
set_option maxRecDepth 100000 in
theorem c_X6_whole_f1 {G : ga_} {l : Launch} {h : HP} {sz : Nat} {mo : Nat} {S A : gS} {dg : Int64} {a : Int32} {g : Int32} {d : Int32}  (w : MA G h mo S A dg)  (hpl : m_in a 0 (S 5 0 - 1) = false) (hg : m_in g 0 6 = true) (hd : m_in d 0 1 = false) : Mf G l yX6_whole cX6_whole 5 (some .int) 5 118 0 0 [.ref mo, .int a, .int g, .int d] h sz (some (.int (0))) (pM G h mo (S) (ac A 0 1) (dg)) sz := by
  refine Mg.ofV [(0, .ref mo), (1, .int a), (2, .int g), (3, .int d)] (by decide) (Nat.le_of_ble_eq_true rfl) rfl ?_
  intro p e s m args below meth c C
  refine V.heap (pM_id w).symm ?_
  refine r_iload_n C dX6_whole_0 rfl rfl ?_
  refine r_iconst C (v := 0) dX6_whole_1 rfl ?_
  refine r_bipush C (v := 6) dX6_whole_2 rfl ?_
  refine r_cSi C (c_X6_in) lk_X6_37 rfl rfl ⟨(Nat.le_of_ble_eq_true rfl), (Nat.le_of_ble_eq_true rfl), (Nat.le_of_ble_eq_true rfl), (Nat.le_of_ble_eq_true rfl), (Nat.le_of_ble_eq_true rfl)⟩ dX6_whole_4 ?_
  refine r_if_eq C 23 dX6_whole_7 (by decide) (fun c => absurd c (by rw [hg]; decide)) (fun _ => ?_)
  refine r_iload_n C dX6_whole_10 rfl rfl ?_
  refine r_iconst C (v := 0) dX6_whole_11 rfl ?_
  refine r_iconst C (v := 1) dX6_whole_12 rfl ?_
  refine r_cSi C (c_X6_in) lk_X6_37 rfl rfl ⟨(Nat.le_of_ble_eq_true rfl), (Nat.le_of_ble_eq_true rfl), (Nat.le_of_ble_eq_true rfl), (Nat.le_of_ble_eq_true rfl), (Nat.le_of_ble_eq_true rfl)⟩ dX6_whole_13 ?_
  refine r_if_eq C 23 dX6_whole_16 (by decide) (fun _ => ?_) (fun c => absurd (by rw [hd]; rfl) c)
  refine r_iconst C (v := 0) dX6_whole_23 rfl ?_
  refine r_istore C dX6_whole_24 (by decide) ?_
  refine r_aload_n C dX6_whole_26 rfl rfl ?_
  refine r_aload_n C dX6_whole_27 rfl rfl ?_
  refine r_iload_n C dX6_whole_28 rfl rfl ?_
  refine r_cVi C (c_X6_isPlayer MA_pM) lk_X6_152 rfl (MA_o MA_pM) rfl rfl ⟨(Nat.le_of_ble_eq_true rfl), (Nat.le_of_ble_eq_true rfl), (Nat.le_of_ble_eq_true rfl), (Nat.le_of_ble_eq_true rfl), (Nat.le_of_ble_eq_true rfl)⟩ dX6_whole_29 ?_
  refine r_if_ne C 39 dX6_whole_32 (by decide) (fun c => absurd (by rw [hpl]; rfl) c) (fun _ => ?_)
  refine r_iconst C (v := 1) dX6_whole_35 rfl ?_
  refine r_goto C 49 dX6_whole_36 (by decide) ?_
  refine r_cVi C (c_X6_holds MA_pM) lk_X6_65 rfl (MA_o MA_pM) rfl rfl ⟨(Nat.le_of_ble_eq_true rfl), (Nat.le_of_ble_eq_true rfl), (Nat.le_of_ble_eq_true rfl), (Nat.le_of_ble_eq_true rfl), (Nat.le_of_ble_eq_true rfl)⟩ dX6_whole_49 ?_
  refine V.heap (pM_pM _ _ _ _ _ _ _ _) ?_
  refine r_if_eq C 64 dX6_whole_52 (by decide) (fun _ => ?_) (fun c => absurd (by decide) c)
  refine r_iconst C (v := 0) dX6_whole_64 rfl ?_
  exact r_iret C rfl (Nat.le_of_ble_eq_true rfl) (Nat.le_of_ble_eq_true rfl) ⟨rfl, rfl, rfl⟩ dX6_whole_65

set_option maxHeartbeats 800000 in
set_option maxRecDepth 100000 in
theorem c_X6_whole_f2 {G : ga_} {l : Launch} {h : HP} {sz : Nat} {mo : Nat} {S A : gS} {dg : Int64} {a : Int32} {g : Int32} {d : Int32}  (w : MA G h mo S A dg)  (hpl : m_in a 0 (S 5 0 - 1) = false) (hg : m_in g 0 6 = true) (hd : m_in d 0 1 = true) : Mf G l yX6_whole cX6_whole 5 (some .int) 5 118 0 0 [.ref mo, .int a, .int g, .int d] h sz (some (.int (0))) (pM G h mo (S) (ac A 0 1) (dg)) sz := by
  refine Mg.ofV [(0, .ref mo), (1, .int a), (2, .int g), (3, .int d)] (by decide) (Nat.le_of_ble_eq_true rfl) rfl ?_
  intro p e s m args below meth c C
  refine V.heap (pM_id w).symm ?_
  refine r_iload_n C dX6_whole_0 rfl rfl ?_
  refine r_iconst C (v := 0) dX6_whole_1 rfl ?_
  refine r_bipush C (v := 6) dX6_whole_2 rfl ?_
  refine r_cSi C (c_X6_in) lk_X6_37 rfl rfl ⟨(Nat.le_of_ble_eq_true rfl), (Nat.le_of_ble_eq_true rfl), (Nat.le_of_ble_eq_true rfl), (Nat.le_of_ble_eq_true rfl), (Nat.le_of_ble_eq_true rfl)⟩ dX6_whole_4 ?_
  refine r_if_eq C 23 dX6_whole_7 (by decide) (fun c => absurd c (by rw [hg]; decide)) (fun _ => ?_)
  refine r_iload_n C dX6_whole_10 rfl rfl ?_
  refine r_iconst C (v := 0) dX6_whole_11 rfl ?_
  refine r_iconst C (v := 1) dX6_whole_12 rfl ?_
  refine r_cSi C (c_X6_in) lk_X6_37 rfl rfl ⟨(Nat.le_of_ble_eq_true rfl), (Nat.le_of_ble_eq_true rfl), (Nat.le_of_ble_eq_true rfl), (Nat.le_of_ble_eq_true rfl), (Nat.le_of_ble_eq_true rfl)⟩ dX6_whole_13 ?_
  refine r_if_eq C 23 dX6_whole_16 (by decide) (fun c => absurd c (by rw [hd]; decide)) (fun _ => ?_)
  refine r_iconst C (v := 1) dX6_whole_19 rfl ?_
  refine r_goto C 24 dX6_whole_20 (by decide) ?_
  refine r_istore C dX6_whole_24 (by decide) ?_
  refine r_aload_n C dX6_whole_26 rfl rfl ?_
  refine r_aload_n C dX6_whole_27 rfl rfl ?_
  refine r_iload_n C dX6_whole_28 rfl rfl ?_
  refine r_cVi C (c_X6_isPlayer MA_pM) lk_X6_152 rfl (MA_o MA_pM) rfl rfl ⟨(Nat.le_of_ble_eq_true rfl), (Nat.le_of_ble_eq_true rfl), (Nat.le_of_ble_eq_true rfl), (Nat.le_of_ble_eq_true rfl), (Nat.le_of_ble_eq_true rfl)⟩ dX6_whole_29 ?_
  refine r_if_ne C 39 dX6_whole_32 (by decide) (fun c => absurd (by rw [hpl]; rfl) c) (fun _ => ?_)
  refine r_iconst C (v := 1) dX6_whole_35 rfl ?_
  refine r_goto C 49 dX6_whole_36 (by decide) ?_
  refine r_cVi C (c_X6_holds MA_pM) lk_X6_65 rfl (MA_o MA_pM) rfl rfl ⟨(Nat.le_of_ble_eq_true rfl), (Nat.le_of_ble_eq_true rfl), (Nat.le_of_ble_eq_true rfl), (Nat.le_of_ble_eq_true rfl), (Nat.le_of_ble_eq_true rfl)⟩ dX6_whole_49 ?_
  refine V.heap (pM_pM _ _ _ _ _ _ _ _) ?_
  refine r_if_eq C 64 dX6_whole_52 (by decide) (fun _ => ?_) (fun c => absurd (by decide) c)
  refine r_iconst C (v := 0) dX6_whole_64 rfl ?_
  exact r_iret C rfl (Nat.le_of_ble_eq_true rfl) (Nat.le_of_ble_eq_true rfl) ⟨rfl, rfl, rfl⟩ dX6_whole_65

set_option maxHeartbeats 800000 in
set_option maxRecDepth 100000 in
theorem c_X6_whole_n0 {G : ga_} {l : Launch} {h : HP} {sz : Nat} {mo : Nat} {S A : gS} {dg : Int64} {a : Int32} {g : Int32} {d : Int32}  (w : MA G h mo S A dg)  (hpl : m_in a 0 (S 5 0 - 1) = true) (hg : m_in g 0 6 = false) : Mf G l yX6_whole cX6_whole 5 (some .int) 5 118 0 0 [.ref mo, .int a, .int g, .int d] h sz (some (.int (0))) (pM G h mo (S) (ac A 0 2) (dg)) sz := by
  refine Mg.ofV [(0, .ref mo), (1, .int a), (2, .int g), (3, .int d)] (by decide) (Nat.le_of_ble_eq_true rfl) rfl ?_
  intro p e s m args below meth c C
  refine V.heap (pM_id w).symm ?_
  refine r_iload_n C dX6_whole_0 rfl rfl ?_
  refine r_iconst C (v := 0) dX6_whole_1 rfl ?_
  refine r_bipush C (v := 6) dX6_whole_2 rfl ?_
  refine r_cSi C (c_X6_in) lk_X6_37 rfl rfl ⟨(Nat.le_of_ble_eq_true rfl), (Nat.le_of_ble_eq_true rfl), (Nat.le_of_ble_eq_true rfl), (Nat.le_of_ble_eq_true rfl), (Nat.le_of_ble_eq_true rfl)⟩ dX6_whole_4 ?_
  refine r_if_eq C 23 dX6_whole_7 (by decide) (fun _ => ?_) (fun c => absurd (by rw [hg]; rfl) c)
  refine r_iconst C (v := 0) dX6_whole_23 rfl ?_
  refine r_istore C dX6_whole_24 (by decide) ?_
  refine r_aload_n C dX6_whole_26 rfl rfl ?_
  refine r_aload_n C dX6_whole_27 rfl rfl ?_
  refine r_iload_n C dX6_whole_28 rfl rfl ?_
  refine r_cVi C (c_X6_isPlayer MA_pM) lk_X6_152 rfl (MA_o MA_pM) rfl rfl ⟨(Nat.le_of_ble_eq_true rfl), (Nat.le_of_ble_eq_true rfl), (Nat.le_of_ble_eq_true rfl), (Nat.le_of_ble_eq_true rfl), (Nat.le_of_ble_eq_true rfl)⟩ dX6_whole_29 ?_
  refine r_if_ne C 39 dX6_whole_32 (by decide) (fun _ => ?_) (fun c => absurd c (by rw [hpl]; decide))
  refine r_iload C dX6_whole_39 rfl ?_
  refine r_if_eq C 48 dX6_whole_41 (by decide) (fun _ => ?_) (fun c => absurd (by decide) c)
  refine r_iconst C (v := 2) dX6_whole_48 rfl ?_
  refine r_cVi C (c_X6_holds MA_pM) lk_X6_65 rfl (MA_o MA_pM) rfl rfl ⟨(Nat.le_of_ble_eq_true rfl), (Nat.le_of_ble_eq_true rfl), (Nat.le_of_ble_eq_true rfl), (Nat.le_of_ble_eq_true rfl), (Nat.le_of_ble_eq_true rfl)⟩ dX6_whole_49 ?_
  refine V.heap (pM_pM _ _ _ _ _ _ _ _) ?_
  refine r_if_eq C 64 dX6_whole_52 (by decide) (fun _ => ?_) (fun c => absurd (by decide) c)
  refine r_iconst C (v := 0) dX6_whole_64 rfl ?_
  exact r_iret C rfl (Nat.le_of_ble_eq_true rfl) (Nat.le_of_ble_eq_true rfl) ⟨rfl, rfl, rfl⟩ dX6_whole_65

set_option maxHeartbeats 800000 in
set_option maxRecDepth 100000 in
theorem c_X6_whole_n1 {G : ga_} {l : Launch} {h : HP} {sz : Nat} {mo : Nat} {S A : gS} {dg : Int64} {a : Int32} {g : Int32} {d : Int32}  (w : MA G h mo S A dg)  (hpl : m_in a 0 (S 5 0 - 1) = true) (hg : m_in g 0 6 = true) (hd : m_in d 0 1 = false) : Mf G l yX6_whole cX6_whole 5 (some .int) 5 118 0 0 [.ref mo, .int a, .int g, .int d] h sz (some (.int (0))) (pM G h mo (S) (ac A 0 2) (dg)) sz := by
  refine Mg.ofV [(0, .ref mo), (1, .int a), (2, .int g), (3, .int d)] (by decide) (Nat.le_of_ble_eq_true rfl) rfl ?_
  intro p e s m args below meth c C
  refine V.heap (pM_id w).symm ?_
  refine r_iload_n C dX6_whole_0 rfl rfl ?_
  refine r_iconst C (v := 0) dX6_whole_1 rfl ?_
  refine r_bipush C (v := 6) dX6_whole_2 rfl ?_
  refine r_cSi C (c_X6_in) lk_X6_37 rfl rfl ⟨(Nat.le_of_ble_eq_true rfl), (Nat.le_of_ble_eq_true rfl), (Nat.le_of_ble_eq_true rfl), (Nat.le_of_ble_eq_true rfl), (Nat.le_of_ble_eq_true rfl)⟩ dX6_whole_4 ?_
  refine r_if_eq C 23 dX6_whole_7 (by decide) (fun c => absurd c (by rw [hg]; decide)) (fun _ => ?_)
  refine r_iload_n C dX6_whole_10 rfl rfl ?_
  refine r_iconst C (v := 0) dX6_whole_11 rfl ?_
  refine r_iconst C (v := 1) dX6_whole_12 rfl ?_
  refine r_cSi C (c_X6_in) lk_X6_37 rfl rfl ⟨(Nat.le_of_ble_eq_true rfl), (Nat.le_of_ble_eq_true rfl), (Nat.le_of_ble_eq_true rfl), (Nat.le_of_ble_eq_true rfl), (Nat.le_of_ble_eq_true rfl)⟩ dX6_whole_13 ?_
  refine r_if_eq C 23 dX6_whole_16 (by decide) (fun _ => ?_) (fun c => absurd (by rw [hd]; rfl) c)
  refine r_iconst C (v := 0) dX6_whole_23 rfl ?_
  refine r_istore C dX6_whole_24 (by decide) ?_
  refine r_aload_n C dX6_whole_26 rfl rfl ?_
  refine r_aload_n C dX6_whole_27 rfl rfl ?_
  refine r_iload_n C dX6_whole_28 rfl rfl ?_
  refine r_cVi C (c_X6_isPlayer MA_pM) lk_X6_152 rfl (MA_o MA_pM) rfl rfl ⟨(Nat.le_of_ble_eq_true rfl), (Nat.le_of_ble_eq_true rfl), (Nat.le_of_ble_eq_true rfl), (Nat.le_of_ble_eq_true rfl), (Nat.le_of_ble_eq_true rfl)⟩ dX6_whole_29 ?_
  refine r_if_ne C 39 dX6_whole_32 (by decide) (fun _ => ?_) (fun c => absurd c (by rw [hpl]; decide))
  refine r_iload C dX6_whole_39 rfl ?_
  refine r_if_eq C 48 dX6_whole_41 (by decide) (fun _ => ?_) (fun c => absurd (by decide) c)
  refine r_iconst C (v := 2) dX6_whole_48 rfl ?_
  refine r_cVi C (c_X6_holds MA_pM) lk_X6_65 rfl (MA_o MA_pM) rfl rfl ⟨(Nat.le_of_ble_eq_true rfl), (Nat.le_of_ble_eq_true rfl), (Nat.le_of_ble_eq_true rfl), (Nat.le_of_ble_eq_true rfl), (Nat.le_of_ble_eq_true rfl)⟩ dX6_whole_49 ?_
  refine V.heap (pM_pM _ _ _ _ _ _ _ _) ?_
  refine r_if_eq C 64 dX6_whole_52 (by decide) (fun _ => ?_) (fun c => absurd (by decide) c)
  refine r_iconst C (v := 0) dX6_whole_64 rfl ?_
  exact r_iret C rfl (Nat.le_of_ble_eq_true rfl) (Nat.le_of_ble_eq_true rfl) ⟨rfl, rfl, rfl⟩ dX6_whole_65

