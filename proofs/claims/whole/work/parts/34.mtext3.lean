/-! THE MODEL MAKES THE TURNS OF THE TEXT -/
def m_mS (S : gS) (t : tT_) : gS := if t.2.2.1 = 108 then g_lay S t.2.2.2.1 t.2.2.2.2.1 t.2.2.2.2.2 else if t.2.2.1 = 100 then g_draw S else g_pass S
def m_mB (S : gS) (t : tT_) : Bool := if t.2.2.1 = 108 then decide (9 < g_layA S t.2.2.2.1 t.2.2.2.2.1 t.2.2.2.2.2) else if t.2.2.1 = 100 then decide (g_drawA S < 100) else decide (9 < g_passA S)
def e_ok (S : gS) (t : tT_) (dn : Bool) : Bool := !t.2.1 && (!dn || m_mB S t)
def e_S (S : gS) (t : tT_) (dn : Bool) : gS := if (!t.2.1 && dn) = true then m_mS S t else S
def e_go (f : Nat → Int32) (n : Nat) (dn : Bool) : Nat → Int32 → gS → tT_ → Int32 × gS × tT_
  | 0, c, S, t => (c, S, t)
  | k + 1, c, S, t => if (e_ok S (r_T f n t) dn && decide ((r_T f n t).1 < n)) = true then (if (s_T f n (r_T f n t) 59 59).2.1 = true then (c + (if e_ok S (r_T f n t) dn = true then 1 else 0), e_S S (r_T f n t) dn, s_T f n (r_T f n t) 59 59) else e_go f n dn k (c + (if e_ok S (r_T f n t) dn = true then 1 else 0)) (e_S S (r_T f n t) dn) (s_T f n (r_T f n t) 59 59)) else (c + (if e_ok S (r_T f n t) dn = true then 1 else 0), e_S S (r_T f n t) dn, r_T f n t)
theorem r3_l {f : Nat → Int32} {n : Nat} {t : tT_} : (r_3 f n t).2.2.1 = t.2.2.1 := by unfold r_3; split <;> rfl
theorem r5_l {f : Nat → Int32} {n : Nat} {t : tT_} : (r_5 f n t).2.2.1 = t.2.2.1 := by
  show (if r_y f n t = true then s_T f n t 60 60 else s_T f n t 62 62).2.2.1 = _
  split <;> rfl
theorem rT_l {f : Nat → Int32} {n : Nat} {t : tT_} : (r_T f n t).2.2.1 = r_le f n t := by
  unfold r_T
  split
  · rw [r5_l]
    show (r_3 f n (r_2 f n (r_1 f n t))).2.2.1 = _
    rw [r3_l]
    rfl
  · rfl
theorem m_in_nat {x : Int32} {a b : Nat} (hb : b < 2147483647) (h : m_in x (nI a) (nI b) = true) (ha : a ≤ b) : ∃ c, a ≤ c ∧ c ≤ b ∧ x = nI c := by
  unfold m_in at h
  rw [Bool.and_eq_true] at h
  have h1 := Int32.le_iff_toInt_le.mp (of_decide_eq_true h.1)
  have h2 := Int32.le_iff_toInt_le.mp (of_decide_eq_true h.2)
  rw [nI_toInt (by omega)] at h1 h2
  rcases pk_ix x (n := b + 1) (by omega) with c | c | ⟨c, hc, e⟩
  · have := Int32.lt_iff_toInt_lt.mp c
    have e0 : (0 : Int32).toInt = 0 := rfl
    omega
  · have := Int32.le_iff_toInt_le.mp c
    rw [nI_toInt (by omega)] at this
    omega
  · rw [e, nI_toInt (by omega)] at h1
    exact ⟨c, by omega, by omega, e⟩
theorem sw_f {f : Nat → Int32} {n p : Nat} {w : Bool} {lo hi : Int32} (h : s_w f n p w lo hi = false) : w = false ∧ m_in (s_c f n p) lo hi = true := by
  unfold s_w at h
  rw [Bool.or_eq_false_iff, Bool.not_eq_false'] at h
  exact h
theorem rT_ro {f : Nat → Int32} {n : Nat} {t : tT_} (hw : (r_T f n t).2.1 = false) (hl : (r_T f n t).2.2.1 = 108) : ∃ r d, r < 3 ∧ d < 2 ∧ (r_T f n t).2.2.2.2.1 = nI r ∧ (r_T f n t).2.2.2.2.2 = nI d := by
  have h1 : (r_1 f n t).2.2.1 = 108 := rT_l.symm.trans hl
  unfold r_T at hw ⊢
  rw [if_pos h1] at hw ⊢
  generalize r_3 f n (r_2 f n (r_1 f n t)) = t3 at hw ⊢
  have hw4 : (r_4 f n t3).2.1 = false := by
    unfold r_5 at hw
    generalize r_4 f n t3 = t4 at hw ⊢
    change (if r_y f n t4 = true then s_T f n t4 60 60 else s_T f n t4 62 62).2.1 = false at hw
    split at hw
    · exact (sw_f hw).1
    · exact (sw_f hw).1
  have hin := (sw_f (show s_w f n t3.1 t3.2.1 97 99 = false from hw4)).2
  obtain ⟨c, h97, h99, ec⟩ := m_in_nat (a := 97) (b := 99) (by decide) hin (by decide)
  have ero : (r_5 f n (r_4 f n t3)).2.2.2.2.1 = s_c f n t3.1 - 97 := by
    unfold r_5
    show (if r_y f n _ = true then s_T f n _ 60 60 else s_T f n _ 62 62).2.2.2.2.1 = _
    split <;> rfl
  have een : (r_5 f n (r_4 f n t3)).2.2.2.2.2 = bI (!r_y f n (r_4 f n t3)) := rfl
  refine ⟨c - 97, if r_y f n (r_4 f n t3) = true then 0 else 1, by omega, by split <;> omega, ?_, ?_⟩
  · rw [ero, ec]
    exact pk_sub (b := 97) h97
  · rw [een]
    cases r_y f n (r_4 f n t3) <;> rfl
theorem rT_let {f : Nat → Int32} {n : Nat} {t : tT_} (hw : (r_T f n t).2.1 = false) : (r_T f n t).2.2.1 = 108 ∨ (r_T f n t).2.2.1 = 100 ∨ (r_T f n t).2.2.1 = 112 := by
  rw [rT_l]
  by_cases c : (r_1 f n t).2.2.1 = 108
  · exact Or.inl c
  · unfold r_T at hw
    rw [if_neg c] at hw
    have h0 : ¬ r_le f n t = 0 := of_decide_eq_false hw
    have key : ∀ {k : Nat}, k < 2147483647 → nx_ f n t.1 t.2.1 (nI k) (nI k) = true → f t.1 = nI k := by
      intro k hk h
      unfold nx_ at h
      rw [Bool.and_eq_true, Bool.and_eq_true] at h
      obtain ⟨c, h1, h2, e⟩ := m_in_nat hk h.2.2 (Nat.le_refl _)
      rw [e, show c = k by omega]
    unfold r_le at h0 ⊢
    by_cases d : (nx_ f n t.1 t.2.1 108 108 || (nx_ f n t.1 t.2.1 100 100 || nx_ f n t.1 t.2.1 112 112)) = true
    · rw [if_pos d]
      rw [Bool.or_eq_true, Bool.or_eq_true] at d
      rcases d with d | d | d
      · exact Or.inl (key (k := 108) (by decide) d)
      · exact Or.inr (Or.inl (key (k := 100) (by decide) d))
      · exact Or.inr (Or.inr (key (k := 112) (by decide) d))
    · rw [if_neg d] at h0; exact absurd rfl h0
theorem rT_ge {f : Nat → Int32} {n : Nat} {t : tT_} : t.1 ≤ (r_T f n t).1 := by
  have h1 : t.1 ≤ (r_1 f n t).1 := Nat.le_add_right _ _
  unfold r_T
  split
  · have h2 : (r_1 f n t).1 ≤ (r_2 f n (r_1 f n t)).1 := Nat.le_add_right _ _
    have h3 : (r_2 f n (r_1 f n t)).1 ≤ (r_3 f n (r_2 f n (r_1 f n t))).1 := by
      unfold r_3
      split
      · exact Nat.le_succ _
      · exact Nat.le_refl _
    have h4 : (r_3 f n (r_2 f n (r_1 f n t))).1 ≤ (r_4 f n (r_3 f n (r_2 f n (r_1 f n t)))).1 := Nat.le_add_right _ _
    have h5 : (r_4 f n (r_3 f n (r_2 f n (r_1 f n t)))).1 ≤ (r_5 f n (r_4 f n (r_3 f n (r_2 f n (r_1 f n t))))).1 := by
      show _ ≤ (if r_y f n _ = true then s_T f n _ 60 60 else s_T f n _ 62 62).1
      split
      · exact Nat.le_add_right _ _
      · exact Nat.le_add_right _ _
    omega
  · exact h1
theorem reason_lt (S : gS) (a r e : Int32) : g_reason S a r e = 0 ∨ g_reason S a r e = 1 ∨ g_reason S a r e = 2 ∨ g_reason S a r e = 3 := by
  unfold g_reason
  split
  · exact Or.inr (Or.inl rfl)
  · split
    · split
      · exact Or.inl rfl
      · exact Or.inr (Or.inr (Or.inr rfl))
    · exact Or.inr (Or.inr (Or.inl rfl))
theorem made_ok {nn : Nat} {S : gS} {t : tT_} (hg : gOk nn S) (hro : t.2.2.1 = 108 → ∃ r d, r < 3 ∧ d < 2 ∧ t.2.2.2.2.1 = nI r ∧ t.2.2.2.2.2 = nI d) (h : m_mB S t = true) : gOk nn (m_mS S t) := by
  unfold m_mB at h
  unfold m_mS
  by_cases c : t.2.2.1 = 108
  · rw [if_pos c] at h ⊢
    obtain ⟨r, d, hr, hd, er, ed⟩ := hro c
    rw [er, ed] at h ⊢
    have h9 : (9 : Int32) < g_layA S t.2.2.2.1 (nI r) (nI d) := of_decide_eq_true h
    by_cases h0 : g_reason S t.2.2.2.1 (nI r) (nI d) = 0
    · exact hg.lay0 hr hd h0
    · exfalso
      unfold g_layA at h9
      rw [if_neg h0] at h9
      rcases reason_lt S t.2.2.2.1 (nI r) (nI d) with e | e | e | e
      · exact h0 e
      · rw [e] at h9; exact absurd h9 (by decide)
      · rw [e] at h9; exact absurd h9 (by decide)
      · rw [e] at h9; exact absurd h9 (by decide)
  · rw [if_neg c] at h ⊢
    by_cases d : t.2.2.1 = 100
    · rw [if_pos d] at h ⊢
      have h1 : g_drawA S < 100 := of_decide_eq_true h
      refine hg.draw0 ?_
      by_cases h0 : (g_over S || decide (g_stock S = 0)) = true
      · exfalso
        unfold g_drawA at h1
        rw [if_pos h0] at h1
        by_cases q : g_over (g_ref S) = true
        · rw [if_pos q] at h1; exact absurd h1 (by decide)
        · rw [if_neg q] at h1; exact absurd h1 (by decide)
      · simpa using h0
    · rw [if_neg d] at h ⊢
      have h1 : (9 : Int32) < g_passA S := of_decide_eq_true h
      refine hg.pass0 ?_
      by_cases h0 : (g_over S || decide (0 < g_stock S)) = true
      · exfalso
        unfold g_passA at h1
        rw [if_pos h0] at h1
        by_cases q : g_over (g_ref S) = true
        · rw [if_pos q] at h1; exact absurd h1 (by decide)
        · rw [if_neg q] at h1; exact absurd h1 (by decide)
      · simpa using h0
theorem eS_ok {nn : Nat} {S : gS} {t : tT_} {dn : Bool} (hg : dn = true → gOk nn S) (hro : t.2.2.1 = 108 → ∃ r d, r < 3 ∧ d < 2 ∧ t.2.2.2.2.1 = nI r ∧ t.2.2.2.2.2 = nI d) (h : e_ok S t dn = true) : dn = true → gOk nn (e_S S t dn) := by
  intro hd
  subst hd
  unfold e_ok at h
  rw [Bool.and_eq_true, Bool.not_true, Bool.false_or] at h
  unfold e_S
  rw [h.1, if_pos (show (true && true) = true from rfl)]
  exact made_ok (hg rfl) hro h.2
theorem tA_ac {A : gS} {t : tT_} {k : Nat} {v : Int32} (h : k < 4) : ac (tA A t) k v = tA (ac A k v) t := by
  unfold ac
  rw [show gu (tA A t) 6 (fun b => if b = k then v else (tA A t) 6 b) = gu A 6 (fun b => if b = k then v else (tA A t) 6 b) by unfold tA; rw [gu_gu]]
  unfold tA
  rw [gu_gu, gu_s]
  congr 1
  funext b
  by_cases c : b = k
  · subst c
    rw [if_pos rfl, if_neg (by omega), if_neg (by omega), if_neg (by omega), if_neg (by omega), if_neg (by omega), if_neg (by omega), gu_s, if_pos rfl]
  · rw [if_neg c, gu_s, if_neg c]
theorem tA_gu {A : gS} {t : tT_} {j : Nat} {f : Nat → Int32} (h : j ≠ 6) : gu (tA A t) j f = tA (gu A j f) t := by
  unfold tA
  rw [gu_cm (fun e => h e.symm), gu_n (fun e => h e.symm)]
set_option maxHeartbeats 800000 in
set_option maxRecDepth 100000 in
theorem c_X6_isMade {G : ga_} {l : Launch} {h : HP} {sz : Nat} {mo : Nat} {S A : gS} {dg : Int64} {t : tT_} {n : Nat}  (w : MA G h mo S (tA A t) dg)  (hg : gOk n S) (hro : t.2.2.1 = 108 → ∃ r d, r < 3 ∧ d < 2 ∧ t.2.2.2.2.1 = nI r ∧ t.2.2.2.2.2 = nI d)  : Mf G l yX6_isMade cX6_isMade 2 (some .boolean) 4 94 0 0 [.ref mo] h sz (some (.int (bI (m_mB S t)))) (pM G h mo (m_mS S t) (tA A t) (dg)) sz := by
  refine Mg.ofV [(0, .ref mo)] (by decide) (Nat.le_of_ble_eq_true rfl) rfl ?_
  intro p e s m args below meth c C
  refine V.heap (pM_id w).symm ?_
  refine r_aload_n C dX6_isMade_0 rfl rfl ?_
  refine r_get C (j := 12) rfl in_X6 (MA_o MA_pM) (by decide) fl_X6_123 rfl rfl dX6_isMade_1 ?_
  refine V.st0 ((show _ = t.2.2.1 from rfl)) ?_
  refine r_bipush C (v := 108) dX6_isMade_4 rfl ?_
  refine r_icmp_ne C 28 dX6_isMade_6 (by decide) (fun c_6 => ?_) (fun c_6 => ?_)
  · skip
    refine r_aload_n C dX6_isMade_28 rfl rfl ?_
    refine r_get C (j := 12) rfl in_X6 (MA_o MA_pM) (by decide) fl_X6_123 rfl rfl dX6_isMade_29 ?_
    refine V.st0 ((show _ = t.2.2.1 from rfl)) ?_
    refine r_bipush C (v := 100) dX6_isMade_32 rfl ?_
    refine r_icmp_ne C 44 dX6_isMade_34 (by decide) (fun c_34 => ?_) (fun c_34 => ?_)
    · skip
      refine r_aload_n C dX6_isMade_44 rfl rfl ?_
      refine r_cVi C (c_X6_passes MA_pM hg) lk_X6_106 rfl (MA_o MA_pM) rfl rfl ⟨(Nat.le_of_ble_eq_true rfl), (Nat.le_of_ble_eq_true rfl), (Nat.le_of_ble_eq_true rfl), (Nat.le_of_ble_eq_true rfl), (Nat.le_of_ble_eq_true rfl)⟩ dX6_isMade_45 ?_
      refine V.heap (pM_pM _ _ _ _ _ _ _ _) ?_
      refine r_istore_n C dX6_isMade_48 rfl (by decide) ?_
      refine r_aload_n C dX6_isMade_49 rfl rfl ?_
      refine r_get C (j := 12) rfl in_X6 (MA_o MA_pM) (by decide) fl_X6_123 rfl rfl dX6_isMade_50 ?_
      refine V.st0 ((show _ = t.2.2.1 from rfl)) ?_
      refine r_bipush C (v := 100) dX6_isMade_53 rfl ?_
      refine r_icmp_ne C 72 dX6_isMade_55 (by decide) (fun _ => ?_) (fun c => absurd c c_34)
      refine r_iload_n C dX6_isMade_72 rfl rfl ?_
      refine r_bipush C (v := 9) dX6_isMade_73 rfl ?_
      refine r_icmp_le C 82 dX6_isMade_75 (by decide) (fun c_75 => ?_) (fun c_75 => ?_)
      · have e_75 := i32_nlt c_75
        refine r_iconst C (v := 0) dX6_isMade_82 rfl ?_
        exact r_zret C rfl (by first | exact Or.inl rfl | exact Or.inr rfl) (Nat.le_of_ble_eq_true rfl) (Nat.le_of_ble_eq_true rfl) ⟨by unfold m_mB; rw [if_neg c_6, if_neg c_34, decide_eq_false e_75]; rfl, congrArg (fun X => pM G h mo X (tA A t) dg) (by unfold m_mS; rw [if_neg c_6, if_neg c_34]), rfl⟩ dX6_isMade_83
      · have e_75 := i32_lt c_75
        refine r_iconst C (v := 1) dX6_isMade_78 rfl ?_
        refine r_goto C 83 dX6_isMade_79 (by decide) ?_
        exact r_zret C rfl (by first | exact Or.inl rfl | exact Or.inr rfl) (Nat.le_of_ble_eq_true rfl) (Nat.le_of_ble_eq_true rfl) ⟨by unfold m_mB; rw [if_neg c_6, if_neg c_34, decide_eq_true e_75]; rfl, congrArg (fun X => pM G h mo X (tA A t) dg) (by unfold m_mS; rw [if_neg c_6, if_neg c_34]), rfl⟩ dX6_isMade_83
    · skip
      refine r_aload_n C dX6_isMade_37 rfl rfl ?_
      refine r_cVi C (c_X6_draws MA_pM hg) lk_X6_103 rfl (MA_o MA_pM) rfl rfl ⟨(Nat.le_of_ble_eq_true rfl), (Nat.le_of_ble_eq_true rfl), (Nat.le_of_ble_eq_true rfl), (Nat.le_of_ble_eq_true rfl), (Nat.le_of_ble_eq_true rfl)⟩ dX6_isMade_38 ?_
      refine V.heap (pM_pM _ _ _ _ _ _ _ _) ?_
      refine r_goto C 48 dX6_isMade_41 (by decide) ?_
      refine r_istore_n C dX6_isMade_48 rfl (by decide) ?_
      refine r_aload_n C dX6_isMade_49 rfl rfl ?_
      refine r_get C (j := 12) rfl in_X6 (MA_o MA_pM) (by decide) fl_X6_123 rfl rfl dX6_isMade_50 ?_
      refine V.st0 ((show _ = t.2.2.1 from rfl)) ?_
      refine r_bipush C (v := 100) dX6_isMade_53 rfl ?_
      refine r_icmp_ne C 72 dX6_isMade_55 (by decide) (fun c => absurd c_34 c) (fun _ => ?_)
      refine r_iload_n C dX6_isMade_58 rfl rfl ?_
      refine r_bipush C (v := 100) dX6_isMade_59 rfl ?_
      refine r_icmp_ge C 68 dX6_isMade_61 (by decide) (fun c_61 => ?_) (fun c_61 => ?_)
      · have e_61 := i32_nlt c_61
        refine r_iconst C (v := 0) dX6_isMade_68 rfl ?_
        refine r_goto C 83 dX6_isMade_69 (by decide) ?_
        exact r_zret C rfl (by first | exact Or.inl rfl | exact Or.inr rfl) (Nat.le_of_ble_eq_true rfl) (Nat.le_of_ble_eq_true rfl) ⟨by unfold m_mB; rw [if_neg c_6, if_pos c_34, decide_eq_false e_61]; rfl, congrArg (fun X => pM G h mo X (tA A t) dg) (by unfold m_mS; rw [if_neg c_6, if_pos c_34]), rfl⟩ dX6_isMade_83
      · have e_61 := i32_lt c_61
        refine r_iconst C (v := 1) dX6_isMade_64 rfl ?_
        refine r_goto C 83 dX6_isMade_65 (by decide) ?_
        exact r_zret C rfl (by first | exact Or.inl rfl | exact Or.inr rfl) (Nat.le_of_ble_eq_true rfl) (Nat.le_of_ble_eq_true rfl) ⟨by unfold m_mB; rw [if_neg c_6, if_pos c_34, decide_eq_true e_61]; rfl, congrArg (fun X => pM G h mo X (tA A t) dg) (by unfold m_mS; rw [if_neg c_6, if_pos c_34]), rfl⟩ dX6_isMade_83
  · skip
    refine r_aload_n C dX6_isMade_9 rfl rfl ?_
    refine r_aload_n C dX6_isMade_10 rfl rfl ?_
    refine r_get C (j := 13) rfl in_X6 (MA_o MA_pM) (by decide) fl_X6_129 rfl rfl dX6_isMade_11 ?_
    refine V.st0 ((show _ = t.2.2.2.1 from rfl)) ?_
    refine r_aload_n C dX6_isMade_14 rfl rfl ?_
    refine r_get C (j := 14) rfl in_X6 (MA_o MA_pM) (by decide) fl_X6_132 rfl rfl dX6_isMade_15 ?_
    obtain ⟨r, d, hr, hd, er, ed⟩ := hro c_6
    refine V.st0 (er) ?_
    refine r_aload_n C dX6_isMade_18 rfl rfl ?_
    refine r_get C (j := 15) rfl in_X6 (MA_o MA_pM) (by decide) fl_X6_135 rfl rfl dX6_isMade_19 ?_
    refine V.st0 (ed) ?_
    refine r_cVi C (c_X6_lays (r := r) (d := d) MA_pM hg hr hd) lk_X6_100 rfl (MA_o MA_pM) rfl rfl ⟨(Nat.le_of_ble_eq_true rfl), (Nat.le_of_ble_eq_true rfl), (Nat.le_of_ble_eq_true rfl), (Nat.le_of_ble_eq_true rfl), (Nat.le_of_ble_eq_true rfl)⟩ dX6_isMade_22 ?_
    refine V.heap (pM_pM _ _ _ _ _ _ _ _) ?_
    refine r_goto C 48 dX6_isMade_25 (by decide) ?_
    refine r_istore_n C dX6_isMade_48 rfl (by decide) ?_
    refine r_aload_n C dX6_isMade_49 rfl rfl ?_
    refine r_get C (j := 12) rfl in_X6 (MA_o MA_pM) (by decide) fl_X6_123 rfl rfl dX6_isMade_50 ?_
    refine V.st0 ((show _ = t.2.2.1 from rfl)) ?_
    refine r_bipush C (v := 100) dX6_isMade_53 rfl ?_
    refine r_icmp_ne C 72 dX6_isMade_55 (by decide) (fun _ => ?_) (fun c => absurd c (by rw [c_6]; decide))
    refine r_iload_n C dX6_isMade_72 rfl rfl ?_
    refine r_bipush C (v := 9) dX6_isMade_73 rfl ?_
    refine r_icmp_le C 82 dX6_isMade_75 (by decide) (fun c_75 => ?_) (fun c_75 => ?_)
    · have e_75 := i32_nlt c_75
      refine r_iconst C (v := 0) dX6_isMade_82 rfl ?_
      exact r_zret C rfl (by first | exact Or.inl rfl | exact Or.inr rfl) (Nat.le_of_ble_eq_true rfl) (Nat.le_of_ble_eq_true rfl) ⟨by unfold m_mB; rw [if_pos c_6, er, ed, decide_eq_false e_75]; rfl, congrArg (fun X => pM G h mo X (tA A t) dg) (by unfold m_mS; rw [if_pos c_6, er, ed]), rfl⟩ dX6_isMade_83
    · have e_75 := i32_lt c_75
      refine r_iconst C (v := 1) dX6_isMade_78 rfl ?_
      refine r_goto C 83 dX6_isMade_79 (by decide) ?_
      exact r_zret C rfl (by first | exact Or.inl rfl | exact Or.inr rfl) (Nat.le_of_ble_eq_true rfl) (Nat.le_of_ble_eq_true rfl) ⟨by unfold m_mB; rw [if_pos c_6, er, ed, decide_eq_true e_75]; rfl, congrArg (fun X => pM G h mo X (tA A t) dg) (by unfold m_mS; rw [if_pos c_6, er, ed]), rfl⟩ dX6_isMade_83

set_option maxHeartbeats 800000 in
set_option maxRecDepth 100000 in
theorem c_X6_goesThrough {G : ga_} {l : Launch} {h : HP} {sz : Nat} {mo : Nat} {S A : gS} {dg : Int64} {dn : Bool} {t : tT_} {n nn : Nat}  (w : MA G h mo S (tA A t) dg)  (hn : A 6 3 = nI n) (hn60 : n ≤ 60) (hg : dn = true → gOk nn S)  : Mf G l yX6_goesThrough cX6_goesThrough 5 (some .int) 5 115 0 0 [.ref mo, .int (bI dn)] h sz (some (.int ((e_go (A 3) n dn (n + 1) 0 S (0, false, t.2.2)).1))) (pM G h mo ((e_go (A 3) n dn (n + 1) 0 S (0, false, t.2.2)).2.1) (tA A (e_go (A 3) n dn (n + 1) 0 S (0, false, t.2.2)).2.2) (dg)) sz := by
  refine Mg.ofV [(0, .ref mo), (1, .int (bI dn))] (by decide) (Nat.le_of_ble_eq_true rfl) rfl ?_
  intro p e s m args below meth c C
  refine V.heap (pM_id w).symm ?_
  have loop : ∀ (k : Nat) (c1 : Int32) (S1 : gS) (t1 : tT_), t1.1 ≤ n → t1.2.1 = false → n - t1.1 < k → (dn = true → gOk nn S1) → e_go (A 3) n dn k c1 S1 t1 = (e_go (A 3) n dn (n + 1) 0 S (0, false, t.2.2)) → V p l e ⟨5, 0, 0, 115⟩ s m args below meth c G 5 (Qg G below args s 0 0 (fun v1 h1 s1 => v1 = (some (.int ((e_go (A 3) n dn (n + 1) 0 S (0, false, t.2.2)).1))) ∧ h1 = (pM G h mo ((e_go (A 3) n dn (n + 1) 0 S (0, false, t.2.2)).2.1) (tA A (e_go (A 3) n dn (n + 1) 0 S (0, false, t.2.2)).2.2) (dg)) ∧ s1 = sz)) (pM G h mo S1 (tA A t1) dg) sz 0 0 14 [(0, .ref mo), (1, .int (bI dn)), (2, .int c1), (3, .int 1)] [] := by
    intro k
    induction k with
    | zero => intro c1 S1 t1 _ _ h0; omega
    | succ k ih =>
      intro c1 S1 t1 hle hw1 hk hg1 hE
      have K45 : V p l e ⟨5, 0, 0, 115⟩ s m args below meth c G 5 (Qg G below args s 0 0 (fun v1 h1 s1 => v1 = (some (.int ((e_go (A 3) n dn (n + 1) 0 S (0, false, t.2.2)).1))) ∧ h1 = (pM G h mo ((e_go (A 3) n dn (n + 1) 0 S (0, false, t.2.2)).2.1) (tA A (e_go (A 3) n dn (n + 1) 0 S (0, false, t.2.2)).2.2) (dg)) ∧ s1 = sz)) (pM G h mo (e_S S1 (r_T (A 3) n t1) dn) (tA A (r_T (A 3) n t1)) dg) sz 0 0 45 [(0, .ref mo), (1, .int (bI dn)), (2, .int c1)] [.int (bI (e_ok S1 (r_T (A 3) n t1) dn))] := by
        refine r_istore_n C dX6_goesThrough_45 rfl (by decide) ?_
        refine r_iload_n C dX6_goesThrough_46 rfl rfl ?_
        apply V.cut 56 ((if (e_ok S1 (r_T (A 3) n t1) dn) = true then 1 else 0))
        · intro K_56
          refine r_iload_n C dX6_goesThrough_47 rfl rfl ?_
          refine r_if_eq C 55 dX6_goesThrough_48 (by decide) (fun c_48 => ?_) (fun c_48 => ?_)
          · have c_48 := bI_f c_48
            refine r_iconst C (v := 0) dX6_goesThrough_55 rfl ?_
            refine V.st0 (show _ = ((if (e_ok S1 (r_T (A 3) n t1) dn) = true then 1 else 0)) from by rw [c_48]; rfl) ?_
            exact K_56
          · have c_48 := bI_t c_48
            refine r_iconst C (v := 1) dX6_goesThrough_51 rfl ?_
            refine r_goto C 56 dX6_goesThrough_52 (by decide) ?_
            refine V.st0 (show _ = ((if (e_ok S1 (r_T (A 3) n t1) dn) = true then 1 else 0)) from by rw [c_48]; rfl) ?_
            exact K_56
        · skip
          refine r_iadd C dX6_goesThrough_56 ?_
          refine r_istore_n C dX6_goesThrough_57 rfl (by decide) ?_
          apply V.cut 78 (bI ((e_ok S1 (r_T (A 3) n t1) dn) && decide ((r_T (A 3) n t1).1 < n)))
          · intro K_78
            refine r_iload_n C dX6_goesThrough_58 rfl rfl ?_
            refine r_if_eq C 77 dX6_goesThrough_59 (by decide) (fun c_59 => ?_) (fun c_59 => ?_)
            · have c_59 := bI_f c_59
              refine r_iconst C (v := 0) dX6_goesThrough_77 rfl ?_
              refine V.st0 (show _ = (bI ((e_ok S1 (r_T (A 3) n t1) dn) && decide ((r_T (A 3) n t1).1 < n))) from by rw [c_59]; rfl) ?_
              exact K_78
            · have c_59 := bI_t c_59
              refine r_aload_n C dX6_goesThrough_62 rfl rfl ?_
              refine r_get C (j := 10) rfl in_X6 (MA_o MA_pM) (by decide) fl_X6_112 rfl rfl dX6_goesThrough_63 ?_
              refine V.st0 ((show _ = nI (r_T (A 3) n t1).1 from rfl)) ?_
              refine r_aload_n C dX6_goesThrough_66 rfl rfl ?_
              refine r_get C (j := 7) rfl in_X6 (MA_o MA_pM) (by decide) fl_X6_109 rfl rfl dX6_goesThrough_67 ?_
              refine V.st0 (hn) ?_
              refine r_icmp_ge C 77 dX6_goesThrough_70 (by decide) (fun c_70 => ?_) (fun c_70 => ?_)
              · have e_70 := i32_nlt c_70
                have h70 : ¬ (r_T (A 3) n t1).1 < n := nI_ge_ ⟨by have := rT_le (f := A 3) hle; omega, by omega⟩ c_70
                refine r_iconst C (v := 0) dX6_goesThrough_77 rfl ?_
                refine V.st0 (show _ = (bI ((e_ok S1 (r_T (A 3) n t1) dn) && decide ((r_T (A 3) n t1).1 < n))) from by rw [c_59, decide_eq_false h70]; rfl) ?_
                exact K_78
              · have e_70 := i32_lt c_70
                have h70 : (r_T (A 3) n t1).1 < n := nI_nge_ (by have := rT_le (f := A 3) hle; omega) (by omega) c_70
                refine r_iconst C (v := 1) dX6_goesThrough_73 rfl ?_
                refine r_goto C 78 dX6_goesThrough_74 (by decide) ?_
                refine V.st0 (show _ = (bI ((e_ok S1 (r_T (A 3) n t1) dn) && decide ((r_T (A 3) n t1).1 < n))) from by rw [c_59, decide_eq_true h70]; rfl) ?_
                exact K_78
          · skip
            refine r_istore_n C dX6_goesThrough_78 rfl (by decide) ?_
            refine r_iload_n C dX6_goesThrough_79 rfl rfl ?_
            refine r_if_eq C 14 dX6_goesThrough_80 (by decide) (fun c_80 => ?_) (fun c_80 => ?_)
            · have c_80 := bI_f c_80
              refine r_iload_n C dX6_goesThrough_14 rfl rfl ?_
              refine r_if_eq C 109 dX6_goesThrough_15 (by decide) (fun _ => ?_) (fun c => absurd (by rw [c_80]; rfl) c)
              refine r_iload_n C dX6_goesThrough_109 rfl rfl ?_
              rw [e_go, if_neg (by rw [c_80]; decide)] at hE
              exact r_iret C rfl (Nat.le_of_ble_eq_true rfl) (Nat.le_of_ble_eq_true rfl) ⟨by rw [← hE], by rw [← hE], rfl⟩ dX6_goesThrough_110
            · have c_80 := bI_t c_80
              refine r_aload_n C dX6_goesThrough_83 rfl rfl ?_
              refine r_bipush C (v := 59) dX6_goesThrough_84 rfl ?_
              refine r_bipush C (v := 59) dX6_goesThrough_86 rfl ?_
              refine r_cVi C (c_X6_sign (t := (r_T (A 3) n t1)) (n := n) MA_pM hn hn60 (rT_le hle)) lk_X6_126 rfl (MA_o MA_pM) rfl rfl ⟨(Nat.le_of_ble_eq_true rfl), (Nat.le_of_ble_eq_true rfl), (Nat.le_of_ble_eq_true rfl), (Nat.le_of_ble_eq_true rfl), (Nat.le_of_ble_eq_true rfl)⟩ dX6_goesThrough_88 ?_
              refine V.heap (pM_pM _ _ _ _ _ _ _ _) ?_
              refine r_istore C dX6_goesThrough_91 (by decide) ?_
              refine r_aload_n C dX6_goesThrough_93 rfl rfl ?_
              refine r_get C (j := 11) rfl in_X6 (MA_o MA_pM) (by decide) fl_X6_115 rfl rfl dX6_goesThrough_94 ?_
              refine V.st0 ((show _ = bI (s_T (A 3) n (r_T (A 3) n t1) 59 59).2.1 from rfl)) ?_
              refine r_if_ne C 104 dX6_goesThrough_97 (by decide) (fun c_97 => ?_) (fun c_97 => ?_)
              · have c_97 := bI_t c_97
                refine r_iconst C (v := 0) dX6_goesThrough_104 rfl ?_
                refine r_istore_n C dX6_goesThrough_105 rfl (by decide) ?_
                refine r_goto C 14 dX6_goesThrough_106 (by decide) ?_
                refine r_iload_n C dX6_goesThrough_14 rfl rfl ?_
                refine r_if_eq C 109 dX6_goesThrough_15 (by decide) (fun _ => ?_) (fun c => absurd (by decide) c)
                refine r_iload_n C dX6_goesThrough_109 rfl rfl ?_
                rw [e_go, if_pos c_80, if_pos c_97] at hE
                exact r_iret C rfl (Nat.le_of_ble_eq_true rfl) (Nat.le_of_ble_eq_true rfl) ⟨by rw [← hE], by rw [← hE], rfl⟩ dX6_goesThrough_110
              · have c_97 := bI_f c_97
                refine r_iconst C (v := 1) dX6_goesThrough_100 rfl ?_
                refine r_goto C 105 dX6_goesThrough_101 (by decide) ?_
                refine r_istore_n C dX6_goesThrough_105 rfl (by decide) ?_
                refine r_goto C 14 dX6_goesThrough_106 (by decide) ?_
                rw [e_go, if_pos c_80, if_neg (by rw [c_97]; decide)] at hE
                refine V.sub [(0, .ref mo), (1, .int (bI dn)), (2, .int (c1 + (if (e_ok S1 (r_T (A 3) n t1) dn) = true then 1 else 0))), (3, .int 1)] ⟨rfl, rfl, rfl, rfl, trivial⟩ ?_
                have h80 := c_80
                rw [Bool.and_eq_true] at h80
                exact ih (c1 + (if (e_ok S1 (r_T (A 3) n t1) dn) = true then 1 else 0)) (e_S S1 (r_T (A 3) n t1) dn) (s_T (A 3) n (r_T (A 3) n t1) 59 59) (sT_le (by decide) (rT_le hle)) c_97 (by have q1 : (s_T (A 3) n (r_T (A 3) n t1) 59 59).1 = (r_T (A 3) n t1).1 + 1 := (by show (r_T (A 3) n t1).1 + (if s_w (A 3) n (r_T (A 3) n t1).1 (r_T (A 3) n t1).2.1 59 59 = true then 0 else 1) = _; rw [show s_w (A 3) n (r_T (A 3) n t1).1 (r_T (A 3) n t1).2.1 59 59 = false from c_97]; rfl); have q2 := rT_ge (f := A 3) (n := n) (t := t1); have q3 := of_decide_eq_true h80.2; omega) (eS_ok hg1 (rT_ro (by have q := h80.1; unfold e_ok at q; rw [Bool.and_eq_true, Bool.not_eq_true'] at q; exact q.1)) h80.1) hE
      refine r_iload_n C dX6_goesThrough_14 rfl rfl ?_
      refine r_if_eq C 109 dX6_goesThrough_15 (by decide) (fun c => absurd c (by decide)) (fun _ => ?_)
      refine r_aload_n C dX6_goesThrough_18 rfl rfl ?_
      refine r_cVv C (c_X6_readTurn (t := t1) (n := n) MA_pM hn hn60 hle hw1) lk_X6_138 rfl (MA_o MA_pM) rfl rfl ⟨(Nat.le_of_ble_eq_true rfl), (Nat.le_of_ble_eq_true rfl), (Nat.le_of_ble_eq_true rfl), (Nat.le_of_ble_eq_true rfl), (Nat.le_of_ble_eq_true rfl)⟩ dX6_goesThrough_19 ?_
      refine V.heap (pM_pM _ _ _ _ _ _ _ _) ?_
      refine r_aload_n C dX6_goesThrough_22 rfl rfl ?_
      refine r_get C (j := 11) rfl in_X6 (MA_o MA_pM) (by decide) fl_X6_115 rfl rfl dX6_goesThrough_23 ?_
      refine V.st0 ((show _ = bI (r_T (A 3) n t1).2.1 from rfl)) ?_
      refine r_if_ne C 44 dX6_goesThrough_26 (by decide) (fun c_26 => ?_) (fun c_26 => ?_)
      · have c_26 := bI_t c_26
        refine r_iconst C (v := 0) dX6_goesThrough_44 rfl ?_
        refine V.st0 (show _ = bI (e_ok S1 (r_T (A 3) n t1) dn) from by unfold e_ok; rw [c_26]; rfl) ?_
        refine V.heap (congrArg (fun X => pM G h mo X (tA A (r_T (A 3) n t1)) dg) (Eq.symm (show (e_S S1 (r_T (A 3) n t1) dn) = _ from by unfold e_S; rw [c_26]; rfl))) ?_
        refine V.sub [(0, .ref mo), (1, .int (bI dn)), (2, .int c1)] ⟨rfl, rfl, rfl, trivial⟩ ?_
        exact K45
      · have c_26 := bI_f c_26
        refine r_iload_n C dX6_goesThrough_29 rfl rfl ?_
        refine r_if_eq C 40 dX6_goesThrough_30 (by decide) (fun c_30 => ?_) (fun c_30 => ?_)
        · have c_30 := bI_f c_30
          refine r_iconst C (v := 1) dX6_goesThrough_40 rfl ?_
          refine r_goto C 45 dX6_goesThrough_41 (by decide) ?_
          refine V.st0 (show _ = bI (e_ok S1 (r_T (A 3) n t1) dn) from by unfold e_ok; rw [c_26, c_30]; rfl) ?_
          refine V.heap (congrArg (fun X => pM G h mo X (tA A (r_T (A 3) n t1)) dg) (Eq.symm (show (e_S S1 (r_T (A 3) n t1) dn) = _ from by unfold e_S; rw [c_26, c_30]; rfl))) ?_
          refine V.sub [(0, .ref mo), (1, .int (bI dn)), (2, .int c1)] ⟨rfl, rfl, rfl, trivial⟩ ?_
          exact K45
        · have c_30 := bI_t c_30
          refine r_aload_n C dX6_goesThrough_33 rfl rfl ?_
          refine r_cVi C (c_X6_isMade (t := (r_T (A 3) n t1)) (n := nn) MA_pM (hg1 c_30) (rT_ro c_26)) lk_X6_141 rfl (MA_o MA_pM) rfl rfl ⟨(Nat.le_of_ble_eq_true rfl), (Nat.le_of_ble_eq_true rfl), (Nat.le_of_ble_eq_true rfl), (Nat.le_of_ble_eq_true rfl), (Nat.le_of_ble_eq_true rfl)⟩ dX6_goesThrough_34 ?_
          refine V.heap (pM_pM _ _ _ _ _ _ _ _) ?_
          refine r_if_eq C 44 dX6_goesThrough_37 (by decide) (fun c_37 => ?_) (fun c_37 => ?_)
          · have c_37 := bI_f c_37
            refine r_iconst C (v := 0) dX6_goesThrough_44 rfl ?_
            refine V.st0 (show _ = bI (e_ok S1 (r_T (A 3) n t1) dn) from by unfold e_ok; rw [c_26, c_30, c_37]; rfl) ?_
            refine V.heap (congrArg (fun X => pM G h mo X (tA A (r_T (A 3) n t1)) dg) (Eq.symm (show (e_S S1 (r_T (A 3) n t1) dn) = _ from by unfold e_S; rw [c_26, c_30]; rfl))) ?_
            refine V.sub [(0, .ref mo), (1, .int (bI dn)), (2, .int c1)] ⟨rfl, rfl, rfl, trivial⟩ ?_
            exact K45
          · have c_37 := bI_t c_37
            refine r_iconst C (v := 1) dX6_goesThrough_40 rfl ?_
            refine r_goto C 45 dX6_goesThrough_41 (by decide) ?_
            refine V.st0 (show _ = bI (e_ok S1 (r_T (A 3) n t1) dn) from by unfold e_ok; rw [c_26, c_30, c_37]; rfl) ?_
            refine V.heap (congrArg (fun X => pM G h mo X (tA A (r_T (A 3) n t1)) dg) (Eq.symm (show (e_S S1 (r_T (A 3) n t1) dn) = _ from by unfold e_S; rw [c_26, c_30]; rfl))) ?_
            refine V.sub [(0, .ref mo), (1, .int (bI dn)), (2, .int c1)] ⟨rfl, rfl, rfl, trivial⟩ ?_
            exact K45
  refine r_aload_n C dX6_goesThrough_0 rfl rfl ?_
  refine r_iconst C (v := 0) dX6_goesThrough_1 rfl ?_
  refine r_put C (j := 10) tyX6 tyX6_ok nmX6 rfl in_X6 (MA_o MA_pM) (by decide) fl_X6_112 rfl rfl rfl (by first | rfl | decide) (by first | rfl | decide) (Nat.le_of_ble_eq_true rfl) dX6_goesThrough_2 ?_
  refine V.heap (qM_f 4 (nI (0)) rfl) ?_
  refine V.heap (congrArg (fun X => pM G h mo S X dg) (tA_4 (v := 0))) ?_
  refine r_aload_n C dX6_goesThrough_5 rfl rfl ?_
  refine r_iconst C (v := 0) dX6_goesThrough_6 rfl ?_
  refine r_put C (j := 11) tyX6 tyX6_ok nmX6 rfl in_X6 (MA_o MA_pM) (by decide) fl_X6_115 rfl rfl rfl (by first | rfl | decide) (by first | rfl | decide) (Nat.le_of_ble_eq_true rfl) dX6_goesThrough_7 ?_
  refine V.heap (qM_f 5 (nI (0)) rfl) ?_
  refine V.heap (congrArg (fun X => pM G h mo S X dg) (tA_5 (v := false))) ?_
  refine r_iconst C (v := 0) dX6_goesThrough_10 rfl ?_
  refine r_istore_n C dX6_goesThrough_11 rfl (by decide) ?_
  refine r_iconst C (v := 1) dX6_goesThrough_12 rfl ?_
  refine r_istore_n C dX6_goesThrough_13 rfl (by decide) ?_
  refine V.heap (h2 := pM G h mo S (tA A (0, false, t.2.2)) dg) rfl ?_
  refine V.sub [(0, .ref mo), (1, .int (bI dn)), (2, .int 0), (3, .int 1)] ⟨rfl, rfl, rfl, rfl, trivial⟩ ?_
  exact loop (n + 1) 0 S (0, false, t.2.2) (Nat.zero_le _) rfl (by show n - 0 < n + 1; omega) hg rfl

