/-! THE LAW'S WRAPPERS -/
def poW (G : ga_) (h : HP) (sz out : Nat) (t : Option String) (E1 : String) (Post : Option Value → HP → Nat → Prop) : Option Value → HP → Nat → Prop := fun v h2 s2 => (∃ r h1 f, v = some (.int 0) ∧ Post (some (.int r)) h1 s2 ∧ h1 out = some (aJ_ G 1 f) ∧ h2 = up_ h1 out (aJ_ G 1 (vp_updL f (0 : Int32).toNatClampNeg r.toInt64))) ∨ (∃ E, t = some E ∧ v = some (.int (if E = E1 then 1 else 2)) ∧ h2 = h ∧ sz ≤ s2)
theorem xbA : eIA ∈ XB := by decide
theorem xbO : eIO ∈ XB := by decide
theorem xbS : eIS ∈ XB := by decide
theorem vin0 : vp_in (0 : Int32) 1 := vp_in_nI (n := 0) (N := 1) (by decide) (by decide)
set_option maxHeartbeats 800000 in
set_option maxRecDepth 100000 in
theorem c_L_begin {G : ga_} {l : Launch} {h : HP} {sz x out : Nat} {a b : Int32} {fs : List Value} {fr lo mc ms : Nat} {Post : Option Value → HP → Nat → Prop} {t : Option String} (hx : h x = some (ob_ 5 fs)) (M : Mx G l yX5_begin cX5_begin 3 (some .int) fr lo mc ms [.ref x, .int a, .int b] h sz Post (pxE h sz t)) (rm : fr + 1 ≤ 8 ∧ 8 + (3 + 11) + lo ≤ 240 ∧ mc ≤ 13 ∧ ms ≤ 400) (ht : ∀ E, t = some E → E = eIA) (hv : ∀ v h1 s1, Post v h1 s1 → ∃ r f, v = some (.int r) ∧ h1 out = some (aJ_ G 1 f)) : Mw G l yL_begin cL_begin 5 (some .int) [(0, 10, 13, 13)] 8 240 13 400 [.ref x, .int a, .int b, .ref out] h sz (poW G h sz out t eIA Post) := by
  have g1 := rm.2.2.1
  have g2 := rm.2.2.2
  refine Mw.ofV [(0, .ref x), (1, .int a), (2, .int b), (3, .ref out)] (by decide) (Nat.le_of_ble_eq_true rfl) rfl ?_
  intro p e s m args below meth c C hT
  refine r_aload_n C dL_begin_0 rfl rfl ?_
  refine r_iconst C (v := 0) dL_begin_1 rfl ?_
  refine r_aload_n C dL_begin_2 rfl rfl ?_
  refine r_iload_n C dL_begin_3 rfl rfl ?_
  refine r_iload_n C dL_begin_4 rfl rfl ?_
  refine r_xVc C hT M lk_L_7 rfl hx rfl rfl ⟨rm.1, rm.2.1, (by show 0 + mc ≤ 13; omega), (by show 0 + ms ≤ 400; omega), (Nat.le_of_ble_eq_true rfl)⟩ dL_begin_5 ?_ ?_
  · rintro E h1 s1 ⟨e1, rfl, e2⟩
    have e3 := ht E e1
    subst e3
    refine ⟨13, ⟨[], _, [], rfl, (fun z hz => absurd hz List.not_mem_nil), by decide, by decide, cl_L_13, xbA, rfl⟩, fun q => ?_⟩
    refine r_astore C dL_begin_13 (by decide) ?_
    refine r_iconst C (v := 1) dL_begin_15 rfl ?_
    exact V.retx (r_iret C rfl (by omega) (by omega) (Or.inr ⟨_, e1, (by rw [if_pos rfl]), rfl, e2⟩) dL_begin_16)
  · rintro v h1 s1 hp
    obtain ⟨r, f, rfl, ho⟩ := hv _ _ _ hp
    refine r_i2l C dL_begin_8 ?_
    refine r_last C ho vin0 dL_begin_9 ?_
    refine r_goto C 17 dL_begin_10 (by decide) ?_
    refine r_iconst C (v := 0) dL_begin_17 rfl ?_
    exact V.retx (r_iret C rfl (by omega) (by omega) (Or.inl ⟨r, h1, f, rfl, hp, ho, rfl⟩) dL_begin_18)
set_option maxHeartbeats 800000 in
set_option maxRecDepth 100000 in
theorem c_L_lay {G : ga_} {l : Launch} {h : HP} {sz x out : Nat} {a b d : Int32} {fs : List Value} {fr lo mc ms : Nat} {Post : Option Value → HP → Nat → Prop} {t : Option String} (hx : h x = some (ob_ 5 fs)) (M : Mx G l yX5_lay cX5_lay 4 (some .int) fr lo mc ms [.ref x, .int a, .int b, .int d] h sz Post (pxE h sz t)) (rm : fr + 1 ≤ 8 ∧ 8 + (4 + 11) + lo ≤ 240 ∧ mc ≤ 13 ∧ ms ≤ 400) (ht : ∀ E, t = some E → E = eIO ∨ E = eIA) (hv : ∀ v h1 s1, Post v h1 s1 → ∃ r f, v = some (.int r) ∧ h1 out = some (aJ_ G 1 f)) : Mw G l yL_lay cL_lay 6 (some .int) [(0, 12, 15, 19), (0, 12, 19, 13)] 8 240 13 400 [.ref x, .int a, .int b, .int d, .ref out] h sz (poW G h sz out t eIO Post) := by
  have g1 := rm.2.2.1
  have g2 := rm.2.2.2
  refine Mw.ofV [(0, .ref x), (1, .int a), (2, .int b), (3, .int d), (4, .ref out)] (by decide) (Nat.le_of_ble_eq_true rfl) rfl ?_
  intro p e s m args below meth c C hT
  refine r_aload C dL_lay_0 rfl ?_
  refine r_iconst C (v := 0) dL_lay_2 rfl ?_
  refine r_aload_n C dL_lay_3 rfl rfl ?_
  refine r_iload_n C dL_lay_4 rfl rfl ?_
  refine r_iload_n C dL_lay_5 rfl rfl ?_
  refine r_iload_n C dL_lay_6 rfl rfl ?_
  refine r_xVc C hT M lk_L_15 rfl hx rfl rfl ⟨rm.1, rm.2.1, (by show 0 + mc ≤ 13; omega), (by show 0 + ms ≤ 400; omega), (Nat.le_of_ble_eq_true rfl)⟩ dL_lay_7 ?_ ?_
  · rintro E h1 s1 ⟨e1, rfl, e2⟩
    rcases ht E e1 with e3 | e3
    · subst e3
      refine ⟨15, ⟨[], _, [_], rfl, (fun z hz => absurd hz List.not_mem_nil), by decide, by decide, cl_L_19, xbO, rfl⟩, fun q => ?_⟩
      refine r_astore C dL_lay_15 (by decide) ?_
      refine r_iconst C (v := 1) dL_lay_17 rfl ?_
      exact V.retx (r_iret C rfl (by omega) (by omega) (Or.inr ⟨_, e1, (by rw [if_pos rfl]), rfl, e2⟩) dL_lay_18)
    · subst e3
      refine ⟨19, ⟨[_], _, [], rfl, (fun z hz => by rw [List.mem_singleton.mp hz]; exact ⟨by decide, _, cl_L_19, xbO, by decide⟩), by decide, by decide, cl_L_13, xbA, rfl⟩, fun q => ?_⟩
      refine r_astore C dL_lay_19 (by decide) ?_
      refine r_iconst C (v := 2) dL_lay_21 rfl ?_
      exact V.retx (r_iret C rfl (by omega) (by omega) (Or.inr ⟨_, e1, (by rw [if_neg (by decide)]), rfl, e2⟩) dL_lay_22)
  · rintro v h1 s1 hp
    obtain ⟨r, f, rfl, ho⟩ := hv _ _ _ hp
    refine r_i2l C dL_lay_10 ?_
    refine r_last C ho vin0 dL_lay_11 ?_
    refine r_goto C 23 dL_lay_12 (by decide) ?_
    refine r_iconst C (v := 0) dL_lay_23 rfl ?_
    exact V.retx (r_iret C rfl (by omega) (by omega) (Or.inl ⟨r, h1, f, rfl, hp, ho, rfl⟩) dL_lay_24)
set_option maxHeartbeats 800000 in
set_option maxRecDepth 100000 in
theorem c_L_oil {G : ga_} {l : Launch} {h : HP} {sz x out : Nat} {a : Int32} {fs : List Value} {fr lo mc ms : Nat} {Post : Option Value → HP → Nat → Prop} {t : Option String} (hx : h x = some (ob_ 5 fs)) (M : Mx G l yX5_oil cX5_oil 2 (some .int) fr lo mc ms [.ref x, .int a] h sz Post (pxE h sz t)) (rm : fr + 1 ≤ 8 ∧ 8 + (2 + 11) + lo ≤ 240 ∧ mc ≤ 13 ∧ ms ≤ 400) (ht : ∀ E, t = some E → E = eIO) (hv : ∀ v h1 s1, Post v h1 s1 → ∃ r f, v = some (.int r) ∧ h1 out = some (aJ_ G 1 f)) : Mw G l yL_oil cL_oil 4 (some .int) [(0, 9, 12, 19)] 8 240 13 400 [.ref x, .int a, .ref out] h sz (poW G h sz out t eIO Post) := by
  have g1 := rm.2.2.1
  have g2 := rm.2.2.2
  refine Mw.ofV [(0, .ref x), (1, .int a), (2, .ref out)] (by decide) (Nat.le_of_ble_eq_true rfl) rfl ?_
  intro p e s m args below meth c C hT
  refine r_aload_n C dL_oil_0 rfl rfl ?_
  refine r_iconst C (v := 0) dL_oil_1 rfl ?_
  refine r_aload_n C dL_oil_2 rfl rfl ?_
  refine r_iload_n C dL_oil_3 rfl rfl ?_
  refine r_xVc C hT M lk_L_21 rfl hx rfl rfl ⟨rm.1, rm.2.1, (by show 0 + mc ≤ 13; omega), (by show 0 + ms ≤ 400; omega), (Nat.le_of_ble_eq_true rfl)⟩ dL_oil_4 ?_ ?_
  · rintro E h1 s1 ⟨e1, rfl, e2⟩
    have e3 := ht E e1
    subst e3
    refine ⟨12, ⟨[], _, [], rfl, (fun z hz => absurd hz List.not_mem_nil), by decide, by decide, cl_L_19, xbO, rfl⟩, fun q => ?_⟩
    refine r_astore_n C dL_oil_12 rfl (by decide) ?_
    refine r_iconst C (v := 1) dL_oil_13 rfl ?_
    exact V.retx (r_iret C rfl (by omega) (by omega) (Or.inr ⟨_, e1, (by rw [if_pos rfl]), rfl, e2⟩) dL_oil_14)
  · rintro v h1 s1 hp
    obtain ⟨r, f, rfl, ho⟩ := hv _ _ _ hp
    refine r_i2l C dL_oil_7 ?_
    refine r_last C ho vin0 dL_oil_8 ?_
    refine r_goto C 15 dL_oil_9 (by decide) ?_
    refine r_iconst C (v := 0) dL_oil_15 rfl ?_
    exact V.retx (r_iret C rfl (by omega) (by omega) (Or.inl ⟨r, h1, f, rfl, hp, ho, rfl⟩) dL_oil_16)
set_option maxHeartbeats 800000 in
set_option maxRecDepth 100000 in
theorem c_L_set {G : ga_} {l : Launch} {h : HP} {sz x out : Nat} {a : Int32} {fs : List Value} {fr lo mc ms : Nat} {Post : Option Value → HP → Nat → Prop} {t : Option String} (hx : h x = some (ob_ 5 fs)) (M : Mx G l yX5_set cX5_set 3 (some .int) fr lo mc ms [.ref x, .int a] h sz Post (pxE h sz t)) (rm : fr + 1 ≤ 8 ∧ 8 + (3 + 11) + lo ≤ 240 ∧ mc ≤ 13 ∧ ms ≤ 400) (ht : ∀ E, t = some E → E = eIA) (hv : ∀ v h1 s1, Post v h1 s1 → ∃ r f, v = some (.int r) ∧ h1 out = some (aJ_ G 1 f)) : Mw G l yL_set cL_set 4 (some .int) [(0, 9, 12, 13)] 8 240 13 400 [.ref x, .int a, .ref out] h sz (poW G h sz out t eIA Post) := by
  have g1 := rm.2.2.1
  have g2 := rm.2.2.2
  refine Mw.ofV [(0, .ref x), (1, .int a), (2, .ref out)] (by decide) (Nat.le_of_ble_eq_true rfl) rfl ?_
  intro p e s m args below meth c C hT
  refine r_aload_n C dL_set_0 rfl rfl ?_
  refine r_iconst C (v := 0) dL_set_1 rfl ?_
  refine r_aload_n C dL_set_2 rfl rfl ?_
  refine r_iload_n C dL_set_3 rfl rfl ?_
  refine r_xVc C hT M lk_L_25 rfl hx rfl rfl ⟨rm.1, rm.2.1, (by show 0 + mc ≤ 13; omega), (by show 0 + ms ≤ 400; omega), (Nat.le_of_ble_eq_true rfl)⟩ dL_set_4 ?_ ?_
  · rintro E h1 s1 ⟨e1, rfl, e2⟩
    have e3 := ht E e1
    subst e3
    refine ⟨12, ⟨[], _, [], rfl, (fun z hz => absurd hz List.not_mem_nil), by decide, by decide, cl_L_13, xbA, rfl⟩, fun q => ?_⟩
    refine r_astore_n C dL_set_12 rfl (by decide) ?_
    refine r_iconst C (v := 1) dL_set_13 rfl ?_
    exact V.retx (r_iret C rfl (by omega) (by omega) (Or.inr ⟨_, e1, (by rw [if_pos rfl]), rfl, e2⟩) dL_set_14)
  · rintro v h1 s1 hp
    obtain ⟨r, f, rfl, ho⟩ := hv _ _ _ hp
    refine r_i2l C dL_set_7 ?_
    refine r_last C ho vin0 dL_set_8 ?_
    refine r_goto C 15 dL_set_9 (by decide) ?_
    refine r_iconst C (v := 0) dL_set_15 rfl ?_
    exact V.retx (r_iret C rfl (by omega) (by omega) (Or.inl ⟨r, h1, f, rfl, hp, ho, rfl⟩) dL_set_16)
set_option maxHeartbeats 800000 in
set_option maxRecDepth 100000 in
theorem c_L_append {G : ga_} {l : Launch} {h : HP} {sz x out : Nat} {a : Int32} {fs : List Value} {fr lo mc ms : Nat} {Post : Option Value → HP → Nat → Prop} {t : Option String} (hx : h x = some (ob_ 5 fs)) (M : Mx G l yX5_append cX5_append 2 (some .int) fr lo mc ms [.ref x, .int a] h sz Post (pxE h sz t)) (rm : fr + 1 ≤ 8 ∧ 8 + (2 + 11) + lo ≤ 240 ∧ mc ≤ 13 ∧ ms ≤ 400) (ht : ∀ E, t = some E → E = eIA ∨ E = eIS) (hv : ∀ v h1 s1, Post v h1 s1 → ∃ r f, v = some (.int r) ∧ h1 out = some (aJ_ G 1 f)) : Mw G l yL_append cL_append 4 (some .int) [(0, 9, 12, 13), (0, 9, 15, 31)] 8 240 13 400 [.ref x, .int a, .ref out] h sz (poW G h sz out t eIA Post) := by
  have g1 := rm.2.2.1
  have g2 := rm.2.2.2
  refine Mw.ofV [(0, .ref x), (1, .int a), (2, .ref out)] (by decide) (Nat.le_of_ble_eq_true rfl) rfl ?_
  intro p e s m args below meth c C hT
  refine r_aload_n C dL_append_0 rfl rfl ?_
  refine r_iconst C (v := 0) dL_append_1 rfl ?_
  refine r_aload_n C dL_append_2 rfl rfl ?_
  refine r_iload_n C dL_append_3 rfl rfl ?_
  refine r_xVc C hT M lk_L_28 rfl hx rfl rfl ⟨rm.1, rm.2.1, (by show 0 + mc ≤ 13; omega), (by show 0 + ms ≤ 400; omega), (Nat.le_of_ble_eq_true rfl)⟩ dL_append_4 ?_ ?_
  · rintro E h1 s1 ⟨e1, rfl, e2⟩
    rcases ht E e1 with e3 | e3
    · subst e3
      refine ⟨12, ⟨[], _, [_], rfl, (fun z hz => absurd hz List.not_mem_nil), by decide, by decide, cl_L_13, xbA, rfl⟩, fun q => ?_⟩
      refine r_astore_n C dL_append_12 rfl (by decide) ?_
      refine r_iconst C (v := 1) dL_append_13 rfl ?_
      exact V.retx (r_iret C rfl (by omega) (by omega) (Or.inr ⟨_, e1, (by rw [if_pos rfl]), rfl, e2⟩) dL_append_14)
    · subst e3
      refine ⟨15, ⟨[_], _, [], rfl, (fun z hz => by rw [List.mem_singleton.mp hz]; exact ⟨by decide, _, cl_L_13, xbA, by decide⟩), by decide, by decide, cl_L_31, xbS, rfl⟩, fun q => ?_⟩
      refine r_astore_n C dL_append_15 rfl (by decide) ?_
      refine r_iconst C (v := 2) dL_append_16 rfl ?_
      exact V.retx (r_iret C rfl (by omega) (by omega) (Or.inr ⟨_, e1, (by rw [if_neg (by decide)]), rfl, e2⟩) dL_append_17)
  · rintro v h1 s1 hp
    obtain ⟨r, f, rfl, ho⟩ := hv _ _ _ hp
    refine r_i2l C dL_append_7 ?_
    refine r_last C ho vin0 dL_append_8 ?_
    refine r_goto C 18 dL_append_9 (by decide) ?_
    refine r_iconst C (v := 0) dL_append_18 rfl ?_
    exact V.retx (r_iret C rfl (by omega) (by omega) (Or.inl ⟨r, h1, f, rfl, hp, ho, rfl⟩) dL_append_19)
set_option maxHeartbeats 800000 in
set_option maxRecDepth 100000 in
theorem c_L_run {G : ga_} {l : Launch} {h : HP} {sz x out : Nat} {fs : List Value} {fr lo mc ms : Nat} {Post : Option Value → HP → Nat → Prop} {t : Option String} (hx : h x = some (ob_ 5 fs)) (M : Mx G l yX5_run cX5_run 2 (some .int) fr lo mc ms [.ref x] h sz Post (pxE h sz t)) (rm : fr + 1 ≤ 8 ∧ 8 + (2 + 11) + lo ≤ 240 ∧ mc ≤ 13 ∧ ms ≤ 400) (ht : ∀ E, t = some E → E = eIA) (hv : ∀ v h1 s1, Post v h1 s1 → ∃ r f, v = some (.int r) ∧ h1 out = some (aJ_ G 1 f)) : Mw G l yL_run cL_run 3 (some .int) [(0, 8, 11, 13)] 8 240 13 400 [.ref x, .ref out] h sz (poW G h sz out t eIA Post) := by
  have g1 := rm.2.2.1
  have g2 := rm.2.2.2
  refine Mw.ofV [(0, .ref x), (1, .ref out)] (by decide) (Nat.le_of_ble_eq_true rfl) rfl ?_
  intro p e s m args below meth c C hT
  refine r_aload_n C dL_run_0 rfl rfl ?_
  refine r_iconst C (v := 0) dL_run_1 rfl ?_
  refine r_aload_n C dL_run_2 rfl rfl ?_
  refine r_xVc C hT M lk_L_33 rfl hx rfl rfl ⟨rm.1, rm.2.1, (by show 0 + mc ≤ 13; omega), (by show 0 + ms ≤ 400; omega), (Nat.le_of_ble_eq_true rfl)⟩ dL_run_3 ?_ ?_
  · rintro E h1 s1 ⟨e1, rfl, e2⟩
    have e3 := ht E e1
    subst e3
    refine ⟨11, ⟨[], _, [], rfl, (fun z hz => absurd hz List.not_mem_nil), by decide, by decide, cl_L_13, xbA, rfl⟩, fun q => ?_⟩
    refine r_astore_n C dL_run_11 rfl (by decide) ?_
    refine r_iconst C (v := 1) dL_run_12 rfl ?_
    exact V.retx (r_iret C rfl (by omega) (by omega) (Or.inr ⟨_, e1, (by rw [if_pos rfl]), rfl, e2⟩) dL_run_13)
  · rintro v h1 s1 hp
    obtain ⟨r, f, rfl, ho⟩ := hv _ _ _ hp
    refine r_i2l C dL_run_6 ?_
    refine r_last C ho vin0 dL_run_7 ?_
    refine r_goto C 14 dL_run_8 (by decide) ?_
    refine r_iconst C (v := 0) dL_run_14 rfl ?_
    exact V.retx (r_iret C rfl (by omega) (by omega) (Or.inl ⟨r, h1, f, rfl, hp, ho, rfl⟩) dL_run_15)
set_option maxHeartbeats 800000 in
set_option maxRecDepth 100000 in
theorem c_L_keep {G : ga_} {l : Launch} {h : HP} {sz x out : Nat} {a : Int32} {fs : List Value} {fr lo mc ms : Nat} {Post : Option Value → HP → Nat → Prop} {t : Option String} (hx : h x = some (ob_ 5 fs)) (M : Mx G l yX5_keep cX5_keep 3 (some .int) fr lo mc ms [.ref x, .int a] h sz Post (pxE h sz t)) (rm : fr + 1 ≤ 8 ∧ 8 + (3 + 11) + lo ≤ 240 ∧ mc ≤ 13 ∧ ms ≤ 400) (ht : ∀ E, t = some E → E = eIA) (hv : ∀ v h1 s1, Post v h1 s1 → ∃ r f, v = some (.int r) ∧ h1 out = some (aJ_ G 1 f)) : Mw G l yL_keep cL_keep 4 (some .int) [(0, 9, 12, 13)] 8 240 13 400 [.ref x, .int a, .ref out] h sz (poW G h sz out t eIA Post) := by
  have g1 := rm.2.2.1
  have g2 := rm.2.2.2
  refine Mw.ofV [(0, .ref x), (1, .int a), (2, .ref out)] (by decide) (Nat.le_of_ble_eq_true rfl) rfl ?_
  intro p e s m args below meth c C hT
  refine r_aload_n C dL_keep_0 rfl rfl ?_
  refine r_iconst C (v := 0) dL_keep_1 rfl ?_
  refine r_aload_n C dL_keep_2 rfl rfl ?_
  refine r_iload_n C dL_keep_3 rfl rfl ?_
  refine r_xVc C hT M lk_L_37 rfl hx rfl rfl ⟨rm.1, rm.2.1, (by show 0 + mc ≤ 13; omega), (by show 0 + ms ≤ 400; omega), (Nat.le_of_ble_eq_true rfl)⟩ dL_keep_4 ?_ ?_
  · rintro E h1 s1 ⟨e1, rfl, e2⟩
    have e3 := ht E e1
    subst e3
    refine ⟨12, ⟨[], _, [], rfl, (fun z hz => absurd hz List.not_mem_nil), by decide, by decide, cl_L_13, xbA, rfl⟩, fun q => ?_⟩
    refine r_astore_n C dL_keep_12 rfl (by decide) ?_
    refine r_iconst C (v := 1) dL_keep_13 rfl ?_
    exact V.retx (r_iret C rfl (by omega) (by omega) (Or.inr ⟨_, e1, (by rw [if_pos rfl]), rfl, e2⟩) dL_keep_14)
  · rintro v h1 s1 hp
    obtain ⟨r, f, rfl, ho⟩ := hv _ _ _ hp
    refine r_i2l C dL_keep_7 ?_
    refine r_last C ho vin0 dL_keep_8 ?_
    refine r_goto C 15 dL_keep_9 (by decide) ?_
    refine r_iconst C (v := 0) dL_keep_15 rfl ?_
    exact V.retx (r_iret C rfl (by omega) (by omega) (Or.inl ⟨r, h1, f, rfl, hp, ho, rfl⟩) dL_keep_16)
set_option maxHeartbeats 800000 in
set_option maxRecDepth 100000 in
theorem c_L_goBack {G : ga_} {l : Launch} {h : HP} {sz x out : Nat} {a : Int32} {fs : List Value} {fr lo mc ms : Nat} {Post : Option Value → HP → Nat → Prop} {t : Option String} (hx : h x = some (ob_ 5 fs)) (M : Mx G l yX5_goBack cX5_goBack 3 (some .int) fr lo mc ms [.ref x, .int a] h sz Post (pxE h sz t)) (rm : fr + 1 ≤ 8 ∧ 8 + (3 + 11) + lo ≤ 240 ∧ mc ≤ 13 ∧ ms ≤ 400) (ht : ∀ E, t = some E → E = eIA ∨ E = eIS) (hv : ∀ v h1 s1, Post v h1 s1 → ∃ r f, v = some (.int r) ∧ h1 out = some (aJ_ G 1 f)) : Mw G l yL_goBack cL_goBack 4 (some .int) [(0, 9, 12, 13), (0, 9, 15, 31)] 8 240 13 400 [.ref x, .int a, .ref out] h sz (poW G h sz out t eIA Post) := by
  have g1 := rm.2.2.1
  have g2 := rm.2.2.2
  refine Mw.ofV [(0, .ref x), (1, .int a), (2, .ref out)] (by decide) (Nat.le_of_ble_eq_true rfl) rfl ?_
  intro p e s m args below meth c C hT
  refine r_aload_n C dL_goBack_0 rfl rfl ?_
  refine r_iconst C (v := 0) dL_goBack_1 rfl ?_
  refine r_aload_n C dL_goBack_2 rfl rfl ?_
  refine r_iload_n C dL_goBack_3 rfl rfl ?_
  refine r_xVc C hT M lk_L_40 rfl hx rfl rfl ⟨rm.1, rm.2.1, (by show 0 + mc ≤ 13; omega), (by show 0 + ms ≤ 400; omega), (Nat.le_of_ble_eq_true rfl)⟩ dL_goBack_4 ?_ ?_
  · rintro E h1 s1 ⟨e1, rfl, e2⟩
    rcases ht E e1 with e3 | e3
    · subst e3
      refine ⟨12, ⟨[], _, [_], rfl, (fun z hz => absurd hz List.not_mem_nil), by decide, by decide, cl_L_13, xbA, rfl⟩, fun q => ?_⟩
      refine r_astore_n C dL_goBack_12 rfl (by decide) ?_
      refine r_iconst C (v := 1) dL_goBack_13 rfl ?_
      exact V.retx (r_iret C rfl (by omega) (by omega) (Or.inr ⟨_, e1, (by rw [if_pos rfl]), rfl, e2⟩) dL_goBack_14)
    · subst e3
      refine ⟨15, ⟨[_], _, [], rfl, (fun z hz => by rw [List.mem_singleton.mp hz]; exact ⟨by decide, _, cl_L_13, xbA, by decide⟩), by decide, by decide, cl_L_31, xbS, rfl⟩, fun q => ?_⟩
      refine r_astore_n C dL_goBack_15 rfl (by decide) ?_
      refine r_iconst C (v := 2) dL_goBack_16 rfl ?_
      exact V.retx (r_iret C rfl (by omega) (by omega) (Or.inr ⟨_, e1, (by rw [if_neg (by decide)]), rfl, e2⟩) dL_goBack_17)
  · rintro v h1 s1 hp
    obtain ⟨r, f, rfl, ho⟩ := hv _ _ _ hp
    refine r_i2l C dL_goBack_7 ?_
    refine r_last C ho vin0 dL_goBack_8 ?_
    refine r_goto C 18 dL_goBack_9 (by decide) ?_
    refine r_iconst C (v := 0) dL_goBack_18 rfl ?_
    exact V.retx (r_iret C rfl (by omega) (by omega) (Or.inl ⟨r, h1, f, rfl, hp, ho, rfl⟩) dL_goBack_19)
set_option maxHeartbeats 800000 in
set_option maxRecDepth 100000 in
theorem c_L_undo {G : ga_} {l : Launch} {h : HP} {sz x out : Nat} {fs : List Value} {fr lo mc ms : Nat} {Post : Option Value → HP → Nat → Prop} {t : Option String} (hx : h x = some (ob_ 5 fs)) (M : Mx G l yX5_undo cX5_undo 1 (some .int) fr lo mc ms [.ref x] h sz Post (pxE h sz t)) (rm : fr + 1 ≤ 8 ∧ 8 + (1 + 11) + lo ≤ 240 ∧ mc ≤ 13 ∧ ms ≤ 400) (ht : ∀ E, t = some E → E = eIS) (hv : ∀ v h1 s1, Post v h1 s1 → ∃ r f, v = some (.int r) ∧ h1 out = some (aJ_ G 1 f)) : Mw G l yL_undo cL_undo 3 (some .int) [(0, 8, 11, 31)] 8 240 13 400 [.ref x, .ref out] h sz (poW G h sz out t eIS Post) := by
  have g1 := rm.2.2.1
  have g2 := rm.2.2.2
  refine Mw.ofV [(0, .ref x), (1, .ref out)] (by decide) (Nat.le_of_ble_eq_true rfl) rfl ?_
  intro p e s m args below meth c C hT
  refine r_aload_n C dL_undo_0 rfl rfl ?_
  refine r_iconst C (v := 0) dL_undo_1 rfl ?_
  refine r_aload_n C dL_undo_2 rfl rfl ?_
  refine r_xVc C hT M lk_L_43 rfl hx rfl rfl ⟨rm.1, rm.2.1, (by show 0 + mc ≤ 13; omega), (by show 0 + ms ≤ 400; omega), (Nat.le_of_ble_eq_true rfl)⟩ dL_undo_3 ?_ ?_
  · rintro E h1 s1 ⟨e1, rfl, e2⟩
    have e3 := ht E e1
    subst e3
    refine ⟨11, ⟨[], _, [], rfl, (fun z hz => absurd hz List.not_mem_nil), by decide, by decide, cl_L_31, xbS, rfl⟩, fun q => ?_⟩
    refine r_astore_n C dL_undo_11 rfl (by decide) ?_
    refine r_iconst C (v := 1) dL_undo_12 rfl ?_
    exact V.retx (r_iret C rfl (by omega) (by omega) (Or.inr ⟨_, e1, (by rw [if_pos rfl]), rfl, e2⟩) dL_undo_13)
  · rintro v h1 s1 hp
    obtain ⟨r, f, rfl, ho⟩ := hv _ _ _ hp
    refine r_i2l C dL_undo_6 ?_
    refine r_last C ho vin0 dL_undo_7 ?_
    refine r_goto C 14 dL_undo_8 (by decide) ?_
    refine r_iconst C (v := 0) dL_undo_14 rfl ?_
    exact V.retx (r_iret C rfl (by omega) (by omega) (Or.inl ⟨r, h1, f, rfl, hp, ho, rfl⟩) dL_undo_15)
set_option maxHeartbeats 800000 in
set_option maxRecDepth 100000 in
theorem c_L_tileOf {G : ga_} {l : Launch} {h : HP} {sz x out : Nat} {a b : Int32} {fs : List Value} {fr lo mc ms : Nat} {Post : Option Value → HP → Nat → Prop} {t : Option String} (hx : h x = some (ob_ 5 fs)) (M : Mx G l yX5_tileOf cX5_tileOf 3 (some .int) fr lo mc ms [.ref x, .int a, .int b] h sz Post (pxE h sz t)) (rm : fr + 1 ≤ 8 ∧ 8 + (3 + 11) + lo ≤ 240 ∧ mc ≤ 13 ∧ ms ≤ 400) (ht : ∀ E, t = some E → E = eIO ∨ E = eIA) (hv : ∀ v h1 s1, Post v h1 s1 → ∃ r f, v = some (.int r) ∧ h1 out = some (aJ_ G 1 f)) : Mw G l yL_tileOf cL_tileOf 5 (some .int) [(0, 10, 13, 19), (0, 10, 17, 13)] 8 240 13 400 [.ref x, .int a, .int b, .ref out] h sz (poW G h sz out t eIO Post) := by
  have g1 := rm.2.2.1
  have g2 := rm.2.2.2
  refine Mw.ofV [(0, .ref x), (1, .int a), (2, .int b), (3, .ref out)] (by decide) (Nat.le_of_ble_eq_true rfl) rfl ?_
  intro p e s m args below meth c C hT
  refine r_aload_n C dL_tileOf_0 rfl rfl ?_
  refine r_iconst C (v := 0) dL_tileOf_1 rfl ?_
  refine r_aload_n C dL_tileOf_2 rfl rfl ?_
  refine r_iload_n C dL_tileOf_3 rfl rfl ?_
  refine r_iload_n C dL_tileOf_4 rfl rfl ?_
  refine r_xVc C hT M lk_L_46 rfl hx rfl rfl ⟨rm.1, rm.2.1, (by show 0 + mc ≤ 13; omega), (by show 0 + ms ≤ 400; omega), (Nat.le_of_ble_eq_true rfl)⟩ dL_tileOf_5 ?_ ?_
  · rintro E h1 s1 ⟨e1, rfl, e2⟩
    rcases ht E e1 with e3 | e3
    · subst e3
      refine ⟨13, ⟨[], _, [_], rfl, (fun z hz => absurd hz List.not_mem_nil), by decide, by decide, cl_L_19, xbO, rfl⟩, fun q => ?_⟩
      refine r_astore C dL_tileOf_13 (by decide) ?_
      refine r_iconst C (v := 1) dL_tileOf_15 rfl ?_
      exact V.retx (r_iret C rfl (by omega) (by omega) (Or.inr ⟨_, e1, (by rw [if_pos rfl]), rfl, e2⟩) dL_tileOf_16)
    · subst e3
      refine ⟨17, ⟨[_], _, [], rfl, (fun z hz => by rw [List.mem_singleton.mp hz]; exact ⟨by decide, _, cl_L_19, xbO, by decide⟩), by decide, by decide, cl_L_13, xbA, rfl⟩, fun q => ?_⟩
      refine r_astore C dL_tileOf_17 (by decide) ?_
      refine r_iconst C (v := 2) dL_tileOf_19 rfl ?_
      exact V.retx (r_iret C rfl (by omega) (by omega) (Or.inr ⟨_, e1, (by rw [if_neg (by decide)]), rfl, e2⟩) dL_tileOf_20)
  · rintro v h1 s1 hp
    obtain ⟨r, f, rfl, ho⟩ := hv _ _ _ hp
    refine r_i2l C dL_tileOf_8 ?_
    refine r_last C ho vin0 dL_tileOf_9 ?_
    refine r_goto C 21 dL_tileOf_10 (by decide) ?_
    refine r_iconst C (v := 0) dL_tileOf_21 rfl ?_
    exact V.retx (r_iret C rfl (by omega) (by omega) (Or.inl ⟨r, h1, f, rfl, hp, ho, rfl⟩) dL_tileOf_22)
set_option maxHeartbeats 800000 in
set_option maxRecDepth 100000 in
theorem c_L_hand {G : ga_} {l : Launch} {h : HP} {sz x out : Nat} {a b : Int32} {fs : List Value} {fr lo mc ms : Nat} {Post : Option Value → HP → Nat → Prop} {t : Option String} (hx : h x = some (ob_ 5 fs)) (M : Mx G l yX5_hand cX5_hand 3 (some .int) fr lo mc ms [.ref x, .int a, .int b] h sz Post (pxE h sz t)) (rm : fr + 1 ≤ 8 ∧ 8 + (3 + 11) + lo ≤ 240 ∧ mc ≤ 13 ∧ ms ≤ 400) (ht : ∀ E, t = some E → E = eIO ∨ E = eIA) (hv : ∀ v h1 s1, Post v h1 s1 → ∃ r f, v = some (.int r) ∧ h1 out = some (aJ_ G 1 f)) : Mw G l yL_hand cL_hand 5 (some .int) [(0, 10, 13, 19), (0, 10, 17, 13)] 8 240 13 400 [.ref x, .int a, .int b, .ref out] h sz (poW G h sz out t eIO Post) := by
  have g1 := rm.2.2.1
  have g2 := rm.2.2.2
  refine Mw.ofV [(0, .ref x), (1, .int a), (2, .int b), (3, .ref out)] (by decide) (Nat.le_of_ble_eq_true rfl) rfl ?_
  intro p e s m args below meth c C hT
  refine r_aload_n C dL_hand_0 rfl rfl ?_
  refine r_iconst C (v := 0) dL_hand_1 rfl ?_
  refine r_aload_n C dL_hand_2 rfl rfl ?_
  refine r_iload_n C dL_hand_3 rfl rfl ?_
  refine r_iload_n C dL_hand_4 rfl rfl ?_
  refine r_xVc C hT M lk_L_49 rfl hx rfl rfl ⟨rm.1, rm.2.1, (by show 0 + mc ≤ 13; omega), (by show 0 + ms ≤ 400; omega), (Nat.le_of_ble_eq_true rfl)⟩ dL_hand_5 ?_ ?_
  · rintro E h1 s1 ⟨e1, rfl, e2⟩
    rcases ht E e1 with e3 | e3
    · subst e3
      refine ⟨13, ⟨[], _, [_], rfl, (fun z hz => absurd hz List.not_mem_nil), by decide, by decide, cl_L_19, xbO, rfl⟩, fun q => ?_⟩
      refine r_astore C dL_hand_13 (by decide) ?_
      refine r_iconst C (v := 1) dL_hand_15 rfl ?_
      exact V.retx (r_iret C rfl (by omega) (by omega) (Or.inr ⟨_, e1, (by rw [if_pos rfl]), rfl, e2⟩) dL_hand_16)
    · subst e3
      refine ⟨17, ⟨[_], _, [], rfl, (fun z hz => by rw [List.mem_singleton.mp hz]; exact ⟨by decide, _, cl_L_19, xbO, by decide⟩), by decide, by decide, cl_L_13, xbA, rfl⟩, fun q => ?_⟩
      refine r_astore C dL_hand_17 (by decide) ?_
      refine r_iconst C (v := 2) dL_hand_19 rfl ?_
      exact V.retx (r_iret C rfl (by omega) (by omega) (Or.inr ⟨_, e1, (by rw [if_neg (by decide)]), rfl, e2⟩) dL_hand_20)
  · rintro v h1 s1 hp
    obtain ⟨r, f, rfl, ho⟩ := hv _ _ _ hp
    refine r_i2l C dL_hand_8 ?_
    refine r_last C ho vin0 dL_hand_9 ?_
    refine r_goto C 21 dL_hand_10 (by decide) ?_
    refine r_iconst C (v := 0) dL_hand_21 rfl ?_
    exact V.retx (r_iret C rfl (by omega) (by omega) (Or.inl ⟨r, h1, f, rfl, hp, ho, rfl⟩) dL_hand_22)
set_option maxHeartbeats 800000 in
set_option maxRecDepth 100000 in
theorem c_L_stock {G : ga_} {l : Launch} {h : HP} {sz x out : Nat} {a : Int32} {fs : List Value} {fr lo mc ms : Nat} {Post : Option Value → HP → Nat → Prop} {t : Option String} (hx : h x = some (ob_ 5 fs)) (M : Mx G l yX5_stock cX5_stock 2 (some .int) fr lo mc ms [.ref x, .int a] h sz Post (pxE h sz t)) (rm : fr + 1 ≤ 8 ∧ 8 + (2 + 11) + lo ≤ 240 ∧ mc ≤ 13 ∧ ms ≤ 400) (ht : ∀ E, t = some E → E = eIA) (hv : ∀ v h1 s1, Post v h1 s1 → ∃ r f, v = some (.int r) ∧ h1 out = some (aJ_ G 1 f)) : Mw G l yL_stock cL_stock 4 (some .int) [(0, 9, 12, 13)] 8 240 13 400 [.ref x, .int a, .ref out] h sz (poW G h sz out t eIA Post) := by
  have g1 := rm.2.2.1
  have g2 := rm.2.2.2
  refine Mw.ofV [(0, .ref x), (1, .int a), (2, .ref out)] (by decide) (Nat.le_of_ble_eq_true rfl) rfl ?_
  intro p e s m args below meth c C hT
  refine r_aload_n C dL_stock_0 rfl rfl ?_
  refine r_iconst C (v := 0) dL_stock_1 rfl ?_
  refine r_aload_n C dL_stock_2 rfl rfl ?_
  refine r_iload_n C dL_stock_3 rfl rfl ?_
  refine r_xVc C hT M lk_L_52 rfl hx rfl rfl ⟨rm.1, rm.2.1, (by show 0 + mc ≤ 13; omega), (by show 0 + ms ≤ 400; omega), (Nat.le_of_ble_eq_true rfl)⟩ dL_stock_4 ?_ ?_
  · rintro E h1 s1 ⟨e1, rfl, e2⟩
    have e3 := ht E e1
    subst e3
    refine ⟨12, ⟨[], _, [], rfl, (fun z hz => absurd hz List.not_mem_nil), by decide, by decide, cl_L_13, xbA, rfl⟩, fun q => ?_⟩
    refine r_astore_n C dL_stock_12 rfl (by decide) ?_
    refine r_iconst C (v := 1) dL_stock_13 rfl ?_
    exact V.retx (r_iret C rfl (by omega) (by omega) (Or.inr ⟨_, e1, (by rw [if_pos rfl]), rfl, e2⟩) dL_stock_14)
  · rintro v h1 s1 hp
    obtain ⟨r, f, rfl, ho⟩ := hv _ _ _ hp
    refine r_i2l C dL_stock_7 ?_
    refine r_last C ho vin0 dL_stock_8 ?_
    refine r_goto C 15 dL_stock_9 (by decide) ?_
    refine r_iconst C (v := 0) dL_stock_15 rfl ?_
    exact V.retx (r_iret C rfl (by omega) (by omega) (Or.inl ⟨r, h1, f, rfl, hp, ho, rfl⟩) dL_stock_16)
set_option maxHeartbeats 800000 in
set_option maxRecDepth 100000 in
theorem c_L_playerOf {G : ga_} {l : Launch} {h : HP} {sz x out : Nat} {a b : Int32} {fs : List Value} {fr lo mc ms : Nat} {Post : Option Value → HP → Nat → Prop} {t : Option String} (hx : h x = some (ob_ 5 fs)) (M : Mx G l yX5_playerOf cX5_playerOf 3 (some .int) fr lo mc ms [.ref x, .int a, .int b] h sz Post (pxE h sz t)) (rm : fr + 1 ≤ 8 ∧ 8 + (3 + 11) + lo ≤ 240 ∧ mc ≤ 13 ∧ ms ≤ 400) (ht : ∀ E, t = some E → E = eIO ∨ E = eIA) (hv : ∀ v h1 s1, Post v h1 s1 → ∃ r f, v = some (.int r) ∧ h1 out = some (aJ_ G 1 f)) : Mw G l yL_playerOf cL_playerOf 5 (some .int) [(0, 10, 13, 19), (0, 10, 17, 13)] 8 240 13 400 [.ref x, .int a, .int b, .ref out] h sz (poW G h sz out t eIO Post) := by
  have g1 := rm.2.2.1
  have g2 := rm.2.2.2
  refine Mw.ofV [(0, .ref x), (1, .int a), (2, .int b), (3, .ref out)] (by decide) (Nat.le_of_ble_eq_true rfl) rfl ?_
  intro p e s m args below meth c C hT
  refine r_aload_n C dL_playerOf_0 rfl rfl ?_
  refine r_iconst C (v := 0) dL_playerOf_1 rfl ?_
  refine r_aload_n C dL_playerOf_2 rfl rfl ?_
  refine r_iload_n C dL_playerOf_3 rfl rfl ?_
  refine r_iload_n C dL_playerOf_4 rfl rfl ?_
  refine r_xVc C hT M lk_L_55 rfl hx rfl rfl ⟨rm.1, rm.2.1, (by show 0 + mc ≤ 13; omega), (by show 0 + ms ≤ 400; omega), (Nat.le_of_ble_eq_true rfl)⟩ dL_playerOf_5 ?_ ?_
  · rintro E h1 s1 ⟨e1, rfl, e2⟩
    rcases ht E e1 with e3 | e3
    · subst e3
      refine ⟨13, ⟨[], _, [_], rfl, (fun z hz => absurd hz List.not_mem_nil), by decide, by decide, cl_L_19, xbO, rfl⟩, fun q => ?_⟩
      refine r_astore C dL_playerOf_13 (by decide) ?_
      refine r_iconst C (v := 1) dL_playerOf_15 rfl ?_
      exact V.retx (r_iret C rfl (by omega) (by omega) (Or.inr ⟨_, e1, (by rw [if_pos rfl]), rfl, e2⟩) dL_playerOf_16)
    · subst e3
      refine ⟨17, ⟨[_], _, [], rfl, (fun z hz => by rw [List.mem_singleton.mp hz]; exact ⟨by decide, _, cl_L_19, xbO, by decide⟩), by decide, by decide, cl_L_13, xbA, rfl⟩, fun q => ?_⟩
      refine r_astore C dL_playerOf_17 (by decide) ?_
      refine r_iconst C (v := 2) dL_playerOf_19 rfl ?_
      exact V.retx (r_iret C rfl (by omega) (by omega) (Or.inr ⟨_, e1, (by rw [if_neg (by decide)]), rfl, e2⟩) dL_playerOf_20)
  · rintro v h1 s1 hp
    obtain ⟨r, f, rfl, ho⟩ := hv _ _ _ hp
    refine r_i2l C dL_playerOf_8 ?_
    refine r_last C ho vin0 dL_playerOf_9 ?_
    refine r_goto C 21 dL_playerOf_10 (by decide) ?_
    refine r_iconst C (v := 0) dL_playerOf_21 rfl ?_
    exact V.retx (r_iret C rfl (by omega) (by omega) (Or.inl ⟨r, h1, f, rfl, hp, ho, rfl⟩) dL_playerOf_22)
set_option maxHeartbeats 800000 in
set_option maxRecDepth 100000 in
theorem c_L_rowOf {G : ga_} {l : Launch} {h : HP} {sz x out : Nat} {a b : Int32} {fs : List Value} {fr lo mc ms : Nat} {Post : Option Value → HP → Nat → Prop} {t : Option String} (hx : h x = some (ob_ 5 fs)) (M : Mx G l yX5_rowOf cX5_rowOf 3 (some .int) fr lo mc ms [.ref x, .int a, .int b] h sz Post (pxE h sz t)) (rm : fr + 1 ≤ 8 ∧ 8 + (3 + 11) + lo ≤ 240 ∧ mc ≤ 13 ∧ ms ≤ 400) (ht : ∀ E, t = some E → E = eIO ∨ E = eIA) (hv : ∀ v h1 s1, Post v h1 s1 → ∃ r f, v = some (.int r) ∧ h1 out = some (aJ_ G 1 f)) : Mw G l yL_rowOf cL_rowOf 5 (some .int) [(0, 10, 13, 19), (0, 10, 17, 13)] 8 240 13 400 [.ref x, .int a, .int b, .ref out] h sz (poW G h sz out t eIO Post) := by
  have g1 := rm.2.2.1
  have g2 := rm.2.2.2
  refine Mw.ofV [(0, .ref x), (1, .int a), (2, .int b), (3, .ref out)] (by decide) (Nat.le_of_ble_eq_true rfl) rfl ?_
  intro p e s m args below meth c C hT
  refine r_aload_n C dL_rowOf_0 rfl rfl ?_
  refine r_iconst C (v := 0) dL_rowOf_1 rfl ?_
  refine r_aload_n C dL_rowOf_2 rfl rfl ?_
  refine r_iload_n C dL_rowOf_3 rfl rfl ?_
  refine r_iload_n C dL_rowOf_4 rfl rfl ?_
  refine r_xVc C hT M lk_L_58 rfl hx rfl rfl ⟨rm.1, rm.2.1, (by show 0 + mc ≤ 13; omega), (by show 0 + ms ≤ 400; omega), (Nat.le_of_ble_eq_true rfl)⟩ dL_rowOf_5 ?_ ?_
  · rintro E h1 s1 ⟨e1, rfl, e2⟩
    rcases ht E e1 with e3 | e3
    · subst e3
      refine ⟨13, ⟨[], _, [_], rfl, (fun z hz => absurd hz List.not_mem_nil), by decide, by decide, cl_L_19, xbO, rfl⟩, fun q => ?_⟩
      refine r_astore C dL_rowOf_13 (by decide) ?_
      refine r_iconst C (v := 1) dL_rowOf_15 rfl ?_
      exact V.retx (r_iret C rfl (by omega) (by omega) (Or.inr ⟨_, e1, (by rw [if_pos rfl]), rfl, e2⟩) dL_rowOf_16)
    · subst e3
      refine ⟨17, ⟨[_], _, [], rfl, (fun z hz => by rw [List.mem_singleton.mp hz]; exact ⟨by decide, _, cl_L_19, xbO, by decide⟩), by decide, by decide, cl_L_13, xbA, rfl⟩, fun q => ?_⟩
      refine r_astore C dL_rowOf_17 (by decide) ?_
      refine r_iconst C (v := 2) dL_rowOf_19 rfl ?_
      exact V.retx (r_iret C rfl (by omega) (by omega) (Or.inr ⟨_, e1, (by rw [if_neg (by decide)]), rfl, e2⟩) dL_rowOf_20)
  · rintro v h1 s1 hp
    obtain ⟨r, f, rfl, ho⟩ := hv _ _ _ hp
    refine r_i2l C dL_rowOf_8 ?_
    refine r_last C ho vin0 dL_rowOf_9 ?_
    refine r_goto C 21 dL_rowOf_10 (by decide) ?_
    refine r_iconst C (v := 0) dL_rowOf_21 rfl ?_
    exact V.retx (r_iret C rfl (by omega) (by omega) (Or.inl ⟨r, h1, f, rfl, hp, ho, rfl⟩) dL_rowOf_22)
set_option maxHeartbeats 800000 in
set_option maxRecDepth 100000 in
theorem c_L_count {G : ga_} {l : Launch} {h : HP} {sz x out : Nat} {a : Int32} {fs : List Value} {fr lo mc ms : Nat} {Post : Option Value → HP → Nat → Prop} {t : Option String} (hx : h x = some (ob_ 5 fs)) (M : Mx G l yX5_count cX5_count 2 (some .int) fr lo mc ms [.ref x, .int a] h sz Post (pxE h sz t)) (rm : fr + 1 ≤ 8 ∧ 8 + (2 + 11) + lo ≤ 240 ∧ mc ≤ 13 ∧ ms ≤ 400) (ht : ∀ E, t = some E → E = eIA) (hv : ∀ v h1 s1, Post v h1 s1 → ∃ r f, v = some (.int r) ∧ h1 out = some (aJ_ G 1 f)) : Mw G l yL_count cL_count 4 (some .int) [(0, 9, 12, 13)] 8 240 13 400 [.ref x, .int a, .ref out] h sz (poW G h sz out t eIA Post) := by
  have g1 := rm.2.2.1
  have g2 := rm.2.2.2
  refine Mw.ofV [(0, .ref x), (1, .int a), (2, .ref out)] (by decide) (Nat.le_of_ble_eq_true rfl) rfl ?_
  intro p e s m args below meth c C hT
  refine r_aload_n C dL_count_0 rfl rfl ?_
  refine r_iconst C (v := 0) dL_count_1 rfl ?_
  refine r_aload_n C dL_count_2 rfl rfl ?_
  refine r_iload_n C dL_count_3 rfl rfl ?_
  refine r_xVc C hT M lk_L_61 rfl hx rfl rfl ⟨rm.1, rm.2.1, (by show 0 + mc ≤ 13; omega), (by show 0 + ms ≤ 400; omega), (Nat.le_of_ble_eq_true rfl)⟩ dL_count_4 ?_ ?_
  · rintro E h1 s1 ⟨e1, rfl, e2⟩
    have e3 := ht E e1
    subst e3
    refine ⟨12, ⟨[], _, [], rfl, (fun z hz => absurd hz List.not_mem_nil), by decide, by decide, cl_L_13, xbA, rfl⟩, fun q => ?_⟩
    refine r_astore_n C dL_count_12 rfl (by decide) ?_
    refine r_iconst C (v := 1) dL_count_13 rfl ?_
    exact V.retx (r_iret C rfl (by omega) (by omega) (Or.inr ⟨_, e1, (by rw [if_pos rfl]), rfl, e2⟩) dL_count_14)
  · rintro v h1 s1 hp
    obtain ⟨r, f, rfl, ho⟩ := hv _ _ _ hp
    refine r_i2l C dL_count_7 ?_
    refine r_last C ho vin0 dL_count_8 ?_
    refine r_goto C 15 dL_count_9 (by decide) ?_
    refine r_iconst C (v := 0) dL_count_15 rfl ?_
    exact V.retx (r_iret C rfl (by omega) (by omega) (Or.inl ⟨r, h1, f, rfl, hp, ho, rfl⟩) dL_count_16)
set_option maxHeartbeats 800000 in
set_option maxRecDepth 100000 in
theorem c_L_whyNot {G : ga_} {l : Launch} {h : HP} {sz x out : Nat} {a b d : Int32} {fs : List Value} {fr lo mc ms : Nat} {Post : Option Value → HP → Nat → Prop} {t : Option String} (hx : h x = some (ob_ 5 fs)) (M : Mx G l yX5_whyNot cX5_whyNot 4 (some .int) fr lo mc ms [.ref x, .int a, .int b, .int d] h sz Post (pxE h sz t)) (rm : fr + 1 ≤ 8 ∧ 8 + (4 + 11) + lo ≤ 240 ∧ mc ≤ 13 ∧ ms ≤ 400) (ht : ∀ E, t = some E → E = eIO ∨ E = eIA) (hv : ∀ v h1 s1, Post v h1 s1 → ∃ r f, v = some (.int r) ∧ h1 out = some (aJ_ G 1 f)) : Mw G l yL_whyNot cL_whyNot 6 (some .int) [(0, 12, 15, 19), (0, 12, 19, 13)] 8 240 13 400 [.ref x, .int a, .int b, .int d, .ref out] h sz (poW G h sz out t eIO Post) := by
  have g1 := rm.2.2.1
  have g2 := rm.2.2.2
  refine Mw.ofV [(0, .ref x), (1, .int a), (2, .int b), (3, .int d), (4, .ref out)] (by decide) (Nat.le_of_ble_eq_true rfl) rfl ?_
  intro p e s m args below meth c C hT
  refine r_aload C dL_whyNot_0 rfl ?_
  refine r_iconst C (v := 0) dL_whyNot_2 rfl ?_
  refine r_aload_n C dL_whyNot_3 rfl rfl ?_
  refine r_iload_n C dL_whyNot_4 rfl rfl ?_
  refine r_iload_n C dL_whyNot_5 rfl rfl ?_
  refine r_iload_n C dL_whyNot_6 rfl rfl ?_
  refine r_xVc C hT M lk_L_64 rfl hx rfl rfl ⟨rm.1, rm.2.1, (by show 0 + mc ≤ 13; omega), (by show 0 + ms ≤ 400; omega), (Nat.le_of_ble_eq_true rfl)⟩ dL_whyNot_7 ?_ ?_
  · rintro E h1 s1 ⟨e1, rfl, e2⟩
    rcases ht E e1 with e3 | e3
    · subst e3
      refine ⟨15, ⟨[], _, [_], rfl, (fun z hz => absurd hz List.not_mem_nil), by decide, by decide, cl_L_19, xbO, rfl⟩, fun q => ?_⟩
      refine r_astore C dL_whyNot_15 (by decide) ?_
      refine r_iconst C (v := 1) dL_whyNot_17 rfl ?_
      exact V.retx (r_iret C rfl (by omega) (by omega) (Or.inr ⟨_, e1, (by rw [if_pos rfl]), rfl, e2⟩) dL_whyNot_18)
    · subst e3
      refine ⟨19, ⟨[_], _, [], rfl, (fun z hz => by rw [List.mem_singleton.mp hz]; exact ⟨by decide, _, cl_L_19, xbO, by decide⟩), by decide, by decide, cl_L_13, xbA, rfl⟩, fun q => ?_⟩
      refine r_astore C dL_whyNot_19 (by decide) ?_
      refine r_iconst C (v := 2) dL_whyNot_21 rfl ?_
      exact V.retx (r_iret C rfl (by omega) (by omega) (Or.inr ⟨_, e1, (by rw [if_neg (by decide)]), rfl, e2⟩) dL_whyNot_22)
  · rintro v h1 s1 hp
    obtain ⟨r, f, rfl, ho⟩ := hv _ _ _ hp
    refine r_i2l C dL_whyNot_10 ?_
    refine r_last C ho vin0 dL_whyNot_11 ?_
    refine r_goto C 23 dL_whyNot_12 (by decide) ?_
    refine r_iconst C (v := 0) dL_whyNot_23 rfl ?_
    exact V.retx (r_iret C rfl (by omega) (by omega) (Or.inl ⟨r, h1, f, rfl, hp, ho, rfl⟩) dL_whyNot_24)
set_option maxHeartbeats 800000 in
set_option maxRecDepth 100000 in
theorem c_L_longest {G : ga_} {l : Launch} {h : HP} {sz x out : Nat} {a b : Int32} {fs : List Value} {fr lo mc ms : Nat} {Post : Option Value → HP → Nat → Prop} {t : Option String} (hx : h x = some (ob_ 5 fs)) (M : Mx G l yX5_longest cX5_longest 3 (some .int) fr lo mc ms [.ref x, .int a, .int b] h sz Post (pxE h sz t)) (rm : fr + 1 ≤ 8 ∧ 8 + (3 + 11) + lo ≤ 240 ∧ mc ≤ 13 ∧ ms ≤ 400) (ht : ∀ E, t = some E → E = eIO ∨ E = eIA) (hv : ∀ v h1 s1, Post v h1 s1 → ∃ r f, v = some (.int r) ∧ h1 out = some (aJ_ G 1 f)) : Mw G l yL_longest cL_longest 5 (some .int) [(0, 10, 13, 19), (0, 10, 17, 13)] 8 240 13 400 [.ref x, .int a, .int b, .ref out] h sz (poW G h sz out t eIO Post) := by
  have g1 := rm.2.2.1
  have g2 := rm.2.2.2
  refine Mw.ofV [(0, .ref x), (1, .int a), (2, .int b), (3, .ref out)] (by decide) (Nat.le_of_ble_eq_true rfl) rfl ?_
  intro p e s m args below meth c C hT
  refine r_aload_n C dL_longest_0 rfl rfl ?_
  refine r_iconst C (v := 0) dL_longest_1 rfl ?_
  refine r_aload_n C dL_longest_2 rfl rfl ?_
  refine r_iload_n C dL_longest_3 rfl rfl ?_
  refine r_iload_n C dL_longest_4 rfl rfl ?_
  refine r_xVc C hT M lk_L_67 rfl hx rfl rfl ⟨rm.1, rm.2.1, (by show 0 + mc ≤ 13; omega), (by show 0 + ms ≤ 400; omega), (Nat.le_of_ble_eq_true rfl)⟩ dL_longest_5 ?_ ?_
  · rintro E h1 s1 ⟨e1, rfl, e2⟩
    rcases ht E e1 with e3 | e3
    · subst e3
      refine ⟨13, ⟨[], _, [_], rfl, (fun z hz => absurd hz List.not_mem_nil), by decide, by decide, cl_L_19, xbO, rfl⟩, fun q => ?_⟩
      refine r_astore C dL_longest_13 (by decide) ?_
      refine r_iconst C (v := 1) dL_longest_15 rfl ?_
      exact V.retx (r_iret C rfl (by omega) (by omega) (Or.inr ⟨_, e1, (by rw [if_pos rfl]), rfl, e2⟩) dL_longest_16)
    · subst e3
      refine ⟨17, ⟨[_], _, [], rfl, (fun z hz => by rw [List.mem_singleton.mp hz]; exact ⟨by decide, _, cl_L_19, xbO, by decide⟩), by decide, by decide, cl_L_13, xbA, rfl⟩, fun q => ?_⟩
      refine r_astore C dL_longest_17 (by decide) ?_
      refine r_iconst C (v := 2) dL_longest_19 rfl ?_
      exact V.retx (r_iret C rfl (by omega) (by omega) (Or.inr ⟨_, e1, (by rw [if_neg (by decide)]), rfl, e2⟩) dL_longest_20)
  · rintro v h1 s1 hp
    obtain ⟨r, f, rfl, ho⟩ := hv _ _ _ hp
    refine r_i2l C dL_longest_8 ?_
    refine r_last C ho vin0 dL_longest_9 ?_
    refine r_goto C 21 dL_longest_10 (by decide) ?_
    refine r_iconst C (v := 0) dL_longest_21 rfl ?_
    exact V.retx (r_iret C rfl (by omega) (by omega) (Or.inl ⟨r, h1, f, rfl, hp, ho, rfl⟩) dL_longest_22)
set_option maxHeartbeats 800000 in
set_option maxRecDepth 100000 in
theorem c_L_whole {G : ga_} {l : Launch} {h : HP} {sz x out : Nat} {a b d : Int32} {fs : List Value} {fr lo mc ms : Nat} {Post : Option Value → HP → Nat → Prop} {t : Option String} (hx : h x = some (ob_ 5 fs)) (M : Mx G l yX5_whole cX5_whole 4 (some .int) fr lo mc ms [.ref x, .int a, .int b, .int d] h sz Post (pxE h sz t)) (rm : fr + 1 ≤ 8 ∧ 8 + (4 + 11) + lo ≤ 240 ∧ mc ≤ 13 ∧ ms ≤ 400) (ht : ∀ E, t = some E → E = eIO ∨ E = eIA) (hv : ∀ v h1 s1, Post v h1 s1 → ∃ r f, v = some (.int r) ∧ h1 out = some (aJ_ G 1 f)) : Mw G l yL_whole cL_whole 6 (some .int) [(0, 12, 15, 19), (0, 12, 19, 13)] 8 240 13 400 [.ref x, .int a, .int b, .int d, .ref out] h sz (poW G h sz out t eIO Post) := by
  have g1 := rm.2.2.1
  have g2 := rm.2.2.2
  refine Mw.ofV [(0, .ref x), (1, .int a), (2, .int b), (3, .int d), (4, .ref out)] (by decide) (Nat.le_of_ble_eq_true rfl) rfl ?_
  intro p e s m args below meth c C hT
  refine r_aload C dL_whole_0 rfl ?_
  refine r_iconst C (v := 0) dL_whole_2 rfl ?_
  refine r_aload_n C dL_whole_3 rfl rfl ?_
  refine r_iload_n C dL_whole_4 rfl rfl ?_
  refine r_iload_n C dL_whole_5 rfl rfl ?_
  refine r_iload_n C dL_whole_6 rfl rfl ?_
  refine r_xVc C hT M lk_L_70 rfl hx rfl rfl ⟨rm.1, rm.2.1, (by show 0 + mc ≤ 13; omega), (by show 0 + ms ≤ 400; omega), (Nat.le_of_ble_eq_true rfl)⟩ dL_whole_7 ?_ ?_
  · rintro E h1 s1 ⟨e1, rfl, e2⟩
    rcases ht E e1 with e3 | e3
    · subst e3
      refine ⟨15, ⟨[], _, [_], rfl, (fun z hz => absurd hz List.not_mem_nil), by decide, by decide, cl_L_19, xbO, rfl⟩, fun q => ?_⟩
      refine r_astore C dL_whole_15 (by decide) ?_
      refine r_iconst C (v := 1) dL_whole_17 rfl ?_
      exact V.retx (r_iret C rfl (by omega) (by omega) (Or.inr ⟨_, e1, (by rw [if_pos rfl]), rfl, e2⟩) dL_whole_18)
    · subst e3
      refine ⟨19, ⟨[_], _, [], rfl, (fun z hz => by rw [List.mem_singleton.mp hz]; exact ⟨by decide, _, cl_L_19, xbO, by decide⟩), by decide, by decide, cl_L_13, xbA, rfl⟩, fun q => ?_⟩
      refine r_astore C dL_whole_19 (by decide) ?_
      refine r_iconst C (v := 2) dL_whole_21 rfl ?_
      exact V.retx (r_iret C rfl (by omega) (by omega) (Or.inr ⟨_, e1, (by rw [if_neg (by decide)]), rfl, e2⟩) dL_whole_22)
  · rintro v h1 s1 hp
    obtain ⟨r, f, rfl, ho⟩ := hv _ _ _ hp
    refine r_i2l C dL_whole_10 ?_
    refine r_last C ho vin0 dL_whole_11 ?_
    refine r_goto C 23 dL_whole_12 (by decide) ?_
    refine r_iconst C (v := 0) dL_whole_23 rfl ?_
    exact V.retx (r_iret C rfl (by omega) (by omega) (Or.inl ⟨r, h1, f, rfl, hp, ho, rfl⟩) dL_whole_24)
