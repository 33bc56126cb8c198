/-! WHAT CAN BE LAID, AND WHO WON -/
def w_e (S : gS) (m r : Nat) (a : Int32) : Nat → Int32
  | 0 => a
  | e + 1 => w_e S m r a e + (if g_can S (nI m) (nI r) (nI e) = true ∧ (e = 0 ∨ ¬ S 3 (r * 4 + 0) = 0) then 1 else 0)
def w_r (S : gS) (m : Nat) : Nat → Int32
  | 0 => 0
  | r + 1 => w_e S m r (w_r S m r) 2
def v_e (S : gS) (m r : Nat) (a : Bool) : Nat → Bool
  | 0 => a
  | e + 1 => v_e S m r a e || g_can S (nI m) (nI r) (nI e)
def v_r (S : gS) (m : Nat) : Nat → Bool
  | 0 => false
  | r + 1 => v_e S m r (v_r S m r) 2
theorem w_ends (S : gS) (m : Nat) : w_r S m 3 = g_ends S (nI m) := by
  have key : ∀ r, r < 3 → ∀ a, w_e S m r a 2 = a + l_sum (fun q => bI (g_can S (nI m) (nI r) (nI q))) (g_told S (nI r)) := by
    intro r hr a
    have e0 : tAt 4 12 (S 3) (nI r) 0 = S 3 (r * 4 + 0) := at3 (w := 0) hr (by decide)
    show a + (if g_can S (nI m) (nI r) (nI 0) = true ∧ (0 = 0 ∨ ¬ S 3 (r * 4 + 0) = 0) then 1 else 0) + (if g_can S (nI m) (nI r) (nI 1) = true ∧ (1 = 0 ∨ ¬ S 3 (r * 4 + 0) = 0) then 1 else 0) = _
    unfold g_told
    rw [e0]
    by_cases c : S 3 (r * 4 + 0) = 0
    · have h1 : (if g_can S (nI m) (nI r) (nI 1) = true ∧ (1 = 0 ∨ ¬ S 3 (r * 4 + 0) = 0) then (1 : Int32) else 0) = 0 := if_neg (fun q => q.2.elim (by decide) (fun z => z c))
      rw [if_pos c, h1, Int32.add_zero]
      show _ = a + (0 + bI (g_can S (nI m) (nI r) (nI 0)))
      rw [Int32.zero_add]
      cases g_can S (nI m) (nI r) (nI 0)
      · rw [if_neg (fun q => absurd q.1 (by decide))]; rfl
      · rw [if_pos ⟨rfl, Or.inl rfl⟩]; rfl
    · rw [if_neg c]
      show _ = a + (0 + bI (g_can S (nI m) (nI r) (nI 0)) + bI (g_can S (nI m) (nI r) (nI 1)))
      rw [Int32.zero_add, ← Int32.add_assoc]
      cases g_can S (nI m) (nI r) (nI 0) <;> cases g_can S (nI m) (nI r) (nI 1)
      · rw [if_neg (fun q => absurd q.1 (by decide)), if_neg (fun q => absurd q.1 (by decide))]; rfl
      · rw [if_neg (fun q => absurd q.1 (by decide)), if_pos ⟨rfl, Or.inr c⟩]; rfl
      · rw [if_pos ⟨rfl, Or.inl rfl⟩, if_neg (fun q => absurd q.1 (by decide))]; rfl
      · rw [if_pos ⟨rfl, Or.inl rfl⟩, if_pos ⟨rfl, Or.inr c⟩]; rfl
  show w_e S m 2 (w_e S m 1 (w_e S m 0 0 2) 2) 2 = 0 + _ + _ + _
  rw [key 2 (by decide), key 1 (by decide), key 0 (by decide)]
theorem okEnd_i {e : Nat} (h : e < 2) : okEnd (nI e) = true := by
  rcases (show e = 0 ∨ e = 1 by omega) with rfl | rfl <;> rfl
theorem fits_at {S : gS} {t r e : Nat} (ht : t < 28) (hr : r < 3) (he : e < 2) : g_fits S (nI t) (nI r) (nI e) = (decide (S 3 (r * 4 + 0) = 0) || (decide (S 0 (t * 7 + 0) = S 3 (r * 4 + (1 + e))) || decide (S 0 (t * 7 + 1) = S 3 (r * 4 + (1 + e))))) := by
  unfold g_fits
  rw [show (1 : Int32) + nI e = nI (1 + e) from nI_add 1 e, show tAt 4 12 (S 3) (nI r) 0 = S 3 (r * 4 + 0) from at3 (w := 0) hr (by decide), show tAt 4 12 (S 3) (nI r) (nI (1 + e)) = _ from at3 hr (by omega), show tAt 7 196 (S 0) (nI t) 0 = S 0 (t * 7 + 0) from at0 (w := 0) ht (by decide), show tAt 7 196 (S 0) (nI t) 1 = S 0 (t * 7 + 1) from at0 (w := 1) ht (by decide)]
theorem nI_le0 {a : Nat} (ha : a < 2147483648) (h : nI a ≤ 0) : a = 0 := by
  have := (nI_leI (b := 0) ha (by decide)).mp h
  omega
theorem nI_e0 {a : Nat} (ha : a < 2147483648) (h : nI a = 0) : a = 0 := nI_inj ha (by decide) h
section MV
variable {n : Nat} {S : gS} {P K W Q T F : Nat} {H R L : Nat → Nat} {gr : Nat → Nat → Nat} {ag : Nat → Nat}
theorem gO.why (o : gO n S P K W Q T F H R L gr ag) {m j t : Nat} (hm : S 5 1 = nI m) (hm4 : m < 4) (hj : j < H m) (e2 : g_hand S (nI m) (nI j) = nI t) (r e : Int32) : g_reason S (nI j) r e = if g_fits S (nI t) r e then 0 else 3 := by
  unfold g_reason
  rw [o.overN hm4 hm, if_neg (by decide), hm, if_pos ((o.holds hm4).mpr ⟨j, hj, rfl⟩), e2]
theorem gO.why2 (o : gO n S P K W Q T F H R L gr ag) {m : Nat} (hm : S 5 1 = nI m) (hm4 : m < 4) (r e : Int32) : g_reason S (nI (H m)) r e = 2 := by
  have hK := o.n5.1.2.2.1
  have hh := oh_le o.hh hm4
  unfold g_reason
  rw [o.overN hm4 hm, if_neg (by decide), hm, if_neg]
  intro q
  obtain ⟨i, hi, ei⟩ := (o.holds hm4).mp q
  have := nI_inj (by omega) (by omega) ei
  omega
theorem over_t (h : S 5 1 = -1) : g_over S = true := decide_eq_true h
theorem why1 (h : S 5 1 = -1) (a r e : Int32) : g_reason S a r e = 1 := by
  unfold g_reason
  rw [over_t h, if_pos rfl]
theorem gO.canAt (o : gO n S P K W Q T F H R L gr ag) {m : Nat} (hm4 : m < 4) (r e : Int32) : g_can S (nI m) r e = anyB (fun i => g_fits S (g_hand S (nI m) (nI i)) r e) (H m) := by
  have hK := o.n5.1.2.2.1
  have hh := oh_le o.hh hm4
  unfold g_can
  rw [show g_held S (nI m) = nI (H m) from o.held hm4, nI_clamp (by omega)]
/-- the best place: one of those that can be laid somewhere -/
theorem bl_some (S : gS) : ∀ i, i < 100 → (g_bl S i = -1 ∧ ∀ j, j < i → g_some S (g_hand S (S 5 1) (nI j)) = false) ∨ ∃ j, j < i ∧ g_bl S i = nI j ∧ g_some S (g_hand S (S 5 1) (nI j)) = true := by
  intro i
  induction i with
  | zero => intro _; exact Or.inl ⟨rfl, fun j hj => absurd hj (Nat.not_lt_zero j)⟩
  | succ i ih =>
    intro hi
    show ((if g_some S (g_hand S (S 5 1) (nI i)) && (decide (g_bl S i = -1) || g_better S (nI i) (g_bl S i)) then nI i else g_bl S i) = -1 ∧ _) ∨ ∃ j, j < i + 1 ∧ (if g_some S (g_hand S (S 5 1) (nI i)) && (decide (g_bl S i = -1) || g_better S (nI i) (g_bl S i)) then nI i else g_bl S i) = nI j ∧ _
    cases hs : g_some S (g_hand S (S 5 1) (nI i))
    · rw [Bool.false_and, if_neg (by decide)]
      rcases ih (by omega) with ⟨h1, h2⟩ | ⟨j, hj, h1, h2⟩
      · refine Or.inl ⟨h1, fun j hj => ?_⟩
        by_cases c : j = i
        · subst c; exact hs
        · exact h2 j (by omega)
      · exact Or.inr ⟨j, by omega, h1, h2⟩
    · rw [Bool.true_and]
      rcases ih (by omega) with ⟨h1, h2⟩ | ⟨j, hj, h1, h2⟩
      · rw [h1, decide_eq_true (rfl : (-1 : Int32) = -1), Bool.true_or, if_pos rfl]
        exact Or.inr ⟨i, by omega, rfl, hs⟩
      · split
        · exact Or.inr ⟨i, by omega, rfl, hs⟩
        · exact Or.inr ⟨j, by omega, h1, h2⟩
theorem some_at (t : Int32) : g_some S t = true ↔ ∃ r e, r < 3 ∧ e < 2 ∧ g_fits S t (nI r) (nI e) = true := by
  unfold g_some
  constructor
  · intro h
    obtain ⟨r, hr, h⟩ := any_e h
    rw [Bool.or_eq_true] at h
    rcases h with h | h
    · exact ⟨r, 0, hr, by decide, h⟩
    · exact ⟨r, 1, hr, by decide, h⟩
  · rintro ⟨r, e, hr, he, h⟩
    refine any_t hr ?_
    rw [Bool.or_eq_true]
    rcases (show e = 0 ∨ e = 1 by omega) with rfl | rfl
    · exact Or.inl h
    · exact Or.inr h
theorem v_any (m : Nat) : v_r S m 3 = true ↔ ∃ r e, r < 3 ∧ e < 2 ∧ g_can S (nI m) (nI r) (nI e) = true := by
  show ((((((false || g_can S (nI m) (nI 0) (nI 0)) || g_can S (nI m) (nI 0) (nI 1)) || g_can S (nI m) (nI 1) (nI 0)) || g_can S (nI m) (nI 1) (nI 1)) || g_can S (nI m) (nI 2) (nI 0)) || g_can S (nI m) (nI 2) (nI 1)) = true ↔ _
  simp only [Bool.or_eq_true, Bool.false_or]
  constructor
  · rintro (((((h | h) | h) | h) | h) | h)
    · exact ⟨0, 0, by decide, by decide, h⟩
    · exact ⟨0, 1, by decide, by decide, h⟩
    · exact ⟨1, 0, by decide, by decide, h⟩
    · exact ⟨1, 1, by decide, by decide, h⟩
    · exact ⟨2, 0, by decide, by decide, h⟩
    · exact ⟨2, 1, by decide, by decide, h⟩
  · rintro ⟨r, e, hr, he, h⟩
    rcases (show r = 0 ∨ r = 1 ∨ r = 2 by omega) with rfl | rfl | rfl <;> rcases (show e = 0 ∨ e = 1 by omega) with rfl | rfl
    · exact Or.inl (Or.inl (Or.inl (Or.inl (Or.inl h))))
    · exact Or.inl (Or.inl (Or.inl (Or.inl (Or.inr h))))
    · exact Or.inl (Or.inl (Or.inl (Or.inr h)))
    · exact Or.inl (Or.inl (Or.inr h))
    · exact Or.inl (Or.inr h)
    · exact Or.inr h
theorem gO.anyAdv (o : gO n S P K W Q T F H R L gr ag) {m : Nat} (hm : S 5 1 = nI m) (hm4 : m < 4) : v_r S m 3 = !decide (g_adv S < 0) := by
  have hK := o.n5.1.2.2.1
  have hh := oh_le o.hh hm4
  have ea : g_adv S = g_bl S (H m) := by
    unfold g_adv
    rw [o.overN hm4 hm, if_neg (by decide), hm, show g_held S (nI m) = nI (H m) from o.held hm4, nI_clamp (by omega)]
  have hv : v_r S m 3 = true ↔ ∃ j, j < H m ∧ g_some S (g_hand S (S 5 1) (nI j)) = true := by
    rw [v_any, hm]
    constructor
    · rintro ⟨r, e, hr, he, h⟩
      rw [o.canAt hm4] at h
      obtain ⟨j, hj, hf⟩ := any_e h
      exact ⟨j, hj, (some_at _).mpr ⟨r, e, hr, he, hf⟩⟩
    · rintro ⟨j, hj, h⟩
      obtain ⟨r, e, hr, he, hf⟩ := (some_at _).mp h
      refine ⟨r, e, hr, he, ?_⟩
      rw [o.canAt hm4]
      exact any_t hj hf
  rw [ea]
  rcases bl_some S (H m) (by omega) with ⟨h1, h2⟩ | ⟨j, hj, h1, h2⟩
  · rw [h1, show (!decide ((-1 : Int32) < 0)) = false from rfl]
    rcases Bool.eq_false_or_eq_true (v_r S m 3) with c | c
    · obtain ⟨j, hj, hs⟩ := hv.mp c
      rw [h2 j hj] at hs
      exact absurd hs (by decide)
    · exact c
  · rw [h1, decide_eq_false (nI_pos (by omega)), hv.mpr ⟨j, hj, h2⟩]
    rfl
theorem adv_over (h : S 5 1 = -1) : g_adv S = -1 := by
  unfold g_adv
  rw [over_t h, if_pos rfl]
/-- the winner's sum is the least, and the first of its kind -/
theorem wl_least (S : gS) : ∀ i, i < 100 → ∃ w, w ≤ i ∧ g_wl S i = nI w ∧ ∀ u, u ≤ i → g_sum S (nI w) < g_sum S (nI u) ∨ (g_sum S (nI u) = g_sum S (nI w) ∧ w ≤ u) := by
  intro i
  induction i with
  | zero => intro _; exact ⟨0, Nat.le_refl 0, rfl, fun u hu => Or.inr ⟨by rw [show u = 0 by omega], Nat.zero_le u⟩⟩
  | succ i ih =>
    intro hi
    obtain ⟨w, hw, e, hl⟩ := ih (by omega)
    show ∃ w2, w2 ≤ i + 1 ∧ (if g_sum S (nI (i + 1)) < g_sum S (g_wl S i) then nI (i + 1) else g_wl S i) = nI w2 ∧ _
    rw [e]
    by_cases c : g_sum S (nI (i + 1)) < g_sum S (nI w)
    · rw [if_pos c]
      refine ⟨i + 1, Nat.le_refl _, rfl, fun u hu => ?_⟩
      by_cases d : u = i + 1
      · subst d; exact Or.inr ⟨rfl, Nat.le_refl _⟩
      · refine Or.inl ?_
        rw [Int32.lt_iff_toInt_lt] at c ⊢
        rcases hl u (by omega) with z | ⟨z, -⟩
        · rw [Int32.lt_iff_toInt_lt] at z; omega
        · rw [z]; exact c
    · rw [if_neg c]
      refine ⟨w, by omega, rfl, fun u hu => ?_⟩
      by_cases d : u = i + 1
      · subst d
        by_cases z : g_sum S (nI w) < g_sum S (nI (i + 1))
        · exact Or.inl z
        · refine Or.inr ⟨?_, by omega⟩
          apply Int32.toInt_inj.mp
          rw [Int32.lt_iff_toInt_lt] at c z
          omega
      · exact hl u (by omega)
theorem gO.least (o : gO n S P K W Q T F H R L gr ag) (h : S 5 1 = -1) : ∃ w, w < P ∧ g_win S = nI w ∧ ∀ u, u < P → g_sum S (nI w) < g_sum S (nI u) ∨ (g_sum S (nI u) = g_sum S (nI w) ∧ w ≤ u) := by
  obtain ⟨h2, h4, -⟩ := o.n5.1
  obtain ⟨w, hw, e, hl⟩ := wl_least S (P - 1) (by omega)
  refine ⟨w, by omega, ?_, fun u hu => hl u (by omega)⟩
  unfold g_win
  rw [over_t h, if_pos rfl, o.n5.2.1, nI_clamp (by omega), e]
end MV
set_option maxHeartbeats 800000 in
set_option maxRecDepth 100000 in
theorem c_L_isMoveSo {G : ga_} {l : Launch} {h : HP} {sz : Nat} {x rr : Nat} {dy : Nat → Prop} {S : gS} {sv sl : Nat → Option Nat} {D : Nat → gS} {nx z len : Nat} {cf : Nat → Int32} (hst : l.stackTraces = false) (w : RA G h x dy sz S sv sl D nx z cf len) (g : gX rr S) : Mf G l yL_isMoveSo cL_isMoveSo 12 (some .boolean) 8 154 2200 13200 [.ref x] h sz (some (.int 1)) h sz := by
  refine Mg.ofV [(0, .ref x)] (by decide) (Nat.le_of_ble_eq_true rfl) rfl ?_
  intro p e s m args below meth c C

  obtain ⟨P, K, W, Q, T, F, H, R, L, gr, ag, o, tt, y, xx, z1, z2, z3⟩ := g
  have hP4 : P ≤ 4 := o.n5.1.2.1
  have hK : K ≤ 28 := o.n5.1.2.2.1
  have h50 : S 5 0 = nI P := o.n5.2.1
  rcases o.mv with hm | ⟨m0, hm0, hm⟩
  · obtain ⟨wn, hwn0, hwn, hleast⟩ := o.least hm
    refine r_aload_n C dL_isMoveSo_0 rfl rfl ?_
    refine r_iconst C (v := 1) dL_isMoveSo_1 rfl ?_
    refine q_count C hst w (i := 1) (r2 := -1) (by decide) rfl (num_1.trans hm) rfl ⟨(Nat.le_of_ble_eq_true rfl), (Nat.le_of_ble_eq_true rfl), (by dsimp only; omega), (by dsimp only; omega), (Nat.le_of_ble_eq_true rfl)⟩ dL_isMoveSo_2 ?_
    refine r_istore_n C dL_isMoveSo_5 rfl (by decide) ?_
    refine r_iconst C (v := 0) dL_isMoveSo_6 rfl ?_
    refine r_istore_n C dL_isMoveSo_7 rfl (by decide) ?_
    refine r_iconst C (v := 1) dL_isMoveSo_8 rfl ?_
    refine r_istore_n C dL_isMoveSo_9 rfl (by decide) ?_
    refine r_iconst C (v := 0) dL_isMoveSo_10 rfl ?_
    refine r_istore C dL_isMoveSo_11 (by decide) ?_
    refine r_iconst C (v := 0) dL_isMoveSo_13 rfl ?_
    refine r_istore C dL_isMoveSo_14 (by decide) ?_
    refine V.sub [(0, .ref x), (1, .int (-1)), (2, .int 0), (3, .int 1), (4, .int 0), (5, .int (nI 0))] ⟨rfl, rfl, rfl, rfl, rfl, rfl, trivial⟩ ?_
    refine downK (P := fun r k n => k ≤ 1 + 10 * r → n ≤ 6 + 60 * r → V p l e ⟨8, 2200, 13200, 154⟩ s m args below meth c G 12 (Qg G below args s 2200 13200 (fun v1 h1 s1 => v1 = (some (.int 1)) ∧ h1 = h ∧ s1 = sz)) h sz k n 16 [(0, .ref x), (1, .int (-1)), (2, .int 0), (3, .int 1), (4, .int 0), (5, .int (nI r))] []) (3) ?_ ?_ _ _ (by omega) (by omega)
    · intro k n hk hn
      refine r_iload C dL_isMoveSo_16 rfl ?_
      refine r_iconst C (v := 3) dL_isMoveSo_18 rfl ?_
      refine r_icmp_ge C 254 dL_isMoveSo_19 (by decide) (fun _ => ?_) (fun c => absurd (show (3 : Int32) ≤ nI 3 by decide) c)
      refine r_iload_n C dL_isMoveSo_254 rfl rfl ?_
      refine r_if_lt C 321 dL_isMoveSo_255 (by decide) (fun _ => ?_) (fun c => absurd (by decide) c)
      refine r_aload_n C dL_isMoveSo_321 rfl rfl ?_
      refine r_bipush C (v := 8) dL_isMoveSo_322 rfl ?_
      refine q_count C hst w (i := 8) (r2 := nI wn) (by decide) rfl (num_8.trans hwn) rfl ⟨(Nat.le_of_ble_eq_true rfl), (Nat.le_of_ble_eq_true rfl), (by dsimp only; omega), (by dsimp only; omega), (Nat.le_of_ble_eq_true rfl)⟩ dL_isMoveSo_324 ?_
      refine r_istore C dL_isMoveSo_327 (by decide) ?_
      refine r_iconst C (v := 0) dL_isMoveSo_329 rfl ?_
      refine r_istore C dL_isMoveSo_330 (by decide) ?_
      refine V.sub [(0, .ref x), (1, .int (-1)), (3, .int 1), (5, .int (nI wn)), (6, .int (nI 0))] ⟨rfl, rfl, rfl, rfl, rfl, trivial⟩ ?_
      refine downK (P := fun u k n => k ≤ 50 + 10 * u → n ≤ 300 + 60 * u → V p l e ⟨8, 2200, 13200, 154⟩ s m args below meth c G 12 (Qg G below args s 2200 13200 (fun v1 h1 s1 => v1 = (some (.int 1)) ∧ h1 = h ∧ s1 = sz)) h sz k n 332 [(0, .ref x), (1, .int (-1)), (3, .int 1), (5, .int (nI wn)), (6, .int (nI u))] []) (P) ?_ ?_ _ _ (by omega) (by omega)
      · intro k n hk hn
        refine r_iload C dL_isMoveSo_332 rfl ?_
        refine r_aload_n C dL_isMoveSo_334 rfl rfl ?_
        refine r_iconst C (v := 0) dL_isMoveSo_335 rfl ?_
        refine q_count C hst w (i := 0) (r2 := nI P) (by decide) rfl (num_0.trans h50) rfl ⟨(Nat.le_of_ble_eq_true rfl), (Nat.le_of_ble_eq_true rfl), (by dsimp only; omega), (by dsimp only; omega), (Nat.le_of_ble_eq_true rfl)⟩ dL_isMoveSo_336 ?_
        refine r_icmp_ge C 399 dL_isMoveSo_339 (by decide) (fun _ => ?_) (fun c => absurd (Int32.le_refl _) c)
        refine r_iload_n C dL_isMoveSo_399 rfl rfl ?_
        refine r_if_eq C 415 dL_isMoveSo_400 (by decide) (fun c => absurd c (by decide)) (fun _ => ?_)
        refine r_aload_n C dL_isMoveSo_403 rfl rfl ?_
        refine q_adv C w rfl ⟨(Nat.le_of_ble_eq_true rfl), (Nat.le_of_ble_eq_true rfl), (by dsimp only; omega), (by dsimp only; omega), (Nat.le_of_ble_eq_true rfl)⟩ dL_isMoveSo_404 ?_
        refine r_iconst C (v := -1) dL_isMoveSo_407 rfl ?_
        refine r_icmp_ne C 415 dL_isMoveSo_408 (by decide) (fun c => absurd (adv_over hm) c) (fun _ => ?_)
        refine r_iconst C (v := 1) dL_isMoveSo_411 rfl ?_
        refine r_goto C 416 dL_isMoveSo_412 (by decide) ?_
        exact r_zret C rfl (Or.inr rfl) (by omega) (by omega) ⟨rfl, rfl, rfl⟩ dL_isMoveSo_416
      · intro u h_u ih_u k n hk hn
        refine r_iload C dL_isMoveSo_332 rfl ?_
        refine r_aload_n C dL_isMoveSo_334 rfl rfl ?_
        refine r_iconst C (v := 0) dL_isMoveSo_335 rfl ?_
        refine q_count C hst w (i := 0) (r2 := nI P) (by decide) rfl (num_0.trans h50) rfl ⟨(Nat.le_of_ble_eq_true rfl), (Nat.le_of_ble_eq_true rfl), (by dsimp only; omega), (by dsimp only; omega), (Nat.le_of_ble_eq_true rfl)⟩ dL_isMoveSo_336 ?_
        refine r_icmp_ge C 399 dL_isMoveSo_339 (by decide) (fun c => absurd c (nI_ge h_u (by omega))) (fun _ => ?_)
        refine r_iload_n C dL_isMoveSo_342 rfl rfl ?_
        refine r_if_eq C 391 dL_isMoveSo_343 (by decide) (fun c => absurd c (by decide)) (fun _ => ?_)
        refine r_aload_n C dL_isMoveSo_346 rfl rfl ?_
        refine r_iload C dL_isMoveSo_347 rfl ?_
        refine r_iconst C (v := 3) dL_isMoveSo_349 rfl ?_
        refine q_prop C hst w (i := 3) (r2 := g_sum S (nI u)) (has_i h50 hP4 h_u) (by decide) rfl prop_3 rfl ⟨(Nat.le_of_ble_eq_true rfl), (Nat.le_of_ble_eq_true rfl), (by dsimp only; omega), (by dsimp only; omega), (Nat.le_of_ble_eq_true rfl)⟩ dL_isMoveSo_350 ?_
        refine r_aload_n C dL_isMoveSo_353 rfl rfl ?_
        refine r_iload C dL_isMoveSo_354 rfl ?_
        refine r_iconst C (v := 3) dL_isMoveSo_356 rfl ?_
        refine q_prop C hst w (i := 3) (r2 := g_sum S (nI wn)) (has_i h50 hP4 hwn0) (by decide) rfl prop_3 rfl ⟨(Nat.le_of_ble_eq_true rfl), (Nat.le_of_ble_eq_true rfl), (by dsimp only; omega), (by dsimp only; omega), (Nat.le_of_ble_eq_true rfl)⟩ dL_isMoveSo_357 ?_
        refine r_icmp_gt C 387 dL_isMoveSo_360 (by decide) (fun c_360 => ?_) (fun c_360 => ?_)
        · have e_360 := i32_nle c_360
          refine r_iconst C (v := 1) dL_isMoveSo_387 rfl ?_
          refine r_goto C 392 dL_isMoveSo_388 (by decide) ?_
          refine r_istore_n C dL_isMoveSo_392 rfl (by decide) ?_
          refine r_iinc C (v := 1) dL_isMoveSo_393 rfl rfl (by decide) ?_
          refine r_goto C 332 dL_isMoveSo_396 (by decide) ?_
          refine V.sub [(0, .ref x), (1, .int (-1)), (3, .int 1), (5, .int (nI wn)), (6, .int (nI (u + 1)))] ⟨rfl, rfl, rfl, rfl, (by rw [← nI_1 u]; rfl), trivial⟩ ?_
          exact ih_u _ _ (by omega) (by omega)
        · have e_360 := i32_le c_360
          refine r_aload_n C dL_isMoveSo_363 rfl rfl ?_
          refine r_iload C dL_isMoveSo_364 rfl ?_
          refine r_iconst C (v := 3) dL_isMoveSo_366 rfl ?_
          refine q_prop C hst w (i := 3) (r2 := g_sum S (nI u)) (has_i h50 hP4 h_u) (by decide) rfl prop_3 rfl ⟨(Nat.le_of_ble_eq_true rfl), (Nat.le_of_ble_eq_true rfl), (by dsimp only; omega), (by dsimp only; omega), (Nat.le_of_ble_eq_true rfl)⟩ dL_isMoveSo_367 ?_
          refine r_aload_n C dL_isMoveSo_370 rfl rfl ?_
          refine r_iload C dL_isMoveSo_371 rfl ?_
          refine r_iconst C (v := 3) dL_isMoveSo_373 rfl ?_
          refine q_prop C hst w (i := 3) (r2 := g_sum S (nI wn)) (has_i h50 hP4 hwn0) (by decide) rfl prop_3 rfl ⟨(Nat.le_of_ble_eq_true rfl), (Nat.le_of_ble_eq_true rfl), (by dsimp only; omega), (by dsimp only; omega), (Nat.le_of_ble_eq_true rfl)⟩ dL_isMoveSo_374 ?_
          refine r_icmp_ne C 391 dL_isMoveSo_377 (by decide) (fun c => absurd ((hleast u h_u).resolve_left c_360).1 c) (fun _ => ?_)
          refine r_iload C dL_isMoveSo_380 rfl ?_
          refine r_iload C dL_isMoveSo_382 rfl ?_
          refine r_icmp_gt C 391 dL_isMoveSo_384 (by decide) (fun c => absurd c (nI_nlt ((hleast u h_u).resolve_left c_360).2 (by omega))) (fun _ => ?_)
          refine r_iconst C (v := 1) dL_isMoveSo_387 rfl ?_
          refine r_goto C 392 dL_isMoveSo_388 (by decide) ?_
          refine r_istore_n C dL_isMoveSo_392 rfl (by decide) ?_
          refine r_iinc C (v := 1) dL_isMoveSo_393 rfl rfl (by decide) ?_
          refine r_goto C 332 dL_isMoveSo_396 (by decide) ?_
          refine V.sub [(0, .ref x), (1, .int (-1)), (3, .int 1), (5, .int (nI wn)), (6, .int (nI (u + 1)))] ⟨rfl, rfl, rfl, rfl, (by rw [← nI_1 u]; rfl), trivial⟩ ?_
          exact ih_u _ _ (by omega) (by omega)
    · intro r h_r ih_r k n hk hn
      refine r_iload C dL_isMoveSo_16 rfl ?_
      refine r_iconst C (v := 3) dL_isMoveSo_18 rfl ?_
      refine r_icmp_ge C 254 dL_isMoveSo_19 (by decide) (fun c => absurd c (nI_ge (b := 3) h_r (by decide))) (fun _ => ?_)
      refine r_iconst C (v := 0) dL_isMoveSo_22 rfl ?_
      refine r_istore C dL_isMoveSo_23 (by decide) ?_
      refine V.sub [(0, .ref x), (1, .int (-1)), (2, .int 0), (3, .int 1), (4, .int 0), (5, .int (nI r)), (6, .int (nI 0))] ⟨rfl, rfl, rfl, rfl, rfl, rfl, rfl, trivial⟩ ?_
      refine downK (P := fun e0 k n => k ≤ 1 + 10 * r + 5 * e0 → n ≤ 6 + 60 * r + 30 * e0 → V p l e ⟨8, 2200, 13200, 154⟩ s m args below meth c G 12 (Qg G below args s 2200 13200 (fun v1 h1 s1 => v1 = (some (.int 1)) ∧ h1 = h ∧ s1 = sz)) h sz k n 25 [(0, .ref x), (1, .int (-1)), (2, .int 0), (3, .int 1), (4, .int 0), (5, .int (nI r)), (6, .int (nI e0))] []) (2) ?_ ?_ _ _ (by omega) (by omega)
      · intro k n hk hn
        refine r_iload C dL_isMoveSo_25 rfl ?_
        refine r_iconst C (v := 2) dL_isMoveSo_27 rfl ?_
        refine r_icmp_ge C 248 dL_isMoveSo_28 (by decide) (fun _ => ?_) (fun c => absurd (show (2 : Int32) ≤ nI 2 by decide) c)
        refine r_iinc C (v := 1) dL_isMoveSo_248 rfl rfl (by decide) ?_
        refine r_goto C 16 dL_isMoveSo_251 (by decide) ?_
        refine V.sub [(0, .ref x), (1, .int (-1)), (2, .int 0), (3, .int 1), (4, .int 0), (5, .int (nI (r + 1)))] ⟨rfl, rfl, rfl, rfl, rfl, (by rw [← nI_1 r]; rfl), trivial⟩ ?_
        exact ih_r _ _ (by omega) (by omega)
      · intro e0 h_e0 ih_e0 k n hk hn
        refine r_iload C dL_isMoveSo_25 rfl ?_
        refine r_iconst C (v := 2) dL_isMoveSo_27 rfl ?_
        refine r_icmp_ge C 248 dL_isMoveSo_28 (by decide) (fun c => absurd c (nI_ge (b := 2) h_e0 (by decide))) (fun _ => ?_)
        refine r_iconst C (v := 0) dL_isMoveSo_31 rfl ?_
        refine r_istore C dL_isMoveSo_32 (by decide) ?_
        refine r_aload_n C dL_isMoveSo_34 rfl rfl ?_
        refine r_iload C dL_isMoveSo_35 rfl ?_
        refine r_iconst C (v := 1) dL_isMoveSo_37 rfl ?_
        refine r_iload C dL_isMoveSo_38 rfl ?_
        refine r_iadd C dL_isMoveSo_40 ?_
        refine q_row C hst w (t := r) (i := 1 + e0) h_r (by omega) rfl (nI_add 1 e0) rfl ⟨(Nat.le_of_ble_eq_true rfl), (Nat.le_of_ble_eq_true rfl), (by dsimp only; omega), (by dsimp only; omega), (Nat.le_of_ble_eq_true rfl)⟩ dL_isMoveSo_41 ?_
        refine r_istore C dL_isMoveSo_44 (by decide) ?_
        refine r_iconst C (v := 0) dL_isMoveSo_46 rfl ?_
        refine r_istore C dL_isMoveSo_47 (by decide) ?_
        refine r_iload_n C dL_isMoveSo_49 rfl rfl ?_
        refine r_if_lt C 170 dL_isMoveSo_50 (by decide) (fun _ => ?_) (fun c => absurd (by decide) c)
        refine r_iload_n C dL_isMoveSo_170 rfl rfl ?_
        refine r_iload C dL_isMoveSo_171 rfl ?_
        refine r_if_eq C 195 dL_isMoveSo_173 (by decide) (fun _ => ?_) (fun c => absurd rfl c)
        refine r_iconst C (v := 0) dL_isMoveSo_195 rfl ?_
        refine r_iadd C dL_isMoveSo_196 ?_
        refine r_istore_n C dL_isMoveSo_197 rfl (by decide) ?_
        refine r_iload C dL_isMoveSo_198 rfl ?_
        refine r_if_ne C 208 dL_isMoveSo_200 (by decide) (fun c => absurd rfl c) (fun _ => ?_)
        refine r_iload C dL_isMoveSo_203 rfl ?_
        refine r_if_eq C 212 dL_isMoveSo_205 (by decide) (fun _ => ?_) (fun c => absurd rfl c)
        refine r_iconst C (v := 0) dL_isMoveSo_212 rfl ?_
        refine r_istore C dL_isMoveSo_213 (by decide) ?_
        refine r_iload_n C dL_isMoveSo_215 rfl rfl ?_
        refine r_if_eq C 240 dL_isMoveSo_216 (by decide) (fun c => absurd c (by decide)) (fun _ => ?_)
        refine r_iload_n C dL_isMoveSo_219 rfl rfl ?_
        refine r_if_ge C 236 dL_isMoveSo_220 (by decide) (fun c => absurd c (by decide)) (fun _ => ?_)
        refine r_aload_n C dL_isMoveSo_223 rfl rfl ?_
        refine r_iconst C (v := 0) dL_isMoveSo_224 rfl ?_
        refine r_iload C dL_isMoveSo_225 rfl ?_
        refine r_iload C dL_isMoveSo_227 rfl ?_
        refine q_why C hst w (r2 := 1) (okN_i (k := 3) h_r (by decide)) (okEnd_i h_e0) (why1 hm _ _ _) rfl ⟨(Nat.le_of_ble_eq_true rfl), (Nat.le_of_ble_eq_true rfl), (by dsimp only; omega), (by dsimp only; omega), (Nat.le_of_ble_eq_true rfl)⟩ dL_isMoveSo_229 ?_
        refine r_iconst C (v := 1) dL_isMoveSo_232 rfl ?_
        refine r_icmp_ne C 240 dL_isMoveSo_233 (by decide) (fun c => absurd rfl c) (fun _ => ?_)
        refine r_iconst C (v := 1) dL_isMoveSo_236 rfl ?_
        refine r_goto C 241 dL_isMoveSo_237 (by decide) ?_
        refine r_istore_n C dL_isMoveSo_241 rfl (by decide) ?_
        refine r_iinc C (v := 1) dL_isMoveSo_242 rfl rfl (by decide) ?_
        refine r_goto C 25 dL_isMoveSo_245 (by decide) ?_
        refine V.sub [(0, .ref x), (1, .int (-1)), (2, .int 0), (3, .int 1), (4, .int 0), (5, .int (nI r)), (6, .int (nI (e0 + 1)))] ⟨rfl, rfl, rfl, rfl, rfl, rfl, (by rw [← nI_1 e0]; rfl), trivial⟩ ?_
        exact ih_e0 _ _ (by omega) (by omega)
  · have hpos := z3.resolve_left (by rw [hm]; exact nI_ne1 (by omega)) m0 hm0
    have hHm : H m0 ≤ 28 := Nat.le_trans (oh_le o.hh (show m0 < 4 by omega)) hK
    refine r_aload_n C dL_isMoveSo_0 rfl rfl ?_
    refine r_iconst C (v := 1) dL_isMoveSo_1 rfl ?_
    refine q_count C hst w (i := 1) (r2 := nI m0) (by decide) rfl (num_1.trans hm) rfl ⟨(Nat.le_of_ble_eq_true rfl), (Nat.le_of_ble_eq_true rfl), (by dsimp only; omega), (by dsimp only; omega), (Nat.le_of_ble_eq_true rfl)⟩ dL_isMoveSo_2 ?_
    refine r_istore_n C dL_isMoveSo_5 rfl (by decide) ?_
    refine r_iconst C (v := 0) dL_isMoveSo_6 rfl ?_
    refine r_istore_n C dL_isMoveSo_7 rfl (by decide) ?_
    refine r_iconst C (v := 1) dL_isMoveSo_8 rfl ?_
    refine r_istore_n C dL_isMoveSo_9 rfl (by decide) ?_
    refine r_iconst C (v := 0) dL_isMoveSo_10 rfl ?_
    refine r_istore C dL_isMoveSo_11 (by decide) ?_
    refine r_iconst C (v := 0) dL_isMoveSo_13 rfl ?_
    refine r_istore C dL_isMoveSo_14 (by decide) ?_
    refine V.sub [(0, .ref x), (1, .int (nI m0)), (2, .int (w_r S m0 0)), (3, .int 1), (4, .int (bI (v_r S m0 0))), (5, .int (nI 0))] ⟨rfl, rfl, rfl, rfl, rfl, rfl, trivial⟩ ?_
    refine downK (P := fun r k n => k ≤ 1 + 700 * r → n ≤ 6 + 4200 * r → V p l e ⟨8, 2200, 13200, 154⟩ s m args below meth c G 12 (Qg G below args s 2200 13200 (fun v1 h1 s1 => v1 = (some (.int 1)) ∧ h1 = h ∧ s1 = sz)) h sz k n 16 [(0, .ref x), (1, .int (nI m0)), (2, .int (w_r S m0 r)), (3, .int 1), (4, .int (bI (v_r S m0 r))), (5, .int (nI r))] []) (3) ?_ ?_ _ _ (by omega) (by omega)
    · intro k n hk hn
      refine r_iload C dL_isMoveSo_16 rfl ?_
      refine r_iconst C (v := 3) dL_isMoveSo_18 rfl ?_
      refine r_icmp_ge C 254 dL_isMoveSo_19 (by decide) (fun _ => ?_) (fun c => absurd (show (3 : Int32) ≤ nI 3 by decide) c)
      refine r_iload_n C dL_isMoveSo_254 rfl rfl ?_
      refine r_if_lt C 321 dL_isMoveSo_255 (by decide) (fun c => absurd c (nI_pos (by omega))) (fun _ => ?_)
      refine r_iload_n C dL_isMoveSo_258 rfl rfl ?_
      refine r_if_eq C 319 dL_isMoveSo_259 (by decide) (fun c => absurd c (by decide)) (fun _ => ?_)
      refine r_iload_n C dL_isMoveSo_262 rfl rfl ?_
      refine r_aload_n C dL_isMoveSo_263 rfl rfl ?_
      refine r_iload_n C dL_isMoveSo_264 rfl rfl ?_
      refine r_bipush C (v := 6) dL_isMoveSo_265 rfl ?_
      refine q_prop C hst w (i := 6) (r2 := w_r S m0 3) (has_i h50 hP4 hm0) (by decide) rfl (prop_6.trans (w_ends S m0).symm) rfl ⟨(Nat.le_of_ble_eq_true rfl), (Nat.le_of_ble_eq_true rfl), (by dsimp only; omega), (by dsimp only; omega), (Nat.le_of_ble_eq_true rfl)⟩ dL_isMoveSo_267 ?_
      refine r_icmp_ne C 319 dL_isMoveSo_270 (by decide) (fun c => absurd rfl c) (fun _ => ?_)
      refine r_iload C dL_isMoveSo_273 rfl ?_
      refine r_aload_n C dL_isMoveSo_275 rfl rfl ?_
      refine q_adv C w rfl ⟨(Nat.le_of_ble_eq_true rfl), (Nat.le_of_ble_eq_true rfl), (by dsimp only; omega), (by dsimp only; omega), (Nat.le_of_ble_eq_true rfl)⟩ dL_isMoveSo_276 ?_
      refine r_if_lt C 286 dL_isMoveSo_279 (by decide) (fun c_279 => ?_) (fun c_279 => ?_)
      · have e_279 := i32_nle c_279
        refine r_iconst C (v := 0) dL_isMoveSo_286 rfl ?_
        refine r_icmp_ne C 319 dL_isMoveSo_287 (by decide) (fun c => absurd (by rw [o.anyAdv hm (by omega), decide_eq_true c_279]; rfl) c) (fun _ => ?_)
        refine r_aload_n C dL_isMoveSo_290 rfl rfl ?_
        refine r_aload_n C dL_isMoveSo_291 rfl rfl ?_
        refine r_iload_n C dL_isMoveSo_292 rfl rfl ?_
        refine r_iconst C (v := 0) dL_isMoveSo_293 rfl ?_
        refine q_prop C hst w (i := 0) (r2 := nI (H m0)) (has_i h50 hP4 hm0) (by decide) rfl (prop_0.trans (o.held (p := m0) (by omega))) rfl ⟨(Nat.le_of_ble_eq_true rfl), (Nat.le_of_ble_eq_true rfl), (by dsimp only; omega), (by dsimp only; omega), (Nat.le_of_ble_eq_true rfl)⟩ dL_isMoveSo_294 ?_
        refine r_iconst C (v := 0) dL_isMoveSo_297 rfl ?_
        refine r_iconst C (v := 0) dL_isMoveSo_298 rfl ?_
        refine q_why C hst w (r2 := 2) rfl rfl (o.why2 hm (by omega) _ _) rfl ⟨(Nat.le_of_ble_eq_true rfl), (Nat.le_of_ble_eq_true rfl), (by dsimp only; omega), (by dsimp only; omega), (Nat.le_of_ble_eq_true rfl)⟩ dL_isMoveSo_299 ?_
        refine r_iconst C (v := 2) dL_isMoveSo_302 rfl ?_
        refine r_icmp_ne C 319 dL_isMoveSo_303 (by decide) (fun c => absurd rfl c) (fun _ => ?_)
        refine r_aload_n C dL_isMoveSo_306 rfl rfl ?_
        refine r_iload_n C dL_isMoveSo_307 rfl rfl ?_
        refine r_iconst C (v := 0) dL_isMoveSo_308 rfl ?_
        refine q_prop C hst w (i := 0) (r2 := nI (H m0)) (has_i h50 hP4 hm0) (by decide) rfl (prop_0.trans (o.held (p := m0) (by omega))) rfl ⟨(Nat.le_of_ble_eq_true rfl), (Nat.le_of_ble_eq_true rfl), (by dsimp only; omega), (by dsimp only; omega), (Nat.le_of_ble_eq_true rfl)⟩ dL_isMoveSo_309 ?_
        refine r_if_le C 319 dL_isMoveSo_312 (by decide) (fun c => absurd c (nI_nle hpos (by omega))) (fun _ => ?_)
        refine r_iconst C (v := 1) dL_isMoveSo_315 rfl ?_
        refine r_goto C 320 dL_isMoveSo_316 (by decide) ?_
        exact r_zret C rfl (Or.inr rfl) (by omega) (by omega) ⟨rfl, rfl, rfl⟩ dL_isMoveSo_320
      · have e_279 := i32_le c_279
        refine r_iconst C (v := 1) dL_isMoveSo_282 rfl ?_
        refine r_goto C 287 dL_isMoveSo_283 (by decide) ?_
        refine r_icmp_ne C 319 dL_isMoveSo_287 (by decide) (fun c => absurd (by rw [o.anyAdv hm (by omega), decide_eq_false c_279]; rfl) c) (fun _ => ?_)
        refine r_aload_n C dL_isMoveSo_290 rfl rfl ?_
        refine r_aload_n C dL_isMoveSo_291 rfl rfl ?_
        refine r_iload_n C dL_isMoveSo_292 rfl rfl ?_
        refine r_iconst C (v := 0) dL_isMoveSo_293 rfl ?_
        refine q_prop C hst w (i := 0) (r2 := nI (H m0)) (has_i h50 hP4 hm0) (by decide) rfl (prop_0.trans (o.held (p := m0) (by omega))) rfl ⟨(Nat.le_of_ble_eq_true rfl), (Nat.le_of_ble_eq_true rfl), (by dsimp only; omega), (by dsimp only; omega), (Nat.le_of_ble_eq_true rfl)⟩ dL_isMoveSo_294 ?_
        refine r_iconst C (v := 0) dL_isMoveSo_297 rfl ?_
        refine r_iconst C (v := 0) dL_isMoveSo_298 rfl ?_
        refine q_why C hst w (r2 := 2) rfl rfl (o.why2 hm (by omega) _ _) rfl ⟨(Nat.le_of_ble_eq_true rfl), (Nat.le_of_ble_eq_true rfl), (by dsimp only; omega), (by dsimp only; omega), (Nat.le_of_ble_eq_true rfl)⟩ dL_isMoveSo_299 ?_
        refine r_iconst C (v := 2) dL_isMoveSo_302 rfl ?_
        refine r_icmp_ne C 319 dL_isMoveSo_303 (by decide) (fun c => absurd rfl c) (fun _ => ?_)
        refine r_aload_n C dL_isMoveSo_306 rfl rfl ?_
        refine r_iload_n C dL_isMoveSo_307 rfl rfl ?_
        refine r_iconst C (v := 0) dL_isMoveSo_308 rfl ?_
        refine q_prop C hst w (i := 0) (r2 := nI (H m0)) (has_i h50 hP4 hm0) (by decide) rfl (prop_0.trans (o.held (p := m0) (by omega))) rfl ⟨(Nat.le_of_ble_eq_true rfl), (Nat.le_of_ble_eq_true rfl), (by dsimp only; omega), (by dsimp only; omega), (Nat.le_of_ble_eq_true rfl)⟩ dL_isMoveSo_309 ?_
        refine r_if_le C 319 dL_isMoveSo_312 (by decide) (fun c => absurd c (nI_nle hpos (by omega))) (fun _ => ?_)
        refine r_iconst C (v := 1) dL_isMoveSo_315 rfl ?_
        refine r_goto C 320 dL_isMoveSo_316 (by decide) ?_
        exact r_zret C rfl (Or.inr rfl) (by omega) (by omega) ⟨rfl, rfl, rfl⟩ dL_isMoveSo_320
    · intro r h_r ih_r k n hk hn
      have hR : S 3 (r * 4 + 0) = nI (R r) := o.t3 r h_r
      have hRr := oh_lr o.hh h_r
      refine r_iload C dL_isMoveSo_16 rfl ?_
      refine r_iconst C (v := 3) dL_isMoveSo_18 rfl ?_
      refine r_icmp_ge C 254 dL_isMoveSo_19 (by decide) (fun c => absurd c (nI_ge (b := 3) h_r (by decide))) (fun _ => ?_)
      refine r_iconst C (v := 0) dL_isMoveSo_22 rfl ?_
      refine r_istore C dL_isMoveSo_23 (by decide) ?_
      refine V.sub [(0, .ref x), (1, .int (nI m0)), (2, .int (w_e S m0 r (w_r S m0 r) 0)), (3, .int 1), (4, .int (bI (v_e S m0 r (v_r S m0 r) 0))), (5, .int (nI r)), (6, .int (nI 0))] ⟨rfl, rfl, rfl, rfl, rfl, rfl, rfl, trivial⟩ ?_
      refine downK (P := fun e0 k n => k ≤ 1 + 700 * r + 350 * e0 → n ≤ 6 + 4200 * r + 2100 * e0 → V p l e ⟨8, 2200, 13200, 154⟩ s m args below meth c G 12 (Qg G below args s 2200 13200 (fun v1 h1 s1 => v1 = (some (.int 1)) ∧ h1 = h ∧ s1 = sz)) h sz k n 25 [(0, .ref x), (1, .int (nI m0)), (2, .int (w_e S m0 r (w_r S m0 r) e0)), (3, .int 1), (4, .int (bI (v_e S m0 r (v_r S m0 r) e0))), (5, .int (nI r)), (6, .int (nI e0))] []) (2) ?_ ?_ _ _ (by omega) (by omega)
      · intro k n hk hn
        refine r_iload C dL_isMoveSo_25 rfl ?_
        refine r_iconst C (v := 2) dL_isMoveSo_27 rfl ?_
        refine r_icmp_ge C 248 dL_isMoveSo_28 (by decide) (fun _ => ?_) (fun c => absurd (show (2 : Int32) ≤ nI 2 by decide) c)
        refine r_iinc C (v := 1) dL_isMoveSo_248 rfl rfl (by decide) ?_
        refine r_goto C 16 dL_isMoveSo_251 (by decide) ?_
        refine V.sub [(0, .ref x), (1, .int (nI m0)), (2, .int (w_r S m0 (r + 1))), (3, .int 1), (4, .int (bI (v_r S m0 (r + 1)))), (5, .int (nI (r + 1)))] ⟨rfl, rfl, rfl, rfl, rfl, (by rw [← nI_1 r]; rfl), trivial⟩ ?_
        exact ih_r _ _ (by omega) (by omega)
      · intro e0 h_e0 ih_e0 k n hk hn
        refine r_iload C dL_isMoveSo_25 rfl ?_
        refine r_iconst C (v := 2) dL_isMoveSo_27 rfl ?_
        refine r_icmp_ge C 248 dL_isMoveSo_28 (by decide) (fun c => absurd c (nI_ge (b := 2) h_e0 (by decide))) (fun _ => ?_)
        refine r_iconst C (v := 0) dL_isMoveSo_31 rfl ?_
        refine r_istore C dL_isMoveSo_32 (by decide) ?_
        refine r_aload_n C dL_isMoveSo_34 rfl rfl ?_
        refine r_iload C dL_isMoveSo_35 rfl ?_
        refine r_iconst C (v := 1) dL_isMoveSo_37 rfl ?_
        refine r_iload C dL_isMoveSo_38 rfl ?_
        refine r_iadd C dL_isMoveSo_40 ?_
        refine q_row C hst w (t := r) (i := 1 + e0) h_r (by omega) rfl (nI_add 1 e0) rfl ⟨(Nat.le_of_ble_eq_true rfl), (Nat.le_of_ble_eq_true rfl), (by dsimp only; omega), (by dsimp only; omega), (Nat.le_of_ble_eq_true rfl)⟩ dL_isMoveSo_41 ?_
        refine r_istore C dL_isMoveSo_44 (by decide) ?_
        refine r_iconst C (v := 0) dL_isMoveSo_46 rfl ?_
        refine r_istore C dL_isMoveSo_47 (by decide) ?_
        refine V.sub [(0, .ref x), (1, .int (nI m0)), (2, .int (w_e S m0 r (w_r S m0 r) e0)), (3, .int 1), (4, .int (bI (v_e S m0 r (v_r S m0 r) e0))), (5, .int (nI r)), (6, .int (nI e0)), (7, .int (bI (anyB (fun i => g_fits S (g_hand S (nI m0) (nI i)) (nI r) (nI e0)) 0))), (8, .int (S 3 (r * 4 + (1 + e0)))), (9, .int (nI 0))] ⟨rfl, rfl, rfl, rfl, rfl, rfl, rfl, rfl, rfl, rfl, trivial⟩ ?_
        refine downK (P := fun j k n => k ≤ 1 + 700 * r + 350 * e0 + 2 + 12 * j → n ≤ 6 + 4200 * r + 2100 * e0 + 12 + 72 * j → V p l e ⟨8, 2200, 13200, 154⟩ s m args below meth c G 12 (Qg G below args s 2200 13200 (fun v1 h1 s1 => v1 = (some (.int 1)) ∧ h1 = h ∧ s1 = sz)) h sz k n 49 [(0, .ref x), (1, .int (nI m0)), (2, .int (w_e S m0 r (w_r S m0 r) e0)), (3, .int 1), (4, .int (bI (v_e S m0 r (v_r S m0 r) e0))), (5, .int (nI r)), (6, .int (nI e0)), (7, .int (bI (anyB (fun i => g_fits S (g_hand S (nI m0) (nI i)) (nI r) (nI e0)) j))), (8, .int (S 3 (r * 4 + (1 + e0)))), (9, .int (nI j))] []) (H m0) ?_ ?_ _ _ (by omega) (by omega)
        · intro k n hk hn
          refine r_iload_n C dL_isMoveSo_49 rfl rfl ?_
          refine r_if_lt C 170 dL_isMoveSo_50 (by decide) (fun c => absurd c (nI_pos (by omega))) (fun _ => ?_)
          refine r_iload C dL_isMoveSo_53 rfl ?_
          refine r_aload_n C dL_isMoveSo_55 rfl rfl ?_
          refine r_iload_n C dL_isMoveSo_56 rfl rfl ?_
          refine r_iconst C (v := 0) dL_isMoveSo_57 rfl ?_
          refine q_prop C hst w (i := 0) (r2 := nI (H m0)) (has_i h50 hP4 hm0) (by decide) rfl (prop_0.trans (o.held (p := m0) (by omega))) rfl ⟨(Nat.le_of_ble_eq_true rfl), (Nat.le_of_ble_eq_true rfl), (by dsimp only; omega), (by dsimp only; omega), (Nat.le_of_ble_eq_true rfl)⟩ dL_isMoveSo_58 ?_
          refine r_icmp_ge C 170 dL_isMoveSo_61 (by decide) (fun _ => ?_) (fun c => absurd (Int32.le_refl _) c)
          have hca := o.canAt (m := m0) (by omega) (nI r) (nI e0)
          cases hc : anyB (fun i => g_fits S (g_hand S (nI m0) (nI i)) (nI r) (nI e0)) (H m0)
          · have hcan := hca.trans hc
            refine r_iload_n C dL_isMoveSo_170 rfl rfl ?_
            refine r_iload C dL_isMoveSo_171 rfl ?_
            refine r_if_eq C 195 dL_isMoveSo_173 (by decide) (fun _ => ?_) (fun c => absurd rfl c)
            refine r_iconst C (v := 0) dL_isMoveSo_195 rfl ?_
            refine r_iadd C dL_isMoveSo_196 ?_
            refine r_istore_n C dL_isMoveSo_197 rfl (by decide) ?_
            refine r_iload C dL_isMoveSo_198 rfl ?_
            refine r_if_ne C 208 dL_isMoveSo_200 (by decide) (fun c_200 => ?_) (fun c_200 => ?_)
            · refine r_iconst C (v := 1) dL_isMoveSo_208 rfl ?_
              refine r_goto C 213 dL_isMoveSo_209 (by decide) ?_
              refine r_istore C dL_isMoveSo_213 (by decide) ?_
              refine r_iload_n C dL_isMoveSo_215 rfl rfl ?_
              refine r_if_eq C 240 dL_isMoveSo_216 (by decide) (fun c => absurd c (by decide)) (fun _ => ?_)
              refine r_iload_n C dL_isMoveSo_219 rfl rfl ?_
              refine r_if_ge C 236 dL_isMoveSo_220 (by decide) (fun _ => ?_) (fun c => absurd (nI_pos' (by omega)) c)
              refine r_iconst C (v := 1) dL_isMoveSo_236 rfl ?_
              refine r_goto C 241 dL_isMoveSo_237 (by decide) ?_
              refine r_istore_n C dL_isMoveSo_241 rfl (by decide) ?_
              refine r_iinc C (v := 1) dL_isMoveSo_242 rfl rfl (by decide) ?_
              refine r_goto C 25 dL_isMoveSo_245 (by decide) ?_
              refine V.sub [(0, .ref x), (1, .int (nI m0)), (2, .int (w_e S m0 r (w_r S m0 r) (e0 + 1))), (3, .int 1), (4, .int (bI (v_e S m0 r (v_r S m0 r) (e0 + 1)))), (5, .int (nI r)), (6, .int (nI (e0 + 1)))] ⟨rfl, rfl, (by show _ = some (Value.int ((w_e S m0 r (w_r S m0 r) e0) + (if g_can S (nI m0) (nI r) (nI e0) = true ∧ (e0 = 0 ∨ ¬ S 3 (r * 4 + 0) = 0) then 1 else 0))); rw [if_neg (fun q => absurd (hcan.symm.trans q.1) (by decide))]; rfl), rfl, (by show _ = some (Value.int (bI ((v_e S m0 r (v_r S m0 r) e0) || g_can S (nI m0) (nI r) (nI e0)))); rw [bI_t c_200, hcan]; rfl), rfl, (by rw [← nI_1 e0]; rfl), trivial⟩ ?_
              exact ih_e0 _ _ (by omega) (by omega)
            · refine r_iload C dL_isMoveSo_203 rfl ?_
              refine r_if_eq C 212 dL_isMoveSo_205 (by decide) (fun _ => ?_) (fun c => absurd rfl c)
              refine r_iconst C (v := 0) dL_isMoveSo_212 rfl ?_
              refine r_istore C dL_isMoveSo_213 (by decide) ?_
              refine r_iload_n C dL_isMoveSo_215 rfl rfl ?_
              refine r_if_eq C 240 dL_isMoveSo_216 (by decide) (fun c => absurd c (by decide)) (fun _ => ?_)
              refine r_iload_n C dL_isMoveSo_219 rfl rfl ?_
              refine r_if_ge C 236 dL_isMoveSo_220 (by decide) (fun _ => ?_) (fun c => absurd (nI_pos' (by omega)) c)
              refine r_iconst C (v := 1) dL_isMoveSo_236 rfl ?_
              refine r_goto C 241 dL_isMoveSo_237 (by decide) ?_
              refine r_istore_n C dL_isMoveSo_241 rfl (by decide) ?_
              refine r_iinc C (v := 1) dL_isMoveSo_242 rfl rfl (by decide) ?_
              refine r_goto C 25 dL_isMoveSo_245 (by decide) ?_
              refine V.sub [(0, .ref x), (1, .int (nI m0)), (2, .int (w_e S m0 r (w_r S m0 r) (e0 + 1))), (3, .int 1), (4, .int (bI (v_e S m0 r (v_r S m0 r) (e0 + 1)))), (5, .int (nI r)), (6, .int (nI (e0 + 1)))] ⟨rfl, rfl, (by show _ = some (Value.int ((w_e S m0 r (w_r S m0 r) e0) + (if g_can S (nI m0) (nI r) (nI e0) = true ∧ (e0 = 0 ∨ ¬ S 3 (r * 4 + 0) = 0) then 1 else 0))); rw [if_neg (fun q => absurd (hcan.symm.trans q.1) (by decide))]; rfl), rfl, (by show _ = some (Value.int (bI ((v_e S m0 r (v_r S m0 r) e0) || g_can S (nI m0) (nI r) (nI e0)))); rw [bI_f c_200, hcan]; rfl), rfl, (by rw [← nI_1 e0]; rfl), trivial⟩ ?_
              exact ih_e0 _ _ (by omega) (by omega)
          · have hcan := hca.trans hc
            refine r_iload_n C dL_isMoveSo_170 rfl rfl ?_
            refine r_iload C dL_isMoveSo_171 rfl ?_
            refine r_if_eq C 195 dL_isMoveSo_173 (by decide) (fun c => absurd c (by decide)) (fun _ => ?_)
            refine r_iload C dL_isMoveSo_176 rfl ?_
            refine r_if_eq C 191 dL_isMoveSo_178 (by decide) (fun c_178 => ?_) (fun c_178 => ?_)
            · refine r_iconst C (v := 1) dL_isMoveSo_191 rfl ?_
              refine r_goto C 196 dL_isMoveSo_192 (by decide) ?_
              refine r_iadd C dL_isMoveSo_196 ?_
              refine r_istore_n C dL_isMoveSo_197 rfl (by decide) ?_
              refine r_iload C dL_isMoveSo_198 rfl ?_
              refine r_if_ne C 208 dL_isMoveSo_200 (by decide) (fun c_200 => ?_) (fun c_200 => ?_)
              · refine r_iconst C (v := 1) dL_isMoveSo_208 rfl ?_
                refine r_goto C 213 dL_isMoveSo_209 (by decide) ?_
                refine r_istore C dL_isMoveSo_213 (by decide) ?_
                refine r_iload_n C dL_isMoveSo_215 rfl rfl ?_
                refine r_if_eq C 240 dL_isMoveSo_216 (by decide) (fun c => absurd c (by decide)) (fun _ => ?_)
                refine r_iload_n C dL_isMoveSo_219 rfl rfl ?_
                refine r_if_ge C 236 dL_isMoveSo_220 (by decide) (fun _ => ?_) (fun c => absurd (nI_pos' (by omega)) c)
                refine r_iconst C (v := 1) dL_isMoveSo_236 rfl ?_
                refine r_goto C 241 dL_isMoveSo_237 (by decide) ?_
                refine r_istore_n C dL_isMoveSo_241 rfl (by decide) ?_
                refine r_iinc C (v := 1) dL_isMoveSo_242 rfl rfl (by decide) ?_
                refine r_goto C 25 dL_isMoveSo_245 (by decide) ?_
                refine V.sub [(0, .ref x), (1, .int (nI m0)), (2, .int (w_e S m0 r (w_r S m0 r) (e0 + 1))), (3, .int 1), (4, .int (bI (v_e S m0 r (v_r S m0 r) (e0 + 1)))), (5, .int (nI r)), (6, .int (nI (e0 + 1)))] ⟨rfl, rfl, (by show _ = some (Value.int ((w_e S m0 r (w_r S m0 r) e0) + (if g_can S (nI m0) (nI r) (nI e0) = true ∧ (e0 = 0 ∨ ¬ S 3 (r * 4 + 0) = 0) then 1 else 0))); rw [if_pos ⟨hcan, Or.inl (nI_e0 (by omega) c_178)⟩]; rfl), rfl, (by show _ = some (Value.int (bI ((v_e S m0 r (v_r S m0 r) e0) || g_can S (nI m0) (nI r) (nI e0)))); rw [bI_t c_200, hcan]; rfl), rfl, (by rw [← nI_1 e0]; rfl), trivial⟩ ?_
                exact ih_e0 _ _ (by omega) (by omega)
              · refine r_iload C dL_isMoveSo_203 rfl ?_
                refine r_if_eq C 212 dL_isMoveSo_205 (by decide) (fun c => absurd c (by decide)) (fun _ => ?_)
                refine r_iconst C (v := 1) dL_isMoveSo_208 rfl ?_
                refine r_goto C 213 dL_isMoveSo_209 (by decide) ?_
                refine r_istore C dL_isMoveSo_213 (by decide) ?_
                refine r_iload_n C dL_isMoveSo_215 rfl rfl ?_
                refine r_if_eq C 240 dL_isMoveSo_216 (by decide) (fun c => absurd c (by decide)) (fun _ => ?_)
                refine r_iload_n C dL_isMoveSo_219 rfl rfl ?_
                refine r_if_ge C 236 dL_isMoveSo_220 (by decide) (fun _ => ?_) (fun c => absurd (nI_pos' (by omega)) c)
                refine r_iconst C (v := 1) dL_isMoveSo_236 rfl ?_
                refine r_goto C 241 dL_isMoveSo_237 (by decide) ?_
                refine r_istore_n C dL_isMoveSo_241 rfl (by decide) ?_
                refine r_iinc C (v := 1) dL_isMoveSo_242 rfl rfl (by decide) ?_
                refine r_goto C 25 dL_isMoveSo_245 (by decide) ?_
                refine V.sub [(0, .ref x), (1, .int (nI m0)), (2, .int (w_e S m0 r (w_r S m0 r) (e0 + 1))), (3, .int 1), (4, .int (bI (v_e S m0 r (v_r S m0 r) (e0 + 1)))), (5, .int (nI r)), (6, .int (nI (e0 + 1)))] ⟨rfl, rfl, (by show _ = some (Value.int ((w_e S m0 r (w_r S m0 r) e0) + (if g_can S (nI m0) (nI r) (nI e0) = true ∧ (e0 = 0 ∨ ¬ S 3 (r * 4 + 0) = 0) then 1 else 0))); rw [if_pos ⟨hcan, Or.inl (nI_e0 (by omega) c_178)⟩]; rfl), rfl, (by show _ = some (Value.int (bI ((v_e S m0 r (v_r S m0 r) e0) || g_can S (nI m0) (nI r) (nI e0)))); rw [bI_f c_200, hcan]; rfl), rfl, (by rw [← nI_1 e0]; rfl), trivial⟩ ?_
                exact ih_e0 _ _ (by omega) (by omega)
            · refine r_aload_n C dL_isMoveSo_181 rfl rfl ?_
              refine r_iload C dL_isMoveSo_182 rfl ?_
              refine r_iconst C (v := 0) dL_isMoveSo_184 rfl ?_
              refine q_row C hst w (t := r) (i := 0) h_r (by decide) rfl rfl rfl ⟨(Nat.le_of_ble_eq_true rfl), (Nat.le_of_ble_eq_true rfl), (by dsimp only; omega), (by dsimp only; omega), (Nat.le_of_ble_eq_true rfl)⟩ dL_isMoveSo_185 ?_
              refine r_if_le C 195 dL_isMoveSo_188 (by decide) (fun c_188 => ?_) (fun c_188 => ?_)
              · have e_188 := i32_nlt c_188
                refine r_iconst C (v := 0) dL_isMoveSo_195 rfl ?_
                refine r_iadd C dL_isMoveSo_196 ?_
                refine r_istore_n C dL_isMoveSo_197 rfl (by decide) ?_
                refine r_iload C dL_isMoveSo_198 rfl ?_
                refine r_if_ne C 208 dL_isMoveSo_200 (by decide) (fun c_200 => ?_) (fun c_200 => ?_)
                · refine r_iconst C (v := 1) dL_isMoveSo_208 rfl ?_
                  refine r_goto C 213 dL_isMoveSo_209 (by decide) ?_
                  refine r_istore C dL_isMoveSo_213 (by decide) ?_
                  refine r_iload_n C dL_isMoveSo_215 rfl rfl ?_
                  refine r_if_eq C 240 dL_isMoveSo_216 (by decide) (fun c => absurd c (by decide)) (fun _ => ?_)
                  refine r_iload_n C dL_isMoveSo_219 rfl rfl ?_
                  refine r_if_ge C 236 dL_isMoveSo_220 (by decide) (fun _ => ?_) (fun c => absurd (nI_pos' (by omega)) c)
                  refine r_iconst C (v := 1) dL_isMoveSo_236 rfl ?_
                  refine r_goto C 241 dL_isMoveSo_237 (by decide) ?_
                  refine r_istore_n C dL_isMoveSo_241 rfl (by decide) ?_
                  refine r_iinc C (v := 1) dL_isMoveSo_242 rfl rfl (by decide) ?_
                  refine r_goto C 25 dL_isMoveSo_245 (by decide) ?_
                  refine V.sub [(0, .ref x), (1, .int (nI m0)), (2, .int (w_e S m0 r (w_r S m0 r) (e0 + 1))), (3, .int 1), (4, .int (bI (v_e S m0 r (v_r S m0 r) (e0 + 1)))), (5, .int (nI r)), (6, .int (nI (e0 + 1)))] ⟨rfl, rfl, (by show _ = some (Value.int ((w_e S m0 r (w_r S m0 r) e0) + (if g_can S (nI m0) (nI r) (nI e0) = true ∧ (e0 = 0 ∨ ¬ S 3 (r * 4 + 0) = 0) then 1 else 0))); rw [if_neg (fun q => q.2.elim (fun z => c_178 (by rw [z]; rfl)) (fun z => z (by rw [hR] at c_188 ⊢; rw [nI_le0 (by omega) c_188]; rfl)))]; rfl), rfl, (by show _ = some (Value.int (bI ((v_e S m0 r (v_r S m0 r) e0) || g_can S (nI m0) (nI r) (nI e0)))); rw [bI_t c_200, hcan]; rfl), rfl, (by rw [← nI_1 e0]; rfl), trivial⟩ ?_
                  exact ih_e0 _ _ (by omega) (by omega)
                · refine r_iload C dL_isMoveSo_203 rfl ?_
                  refine r_if_eq C 212 dL_isMoveSo_205 (by decide) (fun c => absurd c (by decide)) (fun _ => ?_)
                  refine r_iconst C (v := 1) dL_isMoveSo_208 rfl ?_
                  refine r_goto C 213 dL_isMoveSo_209 (by decide) ?_
                  refine r_istore C dL_isMoveSo_213 (by decide) ?_
                  refine r_iload_n C dL_isMoveSo_215 rfl rfl ?_
                  refine r_if_eq C 240 dL_isMoveSo_216 (by decide) (fun c => absurd c (by decide)) (fun _ => ?_)
                  refine r_iload_n C dL_isMoveSo_219 rfl rfl ?_
                  refine r_if_ge C 236 dL_isMoveSo_220 (by decide) (fun _ => ?_) (fun c => absurd (nI_pos' (by omega)) c)
                  refine r_iconst C (v := 1) dL_isMoveSo_236 rfl ?_
                  refine r_goto C 241 dL_isMoveSo_237 (by decide) ?_
                  refine r_istore_n C dL_isMoveSo_241 rfl (by decide) ?_
                  refine r_iinc C (v := 1) dL_isMoveSo_242 rfl rfl (by decide) ?_
                  refine r_goto C 25 dL_isMoveSo_245 (by decide) ?_
                  refine V.sub [(0, .ref x), (1, .int (nI m0)), (2, .int (w_e S m0 r (w_r S m0 r) (e0 + 1))), (3, .int 1), (4, .int (bI (v_e S m0 r (v_r S m0 r) (e0 + 1)))), (5, .int (nI r)), (6, .int (nI (e0 + 1)))] ⟨rfl, rfl, (by show _ = some (Value.int ((w_e S m0 r (w_r S m0 r) e0) + (if g_can S (nI m0) (nI r) (nI e0) = true ∧ (e0 = 0 ∨ ¬ S 3 (r * 4 + 0) = 0) then 1 else 0))); rw [if_neg (fun q => q.2.elim (fun z => c_178 (by rw [z]; rfl)) (fun z => z (by rw [hR] at c_188 ⊢; rw [nI_le0 (by omega) c_188]; rfl)))]; rfl), rfl, (by show _ = some (Value.int (bI ((v_e S m0 r (v_r S m0 r) e0) || g_can S (nI m0) (nI r) (nI e0)))); rw [bI_f c_200, hcan]; rfl), rfl, (by rw [← nI_1 e0]; rfl), trivial⟩ ?_
                  exact ih_e0 _ _ (by omega) (by omega)
              · have e_188 := i32_lt c_188
                refine r_iconst C (v := 1) dL_isMoveSo_191 rfl ?_
                refine r_goto C 196 dL_isMoveSo_192 (by decide) ?_
                refine r_iadd C dL_isMoveSo_196 ?_
                refine r_istore_n C dL_isMoveSo_197 rfl (by decide) ?_
                refine r_iload C dL_isMoveSo_198 rfl ?_
                refine r_if_ne C 208 dL_isMoveSo_200 (by decide) (fun c_200 => ?_) (fun c_200 => ?_)
                · refine r_iconst C (v := 1) dL_isMoveSo_208 rfl ?_
                  refine r_goto C 213 dL_isMoveSo_209 (by decide) ?_
                  refine r_istore C dL_isMoveSo_213 (by decide) ?_
                  refine r_iload_n C dL_isMoveSo_215 rfl rfl ?_
                  refine r_if_eq C 240 dL_isMoveSo_216 (by decide) (fun c => absurd c (by decide)) (fun _ => ?_)
                  refine r_iload_n C dL_isMoveSo_219 rfl rfl ?_
                  refine r_if_ge C 236 dL_isMoveSo_220 (by decide) (fun _ => ?_) (fun c => absurd (nI_pos' (by omega)) c)
                  refine r_iconst C (v := 1) dL_isMoveSo_236 rfl ?_
                  refine r_goto C 241 dL_isMoveSo_237 (by decide) ?_
                  refine r_istore_n C dL_isMoveSo_241 rfl (by decide) ?_
                  refine r_iinc C (v := 1) dL_isMoveSo_242 rfl rfl (by decide) ?_
                  refine r_goto C 25 dL_isMoveSo_245 (by decide) ?_
                  refine V.sub [(0, .ref x), (1, .int (nI m0)), (2, .int (w_e S m0 r (w_r S m0 r) (e0 + 1))), (3, .int 1), (4, .int (bI (v_e S m0 r (v_r S m0 r) (e0 + 1)))), (5, .int (nI r)), (6, .int (nI (e0 + 1)))] ⟨rfl, rfl, (by show _ = some (Value.int ((w_e S m0 r (w_r S m0 r) e0) + (if g_can S (nI m0) (nI r) (nI e0) = true ∧ (e0 = 0 ∨ ¬ S 3 (r * 4 + 0) = 0) then 1 else 0))); rw [if_pos ⟨hcan, Or.inr (fun q => c_188 (by rw [q]; decide))⟩]; rfl), rfl, (by show _ = some (Value.int (bI ((v_e S m0 r (v_r S m0 r) e0) || g_can S (nI m0) (nI r) (nI e0)))); rw [bI_t c_200, hcan]; rfl), rfl, (by rw [← nI_1 e0]; rfl), trivial⟩ ?_
                  exact ih_e0 _ _ (by omega) (by omega)
                · refine r_iload C dL_isMoveSo_203 rfl ?_
                  refine r_if_eq C 212 dL_isMoveSo_205 (by decide) (fun c => absurd c (by decide)) (fun _ => ?_)
                  refine r_iconst C (v := 1) dL_isMoveSo_208 rfl ?_
                  refine r_goto C 213 dL_isMoveSo_209 (by decide) ?_
                  refine r_istore C dL_isMoveSo_213 (by decide) ?_
                  refine r_iload_n C dL_isMoveSo_215 rfl rfl ?_
                  refine r_if_eq C 240 dL_isMoveSo_216 (by decide) (fun c => absurd c (by decide)) (fun _ => ?_)
                  refine r_iload_n C dL_isMoveSo_219 rfl rfl ?_
                  refine r_if_ge C 236 dL_isMoveSo_220 (by decide) (fun _ => ?_) (fun c => absurd (nI_pos' (by omega)) c)
                  refine r_iconst C (v := 1) dL_isMoveSo_236 rfl ?_
                  refine r_goto C 241 dL_isMoveSo_237 (by decide) ?_
                  refine r_istore_n C dL_isMoveSo_241 rfl (by decide) ?_
                  refine r_iinc C (v := 1) dL_isMoveSo_242 rfl rfl (by decide) ?_
                  refine r_goto C 25 dL_isMoveSo_245 (by decide) ?_
                  refine V.sub [(0, .ref x), (1, .int (nI m0)), (2, .int (w_e S m0 r (w_r S m0 r) (e0 + 1))), (3, .int 1), (4, .int (bI (v_e S m0 r (v_r S m0 r) (e0 + 1)))), (5, .int (nI r)), (6, .int (nI (e0 + 1)))] ⟨rfl, rfl, (by show _ = some (Value.int ((w_e S m0 r (w_r S m0 r) e0) + (if g_can S (nI m0) (nI r) (nI e0) = true ∧ (e0 = 0 ∨ ¬ S 3 (r * 4 + 0) = 0) then 1 else 0))); rw [if_pos ⟨hcan, Or.inr (fun q => c_188 (by rw [q]; decide))⟩]; rfl), rfl, (by show _ = some (Value.int (bI ((v_e S m0 r (v_r S m0 r) e0) || g_can S (nI m0) (nI r) (nI e0)))); rw [bI_f c_200, hcan]; rfl), rfl, (by rw [← nI_1 e0]; rfl), trivial⟩ ?_
                  exact ih_e0 _ _ (by omega) (by omega)
        · intro j h_j ih_j k n hk hn
          obtain ⟨t, ht, e1, e2, e3⟩ := o.tileAt (p := m0) (i := j) (by omega) h_j
          have M112 : ∀ k0 n0, k0 ≤ k + 10 → n0 ≤ n + 60 → V p l e ⟨8, 2200, 13200, 154⟩ s m args below meth c G 12 (Qg G below args s 2200 13200 (fun v1 h1 s1 => v1 = (some (.int 1)) ∧ h1 = h ∧ s1 = sz)) h sz k0 n0 112 [(0, .ref x), (1, .int (nI m0)), (2, .int (w_e S m0 r (w_r S m0 r) e0)), (3, .int 1), (4, .int (bI (v_e S m0 r (v_r S m0 r) e0))), (5, .int (nI r)), (6, .int (nI e0)), (7, .int (bI (anyB (fun i => g_fits S (g_hand S (nI m0) (nI i)) (nI r) (nI e0)) j))), (8, .int (S 3 (r * 4 + (1 + e0)))), (9, .int (nI j)), (10, .int (nI t))] [.int (bI (g_fits S (nI t) (nI r) (nI e0)))] := by
            intro k0 n0 hk0 hn0
            cases hf : (g_fits S (nI t) (nI r) (nI e0))
            · refine r_istore C dL_isMoveSo_112 (by decide) ?_
              refine r_iload_n C dL_isMoveSo_114 rfl rfl ?_
              refine r_if_eq C 145 dL_isMoveSo_115 (by decide) (fun c => absurd c (by decide)) (fun _ => ?_)
              refine r_aload_n C dL_isMoveSo_118 rfl rfl ?_
              refine r_iload C dL_isMoveSo_119 rfl ?_
              refine r_iload C dL_isMoveSo_121 rfl ?_
              refine r_iload C dL_isMoveSo_123 rfl ?_
              refine q_why C hst w (r2 := 3) (okN_i (k := 3) h_r (by decide)) (okEnd_i h_e0) ((o.why hm (by omega) h_j e2 _ _).trans (by rw [hf]; rfl)) rfl ⟨(Nat.le_of_ble_eq_true rfl), (Nat.le_of_ble_eq_true rfl), (by dsimp only; omega), (by dsimp only; omega), (Nat.le_of_ble_eq_true rfl)⟩ dL_isMoveSo_125 ?_
              refine r_iload C dL_isMoveSo_128 rfl ?_
              refine r_if_eq C 137 dL_isMoveSo_130 (by decide) (fun _ => ?_) (fun c => absurd rfl c)
              refine r_iconst C (v := 3) dL_isMoveSo_137 rfl ?_
              refine r_icmp_ne C 145 dL_isMoveSo_138 (by decide) (fun c => absurd rfl c) (fun _ => ?_)
              refine r_iconst C (v := 1) dL_isMoveSo_141 rfl ?_
              refine r_goto C 146 dL_isMoveSo_142 (by decide) ?_
              refine r_istore_n C dL_isMoveSo_146 rfl (by decide) ?_
              refine r_iload C dL_isMoveSo_147 rfl ?_
              refine r_if_ne C 157 dL_isMoveSo_149 (by decide) (fun c_149 => ?_) (fun c_149 => ?_)
              · refine r_iconst C (v := 1) dL_isMoveSo_157 rfl ?_
                refine r_goto C 162 dL_isMoveSo_158 (by decide) ?_
                refine r_istore C dL_isMoveSo_162 (by decide) ?_
                refine r_iinc C (v := 1) dL_isMoveSo_164 rfl rfl (by decide) ?_
                refine r_goto C 49 dL_isMoveSo_167 (by decide) ?_
                refine V.sub [(0, .ref x), (1, .int (nI m0)), (2, .int (w_e S m0 r (w_r S m0 r) e0)), (3, .int 1), (4, .int (bI (v_e S m0 r (v_r S m0 r) e0))), (5, .int (nI r)), (6, .int (nI e0)), (7, .int (bI (anyB (fun i => g_fits S (g_hand S (nI m0) (nI i)) (nI r) (nI e0)) (j + 1)))), (8, .int (S 3 (r * 4 + (1 + e0)))), (9, .int (nI (j + 1)))] ⟨rfl, rfl, rfl, rfl, rfl, rfl, rfl, (by show _ = some (Value.int (bI (anyB (fun i => g_fits S (g_hand S (nI m0) (nI i)) (nI r) (nI e0)) j || g_fits S (g_hand S (nI m0) (nI j)) (nI r) (nI e0)))); rw [e2, hf, bI_t c_149]; rfl), rfl, (by rw [← nI_1 j]; rfl), trivial⟩ ?_
                exact ih_j _ _ (by omega) (by omega)
              · refine r_iload C dL_isMoveSo_152 rfl ?_
                refine r_if_eq C 161 dL_isMoveSo_154 (by decide) (fun _ => ?_) (fun c => absurd rfl c)
                refine r_iconst C (v := 0) dL_isMoveSo_161 rfl ?_
                refine r_istore C dL_isMoveSo_162 (by decide) ?_
                refine r_iinc C (v := 1) dL_isMoveSo_164 rfl rfl (by decide) ?_
                refine r_goto C 49 dL_isMoveSo_167 (by decide) ?_
                refine V.sub [(0, .ref x), (1, .int (nI m0)), (2, .int (w_e S m0 r (w_r S m0 r) e0)), (3, .int 1), (4, .int (bI (v_e S m0 r (v_r S m0 r) e0))), (5, .int (nI r)), (6, .int (nI e0)), (7, .int (bI (anyB (fun i => g_fits S (g_hand S (nI m0) (nI i)) (nI r) (nI e0)) (j + 1)))), (8, .int (S 3 (r * 4 + (1 + e0)))), (9, .int (nI (j + 1)))] ⟨rfl, rfl, rfl, rfl, rfl, rfl, rfl, (by show _ = some (Value.int (bI (anyB (fun i => g_fits S (g_hand S (nI m0) (nI i)) (nI r) (nI e0)) j || g_fits S (g_hand S (nI m0) (nI j)) (nI r) (nI e0)))); rw [e2, hf, bI_f c_149]; rfl), rfl, (by rw [← nI_1 j]; rfl), trivial⟩ ?_
                exact ih_j _ _ (by omega) (by omega)
            · refine r_istore C dL_isMoveSo_112 (by decide) ?_
              refine r_iload_n C dL_isMoveSo_114 rfl rfl ?_
              refine r_if_eq C 145 dL_isMoveSo_115 (by decide) (fun c => absurd c (by decide)) (fun _ => ?_)
              refine r_aload_n C dL_isMoveSo_118 rfl rfl ?_
              refine r_iload C dL_isMoveSo_119 rfl ?_
              refine r_iload C dL_isMoveSo_121 rfl ?_
              refine r_iload C dL_isMoveSo_123 rfl ?_
              refine q_why C hst w (r2 := 0) (okN_i (k := 3) h_r (by decide)) (okEnd_i h_e0) ((o.why hm (by omega) h_j e2 _ _).trans (by rw [hf]; rfl)) rfl ⟨(Nat.le_of_ble_eq_true rfl), (Nat.le_of_ble_eq_true rfl), (by dsimp only; omega), (by dsimp only; omega), (Nat.le_of_ble_eq_true rfl)⟩ dL_isMoveSo_125 ?_
              refine r_iload C dL_isMoveSo_128 rfl ?_
              refine r_if_eq C 137 dL_isMoveSo_130 (by decide) (fun c => absurd c (by decide)) (fun _ => ?_)
              refine r_iconst C (v := 0) dL_isMoveSo_133 rfl ?_
              refine r_goto C 138 dL_isMoveSo_134 (by decide) ?_
              refine r_icmp_ne C 145 dL_isMoveSo_138 (by decide) (fun c => absurd rfl c) (fun _ => ?_)
              refine r_iconst C (v := 1) dL_isMoveSo_141 rfl ?_
              refine r_goto C 146 dL_isMoveSo_142 (by decide) ?_
              refine r_istore_n C dL_isMoveSo_146 rfl (by decide) ?_
              refine r_iload C dL_isMoveSo_147 rfl ?_
              refine r_if_ne C 157 dL_isMoveSo_149 (by decide) (fun c_149 => ?_) (fun c_149 => ?_)
              · refine r_iconst C (v := 1) dL_isMoveSo_157 rfl ?_
                refine r_goto C 162 dL_isMoveSo_158 (by decide) ?_
                refine r_istore C dL_isMoveSo_162 (by decide) ?_
                refine r_iinc C (v := 1) dL_isMoveSo_164 rfl rfl (by decide) ?_
                refine r_goto C 49 dL_isMoveSo_167 (by decide) ?_
                refine V.sub [(0, .ref x), (1, .int (nI m0)), (2, .int (w_e S m0 r (w_r S m0 r) e0)), (3, .int 1), (4, .int (bI (v_e S m0 r (v_r S m0 r) e0))), (5, .int (nI r)), (6, .int (nI e0)), (7, .int (bI (anyB (fun i => g_fits S (g_hand S (nI m0) (nI i)) (nI r) (nI e0)) (j + 1)))), (8, .int (S 3 (r * 4 + (1 + e0)))), (9, .int (nI (j + 1)))] ⟨rfl, rfl, rfl, rfl, rfl, rfl, rfl, (by show _ = some (Value.int (bI (anyB (fun i => g_fits S (g_hand S (nI m0) (nI i)) (nI r) (nI e0)) j || g_fits S (g_hand S (nI m0) (nI j)) (nI r) (nI e0)))); rw [e2, hf, bI_t c_149]; rfl), rfl, (by rw [← nI_1 j]; rfl), trivial⟩ ?_
                exact ih_j _ _ (by omega) (by omega)
              · refine r_iload C dL_isMoveSo_152 rfl ?_
                refine r_if_eq C 161 dL_isMoveSo_154 (by decide) (fun c => absurd c (by decide)) (fun _ => ?_)
                refine r_iconst C (v := 1) dL_isMoveSo_157 rfl ?_
                refine r_goto C 162 dL_isMoveSo_158 (by decide) ?_
                refine r_istore C dL_isMoveSo_162 (by decide) ?_
                refine r_iinc C (v := 1) dL_isMoveSo_164 rfl rfl (by decide) ?_
                refine r_goto C 49 dL_isMoveSo_167 (by decide) ?_
                refine V.sub [(0, .ref x), (1, .int (nI m0)), (2, .int (w_e S m0 r (w_r S m0 r) e0)), (3, .int 1), (4, .int (bI (v_e S m0 r (v_r S m0 r) e0))), (5, .int (nI r)), (6, .int (nI e0)), (7, .int (bI (anyB (fun i => g_fits S (g_hand S (nI m0) (nI i)) (nI r) (nI e0)) (j + 1)))), (8, .int (S 3 (r * 4 + (1 + e0)))), (9, .int (nI (j + 1)))] ⟨rfl, rfl, rfl, rfl, rfl, rfl, rfl, (by show _ = some (Value.int (bI (anyB (fun i => g_fits S (g_hand S (nI m0) (nI i)) (nI r) (nI e0)) j || g_fits S (g_hand S (nI m0) (nI j)) (nI r) (nI e0)))); rw [e2, hf, bI_f c_149]; rfl), rfl, (by rw [← nI_1 j]; rfl), trivial⟩ ?_
                exact ih_j _ _ (by omega) (by omega)
          refine r_iload_n C dL_isMoveSo_49 rfl rfl ?_
          refine r_if_lt C 170 dL_isMoveSo_50 (by decide) (fun c => absurd c (nI_pos (by omega))) (fun _ => ?_)
          refine r_iload C dL_isMoveSo_53 rfl ?_
          refine r_aload_n C dL_isMoveSo_55 rfl rfl ?_
          refine r_iload_n C dL_isMoveSo_56 rfl rfl ?_
          refine r_iconst C (v := 0) dL_isMoveSo_57 rfl ?_
          refine q_prop C hst w (i := 0) (r2 := nI (H m0)) (has_i h50 hP4 hm0) (by decide) rfl (prop_0.trans (o.held (p := m0) (by omega))) rfl ⟨(Nat.le_of_ble_eq_true rfl), (Nat.le_of_ble_eq_true rfl), (by dsimp only; omega), (by dsimp only; omega), (Nat.le_of_ble_eq_true rfl)⟩ dL_isMoveSo_58 ?_
          refine r_icmp_ge C 170 dL_isMoveSo_61 (by decide) (fun c => absurd c (nI_ge h_j (by omega))) (fun _ => ?_)
          refine r_aload_n C dL_isMoveSo_64 rfl rfl ?_
          refine r_iload_n C dL_isMoveSo_65 rfl rfl ?_
          refine r_iload C dL_isMoveSo_66 rfl ?_
          refine q_hand C hst w (i := j) (r2 := nI t) (has_i h50 hP4 hm0) (by omega) rfl e3 rfl ⟨(Nat.le_of_ble_eq_true rfl), (Nat.le_of_ble_eq_true rfl), (by dsimp only; omega), (by dsimp only; omega), (Nat.le_of_ble_eq_true rfl)⟩ dL_isMoveSo_68 ?_
          refine r_istore C dL_isMoveSo_71 (by decide) ?_
          refine r_aload_n C dL_isMoveSo_73 rfl rfl ?_
          refine r_iload C dL_isMoveSo_74 rfl ?_
          refine r_iconst C (v := 0) dL_isMoveSo_76 rfl ?_
          refine q_row C hst w (t := r) (i := 0) h_r (by decide) rfl rfl rfl ⟨(Nat.le_of_ble_eq_true rfl), (Nat.le_of_ble_eq_true rfl), (by dsimp only; omega), (by dsimp only; omega), (Nat.le_of_ble_eq_true rfl)⟩ dL_isMoveSo_77 ?_
          refine r_if_eq C 107 dL_isMoveSo_80 (by decide) (fun c_80 => ?_) (fun c_80 => ?_)
          · refine r_iconst C (v := 1) dL_isMoveSo_107 rfl ?_
            refine r_goto C 112 dL_isMoveSo_108 (by decide) ?_
            refine V.stack (st2 := [.int (bI (g_fits S (nI t) (nI r) (nI e0)))]) (by rw [fits_at ht h_r h_e0, decide_eq_true c_80]; rfl) ?_
            refine V.sub [(0, .ref x), (1, .int (nI m0)), (2, .int (w_e S m0 r (w_r S m0 r) e0)), (3, .int 1), (4, .int (bI (v_e S m0 r (v_r S m0 r) e0))), (5, .int (nI r)), (6, .int (nI e0)), (7, .int (bI (anyB (fun i => g_fits S (g_hand S (nI m0) (nI i)) (nI r) (nI e0)) j))), (8, .int (S 3 (r * 4 + (1 + e0)))), (9, .int (nI j)), (10, .int (nI t))] ⟨rfl, rfl, rfl, rfl, rfl, rfl, rfl, rfl, rfl, rfl, rfl, trivial⟩ ?_
            exact M112 _ _ (by omega) (by omega)
          · refine r_aload_n C dL_isMoveSo_83 rfl rfl ?_
            refine r_iload C dL_isMoveSo_84 rfl ?_
            refine r_iconst C (v := 0) dL_isMoveSo_86 rfl ?_
            refine q_tile C hst w (t := t) (i := 0) ht (by decide) rfl rfl rfl ⟨(Nat.le_of_ble_eq_true rfl), (Nat.le_of_ble_eq_true rfl), (by dsimp only; omega), (by dsimp only; omega), (Nat.le_of_ble_eq_true rfl)⟩ dL_isMoveSo_87 ?_
            refine r_iload C dL_isMoveSo_90 rfl ?_
            refine r_icmp_eq C 107 dL_isMoveSo_92 (by decide) (fun c_92 => ?_) (fun c_92 => ?_)
            · refine r_iconst C (v := 1) dL_isMoveSo_107 rfl ?_
              refine r_goto C 112 dL_isMoveSo_108 (by decide) ?_
              refine V.stack (st2 := [.int (bI (g_fits S (nI t) (nI r) (nI e0)))]) (by rw [fits_at ht h_r h_e0, decide_eq_false c_80, decide_eq_true c_92]; rfl) ?_
              refine V.sub [(0, .ref x), (1, .int (nI m0)), (2, .int (w_e S m0 r (w_r S m0 r) e0)), (3, .int 1), (4, .int (bI (v_e S m0 r (v_r S m0 r) e0))), (5, .int (nI r)), (6, .int (nI e0)), (7, .int (bI (anyB (fun i => g_fits S (g_hand S (nI m0) (nI i)) (nI r) (nI e0)) j))), (8, .int (S 3 (r * 4 + (1 + e0)))), (9, .int (nI j)), (10, .int (nI t))] ⟨rfl, rfl, rfl, rfl, rfl, rfl, rfl, rfl, rfl, rfl, rfl, trivial⟩ ?_
              exact M112 _ _ (by omega) (by omega)
            · refine r_aload_n C dL_isMoveSo_95 rfl rfl ?_
              refine r_iload C dL_isMoveSo_96 rfl ?_
              refine r_iconst C (v := 1) dL_isMoveSo_98 rfl ?_
              refine q_tile C hst w (t := t) (i := 1) ht (by decide) rfl rfl rfl ⟨(Nat.le_of_ble_eq_true rfl), (Nat.le_of_ble_eq_true rfl), (by dsimp only; omega), (by dsimp only; omega), (Nat.le_of_ble_eq_true rfl)⟩ dL_isMoveSo_99 ?_
              refine r_iload C dL_isMoveSo_102 rfl ?_
              refine r_icmp_ne C 111 dL_isMoveSo_104 (by decide) (fun c_104 => ?_) (fun c_104 => ?_)
              · refine r_iconst C (v := 0) dL_isMoveSo_111 rfl ?_
                refine V.stack (st2 := [.int (bI (g_fits S (nI t) (nI r) (nI e0)))]) (by rw [fits_at ht h_r h_e0, decide_eq_false c_80, decide_eq_false c_92, decide_eq_false c_104]; rfl) ?_
                refine V.sub [(0, .ref x), (1, .int (nI m0)), (2, .int (w_e S m0 r (w_r S m0 r) e0)), (3, .int 1), (4, .int (bI (v_e S m0 r (v_r S m0 r) e0))), (5, .int (nI r)), (6, .int (nI e0)), (7, .int (bI (anyB (fun i => g_fits S (g_hand S (nI m0) (nI i)) (nI r) (nI e0)) j))), (8, .int (S 3 (r * 4 + (1 + e0)))), (9, .int (nI j)), (10, .int (nI t))] ⟨rfl, rfl, rfl, rfl, rfl, rfl, rfl, rfl, rfl, rfl, rfl, trivial⟩ ?_
                exact M112 _ _ (by omega) (by omega)
              · refine r_iconst C (v := 1) dL_isMoveSo_107 rfl ?_
                refine r_goto C 112 dL_isMoveSo_108 (by decide) ?_
                refine V.stack (st2 := [.int (bI (g_fits S (nI t) (nI r) (nI e0)))]) (by rw [fits_at ht h_r h_e0, decide_eq_false c_80, decide_eq_false c_92, decide_eq_true c_104]; rfl) ?_
                refine V.sub [(0, .ref x), (1, .int (nI m0)), (2, .int (w_e S m0 r (w_r S m0 r) e0)), (3, .int 1), (4, .int (bI (v_e S m0 r (v_r S m0 r) e0))), (5, .int (nI r)), (6, .int (nI e0)), (7, .int (bI (anyB (fun i => g_fits S (g_hand S (nI m0) (nI i)) (nI r) (nI e0)) j))), (8, .int (S 3 (r * 4 + (1 + e0)))), (9, .int (nI j)), (10, .int (nI t))] ⟨rfl, rfl, rfl, rfl, rfl, rfl, rfl, rfl, rfl, rfl, rfl, trivial⟩ ?_
                exact M112 _ _ (by omega) (by omega)
