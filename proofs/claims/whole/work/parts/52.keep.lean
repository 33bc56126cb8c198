/-! RUN OVER BOTH; SAVED STATES -/
section KP
variable {n : Nat} {S S2 : gS} {P K W Q T F : Nat} {H R L : Nat → Nat} {gr : Nat → Nat → Nat} {ag : Nat → Nat} {Hf : Nat → Int32} {f g : Nat → Int32}
-- congruence in the text
theorem xst_eq : ∀ i, (∀ j, j < i → f j = g j) → x_st f i = x_st g i := by
  intro i
  induction i with
  | zero => intro _; rfl
  | succ i ih =>
    intro h
    show x_exp (x_st f i) (f i) = x_exp (x_st g i) (g i)
    rw [ih (fun j hj => h j (by omega)), h i (by omega)]
theorem xfst_eq {a b : Nat → Bool} : ∀ m, (∀ i, i < m → a i = b i) → x_fst a m = x_fst b m := by
  intro m
  induction m with
  | zero => intro _; rfl
  | succ m ih =>
    intro h
    show (if x_fst a m < m then x_fst a m else if a m then m else m + 1) = (if x_fst b m < m then x_fst b m else if b m then m else m + 1)
    rw [ih (fun i hi => h i (by omega)), h m (by omega)]
theorem xerr_eq (m : Nat) (h : ∀ i, i < m → f i = g i) : x_err f m = x_err g m := by
  unfold x_err
  refine xfst_eq m (fun i hi => ?_)
  rw [xst_eq (f := f) (g := g) (i + 1) (fun j hj => h j (by omega))]
theorem yrun_eq : ∀ k i, (∀ j, j < k → f (i + j) = g (i + j)) → ∀ b p r S, y_run f k i b p r S = y_run g k i b p r S := by
  intro k
  induction k with
  | zero => intro i _ b p r S; rfl
  | succ k ih =>
    intro i h b p r S
    have h0 : f i = g i := h 0 (by omega)
    have ih' := ih (i + 1) (fun j hj => by have := h (j + 1) (by omega); rw [show i + (j + 1) = i + 1 + j by omega] at this; exact this)
    rw [y_run, y_run, h0, ih']
-- the turns of a text over the model's game
theorem sw_mS {nn : Nat} {t : tT_} (hg : gOk nn S) (r : hR S Hf) (hro : t.2.2.1 = 108 → ∃ r d, r < 3 ∧ d < 2 ∧ t.2.2.2.2.1 = nI r ∧ t.2.2.2.2.2 = nI d) : ∃ H2, m_mS (gu S 1 Hf) t = gu (m_mS S t) 1 H2 ∧ hR (m_mS S t) H2 ∧ m_mB (gu S 1 Hf) t = m_mB S t ∧ gOk (nn + 1) (m_mS S t) := by
  unfold m_mS m_mB
  by_cases c1 : t.2.2.1 = 108
  · rw [if_pos c1, if_pos c1, if_pos c1, if_pos c1]
    obtain ⟨a, d, ha, hd, ea, ed⟩ := hro c1
    rw [ea, ed]
    obtain ⟨H2, m1, m2, m3⟩ := sw_lay hg r (a := t.2.2.2.1) ha hd
    exact ⟨H2, m1, m2, by rw [m3], hg.lay ha hd⟩
  · rw [if_neg c1, if_neg c1, if_neg c1, if_neg c1]
    by_cases c2 : t.2.2.1 = 100
    · rw [if_pos c2, if_pos c2, if_pos c2, if_pos c2]
      obtain ⟨H2, m1, m2, m3⟩ := sw_draw hg r
      exact ⟨H2, m1, m2, by rw [m3], hg.draw⟩
    · rw [if_neg c2, if_neg c2, if_neg c2, if_neg c2]
      obtain ⟨H2, m1, m2, m3⟩ := sw_pass hg r
      exact ⟨H2, m1, m2, by rw [m3], hg.pass⟩
theorem sw_go {nn : Nat} : ∀ (k : Nat) (x : Int32) (S : gS) (Hf : Nat → Int32) (t : tT_), gOk nn S → hR S Hf → ∃ H2, (e_go f n true k x (gu S 1 Hf) t).1 = (e_go f n true k x S t).1 ∧ (e_go f n true k x (gu S 1 Hf) t).2.1 = gu (e_go f n true k x S t).2.1 1 H2 ∧ hR (e_go f n true k x S t).2.1 H2 ∧ gOk (nn + 1) (e_go f n true k x S t).2.1 := by
  intro k
  induction k with
  | zero => intro x S Hf t hg r; exact ⟨Hf, rfl, rfl, r, hg.up (by omega)⟩
  | succ k ih =>
    intro x S Hf t hg r
    rw [e_go, e_go]
    by_cases z1 : (r_T f n t).2.1 = true
    · have ok0 : ∀ X, e_ok X (r_T f n t) true = false := fun X => by unfold e_ok; rw [z1]; rfl
      have S0 : ∀ X, e_S X (r_T f n t) true = X := fun X => by unfold e_S; rw [z1]; rfl
      rw [ok0 (gu S 1 Hf), ok0 S, S0 (gu S 1 Hf), S0 S, Bool.false_and, if_neg (show ¬ (false = true) by decide), if_neg (show ¬ (false = true) by decide)]
      exact ⟨Hf, rfl, rfl, r, hg.up (by omega)⟩
    · have z1' : (r_T f n t).2.1 = false := by simpa using z1
      have hro := rT_ro (f := f) (n := n) (t := t) z1'
      have hok : ∀ X, e_ok X (r_T f n t) true = m_mB X (r_T f n t) := fun X => by unfold e_ok; rw [z1', Bool.not_false, Bool.true_and, Bool.not_true, Bool.false_or]
      have hS : ∀ X, e_S X (r_T f n t) true = m_mS X (r_T f n t) := fun X => by unfold e_S; rw [z1']; rfl
      obtain ⟨H2, m1, m2, m3, m4⟩ := sw_mS hg r hro
      rw [hok (gu S 1 Hf), hok S, hS (gu S 1 Hf), hS S, m3, m1]
      by_cases hm : m_mB S (r_T f n t) = true
      · rw [hm, Bool.true_and]
        by_cases c1 : (r_T f n t).1 < n
        · rw [if_pos (decide_eq_true c1), if_pos (decide_eq_true c1)]
          by_cases c2 : (s_T f n (r_T f n t) 59 59).2.1 = true
          · rw [if_pos c2, if_pos c2]
            exact ⟨H2, rfl, rfl, m2, m4⟩
          · rw [if_neg c2, if_neg c2]
            exact ih _ _ _ _ (made_ok hg hro hm) m2
        · rw [decide_eq_false c1, if_neg (show ¬ (false = true) by decide), if_neg (show ¬ (false = true) by decide)]
          exact ⟨H2, rfl, rfl, m2, m4⟩
      · have hm' : m_mB S (r_T f n t) = false := by simpa using hm
        rw [hm', Bool.false_and, if_neg (show ¬ (false = true) by decide), if_neg (show ¬ (false = true) by decide)]
        exact ⟨H2, rfl, rfl, m2, m4⟩
/-- the whole run of a text that tells turns -/
theorem run_eq {nn : Nat} (hnn : nn < 1000000) (hg : gOk nn S) (r : hR S Hf) (hfg : ∀ i, i < n → f i = g i) (h6 : x_st g n = 6) (t : tT_) (ht : t.1 = 0 ∧ t.2.1 = false) : ∃ H2, (e_go f n true (n + 1) 0 (gu S 1 Hf) t).1 = (y_run g n 0 0 0 0 S).1 ∧ (e_go f n true (n + 1) 0 (gu S 1 Hf) t).2.1 = gu (y_run g n 0 0 0 0 S).2 1 H2 ∧ hR (y_run g n 0 0 0 0 S).2 H2 ∧ gOk (nn + 1) (y_run g n 0 0 0 0 S).2 := by
  obtain ⟨H2, m1, m2, m3, m4⟩ := sw_go (f := f) (n := n) (n + 1) 0 S Hf t hg r
  have h6f : x_st f n = 6 := (xst_eq n hfg).trans h6
  have h := mak hnn h6f (n + 1) 0 S t (by omega) ht.2 (by rw [ht.1]; rfl) (by omega) hg 0 0
  rw [ht.1, Nat.sub_zero, yrun_eq (f := f) (g := g) n 0 (fun j hj => by rw [Nat.zero_add]; exact hfg j hj)] at h
  rw [h.1] at m1
  rw [h.2] at m2 m3 m4
  exact ⟨H2, m1, m2, m3, m4⟩
-- what is the same in range
def sz_ (j : Nat) : Nat := if j = 0 then 196 else if j = 1 then 112 else if j = 2 then 16 else if j = 3 then 12 else if j = 4 then 28 else 8
theorem sc_in : ∀ a, a < 372 → sc_ a < 6 ∧ ix_ a < sz_ (sc_ a) := by decide +kernel
def eqR (S S2 : gS) : Prop := ∀ j, j < 6 → ∀ k, k < sz_ j → S2 j k = S j k
theorem eqR.ens (q : eqR S S2) (a : Nat) : en S2 a = en S a := by
  unfold en
  by_cases c : a < 372
  · rw [if_pos c, if_pos c]
    exact q _ (sc_in a c).1 _ (sc_in a c).2
  · rw [if_neg c, if_neg c]
theorem eqR.gus (q : eqR S S2) : eqR (gu S 1 Hf) (gu S2 1 Hf) := by
  intro j hj k hk
  by_cases c : j = 1
  · subst c; rw [gu_s, gu_s]
  · rw [gu_n c, gu_n c]
    exact q j hj k hk
theorem eqR.ok (q : eqR S S2) (h : gOk n S) : gOk n S2 := by
  obtain ⟨P, K, W, Q, T, F, H, R, L, gr, ag, o, t⟩ := h
  have hK : K ≤ 28 := o.n5.1.2.2.1
  have e0 : ∀ k, k < 196 → S2 0 k = S 0 k := q 0 (by decide)
  have e1 : ∀ k, k < 112 → S2 1 k = S 1 k := q 1 (by decide)
  have e2 : ∀ k, k < 16 → S2 2 k = S 2 k := q 2 (by decide)
  have e3 : ∀ k, k < 12 → S2 3 k = S 3 k := q 3 (by decide)
  have e4 : ∀ k, k < 28 → S2 4 k = S 4 k := q 4 (by decide)
  have e5 : ∀ k, k < 8 → S2 5 k = S 5 k := q 5 (by decide)
  have hH := fun p (hp : p < 4) => oh_le o.hh hp
  refine ⟨P, K, W, Q, T, F, H, R, L, gr, ag, ⟨?_, ?_, ?_, ?_, ?_, ?_, ?_, o.sm, o.hh⟩, ?_⟩
  · obtain ⟨b0, b1, b2, b3, b4, b5, b6⟩ := o.n5
    exact ⟨b0, (e5 0 (by decide)).trans b1, (e5 2 (by decide)).trans b2, (e5 3 (by decide)).trans b3, (e5 4 (by decide)).trans b4, (e5 5 (by decide)).trans b5, (e5 7 (by decide)).trans b6⟩
  · have b := o.mv
    unfold om at b ⊢
    rw [e5 1 (by decide)]
    exact b
  · obtain ⟨b1, b2⟩ := o.t2
    refine ⟨fun p hp => ?_, fun p hp hp4 => ?_⟩
    · rw [e2 (p * 4) (by omega), e2 (p * 4 + 1) (by omega)]; exact b1 p hp
    · rw [e2 (p * 4 + 2) (by omega), e2 (p * 4 + 3) (by omega)]; exact b2 p hp hp4
  · exact fun r hr => (e3 (r * 4) (by omega)).trans (o.t3 r hr)
  · obtain ⟨b1, b2⟩ := o.t4
    refine ⟨fun i hi => ?_, fun i j hij hj => ?_⟩
    · rw [e4 i hi]; exact b1 i hi
    · rw [e4 i (by omega), e4 j hj]; exact b2 i j hij hj
  · obtain ⟨b1, b2⟩ := o.t1
    refine ⟨fun p hp i hi => ?_, fun p hp i j hij hj => ?_⟩
    · have := hH p hp
      obtain ⟨j, hj, ej⟩ := b1 p hp i hi
      exact ⟨j, hj, by rw [e1 (p * 28 + i) (by omega), e4 j (by omega)]; exact ej⟩
    · have := hH p hp
      rw [e1 (p * 28 + i) (by omega), e1 (p * 28 + j) (by omega)]
      exact b2 p hp i j hij hj
  · intro t ht
    obtain ⟨b1, b2, b3, b4, b5⟩ := o.t0 t ht
    exact ⟨(e0 (t * 7) (by omega)).trans b1, (e0 (t * 7 + 1) (by omega)).trans b2, b3, b4, (e0 (t * 7 + 4) (by omega)).trans b5⟩
  · unfold oT at t ⊢
    rw [e5 1 (by decide)]
    exact t
theorem eqR.rel (q : eqR S S2) (h : gOk n S) (r : hR S Hf) : hR S2 Hf := by
  have h2 := q.ok h
  intro p hp i hi
  obtain ⟨P, K, W, Q, T, F, H, R, L, gr, ag, o, t⟩ := h
  have hK : K ≤ 28 := o.n5.1.2.2.1
  have hH := oh_le o.hh hp
  have ek : k_k S2 (nI p) = k_k S (nI p) := by
    unfold k_k g_held
    rw [show tAt 4 16 (S2 2) (nI p) 0 = tAt 4 16 (S 2) (nI p) 0 from ((at2 (w := 0) hp (by decide)).trans (q 2 (by decide) (p * 4 + 0) (show p * 4 + 0 < 16 by omega))).trans (at2 (w := 0) hp (by decide)).symm]
  rw [ek] at hi
  rw [r p hp i hi]
  rw [o.kk hp] at hi
  exact (q 1 (by decide) _ (show p * 28 + i < 112 by omega)).symm
theorem gc5_s {X : gS} {k : Nat} {v : Int32} : gc X k v 5 k = v := by unfold gc gu; rw [if_pos rfl, if_pos rfl]
theorem gc5_n {X : gS} {k j : Nat} {v : Int32} (h : j ≠ k) : gc X k v 5 j = X 5 j := by unfold gc gu; rw [if_pos rfl, if_neg h]
theorem bec_R (X Y : gS) : eqR Y (g_bec X Y) := by
  have n5 : ∀ j, j ≠ 5 → (g_bec X Y) j = (g_bt X Y) j := fun j hj => by
    unfold g_bec
    rw [gc_n hj, gc_n hj, gc_n hj, gc_n hj, gc_n hj, gc_n hj, gc_n hj, gc_n hj]
  have cp : ∀ (a b : Nat → Int32) (N k : Nat), k < N → va_cpy a b 0 0 N k = a k := fun a b N k hk => by
    unfold va_cpy
    rw [if_pos ⟨by omega, by omega⟩, Nat.sub_zero, Nat.zero_add]
  intro j hj k hk
  rcases (show j = 0 ∨ j = 1 ∨ j = 2 ∨ j = 3 ∨ j = 4 ∨ j = 5 by omega) with rfl | rfl | rfl | rfl | rfl | rfl
  · rw [n5 0 (by decide)]; unfold g_bt; rw [gu_n (by decide), gu_n (by decide), gu_n (by decide), gu_n (by decide), gu_s]; exact cp _ _ _ _ hk
  · rw [n5 1 (by decide)]; unfold g_bt; rw [gu_n (by decide), gu_n (by decide), gu_n (by decide), gu_s]; exact cp _ _ _ _ hk
  · rw [n5 2 (by decide)]; unfold g_bt; rw [gu_n (by decide), gu_n (by decide), gu_s]; exact cp _ _ _ _ hk
  · rw [n5 3 (by decide)]; unfold g_bt; rw [gu_n (by decide), gu_s]; exact cp _ _ _ _ hk
  · rw [n5 4 (by decide)]; unfold g_bt; rw [gu_s]; exact cp _ _ _ _ hk
  · have hk8 : k < 8 := hk
    unfold g_bec
    rcases (show k = 0 ∨ k = 1 ∨ k = 2 ∨ k = 3 ∨ k = 4 ∨ k = 5 ∨ k = 6 ∨ k = 7 by omega) with rfl | rfl | rfl | rfl | rfl | rfl | rfl | rfl
    · rw [gc5_n (by decide), gc5_n (by decide), gc5_n (by decide), gc5_n (by decide), gc5_n (by decide), gc5_n (by decide), gc5_n (by decide), gc5_s]
    · rw [gc5_n (by decide), gc5_n (by decide), gc5_n (by decide), gc5_n (by decide), gc5_n (by decide), gc5_n (by decide), gc5_s]
    · rw [gc5_n (by decide), gc5_n (by decide), gc5_n (by decide), gc5_n (by decide), gc5_n (by decide), gc5_s]
    · rw [gc5_n (by decide), gc5_n (by decide), gc5_n (by decide), gc5_n (by decide), gc5_s]
    · rw [gc5_n (by decide), gc5_n (by decide), gc5_n (by decide), gc5_s]
    · rw [gc5_n (by decide), gc5_n (by decide), gc5_s]
    · rw [gc5_n (by decide), gc5_s]
    · rw [gc5_s]
-- saved states and slots
def PS (n : Nat) (a1 : Nat → Int32) (st : Nat → Option Nat) (D : Nat → gS) (nx z : Nat) : Prop := ∀ i, i < z → ∃ q Hq, st ((nx + 6 - z + i) % 6) = some q ∧ gOk n (D q) ∧ hR (D q) Hq ∧ ∀ k, k < 372 → a1 (372 * i + k) = en (gu (D q) 1 Hq) k
def SL (n : Nat) (a2 : Nat → Int32) (kk : Nat) (sl : Nat → Option Nat) (D : Nat → gS) : Prop := ∀ j, j < 2 → (kk / 2 ^ j % 2 = 1 ↔ (sl j).isSome = true) ∧ ∀ q, sl j = some q → gOk n (D q) ∧ ∃ Hq, hR (D q) Hq ∧ ∀ k, k < 372 → a2 (372 * j + k) = en (gu (D q) 1 Hq) k
variable {a1 a2 : Nat → Int32} {st sl : Nat → Option Nat} {D : Nat → gS} {nx z kk q0 n2 : Nat}
theorem PS.up (w : PS n a1 st D nx z) (hn : n ≤ n2) : PS n2 a1 st D nx z := fun i hi => by
  obtain ⟨q, Hq, h1, h2, h3, h4⟩ := w i hi
  exact ⟨q, Hq, h1, h2.up hn, h3, h4⟩
theorem SL.up (w : SL n a2 kk sl D) (hn : n ≤ n2) : SL n2 a2 kk sl D := fun j hj => by
  obtain ⟨h1, h2⟩ := w j hj
  refine ⟨h1, fun q hq => ?_⟩
  obtain ⟨h3, Hq, h4, h5⟩ := h2 q hq
  exact ⟨h3.up hn, Hq, h4, h5⟩
theorem dU_s (D : Nat → gS) (q : Nat) (X : gS) : dU D q X q = X := by unfold dU; exact if_pos rfl
theorem dU_n {D : Nat → gS} {q a : Nat} {X : gS} (h : a ≠ q) : dU D q X a = D a := by unfold dU; exact if_neg h
theorem vup_s {α : Type} (f : Nat → α) (k : Nat) (v : α) : va_up f k v k = v := by unfold va_up; exact if_pos rfl
theorem vup_n {α : Type} {f : Nat → α} {k j : Nat} {v : α} (h : j ≠ k) : va_up f k v j = f j := by unfold va_up; exact if_neg h
theorem PS.dUs (w : PS n a1 st D nx z) (X : gS) (hq : ∀ i r, i < 6 → st i = some r → r ≠ q0) : PS n a1 st (dU D q0 X) nx z := fun i hi => by
  obtain ⟨q, Hq, h1, h2, h3, h4⟩ := w i hi
  have hne := hq _ _ (Nat.mod_lt _ (by decide)) h1
  exact ⟨q, Hq, h1, by rw [dU_n hne]; exact h2, by rw [dU_n hne]; exact h3, by rw [dU_n hne]; exact h4⟩
theorem SL.dUs (w : SL n a2 kk sl D) (X : gS) (hq : ∀ j r, j < 2 → sl j = some r → r ≠ q0) : SL n a2 kk sl (dU D q0 X) := fun j hj => by
  obtain ⟨h1, h2⟩ := w j hj
  refine ⟨h1, fun q hq2 => ?_⟩
  have hne := hq j q hj hq2
  rw [dU_n hne]
  exact h2 q hq2
theorem p_z6 (hz : z ≤ 6) : p_z z = m_z z := by
  unfold p_z m_z
  by_cases c : z = 6
  · rw [if_pos c, if_neg (by omega)]
  · rw [if_neg c]
    by_cases d : z + 1 < 6
    · rw [if_pos d]
    · rw [if_neg d]; omega
/-- a state more is saved -/
theorem PS.save (w : PS n a1 st D nx z) (hz : z ≤ 6) (hnx : nx < 6) (hq : ∀ i r, i < 6 → i ≠ nx → st i = some r → r ≠ q0) (e : eqR S S2) (g : gOk n S) (r : hR S Hf) : PS n (m_sv a1 (en (gu S 1 Hf)) z) (va_up st nx (some q0)) (dU D q0 S2) (p_nx nx) (p_z z) := by
  have new : ∀ b : Nat → Int32, (∀ k, k < 372 → b k = en (gu S 1 Hf) k) → ∃ q Hq, va_up st nx (some q0) nx = some q ∧ gOk n (dU D q0 S2 q) ∧ hR (dU D q0 S2 q) Hq ∧ ∀ k, k < 372 → b k = en (gu (dU D q0 S2 q) 1 Hq) k := fun b hb => by
    refine ⟨q0, Hf, vup_s _ _ _, ?_, ?_, ?_⟩
    · rw [dU_s]; exact e.ok g
    · rw [dU_s]; exact e.rel g r
    · intro k hk
      rw [dU_s, e.gus.ens]
      exact hb k hk
  have old : ∀ (i j : Nat) (b : Nat → Int32), i < z → j = (nx + 6 - z + i) % 6 → j ≠ nx → (∀ k, k < 372 → b k = a1 (372 * i + k)) → ∃ q Hq, va_up st nx (some q0) j = some q ∧ gOk n (dU D q0 S2 q) ∧ hR (dU D q0 S2 q) Hq ∧ ∀ k, k < 372 → b k = en (gu (dU D q0 S2 q) 1 Hq) k := fun i j b hi hj hne hb => by
    obtain ⟨q, Hq, h1, h2, h3, h4⟩ := w i hi
    rw [← hj] at h1
    have hne2 := hq j q (by rw [hj]; exact Nat.mod_lt _ (by decide)) hne h1
    refine ⟨q, Hq, by rw [vup_n hne]; exact h1, by rw [dU_n hne2]; exact h2, by rw [dU_n hne2]; exact h3, fun k hk => ?_⟩
    rw [dU_n hne2, hb k hk]
    exact h4 k hk
  by_cases c : z = 6
  · subst c
    have ep : p_z 6 = 6 := rfl
    rw [ep]
    intro i hi
    have en_ : (p_nx nx + 6 - 6 + i) % 6 = (nx + 1 + i) % 6 := by
      unfold p_nx
      by_cases d : nx + 1 < 6
      · rw [if_pos d]; omega
      · rw [if_neg d]; omega
    rw [en_]
    unfold m_sv
    rw [if_pos rfl]
    by_cases d : i = 5
    · subst d
      rw [show (nx + 1 + 5) % 6 = nx by omega]
      refine new _ (fun k hk => ?_)
      unfold va_cpy
      rw [if_pos ⟨by omega, by omega⟩]
      exact congrArg (en (gu S 1 Hf)) (by omega)
    · refine old (i + 1) _ _ (by omega) (by omega) (by omega) (fun k hk => ?_)
      unfold va_cpy
      rw [if_neg (by omega), if_pos ⟨by omega, by omega⟩]
      exact congrArg (a1) (by omega)
  · have ep : p_z z = z + 1 := by rw [p_z6 hz]; unfold m_z; rw [if_neg c]
    rw [ep]
    intro i hi
    have en_ : (p_nx nx + 6 - (z + 1) + i) % 6 = (nx + 6 - z + i) % 6 := by
      unfold p_nx
      by_cases d : nx + 1 < 6
      · rw [if_pos d]; omega
      · rw [if_neg d]; omega
    rw [en_]
    unfold m_sv
    rw [if_neg c]
    by_cases d : i = z
    · subst d
      rw [show (nx + 6 - i + i) % 6 = nx by omega]
      refine new _ (fun k hk => ?_)
      unfold va_cpy
      rw [if_pos ⟨by omega, by omega⟩]
      exact congrArg (en (gu S 1 Hf)) (by omega)
    · refine old i _ _ (by omega) rfl (by omega) (fun k hk => ?_)
      unfold va_cpy
      rw [if_neg (by omega)]
theorem PS.last (w : PS n a1 st D nx z) (hz : z ≤ 6) (hz1 : 1 ≤ z) (hnx : nx < 6) : ∃ q Hq, st (p_last nx) = some q ∧ gOk n (D q) ∧ hR (D q) Hq ∧ ∀ k, k < 372 → a1 (372 * (z - 1) + k) = en (gu (D q) 1 Hq) k := by
  have h := w (z - 1) (by omega)
  rw [show (nx + 6 - z + (z - 1)) % 6 = p_last nx by unfold p_last; split <;> omega] at h
  exact h
theorem PS.drop (w : PS n a1 st D nx z) (hz : z ≤ 6) (hz1 : 1 ≤ z) (hnx : nx < 6) : PS n a1 st D (p_last nx) (z - 1) := by
  intro i hi
  have h := w i (by omega)
  rw [show (nx + 6 - z + i) % 6 = (p_last nx + 6 - (z - 1) + i) % 6 by unfold p_last; split <;> omega] at h
  exact h
theorem bit_or : ∀ kk, kk < 4 → ∀ j, j < 2 → ∀ i, i < 2 → ((kk ||| 2 ^ j) / 2 ^ i % 2 = 1 ↔ (i = j ∨ kk / 2 ^ i % 2 = 1)) ∧ kk ||| 2 ^ j < 4 := by decide +kernel
/-- a slot is filled -/
theorem SL.keep {j : Nat} (w : SL n a2 kk sl D) (hk4 : kk < 4) (hj : j < 2) (hq : ∀ i r, i < 2 → i ≠ j → sl i = some r → r ≠ q0) (e : eqR S S2) (g : gOk n S) (r : hR S Hf) : SL n (va_cpy (en (gu S 1 Hf)) a2 0 (372 * j) 372) (kk ||| 2 ^ j) (va_up sl j (some q0)) (dU D q0 S2) := by
  intro i hi
  obtain ⟨b1, -⟩ := bit_or kk hk4 j hj i hi
  by_cases c : i = j
  · subst c
    rw [vup_s]
    refine ⟨⟨fun _ => rfl, fun _ => b1.mpr (Or.inl rfl)⟩, fun q hq2 => ?_⟩
    cases hq2
    rw [dU_s]
    refine ⟨e.ok g, Hf, e.rel g r, fun k hk => ?_⟩
    rw [e.gus.ens]
    unfold va_cpy
    rw [if_pos ⟨by omega, by omega⟩]
    exact congrArg (en (gu S 1 Hf)) (by omega)
  · rw [vup_n c]
    obtain ⟨h1, h2⟩ := w i hi
    refine ⟨⟨fun x => h1.mp ((b1.mp x).resolve_left c), fun x => b1.mpr (Or.inr (h1.mpr x))⟩, fun q hq2 => ?_⟩
    have hne := hq i q hi c hq2
    rw [dU_n hne]
    obtain ⟨h3, Hq, h4, h5⟩ := h2 q hq2
    refine ⟨h3, Hq, h4, fun k hk => ?_⟩
    unfold va_cpy
    rw [if_neg (by omega)]
    exact h5 k hk
end KP
