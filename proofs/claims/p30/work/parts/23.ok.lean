/-! A GAME IN ORDER: gO n S P K W Q T F H R L gr ag: players, taken, setting, passes, turns, refusals; H held, R row lengths, L lost, gr grades, ag ages -/
theorem at0 {f : Nat → Int32} {t w : Nat} (ht : t < 28) (hw : w < 7) : tAt 7 196 f (nI t) (nI w) = f (t * 7 + w) := tAt_in (C := 7) (by omega) (by decide)
theorem put0 {S : gS} {t w : Nat} {v : Int32} (ht : t < 28) (hw : w < 7) : gP S 0 (nI t) (nI w) v = gu S 0 (upd (S 0) (t * 7 + w) v) := by
  show gu S 0 (tPut (nI 7) 196 (S 0) (nI t) (nI w) v) = _
  rw [tPut_in (by omega) (by decide)]
theorem inc0 {S : gS} {t w : Nat} {v : Int32} (ht : t < 28) (hw : w < 7) : gI S 0 (nI t) (nI w) v = gu S 0 (upd (S 0) (t * 7 + w) (S 0 (t * 7 + w) + v)) := by
  show gu S 0 (tInc (nI 7) 196 (S 0) (nI t) (nI w) v) = _
  rw [tInc_in (by omega) (by decide)]
theorem at1 {f : Nat → Int32} {t w : Nat} (ht : t < 4) (hw : w < 28) : tAt 28 112 f (nI t) (nI w) = f (t * 28 + w) := tAt_in (C := 28) (by omega) (by decide)
theorem put1 {S : gS} {t w : Nat} {v : Int32} (ht : t < 4) (hw : w < 28) : gP S 1 (nI t) (nI w) v = gu S 1 (upd (S 1) (t * 28 + w) v) := by
  show gu S 1 (tPut (nI 28) 112 (S 1) (nI t) (nI w) v) = _
  rw [tPut_in (by omega) (by decide)]
theorem inc1 {S : gS} {t w : Nat} {v : Int32} (ht : t < 4) (hw : w < 28) : gI S 1 (nI t) (nI w) v = gu S 1 (upd (S 1) (t * 28 + w) (S 1 (t * 28 + w) + v)) := by
  show gu S 1 (tInc (nI 28) 112 (S 1) (nI t) (nI w) v) = _
  rw [tInc_in (by omega) (by decide)]
theorem at2 {f : Nat → Int32} {t w : Nat} (ht : t < 4) (hw : w < 4) : tAt 4 16 f (nI t) (nI w) = f (t * 4 + w) := tAt_in (C := 4) (by omega) (by decide)
theorem put2 {S : gS} {t w : Nat} {v : Int32} (ht : t < 4) (hw : w < 4) : gP S 2 (nI t) (nI w) v = gu S 2 (upd (S 2) (t * 4 + w) v) := by
  show gu S 2 (tPut (nI 4) 16 (S 2) (nI t) (nI w) v) = _
  rw [tPut_in (by omega) (by decide)]
theorem inc2 {S : gS} {t w : Nat} {v : Int32} (ht : t < 4) (hw : w < 4) : gI S 2 (nI t) (nI w) v = gu S 2 (upd (S 2) (t * 4 + w) (S 2 (t * 4 + w) + v)) := by
  show gu S 2 (tInc (nI 4) 16 (S 2) (nI t) (nI w) v) = _
  rw [tInc_in (by omega) (by decide)]
theorem at3 {f : Nat → Int32} {t w : Nat} (ht : t < 3) (hw : w < 4) : tAt 4 12 f (nI t) (nI w) = f (t * 4 + w) := tAt_in (C := 4) (by omega) (by decide)
theorem put3 {S : gS} {t w : Nat} {v : Int32} (ht : t < 3) (hw : w < 4) : gP S 3 (nI t) (nI w) v = gu S 3 (upd (S 3) (t * 4 + w) v) := by
  show gu S 3 (tPut (nI 4) 12 (S 3) (nI t) (nI w) v) = _
  rw [tPut_in (by omega) (by decide)]
theorem inc3 {S : gS} {t w : Nat} {v : Int32} (ht : t < 3) (hw : w < 4) : gI S 3 (nI t) (nI w) v = gu S 3 (upd (S 3) (t * 4 + w) (S 3 (t * 4 + w) + v)) := by
  show gu S 3 (tInc (nI 4) 12 (S 3) (nI t) (nI w) v) = _
  rw [tInc_in (by omega) (by decide)]
theorem at4 {f : Nat → Int32} {i : Nat} (h : i < 28) : tAt 28 28 f 0 (nI i) = f i := by
  have e := tAt_in (C := 28) (n := 28) (t := 0) (w := i) (f := f) (by omega) (by decide)
  rw [Nat.zero_mul, Nat.zero_add] at e
  exact e
theorem upd_s {f : Nat → Int32} {k : Nat} {v : Int32} : upd f k v k = v := by unfold upd; exact if_pos rfl
theorem upd_n {f : Nat → Int32} {k j : Nat} {v : Int32} (h : j ≠ k) : upd f k v j = f j := by unfold upd; exact if_neg h
theorem gu_s {S : gS} {j : Nat} {f : Nat → Int32} : gu S j f j = f := by unfold gu; exact if_pos rfl
theorem gu_n {S : gS} {j k : Nat} {f : Nat → Int32} (h : k ≠ j) : gu S j f k = S k := by unfold gu; exact if_neg h
theorem nI_inj {a b : Nat} (ha : a < 2147483648) (hb : b < 2147483648) (h : nI a = nI b) : a = b := by
  have e := congrArg Int32.toInt h
  rw [nI_toInt ha, nI_toInt hb] at e
  omega
theorem nI_dec {a : Nat} (h : 1 ≤ a) : nI a + (-1) = nI (a - 1) := by
  rw [← Int32.sub_eq_add_neg]
  exact pk_sub (b := 1) h
def fu (f : Nat → Nat) (k v : Nat) : Nat → Nat := fun j => if j = k then v else f j
theorem fu_s {f : Nat → Nat} {k v : Nat} : fu f k v k = v := by unfold fu; exact if_pos rfl
theorem fu_n {f : Nat → Nat} {k v j : Nat} (h : j ≠ k) : fu f k v j = f j := by unfold fu; exact if_neg h
def nsum (f : Nat → Nat) : Nat → Nat
  | 0 => 0
  | n + 1 => nsum f n + f n
theorem nsum_eq {f g : Nat → Nat} : ∀ {n : Nat}, (∀ t, t < n → f t = g t) → nsum f n = nsum g n := by
  intro n
  induction n with
  | zero => intro _; rfl
  | succ n ih => intro h; show nsum f n + f n = nsum g n + g n; rw [ih (fun t ht => h t (by omega)), h n (by omega)]
theorem nsum_upd {f g : Nat → Nat} {k : Nat} (h : ∀ t, t ≠ k → f t = g t) : ∀ {n : Nat}, k < n → nsum f n + g k = nsum g n + f k := by
  intro n
  induction n with
  | zero => intro h; omega
  | succ n ih =>
    intro hk
    show nsum f n + f n + g k = nsum g n + g n + f k
    by_cases c : k = n
    · subst c
      rw [nsum_eq (f := f) (g := g) (fun t ht => h t (by omega))]
      omega
    · have := ih (by omega)
      rw [h n (fun e => c e.symm)]
      omega
def o5 (n : Nat) (f : Nat → Int32) (P K W Q T F : Nat) : Prop := (2 ≤ P ∧ P ≤ 4 ∧ K ≤ 28 ∧ 1 ≤ W ∧ W ≤ 9 ∧ Q ≤ P ∧ F ≤ n) ∧ f 0 = nI P ∧ f 2 = nI K ∧ f 3 = nI T ∧ f 4 = nI Q ∧ f 5 = nI F ∧ f 7 = nI W
def om (f : Nat → Int32) (P : Nat) : Prop := f 1 = -1 ∨ ∃ m, m < P ∧ f 1 = nI m
def o2 (f : Nat → Int32) (P : Nat) (H L : Nat → Nat) : Prop := (∀ p, p < 4 → f (p * 4) = nI (H p) ∧ f (p * 4 + 1) = nI (L p)) ∧ ∀ p, P ≤ p → p < 4 → H p = 0 ∧ L p = 0 ∧ f (p * 4 + 2) = 0 ∧ f (p * 4 + 3) = 0
def o3 (f : Nat → Int32) (R : Nat → Nat) : Prop := ∀ r, r < 3 → f (r * 4) = nI (R r)
def o4 (f : Nat → Int32) : Prop := (∀ i, i < 28 → ∃ t, t < 28 ∧ f i = nI t) ∧ ∀ i j, i < j → j < 28 → f i ≠ f j
def o1 (f f4 : Nat → Int32) (K : Nat) (H : Nat → Nat) : Prop := (∀ p, p < 4 → ∀ i, i < H p → ∃ j, j < K ∧ f (p * 28 + i) = f4 j) ∧ ∀ p, p < 4 → ∀ i j, i < j → j < H p → f (p * 28 + i) ≠ f (p * 28 + j)
def o0 (f : Nat → Int32) (gr : Nat → Nat → Nat) (ag : Nat → Nat) : Prop := ∀ t, t < 28 → f (t * 7) = nI (gr t 0) ∧ f (t * 7 + 1) = nI (gr t 1) ∧ gr t 0 < 7 ∧ gr t 1 < 7 ∧ f (t * 7 + 4) = nI (ag t)
def os (gr : Nat → Nat → Nat) (L : Nat → Nat) : Prop := nsum (fun t => gr t 0 + gr t 1) 28 + (L 0 + L 1 + L 2 + L 3) = 168
def oh (H R : Nat → Nat) (K : Nat) : Prop := H 0 + H 1 + H 2 + H 3 + (R 0 + R 1 + R 2) = K
def gO (n : Nat) (S : gS) (P K W Q T F : Nat) (H R L : Nat → Nat) (gr : Nat → Nat → Nat) (ag : Nat → Nat) : Prop := o5 n (S 5) P K W Q T F ∧ om (S 5) P ∧ o2 (S 2) P H L ∧ o3 (S 3) R ∧ o4 (S 4) ∧ o1 (S 1) (S 4) K H ∧ o0 (S 0) gr ag ∧ os gr L ∧ oh H R K
def oT (S : gS) (P K Q T : Nat) (R ag : Nat → Nat) : Prop := T ≤ 5 * (K + (R 0 + R 1 + R 2)) + Q ∧ (∀ t, t < 28 → ag t ≤ T) ∧ (S 5 1 = -1 ∨ Q < P)
def gOk (n : Nat) (S : gS) : Prop := ∃ P K W Q T F H R L gr ag, gO n S P K W Q T F H R L gr ag ∧ oT S P K Q T R ag
section OK
variable {n : Nat} {S : gS} {P K W Q T F : Nat} {H R L : Nat → Nat} {gr : Nat → Nat → Nat} {ag : Nat → Nat}
theorem oh_le (h : oh H R K) {p : Nat} (hp : p < 4) : H p ≤ K := by
  unfold oh at h
  rcases (show p = 0 ∨ p = 1 ∨ p = 2 ∨ p = 3 by omega) with rfl | rfl | rfl | rfl <;> omega
theorem oh_lr (h : oh H R K) {p : Nat} (hp : p < 3) : R p ≤ K := by
  unfold oh at h
  rcases (show p = 0 ∨ p = 1 ∨ p = 2 by omega) with rfl | rfl | rfl <;> omega
theorem gO.n5 (o : gO n S P K W Q T F H R L gr ag) : o5 n (S 5) P K W Q T F := o.1
theorem gO.mv (o : gO n S P K W Q T F H R L gr ag) : om (S 5) P := o.2.1
theorem gO.t2 (o : gO n S P K W Q T F H R L gr ag) : o2 (S 2) P H L := o.2.2.1
theorem gO.t3 (o : gO n S P K W Q T F H R L gr ag) : o3 (S 3) R := o.2.2.2.1
theorem gO.t4 (o : gO n S P K W Q T F H R L gr ag) : o4 (S 4) := o.2.2.2.2.1
theorem gO.t1 (o : gO n S P K W Q T F H R L gr ag) : o1 (S 1) (S 4) K H := o.2.2.2.2.2.1
theorem gO.t0 (o : gO n S P K W Q T F H R L gr ag) : o0 (S 0) gr ag := o.2.2.2.2.2.2.1
theorem gO.sm (o : gO n S P K W Q T F H R L gr ag) : os gr L := o.2.2.2.2.2.2.2.1
theorem gO.hh (o : gO n S P K W Q T F H R L gr ag) : oh H R K := o.2.2.2.2.2.2.2.2
theorem gO.held (o : gO n S P K W Q T F H R L gr ag) {p : Nat} (hp : p < 4) : tAt 4 16 (S 2) (nI p) 0 = nI (H p) := (at2 (w := 0) hp (by decide)).trans ((o.t2.1 p hp).1)
theorem gO.hand (o : gO n S P K W Q T F H R L gr ag) {p i : Nat} (hp : p < 4) (hi : i < H p) : ∃ t, t < 28 ∧ tAt 28 112 (S 1) (nI p) (nI i) = nI t := by
  have hK : K ≤ 28 := o.n5.1.2.2.1
  have hh := oh_le o.hh hp
  obtain ⟨j, hj, e⟩ := o.t1.1 p hp i hi
  obtain ⟨t, ht, e2⟩ := o.t4.1 j (by omega)
  exact ⟨t, ht, by rw [at1 hp (by omega), e, e2]⟩
theorem gO.nb (o : gO n S P K W Q T F H R L gr ag) : nB S := by
  have hK : K ≤ 28 := o.n5.1.2.2.1
  refine ⟨⟨P, o.n5.1.1, o.n5.1.2.1, o.n5.2.1, ?_, ?_⟩, ⟨K, hK, o.n5.2.2.1⟩, ?_, ?_, ?_, ?_⟩
  · rcases o.mv with h | ⟨m, h1, h2⟩
    · exact Or.inl h
    · exact Or.inr ⟨m, h1, h2⟩
  · intro p hp hp4 q hq
    rw [at2 hp4 hq]
    obtain ⟨h1, h2, h3, h4⟩ := o.t2.2 p hp hp4
    rcases (show q = 0 ∨ q = 1 ∨ q = 2 ∨ q = 3 by omega) with rfl | rfl | rfl | rfl
    · have e := (o.t2.1 p hp4).1; rw [h1] at e; exact e
    · have e := (o.t2.1 p hp4).2; rw [h2] at e; exact e
    · exact h3
    · exact h4
  · intro p hp
    have hh := oh_le o.hh hp
    exact ⟨H p, by omega, o.held hp, fun i hi => o.hand hp hi⟩
  · intro i hi
    obtain ⟨t, ht, e⟩ := o.t4.1 i hi
    exact ⟨t, ht, by rw [at4 hi, e]⟩
  · intro t ht w hw
    obtain ⟨h1, h2, h3, h4, -⟩ := o.t0 t ht
    rcases (show w = 0 ∨ w = 1 by omega) with rfl | rfl
    · exact ⟨gr t 0, h3, by rw [at0 ht (by decide)]; exact h1⟩
    · exact ⟨gr t 1, h4, by rw [at0 ht (by decide)]; exact h2⟩
  · intro r hr
    have hh := oh_lr o.hh hr
    exact ⟨R r, by omega, by
      have e := at3 (f := S 3) (w := 0) hr (by decide)
      exact e.trans (o.t3 r hr)⟩
theorem gOk.nb (h : gOk n S) : nB S := by
  obtain ⟨P, K, W, Q, T, F, H, R, L, gr, ag, o, -⟩ := h
  exact o.nb
theorem o5.up {n2 : Nat} {f : Nat → Int32} (h : o5 n f P K W Q T F) (hn : n ≤ n2) : o5 n2 f P K W Q T F := ⟨⟨h.1.1, h.1.2.1, h.1.2.2.1, h.1.2.2.2.1, h.1.2.2.2.2.1, h.1.2.2.2.2.2.1, Nat.le_trans h.1.2.2.2.2.2.2 hn⟩, h.2⟩
theorem gO.up {n2 : Nat} (o : gO n S P K W Q T F H R L gr ag) (hn : n ≤ n2) : gO n2 S P K W Q T F H R L gr ag := ⟨o.1.up hn, o.2⟩
theorem gOk.up {n2 : Nat} (h : gOk n S) (hn : n ≤ n2) : gOk n2 S := by
  obtain ⟨P, K, W, Q, T, F, H, R, L, gr, ag, o, t⟩ := h
  exact ⟨P, K, W, Q, T, F, H, R, L, gr, ag, o.up hn, t⟩
/-- a tile becomes a turn older -/
theorem gO.older (o : gO n S P K W Q T F H R L gr ag) {t : Nat} (ht : t < 28) : gO n (gI S 0 (nI t) 4 1) P K W Q T F H R L gr (fu ag t (ag t + 1)) := by
  rw [show gI S 0 (nI t) 4 1 = gu S 0 (upd (S 0) (t * 7 + 4) (S 0 (t * 7 + 4) + 1)) from inc0 (w := 4) ht (by decide)]
  refine ⟨o.1, o.2.1, o.2.2.1, o.2.2.2.1, o.2.2.2.2.1, o.2.2.2.2.2.1, ?_, o.2.2.2.2.2.2.2⟩
  show o0 (upd (S 0) (t * 7 + 4) (S 0 (t * 7 + 4) + 1)) gr _
  intro u hu
  obtain ⟨h1, h2, h3, h4, h5⟩ := o.t0 u hu
  rw [upd_n (by omega), upd_n (by omega)]
  refine ⟨h1, h2, h3, h4, ?_⟩
  by_cases c : u = t
  · subst c
    rw [upd_s, fu_s, h5, nI_1]
  · rw [upd_n (by omega), fu_n c, h5]
/-- a half rusts -/
theorem gO.rust (o : gO n S P K W Q T F H R L gr ag) {t p : Nat} (ht : t < 28) (hp : p < P) : ∃ L2 gr2, gO n (g_rust S (nI t) (nI p)) P K W Q T F H R L2 gr2 ag := by
  have hP : P ≤ 4 := o.n5.1.2.1
  obtain ⟨h1, h2, h3, h4, h5⟩ := o.t0 t ht
  have key : ∀ w, w < 2 → ∃ L2 gr2, gO n (if tAt 7 196 (S 0) (nI t) (nI w) ≤ 0 then S else gI (gI (gI S 0 (nI t) (nI w) (-1)) 0 (nI t) 6 1) 2 (nI p) 1 1) P K W Q T F H R L2 gr2 ag := by
    intro w hw
    have hg : S 0 (t * 7 + w) = nI (gr t w) ∧ gr t w < 7 := by
      rcases (show w = 0 ∨ w = 1 by omega) with rfl | rfl
      · exact ⟨h1, h3⟩
      · exact ⟨h2, h4⟩
    by_cases c : tAt 7 196 (S 0) (nI t) (nI w) ≤ 0
    · rw [if_pos c]; exact ⟨L, gr, o⟩
    · rw [if_neg c]
      have hg1 : 1 ≤ gr t w := by
        rcases Nat.eq_zero_or_pos (gr t w) with z | z
        · exfalso
          apply c
          rw [at0 ht (by omega), hg.1, z]
          decide
        · exact z
      rw [inc0 ht (by omega), show gI (gu S 0 (upd (S 0) (t * 7 + w) (S 0 (t * 7 + w) + -1))) 0 (nI t) 6 1 = _ from inc0 (w := 6) ht (by decide), show ∀ X : gS, gI X 2 (nI p) 1 1 = _ from fun X => inc2 (S := X) (w := 1) (by omega) (by decide)]
      refine ⟨fu L p (L p + 1), fun u => if u = t then fu (gr t) w (gr t w - 1) else gr u, ?_⟩
      refine ⟨o.1, o.2.1, ?_, o.2.2.2.1, o.2.2.2.2.1, o.2.2.2.2.2.1, ?_, ?_, o.hh⟩
      · show o2 (upd (S 2) (p * 4 + 1) (S 2 (p * 4 + 1) + 1)) P H _
        refine ⟨fun q hq => ?_, fun q hq hq4 => ?_⟩
        · obtain ⟨k1, k2⟩ := o.t2.1 q hq
          rw [upd_n (by omega)]
          refine ⟨k1, ?_⟩
          by_cases d : q = p
          · subst d; rw [upd_s, fu_s, k2, nI_1]
          · rw [upd_n (by omega), fu_n d, k2]
        · obtain ⟨k1, k2, k3, k4⟩ := o.t2.2 q hq hq4
          rw [fu_n (by omega), upd_n (by omega), upd_n (by omega)]
          exact ⟨k1, k2, k3, k4⟩
      · show o0 (upd (upd (S 0) (t * 7 + w) (S 0 (t * 7 + w) + -1)) (t * 7 + 6) (upd (S 0) (t * 7 + w) (S 0 (t * 7 + w) + -1) (t * 7 + 6) + 1)) _ ag
        intro u hu
        obtain ⟨m1, m2, m3, m4, m5⟩ := o.t0 u hu
        rw [upd_n (show u * 7 ≠ t * 7 + 6 by omega), upd_n (show u * 7 + 1 ≠ t * 7 + 6 by omega), upd_n (show u * 7 + 4 ≠ t * 7 + 6 by omega), upd_n (show u * 7 + 4 ≠ t * 7 + w by omega)]
        by_cases d : u = t
        · subst d
          simp only [if_true]
          rcases (show w = 0 ∨ w = 1 by omega) with rfl | rfl
          · rw [show u * 7 + 0 = u * 7 from rfl, upd_s, upd_n (by omega), fu_s, fu_n (by decide)]
            exact ⟨by rw [m1, nI_dec hg1], m2, by omega, m4, m5⟩
          · rw [upd_s, upd_n (by omega), fu_s, fu_n (by decide)]
            exact ⟨m1, by rw [m2, nI_dec hg1], m3, by omega, m5⟩
        · rw [upd_n (by omega), upd_n (by omega)]
          simp only [if_neg d]
          exact ⟨m1, m2, m3, m4, m5⟩
      · unfold os
        have hs := o.sm
        unfold os at hs
        have hu := nsum_upd (f := fun u => (if u = t then fu (gr t) w (gr t w - 1) else gr u) 0 + (if u = t then fu (gr t) w (gr t w - 1) else gr u) 1) (g := fun u => gr u 0 + gr u 1) (k := t) (fun u hu => by simp only [if_neg hu]) (n := 28) ht
        have hw2 : (if t = t then fu (gr t) w (gr t w - 1) else gr t) 0 + (if t = t then fu (gr t) w (gr t w - 1) else gr t) 1 + 1 = gr t 0 + gr t 1 := by
          rw [if_pos rfl]
          rcases (show w = 0 ∨ w = 1 by omega) with rfl | rfl
          · rw [fu_s, fu_n (by decide)]; omega
          · rw [fu_s, fu_n (by decide)]; omega
        have hL : fu L p (L p + 1) 0 + fu L p (L p + 1) 1 + fu L p (L p + 1) 2 + fu L p (L p + 1) 3 = L 0 + L 1 + L 2 + L 3 + 1 := by
          rcases (show p = 0 ∨ p = 1 ∨ p = 2 ∨ p = 3 by omega) with rfl | rfl | rfl | rfl
          · rw [fu_s, fu_n (by decide), fu_n (by decide), fu_n (by decide)]; omega
          · rw [fu_s, fu_n (by decide), fu_n (by decide), fu_n (by decide)]; omega
          · rw [fu_s, fu_n (by decide), fu_n (by decide), fu_n (by decide)]; omega
          · rw [fu_s, fu_n (by decide), fu_n (by decide), fu_n (by decide)]; omega
        rw [hL]
        simp only [] at hu hw2 ⊢
        omega
  unfold g_rust
  by_cases c : tAt 7 196 (S 0) (nI t) 0 < tAt 7 196 (S 0) (nI t) 1
  · have e : g_rustH S (nI t) = nI 1 := by unfold g_rustH; rw [if_pos c]; rfl
    rw [e]
    exact key 1 (by decide)
  · have e : g_rustH S (nI t) = nI 0 := by unfold g_rustH; rw [if_neg c]; rfl
    rw [e]
    exact key 0 (by decide)
theorem gO.age1 (o : gO n S P K W Q T F H R L gr ag) {t p : Nat} (ht : t < 28) (hp : p < P) : ∃ L2 gr2, gO n (g_age1 S (nI t) (nI p)) P K W Q T F H R L2 gr2 (fu ag t (ag t + 1)) := by
  have o2 := o.older ht
  unfold g_age1
  split
  · exact o2.rust ht hp
  · exact ⟨L, gr, o2⟩
theorem rust_1 (t p : Int32) : (g_rust S t p) 1 = S 1 ∧ (g_rust S t p) 5 = S 5 ∧ (g_rust S t p) 3 = S 3 ∧ (g_rust S t p) 4 = S 4 := by
  unfold g_rust
  split
  · exact ⟨rfl, rfl, rfl, rfl⟩
  · exact ⟨rfl, rfl, rfl, rfl⟩
theorem age1_1 (t p : Int32) : (g_age1 S t p) 1 = S 1 ∧ (g_age1 S t p) 5 = S 5 ∧ (g_age1 S t p) 3 = S 3 ∧ (g_age1 S t p) 4 = S 4 := by
  unfold g_age1
  split
  · exact rust_1 t p
  · exact ⟨rfl, rfl, rfl, rfl⟩
theorem age_1 (p : Int32) : ∀ i, (g_age S p i) 1 = S 1 ∧ (g_age S p i) 5 = S 5 ∧ (g_age S p i) 3 = S 3 ∧ (g_age S p i) 4 = S 4 := by
  intro i
  induction i with
  | zero => exact ⟨rfl, rfl, rfl, rfl⟩
  | succ i ih =>
    obtain ⟨h1, h2, h3, h4⟩ := age1_1 (S := g_age S p i) (g_hand (g_age S p i) p (nI i)) p
    exact ⟨h1.trans ih.1, h2.trans ih.2.1, h3.trans ih.2.2.1, h4.trans ih.2.2.2⟩
/-- a hand ages: each of its tiles once -/
theorem gO.age (o : gO n S P K W Q T F H R L gr ag) {p : Nat} (hp : p < P) : ∀ i, i ≤ H p → ∃ L2 gr2 ag2, gO n (g_age S (nI p) i) P K W Q T F H R L2 gr2 ag2 ∧ ∀ t, t < 28 → (ag2 t ≤ ag t + 1 ∧ ((∀ j, j < i → S 1 (p * 28 + j) ≠ nI t) → ag2 t = ag t)) := by
  have hP : P ≤ 4 := o.n5.1.2.1
  have hK : K ≤ 28 := o.n5.1.2.2.1
  have hh := oh_le o.hh (show p < 4 by omega)
  intro i
  induction i with
  | zero => intro _; exact ⟨L, gr, ag, o, fun t _ => ⟨by omega, fun _ => rfl⟩⟩
  | succ i ih =>
    intro hi
    obtain ⟨L2, gr2, ag2, o2, ha⟩ := ih (by omega)
    obtain ⟨t, ht, et⟩ := o2.hand (p := p) (i := i) (by omega) (by omega)
    obtain ⟨L3, gr3, o3⟩ := o2.age1 (t := t) (p := p) ht hp
    have et2 : g_hand (g_age S (nI p) i) (nI p) (nI i) = nI t := et
    refine ⟨L3, gr3, fu ag2 t (ag2 t + 1), ?_, fun u hu => ?_⟩
    · show gO n (g_age1 (g_age S (nI p) i) (g_hand (g_age S (nI p) i) (nI p) (nI i)) (nI p)) _ _ _ _ _ _ _ _ _ _ _
      rw [et2]
      exact o3
    · have et3 : S 1 (p * 28 + i) = nI t := by rw [at1 (by omega) (by omega), (age_1 (nI p) i).1] at et; exact et
      by_cases c : u = t
      · subst c
        have hn : ∀ j, j < i → S 1 (p * 28 + j) ≠ nI u := fun j hj e => o.t1.2 p (by omega) j i hj (by omega) (e.trans et3.symm)
        rw [fu_s, (ha u hu).2 hn]
        exact ⟨Nat.le_refl _, fun q => absurd et3 (q i (by omega))⟩
      · rw [fu_n c]
        exact ⟨(ha u hu).1, fun q => (ha u hu).2 (fun j hj => q j (by omega))⟩
/-- a turn ends -/
theorem gO.ended (o : gO n S P K W Q T F H R L gr ag) {q : Nat} (hq : q < P) (hm : S 5 1 = nI q) (h1 : T + 1 ≤ 5 * (K + (R 0 + R 1 + R 2)) + Q) (h2 : ∀ t, t < 28 → ag t ≤ T) : gOk n (g_end S) := by
  have hP : P ≤ 4 := o.n5.1.2.1
  have hK : K ≤ 28 := o.n5.1.2.2.1
  have o' : gO n (gc S 3 (S 5 3 + 1)) P K W Q (T + 1) F H R L gr ag := by
    obtain ⟨k0, k1, k2, k3, k4, k5, k6⟩ := o.n5
    exact ⟨⟨k0, k1, k2, by show S 5 3 + 1 = nI (T + 1); rw [k3, nI_1], k4, k5, k6⟩, o.2⟩
  have hH : (g_held (g_end0 S) ((g_end0 S) 5 1)).toNatClampNeg = H q := by
    rw [show (g_end0 S) 5 1 = nI q from hm, show g_held (g_end0 S) (nI q) = nI (H q) from o.held (by omega), nI_clamp (by have := oh_le o.hh (show q < 4 by omega); omega)]
  obtain ⟨L2, gr2, ag2, o2, ha⟩ := o'.age (p := q) hq (H q) (Nat.le_refl _)
  have eA : g_ages (g_end0 S) ((g_end0 S) 5 1) = g_age (gc S 3 (S 5 3 + 1)) (nI q) (H q) := by
    unfold g_ages
    rw [hH, show (g_end0 S) 5 1 = nI q from hm]
    rfl
  have e5 : ∀ k, (g_age (gc S 3 (S 5 3 + 1)) (nI q) (H q)) 5 k = (gc S 3 (S 5 3 + 1)) 5 k := fun k => congrFun (age_1 (S := gc S 3 (S 5 3 + 1)) (nI q) (H q)).2.1 k
  have ht2 : ∀ t, t < 28 → ag2 t ≤ T + 1 := fun t ht => Nat.le_trans (ha t ht).1 (by have := h2 t ht; omega)
  obtain ⟨k0, k1, k2, k3, k4, k5, k6⟩ := o2.n5
  unfold g_end
  rw [eA]
  split
  · exact ⟨P, K, W, Q, T + 1, F, H, R, L2, gr2, ag2, ⟨⟨k0, k1, k2, k3, k4, k5, k6⟩, Or.inl rfl, o2.2.2⟩, h1, ht2, Or.inl rfl⟩
  · rename_i hE
    have hQ : Q < P := by
      have h4 : ¬ (!decide ((g_end0 S) 5 4 < (g_end0 S) 5 0)) = true := fun e => hE (by unfold g_ended; rw [e, Bool.or_true])
      have h5 : (g_end0 S) 5 4 < (g_end0 S) 5 0 := by simpa using h4
      rw [show (g_end0 S) 5 4 = nI Q from o.n5.2.2.2.2.1, show (g_end0 S) 5 0 = nI P from o.n5.2.1] at h5
      have := o.n5.1.2.2.2.2.2.1
      exact (nI_ltI (by omega) (by omega)).mp h5
    refine ⟨P, K, W, Q, T + 1, F, H, R, L2, gr2, ag2, ⟨⟨k0, k1, k2, k3, k4, k5, k6⟩, Or.inr ?_, o2.2.2⟩, h1, ht2, Or.inr hQ⟩
    unfold g_next
    rw [e5 1, e5 0, show (gc S 3 (S 5 3 + 1)) 5 1 = nI q from hm, show (gc S 3 (S 5 3 + 1)) 5 0 = nI P from o.n5.2.1, nI_1]
    by_cases c : q + 1 < P
    · rw [if_pos (nI_lt c (by omega))]
      exact ⟨q + 1, c, rfl⟩
    · rw [if_neg (fun e => c ((nI_ltI (by omega) (by omega)).mp e))]
      exact ⟨0, by omega, rfl⟩
end OK
