/-! TWO OBJECTS, ALIKE -/
-- what is the same in range
def sz_ (j : Nat) : Nat := if j = 0 then 196 else if j = 1 then 112 else if j = 2 then 16 else if j = 3 then 12 else if j = 4 then 28 else 8
def eqR (S S2 : gS) : Prop := ∀ j, j < 6 → ∀ k, k < sz_ j → S2 j k = S j k
theorem gc5_s {X : gS} {k : Nat} {v : Int32} : gc X k v 5 k = v := by unfold gc gu; rw [if_pos rfl, if_pos rfl]
theorem gc5_n {X : gS} {k j : Nat} {v : Int32} (h : j ≠ k) : gc X k v 5 j = X 5 j := by unfold gc gu; rw [if_pos rfl, if_neg h]
theorem bec_R (X Y : gS) : eqR Y (g_bec X Y) := by
  have n5 : ∀ j, j ≠ 5 → (g_bec X Y) j = (g_bt X Y) j := fun j hj => by
    unfold g_bec
    rw [gc_n hj, gc_n hj, gc_n hj, gc_n hj, gc_n hj, gc_n hj, gc_n hj, gc_n hj]
  have cp : ∀ (a b : Nat → Int32) (N k : Nat), k < N → va_cpy a b 0 0 N k = a k := fun a b N k hk => by
    unfold va_cpy
    rw [if_pos ⟨by omega, by omega⟩, Nat.sub_zero, Nat.zero_add]
  intro j hj k hk
  rcases (show j = 0 ∨ j = 1 ∨ j = 2 ∨ j = 3 ∨ j = 4 ∨ j = 5 by omega) with rfl | rfl | rfl | rfl | rfl | rfl
  · rw [n5 0 (by decide)]; unfold g_bt; rw [gu_n (by decide), gu_n (by decide), gu_n (by decide), gu_n (by decide), gu_s]; exact cp _ _ _ _ hk
  · rw [n5 1 (by decide)]; unfold g_bt; rw [gu_n (by decide), gu_n (by decide), gu_n (by decide), gu_s]; exact cp _ _ _ _ hk
  · rw [n5 2 (by decide)]; unfold g_bt; rw [gu_n (by decide), gu_n (by decide), gu_s]; exact cp _ _ _ _ hk
  · rw [n5 3 (by decide)]; unfold g_bt; rw [gu_n (by decide), gu_s]; exact cp _ _ _ _ hk
  · rw [n5 4 (by decide)]; unfold g_bt; rw [gu_s]; exact cp _ _ _ _ hk
  · have hk8 : k < 8 := hk
    unfold g_bec
    rcases (show k = 0 ∨ k = 1 ∨ k = 2 ∨ k = 3 ∨ k = 4 ∨ k = 5 ∨ k = 6 ∨ k = 7 by omega) with rfl | rfl | rfl | rfl | rfl | rfl | rfl | rfl
    · rw [gc5_n (by decide), gc5_n (by decide), gc5_n (by decide), gc5_n (by decide), gc5_n (by decide), gc5_n (by decide), gc5_n (by decide), gc5_s]
    · rw [gc5_n (by decide), gc5_n (by decide), gc5_n (by decide), gc5_n (by decide), gc5_n (by decide), gc5_n (by decide), gc5_s]
    · rw [gc5_n (by decide), gc5_n (by decide), gc5_n (by decide), gc5_n (by decide), gc5_n (by decide), gc5_s]
    · rw [gc5_n (by decide), gc5_n (by decide), gc5_n (by decide), gc5_n (by decide), gc5_s]
    · rw [gc5_n (by decide), gc5_n (by decide), gc5_n (by decide), gc5_s]
    · rw [gc5_n (by decide), gc5_n (by decide), gc5_s]
    · rw [gc5_n (by decide), gc5_s]
    · rw [gc5_s]
theorem dU_s (D : Nat → gS) (q : Nat) (X : gS) : dU D q X q = X := by unfold dU; exact if_pos rfl
theorem vup_s {α : Type} (f : Nat → α) (k : Nat) (v : α) : va_up f k v k = v := by unfold va_up; exact if_pos rfl
theorem eqR.trans {S X Y : gS} (a : eqR S X) (b : eqR X Y) : eqR S Y := fun j hj k hk => (b j hj k hk).trans (a j hj k hk)
theorem arr_same {G : ga_} {cl : List vw_C} {D0 : va_G} {a n : Nat} {f g : Nat → Int32} {H : Heap} (h : ∀ i, i < n → g i = f i) (w : va_at D0 cl (a, aI_ G n g) H) : va_at D0 cl (a, aI_ G n f) H := by
  show H[a]? = some (arrV _ n (fun j => .int (f j)))
  have w : H[a]? = some (arrV (G.2.1 0) n (fun j => .int (g j))) := w
  rw [w]
  unfold arrV
  rw [show (Array.ofFn (n := n) fun j => Value.int (g j.val)) = Array.ofFn (n := n) fun j => Value.int (f j.val) from congrArg Array.ofFn (funext fun j => by rw [h j.val j.isLt])]
/-- a heap that holds a game holds any game that is the same in range -/
theorem hr_R {G : ga_} {h : HP} {g sz : Nat} {S S0 : gS} {H : Heap} (w : GA G h g S) (e : eqR S0 S) (hr : hr_ G h sz H) : hr_ G (pG G h g S0) sz H := by
  refine ⟨hr.1, hr.2.1, hr.2.2.1, fun a e2 ha => ?_⟩
  by_cases c : g ≤ a ∧ a < g + 11
  · rw [pG_in c.1 c.2] at ha
    have hj : a - g < 11 := by omega
    have hw := w (a - g) hj
    rw [show g + (a - g) = a by omega] at hw
    obtain ⟨q1, q2⟩ := hr.2.2.2 a _ hw
    refine ⟨q1, ?_⟩
    cases ha
    have e5 : ∀ k, k < 8 → S 5 k = S0 5 k := fun k hk => e 5 (by decide) k hk
    rcases (show a - g = 0 ∨ a - g = 1 ∨ a - g = 2 ∨ a - g = 3 ∨ a - g = 4 ∨ a - g = 5 ∨ a - g = 6 ∨ a - g = 7 ∨ a - g = 8 ∨ a - g = 9 ∨ a - g = 10 by omega) with z | z | z | z | z | z | z | z | z | z | z <;> rw [z] at q2 ⊢
    · have : gC G g S0 0 = gC G g S 0 := by
        show ob_ 0 _ = ob_ 0 _
        rw [e5 0 (by decide), e5 1 (by decide), e5 2 (by decide), e5 3 (by decide), e5 4 (by decide), e5 5 (by decide), e5 6 (by decide), e5 7 (by decide)]
      rw [this]
      exact q2
    · exact q2
    · exact arr_same (fun i hi => e 0 (by decide) i hi) q2
    · exact q2
    · exact arr_same (fun i hi => e 1 (by decide) i hi) q2
    · exact q2
    · exact arr_same (fun i hi => e 2 (by decide) i hi) q2
    · exact q2
    · exact arr_same (fun i hi => e 3 (by decide) i hi) q2
    · exact q2
    · exact arr_same (fun i hi => e 4 (by decide) i hi) q2
  · rw [pG_out (by omega)] at ha
    exact hr.2.2.2 a e2 ha
abbrev oS : Type := (Nat → Prop) × (Nat → Option Nat) × (Nat → Option Nat) × (Nat → gS) × Nat × Nat × (Nat → Int32) × Nat
def RO (G : ga_) (h : HP) (x sz : Nat) (S : gS) (u : oS) : Prop := RA G h x u.1 sz S u.2.1 u.2.2.1 u.2.2.2.1 u.2.2.2.2.1 u.2.2.2.2.2.1 u.2.2.2.2.2.2.1 u.2.2.2.2.2.2.2
/-- the first object at x holds S1, the second behind it S2, the answers' row lies behind both -/
def PR (G : ga_) (h : HP) (sz x : Nat) (S1 S2 : gS) (u1 u2 : oS) (f : Nat → Int32) : Prop := RO G h x sz S1 u1 ∧ RO G h (x + 21) sz S2 u2 ∧ h (x + 42) = some (aI_ G 1 f) ∧ (∀ a, u1.1 a → x + 43 ≤ a) ∧ (∀ a, u2.1 a → x + 43 ≤ a) ∧ ∀ a, a < sz → ¬ (u1.1 a ∧ u2.1 a)
/-- what a call made can be undone to -/
def UN (S : gS) (u v : oS) : Prop := v.2.2.2.2.2.1 = p_z u.2.2.2.2.2.1 ∧ ∃ q, v.2.1 (p_last v.2.2.2.2.1) = some q ∧ eqR S (v.2.2.2.1 q)
section PQ
variable {G : ga_} {h h1 h2 : HP} {x sz s1 s2 : Nat} {S S1 S2 S3 : gS} {u1 u2 u3 : oS} {f f2 : Nat → Int32} {r : Int32}
theorem RA.shift {dy dy2 : Nat → Prop} {sv sl : Nat → Option Nat} {D : Nat → gS} {nx z len : Nat} {cf : Nat → Int32} (w : RA G h x dy sz S sv sl D nx z cf len) (hs : sz ≤ s1) (h2 : ∀ a, dy2 a → dy a) (h3 : ∀ a, s1 ≤ a → dy2 a) (h4 : ∀ a, a < sz → dy a → dy2 a) (he : ∀ a, (x ≤ a ∧ a < x + 21) ∨ (dy a ∧ a < sz) → h1 a = h a) : RA G h1 x dy2 s1 S sv sl D nx z cf len := by
  obtain ⟨w0, w1, w2, -, ⟨hf, of, t, w5, w6, w7, w8⟩, ⟨w9, w10⟩, ⟨w11, w12⟩, w13, ⟨w14, wa, wb⟩, w15⟩ := w
  refine ⟨⟨Nat.le_trans w0.1 hs, fun a q => w0.2 a (h2 a q)⟩, (he _ (Or.inl (by omega))).trans w1, w2.eq (fun a q1 q2 => he a (Or.inl (by omega))), trivial, ⟨hf, of, t, (he _ (Or.inl (by omega))).trans w5, (he _ (Or.inl (by omega))).trans w6, (he _ (Or.inl (by omega))).trans w7, (he _ (Or.inl (by omega))).trans w8⟩, ⟨(he _ (Or.inl (by omega))).trans w9, (he _ (Or.inl (by omega))).trans w10⟩, ⟨(he _ (Or.inl (by omega))).trans w11, (he _ (Or.inl (by omega))).trans w12⟩, (he _ (Or.inl (by omega))).trans w13, ⟨h3, fun i q hi hq => ?_, wb⟩, w15⟩
  obtain ⟨k1, k2, k3⟩ := wa i q hi hq
  exact ⟨fun a a1 a2 => h4 a (by omega) (k1 a a1 a2), by omega, k3.eq (fun a a1 a2 => he a (Or.inr ⟨k1 a a1 a2, by omega⟩))⟩
def u_cut (u : oS) (sz s1 : Nat) : oS := (fun a => u.1 a ∧ (a < sz ∨ s1 ≤ a), u.2)
theorem RO.own (w : RO G h x sz S u1) : ∀ a, sz ≤ a → u1.1 a := w.2.2.2.2.2.2.2.2.1.1
theorem PR.fr1 (R : PR G h sz x S1 S2 u1 u2 f) (hs : sz ≤ s1) (hd : u3.1 = u1.1) (w : RO G h1 x s1 S3 u3) (hfr : ∀ a, a ≠ x + 42 → ¬ u1.1 a → (a < x ∨ x + 21 ≤ a) → h1 a = h a) (wo : h1 (x + 42) = some (aI_ G 1 f2)) : PR G h1 s1 x S3 S2 u3 (u_cut u2 sz s1) f2 := by
  obtain ⟨r1, r2, r3, r4, r5, r6⟩ := R
  refine ⟨w, RA.shift r2 hs (fun a q => q.1) (fun a q => ⟨r2.own a (by omega), Or.inr q⟩) (fun a q1 q2 => ⟨q2, Or.inl q1⟩) (fun a q => ?_), wo, by rw [hd]; exact r4, fun a q => r5 a q.1, fun a ha q => ?_⟩
  · rcases q with q | q
    · exact hfr a (by omega) (fun z => by have := r4 a z; omega) (by omega)
    · have := r5 a q.1
      exact hfr a (by omega) (fun z => r6 a q.2 ⟨z, q.1⟩) (by omega)
  · rw [hd] at q
    obtain ⟨q1, q2, q3⟩ := q
    exact r6 a (by omega) ⟨q1, q2⟩
theorem PR.fr2 (R : PR G h sz x S1 S2 u1 u2 f) (hs : sz ≤ s1) (hd : u3.1 = u2.1) (w : RO G h1 (x + 21) s1 S3 u3) (hfr : ∀ a, a ≠ x + 42 → ¬ u2.1 a → (a < x + 21 ∨ x + 21 + 21 ≤ a) → h1 a = h a) (wo : h1 (x + 42) = some (aI_ G 1 f2)) : PR G h1 s1 x S1 S3 (u_cut u1 sz s1) u3 f2 := by
  obtain ⟨r1, r2, r3, r4, r5, r6⟩ := R
  refine ⟨RA.shift r1 hs (fun a q => q.1) (fun a q => ⟨r1.own a (by omega), Or.inr q⟩) (fun a q1 q2 => ⟨q2, Or.inl q1⟩) (fun a q => ?_), w, wo, fun a q => r4 a q.1, by rw [hd]; exact r5, fun a ha q => ?_⟩
  · rcases q with q | q
    · exact hfr a (by omega) (fun z => by have := r5 a z; omega) (by omega)
    · have := r4 a q.1
      exact hfr a (by omega) (fun z => r6 a q.2 ⟨q.1, z⟩) (by omega)
  · rw [hd] at q
    obtain ⟨⟨q1, q3⟩, q2⟩ := q
    exact r6 a (by omega) ⟨q1, q2⟩
theorem PR.up (R : PR G h sz x S1 S2 u1 u2 f) (hs : sz ≤ s1) : PR G h s1 x S1 S2 u1 (u_cut u2 sz s1) f :=
  R.fr1 hs rfl (RA.moved R.1 hs (fun _ _ => rfl)) (fun _ _ _ _ => rfl) R.2.2.1
theorem PR.ho1 (R : PR G h sz x S1 S2 u1 u2 f) : ¬ u1.1 (x + 42) := fun q => by have := R.2.2.2.1 _ q; omega
theorem PR.ho2 (R : PR G h sz x S1 S2 u1 u2 f) : ¬ u2.1 (x + 42) := fun q => by have := R.2.2.2.2.1 _ q; omega
theorem p_last_nx {nx : Nat} (h : nx < 6) : p_last (p_nx nx) = nx := by
  unfold p_last p_nx
  rcases (show nx = 0 ∨ nx = 1 ∨ nx = 2 ∨ nx = 3 ∨ nx = 4 ∨ nx = 5 by omega) with rfl | rfl | rfl | rfl | rfl | rfl <;> rfl
theorem PR.act1 (R : PR G h sz x S1 S2 u1 u2 f) (q : acQ G h x u1.1 sz (x + 42) f S1 u1.2.1 u1.2.2.1 u1.2.2.2.1 u1.2.2.2.2.1 u1.2.2.2.2.2.1 u1.2.2.2.2.2.2.1 u1.2.2.2.2.2.2.2 S3 r h2 s2) : ∃ u3 u4, PR G h2 s2 x S3 S2 u3 u4 (upd f 0 r) ∧ UN S1 u1 u3 := by
  obtain ⟨q1, q2, q3, q0, Sq, -, w⟩ := q
  have hnx : u1.2.2.2.2.1 < 6 := R.1.2.2.2.2.2.2.2.2.2.1
  refine ⟨(u1.1, va_up u1.2.1 u1.2.2.2.2.1 (some q0), u1.2.2.1, dU u1.2.2.2.1 q0 (g_bec Sq S1), p_nx u1.2.2.2.2.1, p_z u1.2.2.2.2.2.1, u1.2.2.2.2.2.2.1, u1.2.2.2.2.2.2.2), _, R.fr1 q1 rfl w q2 q3, rfl, q0, ?_, ?_⟩
  · show va_up u1.2.1 u1.2.2.2.2.1 (some q0) (p_last (p_nx u1.2.2.2.2.1)) = some q0
    rw [p_last_nx hnx]
    exact vup_s _ _ _
  · show eqR S1 (dU u1.2.2.2.1 q0 (g_bec Sq S1) q0)
    rw [dU_s]
    exact bec_R Sq S1
theorem PR.act2 (R : PR G h sz x S1 S2 u1 u2 f) (q : acQ G h (x + 21) u2.1 sz (x + 42) f S2 u2.2.1 u2.2.2.1 u2.2.2.2.1 u2.2.2.2.2.1 u2.2.2.2.2.2.1 u2.2.2.2.2.2.2.1 u2.2.2.2.2.2.2.2 S3 r h2 s2) : ∃ u3 u4, PR G h2 s2 x S1 S3 u3 u4 (upd f 0 r) := by
  obtain ⟨q1, q2, q3, q0, Sq, -, w⟩ := q
  exact ⟨_, (u2.1, va_up u2.2.1 u2.2.2.2.2.1 (some q0), u2.2.2.1, dU u2.2.2.2.1 q0 (g_bec Sq S2), p_nx u2.2.2.2.2.1, p_z u2.2.2.2.2.2.1, u2.2.2.2.2.2.2.1, u2.2.2.2.2.2.2.2), R.fr2 q1 rfl w q2 q3⟩
/-- a call of the first object that leaves its state as it is -/
theorem PR.look1 (R : PR G h sz x S1 S2 u1 u2 f) (hfr : fr_ h h1 x u1.1) (w : RO G h1 x sz S3 u3) (hd : u3.1 = u1.1) : ∃ u4, PR G h1 sz x S3 S2 u3 u4 f :=
  ⟨_, R.fr1 (Nat.le_refl _) hd w (fun a _ q1 q2 => hfr a q1 q2) ((hfr _ R.ho1 (by omega)).trans R.2.2.1)⟩
/-- undone: the state is the one ahead of the call -/
theorem PR.undo (R : PR G h sz x S1 S2 u1 u2 f) {nx z : Nat} {S4 : gS} (hfr : fr_ h h1 x u1.1) (w : RA G h1 x u1.1 sz S4 u1.2.1 u1.2.2.1 u1.2.2.2.1 nx z u1.2.2.2.2.2.2.1 u1.2.2.2.2.2.2.2) (S3 : gS) : ∃ u3 u4, PR G (pG G h1 (x + 1) S3) sz x S3 S2 u3 u4 f :=
  ⟨(u1.1, u1.2.1, u1.2.2.1, u1.2.2.2.1, nx, z, u1.2.2.2.2.2.2.1, u1.2.2.2.2.2.2.2), R.look1 (hfr.trans fr_G) (RA_G w) rfl⟩
end PQ
section GX
variable {n : Nat} {S : gS}
theorem okEnd_nat {d : Int32} (h : okEnd d = true) : ∃ e, e < 2 ∧ d = nI e := by
  unfold okEnd at h
  rw [Bool.and_eq_true, Bool.not_eq_true', Bool.not_eq_true'] at h
  have h1 := of_decide_eq_false h.1
  have h2 := of_decide_eq_false h.2
  rw [clI h1] at h2
  refine ⟨d.toNatClampNeg, ?_, clI h1⟩
  have : ¬ 1 < d.toNatClampNeg := fun q => h2 ((nI_ltI (a := 1) (by decide) (tn_lt d)).mpr q)
  omega
theorem gX.ch (h : gX n S) {how a b d : Int32} (hc : ch_c S how a b d = 0) : gX (n + 1) (ch_S S how a b d) := by
  unfold ch_c at hc
  unfold ch_S
  by_cases c0 : how = 0
  · rw [if_pos c0] at hc ⊢
    have hb : tBegin a b = true := by
      cases q : tBegin a b with
      | true => rfl
      | false => rw [q] at hc; exact absurd hc (by decide)
    exact (h.beginB hb).up (Nat.le_succ _)
  · rw [if_neg c0] at hc ⊢
    by_cases c1 : how = 1
    · rw [if_pos c1] at hc ⊢
      have h3 : okN b 3 = true := by
        cases q : okN b 3 with
        | true => rfl
        | false => rw [q, if_neg (by decide)] at hc; exact absurd hc (by decide)
      have hE : okEnd d = true := by
        cases q : okEnd d with
        | true => rfl
        | false => rw [h3, q] at hc; exact absurd hc (by decide)
      obtain ⟨r, hr, rfl⟩ : ∃ r, r < 3 ∧ b = nI r := m_nat (k := 3) (by decide) h3
      obtain ⟨e, he, rfl⟩ := okEnd_nat hE
      exact h.lay hr he
    · rw [if_neg c1] at hc ⊢
      by_cases c2 : how = 2
      · rw [if_pos c2] at hc ⊢
        have hb : (g_over S || g_holds S (S 5 1) a) = true := by
          cases q : (g_over S || g_holds S (S 5 1) a) with
          | true => rfl
          | false => rw [q] at hc; exact absurd hc (by decide)
        exact (h.oil hb).up (Nat.le_succ _)
      · rw [if_neg c2] at hc ⊢
        have hb : (!decide (a < 1) && !decide (9 < a)) = true := by
          cases q : (!decide (a < 1) && !decide (9 < a)) with
          | true => rfl
          | false => rw [q] at hc; exact absurd hc (by decide)
        exact (h.set hb).up (Nat.le_succ _)
theorem gX.act (h : gX n S) {v : Int32} (hc : a_c S v = 0) : gX (n + 1) (a_S S v) := by
  unfold a_c a_sel at hc
  unfold a_S a_sel
  by_cases c0 : lw_low v 32 = 0
  · rw [if_pos c0] at hc ⊢; exact h.ch hc
  · rw [if_neg c0] at hc ⊢
    by_cases c1 : lw_low v 32 < 13
    · rw [if_pos c1]; exact h.draw
    · rw [if_neg c1] at hc ⊢
      by_cases c2 : lw_low v 32 < 15
      · rw [if_pos c2]; exact h.pass
      · rw [if_neg c2] at hc ⊢
        by_cases c3 : lw_low v 32 < 17
        · rw [if_pos c3] at hc ⊢; exact h.ch hc
        · rw [if_neg c3] at hc ⊢
          by_cases c4 : lw_low v 32 = 17
          · rw [if_pos c4] at hc ⊢; exact h.ch hc
          · rw [if_neg c4] at hc ⊢; exact h.ch hc
theorem low_nat (v : Int32) {P : Nat} (h0 : 0 < P) (hP : P < 2147483648) : ∃ u, u < P ∧ lw_low v (nI P) = nI u := by
  obtain ⟨j, hj, e⟩ := pk_andE v (m := 2147483647) 31 (by decide)
  refine ⟨j % P, Nat.mod_lt _ h0, ?_⟩
  unfold lw_low
  rw [e]
  exact pk_rem hj h0 hP
theorem gX.pl (h : gX n S) : ∃ P, 2 ≤ P ∧ P ≤ 4 ∧ S 5 0 = nI P := by
  obtain ⟨P, K, W, Q, T, F, H, R, L, gr, ag, o, -⟩ := h
  exact ⟨P, o.n5.1.1, o.n5.1.2.1, o.n5.2.1⟩
end GX
theorem p_z_0 (z : Nat) : p_z z ≠ 0 := by unfold p_z; split <;> omega
theorem p_z_1 {z : Nat} (h : z ≤ 6) : (z = 6 → p_z z - 1 = 5) ∧ (z ≠ 6 → p_z z - 1 = z) := by
  unfold p_z
  constructor
  · intro q; subst q; rfl
  · intro q; split <;> omega

