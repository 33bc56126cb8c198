/-! WHAT THE LAW'S SUMS REST ON -/
theorem num_0 {S : gS} {b : Int32} : g_num S (nI 0) b = S 5 0 := by unfold g_num; rw [if_pos (by decide)]
theorem num_1 {S : gS} {b : Int32} : g_num S (nI 1) b = S 5 1 := by unfold g_num; rw [if_neg (by decide), if_pos (by decide)]
theorem num_2 {S : gS} {b : Int32} : g_num S (nI 2) b = g_stock S := by unfold g_num; rw [if_neg (by decide), if_neg (by decide), if_pos (by decide)]
theorem num_3 {S : gS} {b : Int32} : g_num S (nI 3) b = g_tal S 0 := by unfold g_num; rw [if_neg (by decide), if_neg (by decide), if_neg (by decide), if_pos (by decide)]
theorem num_4 {S : gS} {b : Int32} : g_num S (nI 4) b = g_tal S 2 := by unfold g_num; rw [if_neg (by decide), if_neg (by decide), if_neg (by decide), if_neg (by decide), if_pos (by decide)]
theorem num_5 {S : gS} {b : Int32} : g_num S (nI 5) b = S 5 3 := by unfold g_num; rw [if_neg (by decide), if_neg (by decide), if_neg (by decide), if_neg (by decide), if_neg (by decide), if_pos (by decide)]
theorem num_6 {S : gS} {b : Int32} : g_num S (nI 6) b = S 5 4 := by unfold g_num; rw [if_neg (by decide), if_neg (by decide), if_neg (by decide), if_neg (by decide), if_neg (by decide), if_neg (by decide), if_pos (by decide)]
theorem num_7 {S : gS} {b : Int32} : g_num S (nI 7) b = g_tal S 1 := by unfold g_num; rw [if_neg (by decide), if_neg (by decide), if_neg (by decide), if_neg (by decide), if_neg (by decide), if_neg (by decide), if_neg (by decide), if_pos (by decide)]
theorem num_8 {S : gS} {b : Int32} : g_num S (nI 8) b = g_win S := by unfold g_num; rw [if_neg (by decide), if_neg (by decide), if_neg (by decide), if_neg (by decide), if_neg (by decide), if_neg (by decide), if_neg (by decide), if_neg (by decide), if_pos (by decide)]
theorem num_11 {S : gS} {b : Int32} : g_num S (nI 11) b = b := by unfold g_num; rw [if_neg (by decide), if_neg (by decide), if_neg (by decide), if_neg (by decide), if_neg (by decide), if_neg (by decide), if_neg (by decide), if_neg (by decide), if_neg (by decide), if_neg (by decide), if_neg (by decide), if_pos (by decide)]
theorem num_any {S : gS} {i : Nat} (hi : i < 11) (a b : Int32) : g_num S (nI i) a = g_num S (nI i) b := by
  have h : ¬ nI i = 11 := fun e => by
    have := nI_inj (a := i) (b := 11) (by omega) (by decide) e
    omega
  unfold g_num
  rw [if_neg h, if_neg h]
theorem prop_0 {S : gS} {a : Int32} : g_prop S a (nI 0) = g_held S a := by unfold g_prop; rw [if_pos (by decide)]
theorem prop_1 {S : gS} {a : Int32} : g_prop S a (nI 1) = g_gh S a := by unfold g_prop; rw [if_neg (by decide), if_pos (by decide)]
theorem prop_2 {S : gS} {a : Int32} : g_prop S a (nI 2) = tAt 4 16 (S 2) a 1 := by unfold g_prop; rw [if_neg (by decide), if_neg (by decide), if_pos (by decide)]
theorem prop_3 {S : gS} {a : Int32} : g_prop S a (nI 3) = g_sum S a := by unfold g_prop; rw [if_neg (by decide), if_neg (by decide), if_neg (by decide), if_pos (by decide)]
theorem prop_4 {S : gS} {a : Int32} : g_prop S a (nI 4) = tAt 4 16 (S 2) a 2 := by unfold g_prop; rw [if_neg (by decide), if_neg (by decide), if_neg (by decide), if_neg (by decide), if_pos (by decide)]
theorem prop_5 {S : gS} {a : Int32} : g_prop S a (nI 5) = tAt 4 16 (S 2) a 3 := by unfold g_prop; rw [if_neg (by decide), if_neg (by decide), if_neg (by decide), if_neg (by decide), if_neg (by decide), if_pos (by decide)]
theorem prop_6 {S : gS} {a : Int32} : g_prop S a (nI 6) = g_ends S a := by unfold g_prop; rw [if_neg (by decide), if_neg (by decide), if_neg (by decide), if_neg (by decide), if_neg (by decide), if_neg (by decide), if_pos (by decide)]
section FC
variable {n : Nat} {S : gS} {P K W Q T F : Nat} {H R L : Nat → Nat} {gr : Nat → Nat → Nat} {ag : Nat → Nat}
/-- a tally over all players -/
theorem gO.tal (o : gO n S P K W Q T F H R L gr ag) {w : Nat} (hw : w < 4) : g_tal S (nI w) = S 2 (0 * 4 + w) + S 2 (1 * 4 + w) + S 2 (2 * 4 + w) + S 2 (3 * 4 + w) := by
  obtain ⟨h2, h4, -⟩ := o.n5.1
  have hz : ∀ p, P ≤ p → p < 4 → S 2 (p * 4 + w) = 0 := by
    intro p hp hp4
    obtain ⟨a1, a2, a3, a4⟩ := o.t2.2 p hp hp4
    obtain ⟨b1, b2⟩ := o.t2.1 p hp4
    rcases (show w = 0 ∨ w = 1 ∨ w = 2 ∨ w = 3 by omega) with rfl | rfl | rfl | rfl
    · rw [a1] at b1; exact b1
    · rw [a2] at b2; exact b2
    · exact a3
    · exact a4
  unfold g_tal
  rw [o.n5.2.1, nI_clamp (by omega)]
  have e : ∀ m, m ≤ 4 → l_sum (fun i => tAt 4 16 (S 2) (nI i) (nI w)) m = l_sum (fun i => S 2 (i * 4 + w)) m := fun m hm => lsum_eq (fun i hi => at2 (by omega) hw)
  rw [e P h4]
  rcases (show P = 2 ∨ P = 3 ∨ P = 4 by omega) with rfl | rfl | rfl
  · rw [hz 2 (by omega) (by omega), hz 3 (by omega) (by omega), Int32.add_zero, Int32.add_zero]
    show 0 + S 2 (0 * 4 + w) + S 2 (1 * 4 + w) = _
    rw [Int32.zero_add]
  · rw [hz 3 (by omega) (by omega), Int32.add_zero]
    show 0 + S 2 (0 * 4 + w) + S 2 (1 * 4 + w) + S 2 (2 * 4 + w) = _
    rw [Int32.zero_add]
  · show 0 + S 2 (0 * 4 + w) + S 2 (1 * 4 + w) + S 2 (2 * 4 + w) + S 2 (3 * 4 + w) = _
    rw [Int32.zero_add]
theorem gO.tal0 (o : gO n S P K W Q T F H R L gr ag) : g_tal S 0 = nI (H 0 + H 1 + H 2 + H 3) := by
  have e := o.tal (w := 0) (by decide)
  rw [show S 2 (0 * 4 + 0) = nI (H 0) from (o.t2.1 0 (by decide)).1, show S 2 (1 * 4 + 0) = nI (H 1) from (o.t2.1 1 (by decide)).1, show S 2 (2 * 4 + 0) = nI (H 2) from (o.t2.1 2 (by decide)).1, show S 2 (3 * 4 + 0) = nI (H 3) from (o.t2.1 3 (by decide)).1, nI_add, nI_add, nI_add] at e
  exact e
theorem gO.tal1 (o : gO n S P K W Q T F H R L gr ag) : g_tal S 1 = nI (L 0 + L 1 + L 2 + L 3) := by
  have e := o.tal (w := 1) (by decide)
  rw [show S 2 (0 * 4 + 1) = nI (L 0) from (o.t2.1 0 (by decide)).2, show S 2 (1 * 4 + 1) = nI (L 1) from (o.t2.1 1 (by decide)).2, show S 2 (2 * 4 + 1) = nI (L 2) from (o.t2.1 2 (by decide)).2, show S 2 (3 * 4 + 1) = nI (L 3) from (o.t2.1 3 (by decide)).2, nI_add, nI_add, nI_add] at e
  exact e
theorem gO.tal2 (o : gO n S P K W Q T F H R L gr ag) (y : xl (S 2) (S 3)) : g_tal S 2 = nI (R 0 + R 1 + R 2) := by
  have e := o.tal (w := 2) (by decide)
  unfold xl at y
  have e2 : g_tal S 2 = S 3 0 + S 3 4 + S 3 8 := e.trans y
  rw [show S 3 0 = nI (R 0) from o.t3 0 (by decide), show S 3 4 = nI (R 1) from o.t3 1 (by decide), show S 3 8 = nI (R 2) from o.t3 2 (by decide), nI_add, nI_add] at e2
  exact e2
theorem gO.rusted (o : gO n S P K W Q T F H R L gr ag) (y : xr (S 0) (S 2)) : l_sum (fun t => S 0 (t * 7 + 6)) 28 = g_tal S 1 := by
  unfold xr at y
  rw [y]
  exact (o.tal (w := 1) (by decide)).symm
theorem lsum_nI {f : Nat → Int32} {g : Nat → Nat} : ∀ {n : Nat}, (∀ t, t < n → f t = nI (g t)) → l_sum f n = nI (nsum g n) := by
  intro n
  induction n with
  | zero => intro _; rfl
  | succ n ih =>
    intro h
    show l_sum f n + f n = nI (nsum g n + g n)
    rw [ih (fun t ht => h t (by omega)), h n (by omega), nI_add]
theorem gO.all (o : gO n S P K W Q T F H R L gr ag) (y : xr (S 0) (S 2)) : l_sum (fun t => S 0 (t * 7 + 0) + S 0 (t * 7 + 1)) 28 + l_sum (fun t => S 0 (t * 7 + 6)) 28 = 168 := by
  have hs := o.sm
  unfold os at hs
  rw [o.rusted y, o.tal1, lsum_nI (g := fun t => gr t 0 + gr t 1) (fun t ht => by
    obtain ⟨h1, h2, -⟩ := o.t0 t ht
    rw [show S 0 (t * 7 + 0) = nI (gr t 0) from h1, h2, nI_add]), nI_add]
  rw [show nsum (fun t => gr t 0 + gr t 1) 28 + (L 0 + L 1 + L 2 + L 3) = 168 from hs]
  rfl
theorem gO.three (o : gO n S P K W Q T F H R L gr ag) (y : xl (S 2) (S 3)) : g_stock S + g_tal S 0 + g_tal S 2 = 28 := by
  have h := o.hh
  have hK := o.n5.1.2.2.1
  unfold oh at h
  rw [o.stock, o.tal0, o.tal2 y, nI_add, nI_add, show 28 - K + (H 0 + H 1 + H 2 + H 3) + (R 0 + R 1 + R 2) = 28 by omega]
  rfl
theorem gO.rows (o : gO n S P K W Q T F H R L gr ag) (y : xl (S 2) (S 3)) : S 3 (0 * 4 + 0) + S 3 (1 * 4 + 0) + S 3 (2 * 4 + 0) = g_tal S 2 := by
  unfold xl at y
  exact y.symm.trans (o.tal (w := 2) (by decide)).symm
/-- the share of rust is a number; it is itself -/
theorem share_n : ∀ k, k < 169 → vf_n64 (FP.ddiv (FP.i2d (nI k)) 4640114991075164160) ∧ Op.cmpValue (FP.dcmp (FP.ddiv (FP.i2d (nI k)) 4640114991075164160) (FP.ddiv (FP.i2d (nI k)) 4640114991075164160)) .l = 0 := by unfold vf_n64; decide +kernel
theorem gO.share (o : gO n S P K W Q T F H R L gr ag) : vf_n64 (FP.ddiv (FP.i2d (g_tal S 1)) 4640114991075164160) ∧ Op.cmpValue (FP.dcmp (FP.ddiv (FP.i2d (g_tal S 1)) 4640114991075164160) (FP.ddiv (FP.i2d (g_tal S 1)) 4640114991075164160)) .l = 0 := by
  have hs := o.sm
  unfold os at hs
  rw [o.tal1]
  exact share_n _ (by omega)
/-- the tile at a place of a hand -/
theorem gO.tileAt (o : gO n S P K W Q T F H R L gr ag) {p i : Nat} (hp : p < 4) (hi : i < H p) : ∃ t, t < 28 ∧ S 1 (p * 28 + i) = nI t ∧ g_hand S (nI p) (nI i) = nI t ∧ (if g_holds S (nI p) (nI i) then g_hand S (nI p) (nI i) else -1) = nI t := by
  have hK : K ≤ 28 := o.n5.1.2.2.1
  have hh := oh_le o.hh hp
  obtain ⟨t, ht, e⟩ := o.hand1 hp hi
  have eh : g_hand S (nI p) (nI i) = nI t := by unfold g_hand; rw [at1 hp (by omega), e]
  refine ⟨t, ht, e, eh, ?_⟩
  rw [if_pos ((o.holds hp).mpr ⟨i, hi, rfl⟩)]
  exact eh
theorem gO.noTile (o : gO n S P K W Q T F H R L gr ag) {p : Nat} (hp : p < 4) : (if g_holds S (nI p) (nI (H p)) then g_hand S (nI p) (nI (H p)) else -1) = -1 := by
  have hK : K ≤ 28 := o.n5.1.2.2.1
  have hh := oh_le o.hh hp
  rw [if_neg]
  intro q
  obtain ⟨i, hi, e⟩ := (o.holds hp).mp q
  have := nI_inj (by omega) (by omega) e
  omega
/-- the tile at a place of the stock -/
theorem gO.stockAt (o : gO n S P K W Q T F H R L gr ag) {i : Nat} (hi : i < 28 - K) : ∃ t, t < 28 ∧ S 4 (K + i) = nI t ∧ g_stile S (nI i) = nI t ∧ (if nI i < g_stock S then g_stile S (nI i) else -1) = nI t := by
  have hK : K ≤ 28 := o.n5.1.2.2.1
  obtain ⟨t, ht, e⟩ := o.t4.1 (K + i) (by omega)
  have eh : g_stile S (nI i) = nI t := by
    unfold g_stile
    rw [o.n5.2.2.1, nI_add, at4 (by omega), e]
  refine ⟨t, ht, e, eh, ?_⟩
  rw [o.stock, if_pos (nI_lt hi (by omega))]
  exact eh
theorem gO.five (o : gO n S P K W Q T F H R L gr ag) (x : xe P (S 2)) {p : Nat} (hp : p < P) : nI (H p) = 5 + tAt 4 16 (S 2) (nI p) 3 - tAt 4 16 (S 2) (nI p) 2 := by
  have hP := o.n5.1.2.1
  rw [show tAt 4 16 (S 2) (nI p) 3 = S 2 (p * 4 + 3) from at2 (w := 3) (by omega) (by decide), show tAt 4 16 (S 2) (nI p) 2 = S 2 (p * 4 + 2) from at2 (w := 2) (by omega) (by decide), ← x p hp, (o.t2.1 p (by omega)).1, Int32.add_sub_cancel]
end FC
/-! EACH TILE ONCE: the bits of all of them -/
def z_h (S : gS) (p : Nat) (a : Int32) : Nat → Int32
  | 0 => a
  | j + 1 => z_h S p a j ^^^ ((1 : Int32) <<< (g_hand S (nI p) (nI j) &&& 31))
def z_p (S : gS) : Nat → Int32
  | 0 => 0
  | p + 1 => z_h S p (z_p S p) (g_held S (nI p)).toNatClampNeg
def z_s (S : gS) (a : Int32) : Nat → Int32
  | 0 => a
  | j + 1 => z_s S a j ^^^ ((1 : Int32) <<< (g_stile S (nI j) &&& 31))
def z_l (S : gS) (a : Int32) : Nat → Int32
  | 0 => a
  | t + 1 => z_l S a t ^^^ (if S 0 (t * 7 + 2) = 2 then (1 : Int32) <<< (nI t &&& 31) else 0)
theorem z_sh : ∀ t, t < 28 → (1 : Int32) <<< (nI t &&& 31) = nI (2 ^ t) := by decide +kernel
/-- an int of 28 bits, told bit by bit -/
def zb (x : Int32) (b : Nat → Bool) : Prop := ∃ m, m < 2 ^ 28 ∧ x = nI m ∧ ∀ t, t < 28 → m.testBit t = b t
theorem zb.flip {x : Int32} {b c : Nat → Bool} {t : Nat} (h : zb x b) (ht : t < 28) (hc : ∀ u, u < 28 → c u = (b u ^^ decide (u = t))) : zb (x ^^^ ((1 : Int32) <<< (nI t &&& 31))) c := by
  obtain ⟨m, hm, rfl, hb⟩ := h
  refine ⟨m ^^^ 2 ^ t, Nat.xor_lt_two_pow hm (Nat.pow_lt_pow_right (by decide) ht), ?_, fun u hu => ?_⟩
  · rw [z_sh t ht, fa_xor_]
  · rw [Nat.testBit_xor, hb u hu, hc u hu, Nat.testBit_two_pow]
    congr 1
    exact decide_eq_decide.mpr ⟨fun e => e.symm, fun e => e.symm⟩
theorem zb.all {x : Int32} {b : Nat → Bool} (h : zb x b) (hb : ∀ t, t < 28 → b t = true) : x = 268435455 := by
  obtain ⟨m, hm, rfl, h2⟩ := h
  have e : m = 2 ^ 28 - 1 := by
    apply Nat.eq_of_testBit_eq
    intro i
    rw [Nat.testBit_two_pow_sub_one]
    by_cases c : i < 28
    · rw [h2 i c, hb i c, decide_eq_true c]
    · rw [decide_eq_false c]
      exact Nat.testBit_lt_two_pow (Nat.lt_of_lt_of_le hm (Nat.pow_le_pow_right (by decide) (by omega)))
  rw [e]
  rfl
section ZB
variable {n : Nat} {S : gS} {P K W Q T F : Nat} {H R L : Nat → Nat} {gr : Nat → Nat → Nat} {ag : Nat → Nat}
theorem any_e {f : Nat → Bool} : ∀ {N : Nat}, anyB f N = true → ∃ i, i < N ∧ f i = true := by
  intro N
  induction N with
  | zero => intro h; exact absurd (show false = true from h) (by decide)
  | succ N ih =>
    intro h
    rw [show anyB f (N + 1) = (anyB f N || f N) from rfl, Bool.or_eq_true] at h
    rcases h with h | h
    · obtain ⟨i, hi, e⟩ := ih h
      exact ⟨i, by omega, e⟩
    · exact ⟨N, by omega, h⟩
theorem any_f {f : Nat → Bool} {N : Nat} (h : ∀ i, i < N → f i = false) : anyB f N = false := by
  rcases Bool.eq_false_or_eq_true (anyB f N) with c | c
  · obtain ⟨i, hi, e⟩ := any_e c
    rw [h i hi] at e
    exact absurd e (by decide)
  · exact c
def b_1 (S : gS) (p : Nat) (t : Nat) (j : Nat) : Bool := anyB (fun i => decide (S 1 (p * 28 + i) = nI t)) j
def b_h (S : gS) (H : Nat → Nat) (p j : Nat) (t : Nat) : Bool := anyB (fun q => b_1 S q t (H q)) p || b_1 S p t j
theorem nI_d {t u : Nat} (ht : t < 28) (hu : u < 28) : decide (nI t = nI u) = decide (u = t) := decide_eq_decide.mpr ⟨fun e => (nI_inj (by omega) (by omega) e).symm, fun e => by rw [e]⟩
theorem or_flip {b : Bool} {c : Prop} [Decidable c] (h : c → b = false) : (b || decide c) = (b ^^ decide c) := by
  by_cases q : c
  · rw [h q, decide_eq_true q]; rfl
  · rw [decide_eq_false q]; cases b <;> rfl
theorem gO.zh (o : gO n S P K W Q T F H R L gr ag) (y : gY S P K H) {p : Nat} (hp : p < P) {a : Int32} (h0 : zb a (b_h S H p 0)) : ∀ j, j ≤ H p → zb (z_h S p a j) (b_h S H p j) := by
  have hP := o.n5.1.2.1
  intro j
  induction j with
  | zero => intro _; exact h0
  | succ j ih =>
    intro hj
    obtain ⟨t, ht, e1, e2, -⟩ := o.tileAt (p := p) (i := j) (by omega) (by omega)
    show zb (z_h S p a j ^^^ ((1 : Int32) <<< (g_hand S (nI p) (nI j) &&& 31))) _
    rw [e2]
    refine (ih (by omega)).flip ht (fun u hu => ?_)
    show (anyB (fun q => b_1 S q u (H q)) p || (b_1 S p u j || decide (S 1 (p * 28 + j) = nI u))) = ((anyB (fun q => b_1 S q u (H q)) p || b_1 S p u j) ^^ decide (u = t))
    rw [e1, nI_d ht hu, ← Bool.or_assoc]
    refine or_flip (fun e => ?_)
    subst e
    have hw := y.2.1 p hp j (by omega) u ht e1
    rw [Bool.or_eq_false_iff]
    refine ⟨any_f (fun q hq => any_f (fun i hi => decide_eq_false (fun e => ?_))), any_f (fun i hi => decide_eq_false (fun e => ?_))⟩
    · have hw2 := y.2.1 q (by omega) i hi u ht e
      have := nI_inj (by omega) (by omega) (hw.2.symm.trans hw2.2)
      omega
    · exact o.t1.2 p (by omega) i j hi (by omega) (e.trans e1.symm)
theorem gO.zp (o : gO n S P K W Q T F H R L gr ag) (y : gY S P K H) : ∀ p, p ≤ P → zb (z_p S p) (b_h S H p 0) := by
  have hP := o.n5.1.2.1
  have hK := o.n5.1.2.2.1
  intro p
  induction p with
  | zero => intro _; exact ⟨0, by decide, rfl, fun t _ => Nat.zero_testBit t⟩
  | succ p ih =>
    intro hp
    have hh := oh_le o.hh (show p < 4 by omega)
    have h1 := o.zh y (p := p) (by omega) (ih (by omega)) (H p) (Nat.le_refl _)
    show zb (z_h S p (z_p S p) (g_held S (nI p)).toNatClampNeg) _
    rw [show g_held S (nI p) = nI (H p) from o.held (by omega), nI_clamp (by omega)]
    obtain ⟨m, hm, e, hb⟩ := h1
    refine ⟨m, hm, e, fun t ht => ?_⟩
    rw [hb t ht]
    show (anyB (fun q => b_1 S q t (H q)) p || b_1 S p t (H p)) = ((anyB (fun q => b_1 S q t (H q)) p || b_1 S p t (H p)) || false)
    rw [Bool.or_false]
/-- behind the hands: the tiles that are held -/
theorem gO.zheld (o : gO n S P K W Q T F H R L gr ag) (y : gY S P K H) : zb (z_p S P) (fun t => decide (S 0 (t * 7 + 2) = 1)) := by
  have hP := o.n5.1.2.1
  obtain ⟨m, hm, e, hb⟩ := o.zp y P (Nat.le_refl _)
  refine ⟨m, hm, e, fun t ht => ?_⟩
  rw [hb t ht]
  show (anyB (fun q => b_1 S q t (H q)) P || false) = decide (S 0 (t * 7 + 2) = 1)
  rw [Bool.or_false]
  rcases y.1 t ht with ⟨w, -⟩ | ⟨w, -, p, hp, -, i, hi, e1⟩ | ⟨w, -⟩
  · rw [w, show decide ((0 : Int32) = 1) = false from rfl]
    refine any_f (fun q hq => any_f (fun i hi => decide_eq_false (fun e => ?_)))
    have hw2 := (y.2.1 q hq i hi t ht e).1
    rw [w] at hw2
    exact absurd hw2 (by decide)
  · rw [w, show decide ((1 : Int32) = 1) = true from rfl]
    exact any_t (i := p) hp (any_t (i := i) hi (decide_eq_true e1))
  · rw [w, show decide ((2 : Int32) = 1) = false from rfl]
    refine any_f (fun q hq => any_f (fun i hi => decide_eq_false (fun e => ?_)))
    have hw2 := (y.2.1 q hq i hi t ht e).1
    rw [w] at hw2
    exact absurd hw2 (by decide)
theorem pigeon : ∀ (n : Nat) (g : Nat → Nat), (∀ i, i < n → g i < n) → (∀ i j, i < j → j < n → g i ≠ g j) → ∀ u, u < n → ∃ i, i < n ∧ g i = u := by
  intro n
  induction n with
  | zero => intro g _ _ u hu; omega
  | succ n ih =>
    intro g h1 h2 u hu
    by_cases c : ∃ k, k < n + 1 ∧ g k = n
    · obtain ⟨k, hk, ek⟩ := c
      have hne : ∀ i, i < n + 1 → i ≠ k → g i ≠ n := by
        intro i hi hik e
        rcases Nat.lt_or_gt_of_ne hik with q | q
        · exact h2 i k q hk (e.trans ek.symm)
        · exact h2 k i q hi (ek.trans e.symm)
      by_cases cu : u = n
      · exact ⟨k, hk, by rw [ek, cu]⟩
      · obtain ⟨i, hi, ei⟩ := ih (fun i => if i = k then g n else g i) (fun i hi => by
          by_cases d : i = k
          · simp only [if_pos d]
            have := h1 n (by omega)
            have := hne n (by omega) (by omega)
            omega
          · simp only [if_neg d]
            have := h1 i (by omega)
            have := hne i (by omega) d
            omega) (fun i j hij hj => by
          by_cases d : i = k
          · have dj : j ≠ k := by omega
            simp only [if_pos d, if_neg dj]
            exact fun e => h2 j n hj (by omega) e.symm
          · by_cases d2 : j = k
            · simp only [if_neg d, if_pos d2]
              exact h2 i n (by omega) (by omega)
            · simp only [if_neg d, if_neg d2]
              exact h2 i j hij (by omega)) u (by omega)
        by_cases d : i = k
        · simp only [if_pos d] at ei
          exact ⟨n, by omega, ei⟩
        · simp only [if_neg d] at ei
          exact ⟨i, by omega, ei⟩
    · have hn : ∀ i, i < n + 1 → g i < n := by
        intro i hi
        have := h1 i hi
        have : g i ≠ n := fun e => c ⟨i, hi, e⟩
        omega
      obtain ⟨i, hi, ei⟩ := ih g (fun i hi => hn i (by omega)) (fun i j hij hj => h2 i j hij (by omega)) (g n) (hn n (by omega))
      exact absurd ei (h2 i n hi (by omega))
theorem o4.onto {f : Nat → Int32} (h : o4 f) {u : Nat} (hu : u < 28) : ∃ j, j < 28 ∧ f j = nI u := by
  have hv : ∀ i, i < 28 → ∃ t, t < 28 ∧ f i = nI t := h.1
  have hg : ∀ i, i < 28 → (f i).toNatClampNeg < 28 ∧ f i = nI (f i).toNatClampNeg := by
    intro i hi
    obtain ⟨t, ht, e⟩ := hv i hi
    rw [e, nI_clamp (by omega)]
    exact ⟨ht, rfl⟩
  obtain ⟨j, hj, ej⟩ := pigeon 28 (fun i => (f i).toNatClampNeg) (fun i hi => (hg i hi).1) (fun i j hij hj e => h.2 i j hij hj (by
    rw [(hg i (by omega)).2, (hg j hj).2]
    exact congrArg nI e)) u hu
  exact ⟨j, hj, by rw [(hg j hj).2]; exact congrArg nI ej⟩
def b_s (S : gS) (K j t : Nat) : Bool := decide (S 0 (t * 7 + 2) = 1) || anyB (fun i => decide (S 4 (K + i) = nI t)) j
theorem gO.zs (o : gO n S P K W Q T F H R L gr ag) (y : gY S P K H) {a : Int32} (h0 : zb a (fun t => decide (S 0 (t * 7 + 2) = 1))) : ∀ j, j ≤ 28 - K → zb (z_s S a j) (b_s S K j) := by
  have hK := o.n5.1.2.2.1
  intro j
  induction j with
  | zero =>
    intro _
    obtain ⟨m, hm, e, hb⟩ := h0
    exact ⟨m, hm, e, fun t ht => by rw [hb t ht]; show _ = (_ || false); rw [Bool.or_false]⟩
  | succ j ih =>
    intro hj
    obtain ⟨t, ht, e1, e2, -⟩ := o.stockAt (i := j) (by omega)
    show zb (z_s S a j ^^^ ((1 : Int32) <<< (g_stile S (nI j) &&& 31))) _
    rw [e2]
    refine (ih (by omega)).flip ht (fun u hu => ?_)
    show (decide (S 0 (u * 7 + 2) = 1) || (anyB (fun i => decide (S 4 (K + i) = nI u)) j || decide (S 4 (K + j) = nI u))) = ((decide (S 0 (u * 7 + 2) = 1) || anyB (fun i => decide (S 4 (K + i) = nI u)) j) ^^ decide (u = t))
    rw [e1, nI_d ht hu, ← Bool.or_assoc]
    refine or_flip (fun e => ?_)
    subst e
    have hw := (y.2.2.1 (K + j) (by omega) u ht e1).mp (by omega)
    rw [Bool.or_eq_false_iff, hw]
    exact ⟨rfl, any_f (fun i hi => decide_eq_false (fun e => o.t4.2 (K + i) (K + j) (by omega) (by omega) (e.trans e1.symm)))⟩
theorem gO.zstock (o : gO n S P K W Q T F H R L gr ag) (y : gY S P K H) : zb (z_s S (z_p S P) (28 - K)) (fun t => !decide (S 0 (t * 7 + 2) = 2)) := by
  have hK := o.n5.1.2.2.1
  obtain ⟨m, hm, e, hb⟩ := o.zs y (o.zheld y) (28 - K) (Nat.le_refl _)
  refine ⟨m, hm, e, fun t ht => ?_⟩
  rw [hb t ht]
  show (decide (S 0 (t * 7 + 2) = 1) || anyB (fun i => decide (S 4 (K + i) = nI t)) (28 - K)) = !decide (S 0 (t * 7 + 2) = 2)
  obtain ⟨j, hj, ej⟩ := o.t4.onto ht
  have hk := y.2.2.1 j hj t ht ej
  have hno : ¬ S 0 (t * 7 + 2) = 0 → anyB (fun i => decide (S 4 (K + i) = nI t)) (28 - K) = false := fun q => any_f (fun i hi => decide_eq_false (fun e => q ((y.2.2.1 (K + i) (by omega) t ht e).mp (by omega))))
  rcases y.1 t ht with ⟨w, -⟩ | ⟨w, -⟩ | ⟨w, -⟩
  · rw [w]
    have hKj := hk.mpr w
    rw [any_t (i := j - K) (by omega) (decide_eq_true (by rw [show K + (j - K) = j by omega]; exact ej))]
    rfl
  · rw [hno (by rw [w]; decide), w]
    rfl
  · rw [hno (by rw [w]; decide), w]
    rfl
def b_l (S : gS) (j t : Nat) : Bool := !decide (S 0 (t * 7 + 2) = 2) || decide (t < j)
theorem gO.zl (a : Int32) (h0 : zb a (fun t => !decide (S 0 (t * 7 + 2) = 2))) : ∀ j, j ≤ 28 → zb (z_l S a j) (b_l S j) := by
  intro j
  induction j with
  | zero =>
    intro _
    obtain ⟨m, hm, e, hb⟩ := h0
    exact ⟨m, hm, e, fun t ht => by rw [hb t ht]; unfold b_l; rw [decide_eq_false (Nat.not_lt_zero t), Bool.or_false]⟩
  | succ j ih =>
    intro hj
    have h1 := ih (by omega)
    show zb (z_l S a j ^^^ (if S 0 (j * 7 + 2) = 2 then (1 : Int32) <<< (nI j &&& 31) else 0)) _
    by_cases c : S 0 (j * 7 + 2) = 2
    · rw [if_pos c]
      refine h1.flip (by omega) (fun u hu => ?_)
      show (!decide (S 0 (u * 7 + 2) = 2) || decide (u < j + 1)) = ((!decide (S 0 (u * 7 + 2) = 2) || decide (u < j)) ^^ decide (u = j))
      by_cases d : u = j
      · subst d
        rw [decide_eq_true c, decide_eq_true (show u < u + 1 by omega), decide_eq_false (Nat.lt_irrefl u), decide_eq_true (rfl : u = u)]
        rfl
      · rw [decide_eq_false d, Bool.xor_false]
        congr 1
        exact decide_eq_decide.mpr ⟨fun q => by omega, fun q => by omega⟩
    · rw [if_neg c, Int32.xor_zero]
      obtain ⟨m, hm, e, hb⟩ := h1
      refine ⟨m, hm, e, fun u hu => ?_⟩
      rw [hb u hu]
      show (!decide (S 0 (u * 7 + 2) = 2) || decide (u < j)) = (!decide (S 0 (u * 7 + 2) = 2) || decide (u < j + 1))
      by_cases d : u = j
      · subst d
        rw [decide_eq_false c]
        rfl
      · congr 1
        exact decide_eq_decide.mpr ⟨fun q => by omega, fun q => by omega⟩
/-- all tiles, each once -/
theorem gO.seen (o : gO n S P K W Q T F H R L gr ag) (y : gY S P K H) : z_l S (z_s S (z_p S P) (28 - K)) 28 = 268435455 :=
  (gO.zl _ (o.zstock y) 28 (Nat.le_refl _)).all (fun t ht => by
    unfold b_l
    rw [decide_eq_true ht, Bool.or_true])
end ZB
