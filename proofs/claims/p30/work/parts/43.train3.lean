/-! WHETHER A WHOLE HAND COULD BE LAID, TOLD BY COUNTING -/
theorem fa_xor_ (a b : Nat) : nI a ^^^ nI b = nI (a ^^^ b) := by
  apply Int32.toBitVec_inj.mp
  simp [nI, Int32.toBitVec_xor, Int32.toBitVec_ofNat]
theorem fa_and_ (a b : Nat) : nI a &&& nI b = nI (a &&& b) := by
  apply Int32.toBitVec_inj.mp
  simp [nI, Int32.toBitVec_and, Int32.toBitVec_ofNat]
def re1 (a b : Nat → Nat) (m : Nat) : Nat → Nat
  | 0 => m
  | i + 1 => re1 a b m i ||| ob (re1 a b m i) (a i) (b i)
def re_ (a b : Nat → Nat) (k g : Nat) : Nat → Nat
  | 0 => 2 ^ g
  | n + 1 => re1 a b (re_ a b k g n) k
def xo (a b : Nat → Nat) : Nat → Nat
  | 0 => 0
  | i + 1 => xo a b i ^^^ (2 ^ a i ^^^ 2 ^ b i)
def sub7 (m q : Nat) : Prop := ∀ e, m.testBit e = true → q.testBit e = true
theorem or_sub {m q : Nat} (h : m ||| q = m) : sub7 q m := by
  intro e he
  have := congrArg (fun x => x.testBit e) h
  simp only [Nat.testBit_or, he, Bool.or_true] at this
  exact this.symm
section T3
variable {hf : Nat → Int32} {a b : Nat → Nat} {k g : Nat}
theorem re1_ok (h : HV hf k a b) {m : Nat} (hm : m < 128) : ∀ j, j ≤ k → t_re1 hf (nI m) j = nI (re1 a b m j) ∧ re1 a b m j < 128 := by
  intro j
  induction j with
  | zero => intro _; exact ⟨rfl, hm⟩
  | succ j ih =>
    intro hj
    obtain ⟨h1, h2⟩ := ih (by omega)
    obtain ⟨h3, h4⟩ := h.ob (i := j) (by omega) h2
    refine ⟨?_, or_128 h2 h4⟩
    show t_re1 hf (nI m) j ||| t_ob hf (nI j) (t_re1 hf (nI m) j) = nI (re1 a b m j ||| ob (re1 a b m j) (a j) (b j))
    rw [h1, h3, fa_or_]
theorem re_ok (h : HV hf k a b) (hg : g < 7) : ∀ n, t_re hf k (nI g) n = nI (re_ a b k g n) ∧ re_ a b k g n < 128 := by
  intro n
  induction n with
  | zero => exact ⟨sh_ok g (by omega), Nat.pow_lt_pow_right (n := 7) (by decide) hg⟩
  | succ n ih =>
    obtain ⟨h1, h2⟩ := ih
    obtain ⟨h3, h4⟩ := re1_ok h h2 k (Nat.le_refl _)
    refine ⟨?_, h4⟩
    show t_re1 hf (t_re hf k (nI g) n) k = _
    rw [h1, h3]
    rfl
theorem re1_mono (m : Nat) : ∀ j, sub7 m (re1 a b m j) := by
  intro j
  induction j with
  | zero => exact fun e h => h
  | succ j ih =>
    intro e h
    show (re1 a b m j ||| ob (re1 a b m j) (a j) (b j)).testBit e = true
    rw [Nat.testBit_or, ih e h, Bool.true_or]
theorem re1_step (m : Nat) : ∀ j i, i ≤ j → sub7 (re1 a b m i) (re1 a b m j) := by
  intro j
  induction j with
  | zero => intro i hi; rw [show i = 0 by omega]; exact fun e h => h
  | succ j ih =>
    intro i hi
    by_cases c : i = j + 1
    · subst c; exact fun e h => h
    · intro e h
      show (re1 a b m j ||| ob (re1 a b m j) (a j) (b j)).testBit e = true
      rw [Nat.testBit_or, ih i (by omega) e h, Bool.true_or]
/-- where nothing comes new, the set is closed -/
theorem re1_fix {m : Nat} (hfix : re1 a b m k = m) {i : Nat} (hi : i < k) : (m.testBit (a i) = true ↔ m.testBit (b i) = true) := by
  have h1 : sub7 (ob (re1 a b m i) (a i) (b i)) m := by
    intro e he
    rw [← hfix]
    refine re1_step m k (i + 1) (by omega) e ?_
    show (re1 a b m i ||| ob (re1 a b m i) (a i) (b i)).testBit e = true
    rw [Nat.testBit_or, he, Bool.or_true]
  have h2 : sub7 m (re1 a b m i) := re1_mono m i
  exact ⟨fun q => h1 _ (ob_bit.mpr (Or.inl ⟨h2 _ q, rfl⟩)), fun q => h1 _ (ob_bit.mpr (Or.inr ⟨h2 _ q, rfl⟩))⟩
theorem re1_pc (h : HV hf k a b) {m : Nat} (hm : m < 128) : ∀ j, j ≤ k → re1 a b m j = m ∨ pc m < pc (re1 a b m j) := by
  intro j
  induction j with
  | zero => intro _; exact Or.inl rfl
  | succ j ih =>
    intro hj
    obtain ⟨-, h2⟩ := re1_ok h hm j (by omega)
    obtain ⟨-, h4⟩ := h.ob (i := j) (by omega) h2
    have hor := pc_or (re1 a b m j) h2 (ob (re1 a b m j) (a j) (b j)) h4
    show (re1 a b m j ||| ob (re1 a b m j) (a j) (b j)) = m ∨ pc m < pc (re1 a b m j ||| ob (re1 a b m j) (a j) (b j))
    rcases ih (by omega) with e | e
    · rcases hor with z | z
      · left; rw [z, e]
      · right; rw [e] at z ⊢; exact z
    · right
      rcases hor with z | z
      · rw [z]; exact e
      · omega
theorem re_pc (h : HV hf k a b) (hg : g < 7) : ∀ n, re1 a b (re_ a b k g n) k = re_ a b k g n ∨ n + 1 ≤ pc (re_ a b k g n) := by
  have hp0 : ∀ g, g < 7 → 1 ≤ pc (2 ^ g) := by decide +kernel
  intro n
  induction n with
  | zero => exact Or.inr (hp0 g hg)
  | succ n ih =>
    have hlt := (re_ok h hg n).2
    rcases ih with e | e
    · left
      show re1 a b (re1 a b (re_ a b k g n) k) k = re1 a b (re_ a b k g n) k
      rw [e, e]
    · rcases re1_pc h hlt k (Nat.le_refl _) with z | z
      · left
        show re1 a b (re1 a b (re_ a b k g n) k) k = re1 a b (re_ a b k g n) k
        rw [z, z]
      · right
        show n + 1 + 1 ≤ pc (re1 a b (re_ a b k g n) k)
        omega
theorem re_sound {V : Nat → Prop} (hV : V g) (hc : ∀ i, i < k → (V (a i) ↔ V (b i))) : ∀ n e, (re_ a b k g n).testBit e = true → V e := by
  intro n
  induction n with
  | zero =>
    intro e he
    rw [show re_ a b k g 0 = 2 ^ g from rfl, Nat.testBit_two_pow, decide_eq_true_eq] at he
    rw [← he]; exact hV
  | succ n ih =>
    have key : ∀ j, j ≤ k → ∀ e, (re1 a b (re_ a b k g n) j).testBit e = true → V e := by
      intro j
      induction j with
      | zero => intro _; exact ih
      | succ j ihj =>
        intro hj e he
        rw [show re1 a b (re_ a b k g n) (j + 1) = re1 a b (re_ a b k g n) j ||| ob (re1 a b (re_ a b k g n) j) (a j) (b j) from rfl, Nat.testBit_or, Bool.or_eq_true, ob_bit] at he
        rcases he with he | ⟨he, rfl⟩ | ⟨he, rfl⟩
        · exact ihj (by omega) e he
        · exact (hc j (by omega)).mp (ihj (by omega) _ he)
        · exact (hc j (by omega)).mpr (ihj (by omega) _ he)
    exact key k (Nat.le_refl _)
theorem re_g (n : Nat) : (re_ a b k g n).testBit g = true := by
  induction n with
  | zero => exact Nat.testBit_two_pow_self
  | succ n ih => exact re1_mono _ k g ih
theorem hang_ok (h : HV hf k a b) (hg : g < 7) : t_hang hf k (nI g) = true ↔ conn a b (List.range k) g := by
  obtain ⟨h1, h2⟩ := re_ok h hg 7
  have hfix : re1 a b (re_ a b k g 7) k = re_ a b k g 7 := by
    rcases re_pc h hg 7 with z | z
    · exact z
    · have := pc_le _ h2; omega
  have hob : ∀ i, i < k → (t_ob hf (nI i) (t_re hf k (nI g) 7) = 0 ↔ ¬ (re_ a b k g 7).testBit (a i) = true) := by
    intro i hi
    obtain ⟨h3, h4⟩ := h.ob hi h2
    rw [h1, h3]
    have hf := re1_fix hfix hi
    constructor
    · intro z q
      have z0 : ob (re_ a b k g 7) (a i) (b i) = 0 := nI_inj (b := 0) (by omega) (by decide) z
      have : (ob (re_ a b k g 7) (a i) (b i)).testBit (b i) = true := ob_bit.mpr (Or.inl ⟨q, rfl⟩)
      rw [z0, Nat.zero_testBit] at this
      exact absurd this (by decide)
    · intro q
      have : ob (re_ a b k g 7) (a i) (b i) = 0 := by
        apply Nat.eq_of_testBit_eq
        intro j
        rw [Nat.zero_testBit, Bool.eq_false_iff]
        intro z
        rcases ob_bit.mp z with ⟨z1, -⟩ | ⟨z1, -⟩
        · exact q z1
        · exact q (hf.mpr z1)
      rw [this]; rfl
  have hany : t_hang hf k (nI g) = true ↔ ∀ i, i < k → ¬ t_ob hf (nI i) (t_re hf k (nI g) 7) = 0 := by
    unfold t_hang
    have gen : ∀ j, (!anyB (fun i => decide (t_ob hf (nI i) (t_re hf k (nI g) 7) = 0)) j) = true ↔ ∀ i, i < j → ¬ t_ob hf (nI i) (t_re hf k (nI g) 7) = 0 := by
      intro j
      induction j with
      | zero => exact ⟨fun _ i hi => absurd hi (Nat.not_lt_zero i), fun _ => rfl⟩
      | succ j ih =>
        show (!(anyB (fun i => decide (t_ob hf (nI i) (t_re hf k (nI g) 7) = 0)) j || decide (t_ob hf (nI j) (t_re hf k (nI g) 7) = 0))) = true ↔ _
        rw [Bool.not_or, Bool.and_eq_true, ih, Bool.not_eq_true', decide_eq_false_iff_not]
        constructor
        · rintro ⟨q1, q2⟩ i hi
          by_cases c : i = j
          · subst c; exact q2
          · exact q1 i (by omega)
        · intro q; exact ⟨fun i hi => q i (by omega), q j (by omega)⟩
    exact gen k
  rw [hany]
  constructor
  · intro q V hV hc i hi
    have hik := List.mem_range.mp hi
    have hs := re_sound (a := a) (b := b) (k := k) hV (fun j hj => hc j (List.mem_range.mpr hj)) 7
    have := q i hik
    rw [hob i hik] at this
    exact hs _ (Classical.not_not.mp this)
  · intro q i hi
    rw [hob i hi]
    have := q (fun e => (re_ a b k g 7).testBit e = true) (re_g 7) (fun j hj => re1_fix hfix (List.mem_range.mp hj)) i (List.mem_range.mpr hi)
    exact fun z => z this
theorem range_dgr (v : Nat) : ∀ j, dgr a b (List.range (j + 1)) v = dgr a b (List.range j) v + ((if a j = v then 1 else 0) + (if b j = v then 1 else 0)) := by
  intro j
  rw [List.range_succ, dgr_app]
  show _ = _
  simp only [dgr, Nat.add_zero]
theorem xo_bit (v : Nat) : ∀ j, (xo a b j).testBit v = decide (dgr a b (List.range j) v % 2 = 1) := by
  intro j
  induction j with
  | zero => show (0 : Nat).testBit v = _; rw [Nat.zero_testBit]; rfl
  | succ j ih =>
    show (xo a b j ^^^ (2 ^ a j ^^^ 2 ^ b j)).testBit v = _
    rw [Nat.testBit_xor, Nat.testBit_xor, Nat.testBit_two_pow, Nat.testBit_two_pow, ih, range_dgr]
    by_cases c1 : a j = v
    · by_cases c2 : b j = v
      · rw [decide_eq_true c1, decide_eq_true c2, if_pos c1, if_pos c2, Bool.xor_self, Bool.xor_false]
        exact decide_eq_decide.mpr (by omega)
      · rw [decide_eq_true c1, decide_eq_false c2, if_pos c1, if_neg c2, Bool.xor_false, Bool.xor_true, ← decide_not]
        exact decide_eq_decide.mpr (by omega)
    · by_cases c2 : b j = v
      · rw [decide_eq_false c1, decide_eq_true c2, if_neg c1, if_pos c2, Bool.false_xor, Bool.xor_true, ← decide_not]
        exact decide_eq_decide.mpr (by omega)
      · rw [decide_eq_false c1, decide_eq_false c2, if_neg c1, if_neg c2, Bool.xor_self, Bool.xor_false]
        exact decide_eq_decide.mpr (by omega)
theorem xo_ok (h : HV hf k a b) : ∀ j, j ≤ k → t_odd hf j = nI (xo a b j) ∧ xo a b j < 128 := by
  intro j
  induction j with
  | zero => intro _; exact ⟨rfl, show 0 < 128 by decide⟩
  | succ j ih =>
    intro hj
    obtain ⟨h1, h2⟩ := ih (by omega)
    obtain ⟨h3, h4, h5, h6⟩ := h j (by omega)
    refine ⟨?_, Nat.xor_lt_two_pow (n := 7) h2 (Nat.xor_lt_two_pow (n := 7) (Nat.pow_lt_pow_right (n := 7) (by decide) h5) (Nat.pow_lt_pow_right (n := 7) (by decide) h6))⟩
    show t_odd hf j ^^^ (t_half hf (nI j) 0 ^^^ t_half hf (nI j) 1) = _
    rw [h1, h3, h4, fa_xor_, fa_xor_]
    rfl
theorem dgr_big (h : HV hf k a b) {v : Nat} (hv : ¬ v < 7) : dgr a b (List.range k) v = 0 := by
  refine dgr_0 (fun i hi => ?_)
  obtain ⟨-, -, h5, h6⟩ := h i (List.mem_range.mp hi)
  exact ⟨by omega, by omega⟩
theorem odd_ok (h : HV hf k a b) (hg : g < 7) : t_oddOk hf k (nI g) = true ↔ ((∀ v, dgr a b (List.range k) v % 2 = 0) ∨ ∃ w, w ≠ g ∧ ∀ v, dgr a b (List.range k) v % 2 = if v = g ∨ v = w then 1 else 0) := by
  obtain ⟨h1, h2⟩ := xo_ok h k (Nat.le_refl _)
  have hb := fun v => xo_bit (a := a) (b := b) v k
  unfold t_oddOk
  rw [h1, sh_ok g (by omega), fa_and_, pc_bc _ h2, Bool.or_eq_true, Bool.and_eq_true, decide_eq_true_eq, decide_eq_true_eq, Bool.not_eq_true', decide_eq_false_iff_not]
  have hz : nI (xo a b k) = 0 ↔ xo a b k = 0 := ⟨fun q => nI_inj (b := 0) (by omega) (by decide) q, fun q => by rw [q]; rfl⟩
  have hand : ¬ nI (xo a b k &&& 2 ^ g) = 0 ↔ (xo a b k).testBit g = true := by
    have hlt : xo a b k &&& 2 ^ g ≤ xo a b k := Nat.and_le_left
    rw [show nI (xo a b k &&& 2 ^ g) = 0 ↔ xo a b k &&& 2 ^ g = 0 from ⟨fun q => nI_inj (b := 0) (by omega) (by decide) q, fun q => by rw [q]; rfl⟩]
    constructor
    · intro q
      apply Classical.byContradiction
      intro z
      apply q
      apply Nat.eq_of_testBit_eq
      intro j
      rw [Nat.testBit_and, Nat.testBit_two_pow, Nat.zero_testBit]
      by_cases c : g = j
      · subst c; rw [Bool.eq_false_iff.mpr z]; rfl
      · rw [decide_eq_false c, Bool.and_false]
    · intro q z
      have := congrArg (fun x => x.testBit g) z
      simp only [Nat.testBit_and, q, Nat.testBit_two_pow_self, Nat.zero_testBit] at this
      exact absurd this (by decide)
  have h2pc : nI (pc (xo a b k)) = 2 ↔ pc (xo a b k) = 2 := ⟨fun q => nI_inj (b := 2) (by have := pc_le _ h2; omega) (by decide) q, fun q => by rw [q]; rfl⟩
  rw [hz, hand, h2pc]
  constructor
  · rintro (q | ⟨q1, q2⟩)
    · left
      intro v
      have := hb v
      rw [q, Nat.zero_testBit] at this
      have := of_decide_eq_false this.symm
      omega
    · right
      obtain ⟨w, w1, w2, w3⟩ := pc_2 h2 hg q1 q2
      refine ⟨w, w2, fun v => ?_⟩
      by_cases hv : v < 7
      · have e := w3 v hv
        rw [hb v, decide_eq_true_eq] at e
        by_cases c : v = g ∨ v = w
        · rw [if_pos c]; exact e.mpr c
        · rw [if_neg c]
          have := fun z => c (e.mp z)
          omega
      · rw [dgr_big h hv, if_neg (by omega)]
  · rintro (q | ⟨w, w1, w2⟩)
    · left
      apply Nat.eq_of_testBit_eq
      intro v
      rw [hb v, Nat.zero_testBit]
      exact decide_eq_false (by rw [q v]; decide)
    · right
      have hbit : ∀ v, ((xo a b k).testBit v = true ↔ v = g ∨ v = w) := by
        intro v
        rw [hb v, decide_eq_true_eq, w2 v]
        by_cases c : v = g ∨ v = w
        · rw [if_pos c]; exact ⟨fun _ => c, fun _ => rfl⟩
        · rw [if_neg c]; exact ⟨fun z => absurd z (by decide), fun z => absurd z c⟩
      have hw7 : w < 7 := by
        apply Classical.byContradiction
        intro c
        have := w2 w
        rw [dgr_big h c, if_pos (Or.inr rfl)] at this
        exact absurd this (by decide)
      exact ⟨pc_2' h2 hg hw7 w1 (fun v _ => hbit v), (hbit g).mpr (Or.inl rfl)⟩
/-- told by counting, told by trying: the same -/
theorem count_eq (h : HV hf k a b) (hg : g < 7) (f : Nat → Int32) : t_count hf k (nI g) = t_whole (t_of hf k (nI g) f) k := by
  unfold t_count t_whole
  by_cases c : 10 < k
  · rw [if_pos c, if_pos c]
  · rw [if_neg c, if_neg c]
    have hpos := p2_pos k
    have hlt : ∀ e, Dp a b k g (2 ^ k) (2 ^ k - 1) e → e < 7 := fun e z => Dp.lt hg (fun i hi => ⟨(h i hi).2.2.1, (h i hi).2.2.2⟩) z
    have hall : t_of hf k (nI g) f (2 ^ k - 1) = 0 ↔ ¬ ∃ l e, (List.range k).Perm l ∧ tr a b l g e := by
      rw [(of_bits h (by omega) hg f (2 ^ k - 1) (by omega)).zero, ← Dp.all]
      exact ⟨fun q ⟨e, z⟩ => q e (hlt e z) z, fun q e _ z => q ⟨e, z⟩⟩
    have hcnt : (t_hang hf k (nI g) && t_oddOk hf k (nI g)) = true ↔ ∃ l e, (List.range k).Perm l ∧ tr a b l g e := by
      rw [Bool.and_eq_true, hang_ok h hg, odd_ok h hg, euler]
    by_cases c1 : ∃ l e, (List.range k).Perm l ∧ tr a b l g e
    · rw [hcnt.mpr c1, if_neg (fun z => hall.mp z c1)]; rfl
    · rw [if_pos (hall.mpr c1), show (t_hang hf k (nI g) && t_oddOk hf k (nI g)) = false by rw [Bool.eq_false_iff]; exact fun z => c1 (hcnt.mp z)]; rfl
end T3
