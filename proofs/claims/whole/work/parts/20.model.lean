/-! THE MODEL: its array s holds a game S as the class's tables do (en); A 1 saved, A 2 slots, A 3 text, A 4 comes, A 5 lots, A 6 its numbers: 0 thrown, 1 savedMany, 2 kept, 3 length, 4 spot, 5 isWrong, 6 letter, 7 readPlace, 8 readRow, 9 readEnd -/
theorem V.cut {p : Program} {l : Launch} {e : Env} {R : Room} {s : State} {m : MethodId} {args : Array Value} {below : List Frame} {meth : Method} {c : Code} {G : ga_} {nL : Nat} {Q : State → Prop} {h h1 : HP} {sz k n pc sz1 k1 n1 : Nat} {L L1 : List (Nat × Value)} {st st1 : List Value} (pc1 : Nat) (x : Int32) (b : V p l e R s m args below meth c G nL Q h1 sz1 k1 n1 pc1 L1 (.int x :: st1) → V p l e R s m args below meth c G nL Q h sz k n pc L st) (kk : V p l e R s m args below meth c G nL Q h1 sz1 k1 n1 pc1 L1 (.int x :: st1)) : V p l e R s m args below meth c G nL Q h sz k n pc L st := b kk
theorem V.st0 {p : Program} {l : Launch} {e : Env} {R : Room} {s : State} {m : MethodId} {args : Array Value} {below : List Frame} {meth : Method} {c : Code} {G : ga_} {nL : Nat} {Q : State → Prop} {h : HP} {sz k n pc : Nat} {L : List (Nat × Value)} {st : List Value} {x y : Int32} (hs : x = y) (kk : V p l e R s m args below meth c G nL Q h sz k n pc L (.int y :: st)) : V p l e R s m args below meth c G nL Q h sz k n pc L (.int x :: st) := hs ▸ kk
theorem nI_mul (a b : Nat) : nI a * nI b = nI (a * b) := (Int32.ofNat_mul a b).symm
def sc_ (a : Nat) : Nat := if a < 196 then 0 else if a < 224 then 4 else if a < 225 then 5 else if a < 337 then 1 else if a < 341 then 2 else if a < 346 then 5 else if a < 358 then 2 else if a < 360 then 5 else 3
def ix_ (a : Nat) : Nat := if a < 196 then a else if a < 224 then a - 196 else if a < 225 then 2 else if a < 337 then a - 225 else if a < 341 then 4 * (a - 337) else if a < 342 then 0 else if a < 343 then 1 else if a < 344 then 6 else if a < 345 then 4 else if a < 346 then 3 else if a < 350 then 4 * (a - 346) + 1 else if a < 354 then 4 * (a - 350) + 2 else if a < 358 then 4 * (a - 354) + 3 else if a < 359 then 5 else if a < 360 then 7 else a - 360
def pl_ (j i : Nat) : Nat := if j = 0 then i else if j = 4 then 196 + i else if j = 1 then 225 + i else if j = 3 then 360 + i else if j = 2 then (if i % 4 = 0 then 337 else if i % 4 = 1 then 346 else if i % 4 = 2 then 350 else 354) + i / 4 else if i = 0 then 341 else if i = 1 then 342 else if i = 2 then 224 else if i = 3 then 345 else if i = 4 then 344 else if i = 5 then 358 else if i = 6 then 343 else 359
set_option maxRecDepth 100000 in
theorem pl_ok : ∀ a, a < 372 → pl_ (sc_ a) (ix_ a) = a := by decide +kernel
def en (S : gS) (a : Nat) : Int32 := if a < 372 then S (sc_ a) (ix_ a) else 0
theorem en_cell {S S2 : gS} {v : Int32} (k j i : Nat) (hk : k < 372) (h1 : sc_ k = j) (h2 : ix_ k = i) (hS : S2 = gu S j (upd (S j) i v)) : upd (en S) k v = en S2 := by
  subst h1 h2 hS
  funext a
  unfold upd en
  by_cases c : a = k
  · subst c
    rw [if_pos rfl, if_pos hk]
    simp [gu, upd]
  · rw [if_neg c]
    by_cases d : a < 372
    · rw [if_pos d, if_pos d]
      unfold gu
      by_cases e1 : sc_ a = sc_ k
      · rw [if_pos e1]
        by_cases e2 : ix_ a = ix_ k
        · exact absurd (by rw [← pl_ok a d, ← pl_ok k hk, e1, e2]) c
        · show _ = if ix_ a = ix_ k then v else S (sc_ k) (ix_ a)
          rw [if_neg e2, e1]
      · rw [if_neg e1]
    · rw [if_neg d, if_neg d]
theorem s_of {k : Nat} (h : k < 196) : sc_ k = 0 ∧ ix_ k = k := by unfold sc_ ix_; rw [if_pos h, if_pos h]; exact ⟨rfl, rfl⟩
theorem s_ord {k : Nat} (h : k < 28) : sc_ (196 + k) = 4 ∧ ix_ (196 + k) = k := by
  unfold sc_ ix_
  rw [if_neg (by omega), if_pos (by omega), if_neg (by omega), if_pos (by omega)]
  omega
theorem s_ih {k : Nat} (h : k < 112) : sc_ (225 + k) = 1 ∧ ix_ (225 + k) = k := by
  unfold sc_ ix_
  rw [if_neg (by omega), if_neg (by omega), if_neg (by omega), if_pos (by omega), if_neg (by omega), if_neg (by omega), if_neg (by omega), if_pos (by omega)]
  omega
theorem s_row {k : Nat} (h : k < 12) : sc_ (360 + k) = 3 ∧ ix_ (360 + k) = k := by
  unfold sc_ ix_
  rw [if_neg (by omega), if_neg (by omega), if_neg (by omega), if_neg (by omega), if_neg (by omega), if_neg (by omega), if_neg (by omega), if_neg (by omega)]
  rw [if_neg (by omega), if_neg (by omega), if_neg (by omega), if_neg (by omega), if_neg (by omega), if_neg (by omega), if_neg (by omega), if_neg (by omega), if_neg (by omega), if_neg (by omega), if_neg (by omega), if_neg (by omega), if_neg (by omega), if_neg (by omega), if_neg (by omega)]
  omega
theorem lt4 {P : Nat → Prop} (h0 : P 0) (h1 : P 1) (h2 : P 2) (h3 : P 3) : ∀ i, i < 4 → P i := by
  intro i hi
  rcases (show i = 0 ∨ i = 1 ∨ i = 2 ∨ i = 3 by omega) with rfl | rfl | rfl | rfl
  · exact h0
  · exact h1
  · exact h2
  · exact h3
theorem s_tal0 : ∀ k, k < 4 → sc_ (337 + k) = 2 ∧ ix_ (337 + k) = k * 4 + 0 := lt4 ⟨rfl, rfl⟩ ⟨rfl, rfl⟩ ⟨rfl, rfl⟩ ⟨rfl, rfl⟩
theorem s_tal1 : ∀ k, k < 4 → sc_ (346 + k) = 2 ∧ ix_ (346 + k) = k * 4 + 1 := lt4 ⟨rfl, rfl⟩ ⟨rfl, rfl⟩ ⟨rfl, rfl⟩ ⟨rfl, rfl⟩
theorem s_tal2 : ∀ k, k < 4 → sc_ (350 + k) = 2 ∧ ix_ (350 + k) = k * 4 + 2 := lt4 ⟨rfl, rfl⟩ ⟨rfl, rfl⟩ ⟨rfl, rfl⟩ ⟨rfl, rfl⟩
theorem s_tal3 : ∀ k, k < 4 → sc_ (354 + k) = 2 ∧ ix_ (354 + k) = k * 4 + 3 := lt4 ⟨rfl, rfl⟩ ⟨rfl, rfl⟩ ⟨rfl, rfl⟩ ⟨rfl, rfl⟩
theorem tAt_in {C n t w : Nat} {f : Nat → Int32} (h : t * C + w < n) (hn : n < 2147483648) : tAt (nI C) n f (nI t) (nI w) = f (t * C + w) := by
  unfold tAt
  rw [nI_mul, nI_add, if_neg (nI_pos (by omega)), if_neg (nI_ge h hn), nI_clamp (by omega)]
theorem tPut_in {C n t w : Nat} {f : Nat → Int32} {v : Int32} (h : t * C + w < n) (hn : n < 2147483648) : tPut (nI C) n f (nI t) (nI w) v = upd f (t * C + w) v := by
  unfold tPut
  rw [nI_mul, nI_add, if_neg (nI_pos (by omega)), if_neg (nI_ge h hn), nI_clamp (by omega)]
theorem tInc_in {C n t w : Nat} {f : Nat → Int32} {v : Int32} (h : t * C + w < n) (hn : n < 2147483648) : tInc (nI C) n f (nI t) (nI w) v = upd f (t * C + w) (f (t * C + w) + v) := by
  unfold tInc
  rw [nI_mul, nI_add, if_neg (nI_pos (by omega)), if_neg (nI_ge h hn), nI_clamp (by omega)]
theorem cl_f {α : Type} {f : Nat → α} {e : Nat} (h : e < 2147483648) : f (nI e).toNatClampNeg = f e := by rw [nI_clamp (by omega)]
theorem en_cl {S : gS} {e : Nat} (h : e < 2147483648) : en S (nI e).toNatClampNeg = en S e := by rw [nI_clamp (by omega)]
def mC (G : ga_) (mo : Nat) (S A : gS) (dg : Int64) : Nat → va_E
  | 0 => ob_ 6 [.int (A 6 0), .ref (mo + 1), .ref (mo + 2), .int (A 6 1), .ref (mo + 3), .int (A 6 2), .ref (mo + 4), .int (A 6 3), .ref (mo + 5), .ref (mo + 6), .int (A 6 4), .int (A 6 5), .int (A 6 6), .int (A 6 7), .int (A 6 8), .int (A 6 9), .long dg]
  | 1 => aI_ G 372 (en S)
  | 2 => aI_ G 2232 (A 1)
  | 3 => aI_ G 744 (A 2)
  | 4 => aI_ G 60 (A 3)
  | 5 => aZ_ G 7168 (A 4)
  | _ => aI_ G 28 (A 5)
def MA (G : ga_) (h : HP) (mo : Nat) (S A : gS) (dg : Int64) : Prop := ∀ j, j < 7 → h (mo + j) = some (mC G mo S A dg j)
def pM (G : ga_) (h : HP) (mo : Nat) (S A : gS) (dg : Int64) : HP := fun a => if mo ≤ a ∧ a < mo + 7 then some (mC G mo S A dg (a - mo)) else h a
def ac (A : gS) (k : Nat) (v : Int32) : gS := gu A 6 (fun b => if b = k then v else A 6 b)
theorem MA_pM {G : ga_} {h : HP} {mo : Nat} {S A : gS} {dg : Int64} : MA G (pM G h mo S A dg) mo S A dg := by
  intro j hj
  unfold pM
  rw [if_pos ⟨by omega, by omega⟩, Nat.add_sub_cancel_left]
theorem pM_in {G : ga_} {h : HP} {mo a : Nat} {S A : gS} {dg : Int64} (h1 : mo ≤ a) (h2 : a < mo + 7) : pM G h mo S A dg a = some (mC G mo S A dg (a - mo)) := by unfold pM; rw [if_pos ⟨h1, h2⟩]
theorem pM_out {G : ga_} {h : HP} {mo a : Nat} {S A : gS} {dg : Int64} (ha : a < mo ∨ mo + 7 ≤ a) : pM G h mo S A dg a = h a := by unfold pM; rw [if_neg (by omega)]
theorem pM_pM (G : ga_) (h : HP) (mo : Nat) (S A S2 A2 : gS) (dg : Int64) {dg2 : Int64} : pM G (pM G h mo S A dg) mo S2 A2 dg2 = pM G h mo S2 A2 dg2 := by
  funext a
  by_cases c : mo ≤ a ∧ a < mo + 7
  · rw [pM_in c.1 c.2, pM_in c.1 c.2]
  · rw [pM_out (by omega), pM_out (by omega), pM_out (by omega)]
theorem pM_id {G : ga_} {h : HP} {mo : Nat} {S A : gS} {dg : Int64} (w : MA G h mo S A dg) : pM G h mo S A dg = h := by
  funext a
  by_cases c : mo ≤ a ∧ a < mo + 7
  · rw [pM_in c.1 c.2, ← w (a - mo) (by omega), show mo + (a - mo) = a by omega]
  · rw [pM_out (by omega)]
theorem pM_eq {G : ga_} {h H : HP} {mo : Nat} {S A : gS} {dg : Int64} (w : MA G H mo S A dg) (ho : ∀ a, (a < mo ∨ mo + 7 ≤ a) → H a = h a) : H = pM G h mo S A dg := by
  funext a
  by_cases c : mo ≤ a ∧ a < mo + 7
  · rw [pM_in c.1 c.2, ← w (a - mo) (by omega), show mo + (a - mo) = a by omega]
  · rw [pM_out (by omega), ho a (by omega)]
theorem lt7 {P : Nat → Prop} (h0 : P 0) (h1 : P 1) (h2 : P 2) (h3 : P 3) (h4 : P 4) (h5 : P 5) (h6 : P 6) : ∀ i, i < 7 → P i := by
  intro i hi
  rcases (show i = 0 ∨ i = 1 ∨ i = 2 ∨ i = 3 ∨ i = 4 ∨ i = 5 ∨ i = 6 by omega) with rfl | rfl | rfl | rfl | rfl | rfl | rfl
  · exact h0
  · exact h1
  · exact h2
  · exact h3
  · exact h4
  · exact h5
  · exact h6
theorem pM_one {G : ga_} {h : HP} {mo : Nat} {S A S2 A2 : gS} {dg dg2 : Int64} {e : va_E} (j : Nat) (hj : j < 7) (he : mC G mo S2 A2 dg2 j = e) (ho : ∀ i, i < 7 → i ≠ j → mC G mo S2 A2 dg2 i = mC G mo S A dg i) : up_ (pM G h mo S A dg) (mo + j) e = pM G h mo S2 A2 dg2 := by
  funext a
  by_cases c : mo ≤ a ∧ a < mo + 7
  · rw [pM_in c.1 c.2]
    by_cases d : a = mo + j
    · subst d; rw [up_s, Nat.add_sub_cancel_left, he]
    · rw [up_n d, ho (a - mo) (by omega) (by omega), pM_in c.1 c.2]
  · rw [pM_out (by omega), up_n (by omega), pM_out (by omega)]
theorem MA_o {G : ga_} {h : HP} {mo : Nat} {S A : gS} {dg : Int64} (w : MA G h mo S A dg) : h mo = some (ob_ 6 [.int (A 6 0), .ref (mo + 1), .ref (mo + 2), .int (A 6 1), .ref (mo + 3), .int (A 6 2), .ref (mo + 4), .int (A 6 3), .ref (mo + 5), .ref (mo + 6), .int (A 6 4), .int (A 6 5), .int (A 6 6), .int (A 6 7), .int (A 6 8), .int (A 6 9), .long dg]) := w 0 (by decide)
theorem MA_s {G : ga_} {h : HP} {mo : Nat} {S A : gS} {dg : Int64} (w : MA G h mo S A dg) : h (mo + 1) = some (aI_ G 372 (en S)) := w 1 (by decide)
theorem MA_1 {G : ga_} {h : HP} {mo : Nat} {S A : gS} {dg : Int64} (w : MA G h mo S A dg) : h (mo + 2) = some (aI_ G 2232 (A 1)) := w 2 (by decide)
theorem MA_2 {G : ga_} {h : HP} {mo : Nat} {S A : gS} {dg : Int64} (w : MA G h mo S A dg) : h (mo + 3) = some (aI_ G 744 (A 2)) := w 3 (by decide)
theorem MA_3 {G : ga_} {h : HP} {mo : Nat} {S A : gS} {dg : Int64} (w : MA G h mo S A dg) : h (mo + 4) = some (aI_ G 60 (A 3)) := w 4 (by decide)
theorem MA_4 {G : ga_} {h : HP} {mo : Nat} {S A : gS} {dg : Int64} (w : MA G h mo S A dg) : h (mo + 5) = some (aZ_ G 7168 (A 4)) := w 5 (by decide)
theorem MA_5 {G : ga_} {h : HP} {mo : Nat} {S A : gS} {dg : Int64} (w : MA G h mo S A dg) : h (mo + 6) = some (aI_ G 28 (A 5)) := w 6 (by decide)
theorem qM_f {G : ga_} {h : HP} {mo : Nat} {S A : gS} {dg : Int64} {fs : List Value} (k : Nat) (v : Int32) (hf : mC G mo S (ac A k v) dg 0 = ob_ 6 fs) : up_ (pM G h mo S A dg) mo (ob_ 6 fs) = pM G h mo S (ac A k v) dg :=
  pM_one 0 (by decide) hf (lt7 (fun q => absurd rfl q) (fun _ => rfl) (fun _ => rfl) (fun _ => rfl) (fun _ => rfl) (fun _ => rfl) (fun _ => rfl))
theorem qM_dg {G : ga_} {h : HP} {mo : Nat} {S A : gS} {dg dg2 : Int64} {fs : List Value} (hf : mC G mo S A dg2 0 = ob_ 6 fs) : up_ (pM G h mo S A dg) mo (ob_ 6 fs) = pM G h mo S A dg2 :=
  pM_one 0 (by decide) hf (lt7 (fun q => absurd rfl q) (fun _ => rfl) (fun _ => rfl) (fun _ => rfl) (fun _ => rfl) (fun _ => rfl) (fun _ => rfl))
theorem qM_en {G : ga_} {h : HP} {mo : Nat} {S A S2 : gS} {dg : Int64} {f : Nat → Int32} (he : f = en S2) : up_ (pM G h mo S A dg) (mo + 1) (aI_ G 372 f) = pM G h mo S2 A dg := by
  subst he
  exact pM_one 1 (by decide) rfl (lt7 (fun _ => rfl) (fun q => absurd rfl q) (fun _ => rfl) (fun _ => rfl) (fun _ => rfl) (fun _ => rfl) (fun _ => rfl))
theorem qM_w1 {G : ga_} {h : HP} {mo : Nat} {S A : gS} {dg : Int64} {f : Nat → Int32} : up_ (pM G h mo S A dg) (mo + 2) (aI_ G 2232 f) = pM G h mo S (gu A 1 f) dg :=
  pM_one 2 (by decide) rfl (lt7 (fun _ => rfl) (fun _ => rfl) (fun q => absurd rfl q) (fun _ => rfl) (fun _ => rfl) (fun _ => rfl) (fun _ => rfl))
theorem qM_a1 {G : ga_} {h : HP} {mo : Nat} {S A : gS} {dg : Int64} {e : Nat} {v : Int32} (he : e < 2147483648) : up_ (pM G h mo S A dg) (mo + 2) (aI_ G 2232 (upd (A 1) (nI e).toNatClampNeg v)) = pM G h mo S (gu A 1 (upd (A 1) e v)) dg := by
  rw [nI_clamp (by omega)]
  exact qM_w1
theorem qM_w2 {G : ga_} {h : HP} {mo : Nat} {S A : gS} {dg : Int64} {f : Nat → Int32} : up_ (pM G h mo S A dg) (mo + 3) (aI_ G 744 f) = pM G h mo S (gu A 2 f) dg :=
  pM_one 3 (by decide) rfl (lt7 (fun _ => rfl) (fun _ => rfl) (fun _ => rfl) (fun q => absurd rfl q) (fun _ => rfl) (fun _ => rfl) (fun _ => rfl))
theorem qM_a2 {G : ga_} {h : HP} {mo : Nat} {S A : gS} {dg : Int64} {e : Nat} {v : Int32} (he : e < 2147483648) : up_ (pM G h mo S A dg) (mo + 3) (aI_ G 744 (upd (A 2) (nI e).toNatClampNeg v)) = pM G h mo S (gu A 2 (upd (A 2) e v)) dg := by
  rw [nI_clamp (by omega)]
  exact qM_w2
theorem qM_w3 {G : ga_} {h : HP} {mo : Nat} {S A : gS} {dg : Int64} {f : Nat → Int32} : up_ (pM G h mo S A dg) (mo + 4) (aI_ G 60 f) = pM G h mo S (gu A 3 f) dg :=
  pM_one 4 (by decide) rfl (lt7 (fun _ => rfl) (fun _ => rfl) (fun _ => rfl) (fun _ => rfl) (fun q => absurd rfl q) (fun _ => rfl) (fun _ => rfl))
theorem qM_a3 {G : ga_} {h : HP} {mo : Nat} {S A : gS} {dg : Int64} {e : Nat} {v : Int32} (he : e < 2147483648) : up_ (pM G h mo S A dg) (mo + 4) (aI_ G 60 (upd (A 3) (nI e).toNatClampNeg v)) = pM G h mo S (gu A 3 (upd (A 3) e v)) dg := by
  rw [nI_clamp (by omega)]
  exact qM_w3
theorem qM_w4 {G : ga_} {h : HP} {mo : Nat} {S A : gS} {dg : Int64} {f : Nat → Int32} : up_ (pM G h mo S A dg) (mo + 5) (aZ_ G 7168 f) = pM G h mo S (gu A 4 f) dg :=
  pM_one 5 (by decide) rfl (lt7 (fun _ => rfl) (fun _ => rfl) (fun _ => rfl) (fun _ => rfl) (fun _ => rfl) (fun q => absurd rfl q) (fun _ => rfl))
theorem qM_a4 {G : ga_} {h : HP} {mo : Nat} {S A : gS} {dg : Int64} {e : Nat} {v : Int32} (he : e < 2147483648) : up_ (pM G h mo S A dg) (mo + 5) (aZ_ G 7168 (upd (A 4) (nI e).toNatClampNeg (vp_nar .boolean v))) = pM G h mo S (gu A 4 (upd (A 4) e (vp_nar .boolean v))) dg := by
  rw [nI_clamp (by omega)]
  exact qM_w4
theorem qM_w5 {G : ga_} {h : HP} {mo : Nat} {S A : gS} {dg : Int64} {f : Nat → Int32} : up_ (pM G h mo S A dg) (mo + 6) (aI_ G 28 f) = pM G h mo S (gu A 5 f) dg :=
  pM_one 6 (by decide) rfl (lt7 (fun _ => rfl) (fun _ => rfl) (fun _ => rfl) (fun _ => rfl) (fun _ => rfl) (fun _ => rfl) (fun q => absurd rfl q))
theorem qM_a5 {G : ga_} {h : HP} {mo : Nat} {S A : gS} {dg : Int64} {e : Nat} {v : Int32} (he : e < 2147483648) : up_ (pM G h mo S A dg) (mo + 6) (aI_ G 28 (upd (A 5) (nI e).toNatClampNeg v)) = pM G h mo S (gu A 5 (upd (A 5) e v)) dg := by
  rw [nI_clamp (by omega)]
  exact qM_w5
theorem en_of {t w : Nat} {wi : Int32} (h1 : t < 28) (h2 : w < 7) (hw : wi = nI w) (S : gS) : en S (nI (7 * t + w)).toNatClampNeg = tAt 7 196 (S 0) (nI t) wi := by
  subst hw
  rw [nI_clamp (by omega)]
  show _ = tAt (nI 7) 196 (S 0) (nI t) (nI w)
  rw [tAt_in (by omega) (by decide)]
  unfold en
  rw [if_pos (by omega), (show sc_ (7 * t + w) = 0 ∧ ix_ (7 * t + w) = t * 7 + w from ⟨(s_of (by omega)).1, by rw [(s_of (by omega)).2]; omega⟩).1, (show sc_ (7 * t + w) = 0 ∧ ix_ (7 * t + w) = t * 7 + w from ⟨(s_of (by omega)).1, by rw [(s_of (by omega)).2]; omega⟩).2]
theorem qP_of {G : ga_} {h : HP} {mo : Nat} {S A : gS} {dg : Int64} {t w : Nat} {wi : Int32} {v : Int32} (h1 : t < 28) (h2 : w < 7) (hw : wi = nI w) : up_ (pM G h mo S A dg) (mo + 1) (aI_ G 372 (upd (en S) (nI (7 * t + w)).toNatClampNeg v)) = pM G h mo (gP S 0 (nI t) wi v) A dg := by
  subst hw
  rw [nI_clamp (by omega)]
  refine qM_en (en_cell _ 0 _ (by omega) (show sc_ (7 * t + w) = 0 ∧ ix_ (7 * t + w) = t * 7 + w from ⟨(s_of (by omega)).1, by rw [(s_of (by omega)).2]; omega⟩).1 (show sc_ (7 * t + w) = 0 ∧ ix_ (7 * t + w) = t * 7 + w from ⟨(s_of (by omega)).1, by rw [(s_of (by omega)).2]; omega⟩).2 ?_)
  show gu S 0 (tPut (nI 7) 196 (S 0) (nI t) (nI w) v) = _
  rw [tPut_in (by omega) (by decide)]
theorem qI_of {G : ga_} {h : HP} {mo : Nat} {S A : gS} {dg : Int64} {t w : Nat} {wi : Int32} {v : Int32} (h1 : t < 28) (h2 : w < 7) (hw : wi = nI w) : up_ (pM G h mo S A dg) (mo + 1) (aI_ G 372 (upd (en S) (nI (7 * t + w)).toNatClampNeg (tAt 7 196 (S 0) (nI t) wi + v))) = pM G h mo (gI S 0 (nI t) wi v) A dg := by
  subst hw
  rw [nI_clamp (by omega)]
  refine qM_en (en_cell _ 0 _ (by omega) (show sc_ (7 * t + w) = 0 ∧ ix_ (7 * t + w) = t * 7 + w from ⟨(s_of (by omega)).1, by rw [(s_of (by omega)).2]; omega⟩).1 (show sc_ (7 * t + w) = 0 ∧ ix_ (7 * t + w) = t * 7 + w from ⟨(s_of (by omega)).1, by rw [(s_of (by omega)).2]; omega⟩).2 ?_)
  show gu S 0 (tInc (nI 7) 196 (S 0) (nI t) (nI w) v) = gu S 0 (upd (S 0) _ (tAt (nI 7) 196 (S 0) (nI t) (nI w) + v))
  rw [tInc_in (by omega) (by decide), tAt_in (by omega) (by decide)]
theorem qD_of {G : ga_} {h : HP} {mo : Nat} {S A : gS} {dg : Int64} {t w : Nat} {wi : Int32} (h1 : t < 28) (h2 : w < 7) (hw : wi = nI w) : up_ (pM G h mo S A dg) (mo + 1) (aI_ G 372 (upd (en S) (nI (7 * t + w)).toNatClampNeg (tAt 7 196 (S 0) (nI t) wi - 1))) = pM G h mo (gI S 0 (nI t) wi (-1)) A dg := by
  rw [show tAt 7 196 (S 0) (nI t) wi - 1 = tAt 7 196 (S 0) (nI t) wi + (-1) from Int32.sub_eq_add_neg _ _]
  exact qI_of h1 h2 hw
theorem en_ih {p i : Nat} (h1 : p < 4) (h2 : i < 28) (S : gS) : en S (nI (225 + 28 * p + i)).toNatClampNeg = tAt 28 112 (S 1) (nI p) (nI i) := by
  skip
  rw [nI_clamp (by omega)]
  show _ = tAt (nI 28) 112 (S 1) (nI p) (nI i)
  rw [tAt_in (by omega) (by decide)]
  unfold en
  rw [if_pos (by omega), (show sc_ (225 + 28 * p + i) = 1 ∧ ix_ (225 + 28 * p + i) = p * 28 + i from by rw [show 225 + 28 * p + i = 225 + (p * 28 + i) by omega]; exact s_ih (by omega)).1, (show sc_ (225 + 28 * p + i) = 1 ∧ ix_ (225 + 28 * p + i) = p * 28 + i from by rw [show 225 + 28 * p + i = 225 + (p * 28 + i) by omega]; exact s_ih (by omega)).2]
theorem qP_ih {G : ga_} {h : HP} {mo : Nat} {S A : gS} {dg : Int64} {p i : Nat} {v : Int32} (h1 : p < 4) (h2 : i < 28) : up_ (pM G h mo S A dg) (mo + 1) (aI_ G 372 (upd (en S) (nI (225 + 28 * p + i)).toNatClampNeg v)) = pM G h mo (gP S 1 (nI p) (nI i) v) A dg := by
  skip
  rw [nI_clamp (by omega)]
  refine qM_en (en_cell _ 1 _ (by omega) (show sc_ (225 + 28 * p + i) = 1 ∧ ix_ (225 + 28 * p + i) = p * 28 + i from by rw [show 225 + 28 * p + i = 225 + (p * 28 + i) by omega]; exact s_ih (by omega)).1 (show sc_ (225 + 28 * p + i) = 1 ∧ ix_ (225 + 28 * p + i) = p * 28 + i from by rw [show 225 + 28 * p + i = 225 + (p * 28 + i) by omega]; exact s_ih (by omega)).2 ?_)
  show gu S 1 (tPut (nI 28) 112 (S 1) (nI p) (nI i) v) = _
  rw [tPut_in (by omega) (by decide)]
theorem qI_ih {G : ga_} {h : HP} {mo : Nat} {S A : gS} {dg : Int64} {p i : Nat} {v : Int32} (h1 : p < 4) (h2 : i < 28) : up_ (pM G h mo S A dg) (mo + 1) (aI_ G 372 (upd (en S) (nI (225 + 28 * p + i)).toNatClampNeg (tAt 28 112 (S 1) (nI p) (nI i) + v))) = pM G h mo (gI S 1 (nI p) (nI i) v) A dg := by
  skip
  rw [nI_clamp (by omega)]
  refine qM_en (en_cell _ 1 _ (by omega) (show sc_ (225 + 28 * p + i) = 1 ∧ ix_ (225 + 28 * p + i) = p * 28 + i from by rw [show 225 + 28 * p + i = 225 + (p * 28 + i) by omega]; exact s_ih (by omega)).1 (show sc_ (225 + 28 * p + i) = 1 ∧ ix_ (225 + 28 * p + i) = p * 28 + i from by rw [show 225 + 28 * p + i = 225 + (p * 28 + i) by omega]; exact s_ih (by omega)).2 ?_)
  show gu S 1 (tInc (nI 28) 112 (S 1) (nI p) (nI i) v) = gu S 1 (upd (S 1) _ (tAt (nI 28) 112 (S 1) (nI p) (nI i) + v))
  rw [tInc_in (by omega) (by decide), tAt_in (by omega) (by decide)]
theorem qD_ih {G : ga_} {h : HP} {mo : Nat} {S A : gS} {dg : Int64} {p i : Nat} (h1 : p < 4) (h2 : i < 28) : up_ (pM G h mo S A dg) (mo + 1) (aI_ G 372 (upd (en S) (nI (225 + 28 * p + i)).toNatClampNeg (tAt 28 112 (S 1) (nI p) (nI i) - 1))) = pM G h mo (gI S 1 (nI p) (nI i) (-1)) A dg := by
  rw [show tAt 28 112 (S 1) (nI p) (nI i) - 1 = tAt 28 112 (S 1) (nI p) (nI i) + (-1) from Int32.sub_eq_add_neg _ _]
  exact qI_ih h1 h2
theorem en_row {r w : Nat} {wi : Int32} (h1 : r < 3) (h2 : w < 4) (hw : wi = nI w) (S : gS) : en S (nI (360 + 4 * r + w)).toNatClampNeg = tAt 4 12 (S 3) (nI r) wi := by
  subst hw
  rw [nI_clamp (by omega)]
  show _ = tAt (nI 4) 12 (S 3) (nI r) (nI w)
  rw [tAt_in (by omega) (by decide)]
  unfold en
  rw [if_pos (by omega), (show sc_ (360 + 4 * r + w) = 3 ∧ ix_ (360 + 4 * r + w) = r * 4 + w from by rw [show 360 + 4 * r + w = 360 + (r * 4 + w) by omega]; exact s_row (by omega)).1, (show sc_ (360 + 4 * r + w) = 3 ∧ ix_ (360 + 4 * r + w) = r * 4 + w from by rw [show 360 + 4 * r + w = 360 + (r * 4 + w) by omega]; exact s_row (by omega)).2]
theorem qP_row {G : ga_} {h : HP} {mo : Nat} {S A : gS} {dg : Int64} {r w : Nat} {wi : Int32} {v : Int32} (h1 : r < 3) (h2 : w < 4) (hw : wi = nI w) : up_ (pM G h mo S A dg) (mo + 1) (aI_ G 372 (upd (en S) (nI (360 + 4 * r + w)).toNatClampNeg v)) = pM G h mo (gP S 3 (nI r) wi v) A dg := by
  subst hw
  rw [nI_clamp (by omega)]
  refine qM_en (en_cell _ 3 _ (by omega) (show sc_ (360 + 4 * r + w) = 3 ∧ ix_ (360 + 4 * r + w) = r * 4 + w from by rw [show 360 + 4 * r + w = 360 + (r * 4 + w) by omega]; exact s_row (by omega)).1 (show sc_ (360 + 4 * r + w) = 3 ∧ ix_ (360 + 4 * r + w) = r * 4 + w from by rw [show 360 + 4 * r + w = 360 + (r * 4 + w) by omega]; exact s_row (by omega)).2 ?_)
  show gu S 3 (tPut (nI 4) 12 (S 3) (nI r) (nI w) v) = _
  rw [tPut_in (by omega) (by decide)]
theorem qI_row {G : ga_} {h : HP} {mo : Nat} {S A : gS} {dg : Int64} {r w : Nat} {wi : Int32} {v : Int32} (h1 : r < 3) (h2 : w < 4) (hw : wi = nI w) : up_ (pM G h mo S A dg) (mo + 1) (aI_ G 372 (upd (en S) (nI (360 + 4 * r + w)).toNatClampNeg (tAt 4 12 (S 3) (nI r) wi + v))) = pM G h mo (gI S 3 (nI r) wi v) A dg := by
  subst hw
  rw [nI_clamp (by omega)]
  refine qM_en (en_cell _ 3 _ (by omega) (show sc_ (360 + 4 * r + w) = 3 ∧ ix_ (360 + 4 * r + w) = r * 4 + w from by rw [show 360 + 4 * r + w = 360 + (r * 4 + w) by omega]; exact s_row (by omega)).1 (show sc_ (360 + 4 * r + w) = 3 ∧ ix_ (360 + 4 * r + w) = r * 4 + w from by rw [show 360 + 4 * r + w = 360 + (r * 4 + w) by omega]; exact s_row (by omega)).2 ?_)
  show gu S 3 (tInc (nI 4) 12 (S 3) (nI r) (nI w) v) = gu S 3 (upd (S 3) _ (tAt (nI 4) 12 (S 3) (nI r) (nI w) + v))
  rw [tInc_in (by omega) (by decide), tAt_in (by omega) (by decide)]
theorem qD_row {G : ga_} {h : HP} {mo : Nat} {S A : gS} {dg : Int64} {r w : Nat} {wi : Int32} (h1 : r < 3) (h2 : w < 4) (hw : wi = nI w) : up_ (pM G h mo S A dg) (mo + 1) (aI_ G 372 (upd (en S) (nI (360 + 4 * r + w)).toNatClampNeg (tAt 4 12 (S 3) (nI r) wi - 1))) = pM G h mo (gI S 3 (nI r) wi (-1)) A dg := by
  rw [show tAt 4 12 (S 3) (nI r) wi - 1 = tAt 4 12 (S 3) (nI r) wi + (-1) from Int32.sub_eq_add_neg _ _]
  exact qI_row h1 h2 hw
theorem en_tal0 {p : Nat} (h1 : p < 4) (S : gS) : en S (nI (337 + p)).toNatClampNeg = tAt 4 16 (S 2) (nI p) 0 := by
  skip
  rw [nI_clamp (by omega)]
  show _ = tAt (nI 4) 16 (S 2) (nI p) (nI 0)
  rw [tAt_in (by omega) (by decide)]
  unfold en
  rw [if_pos (by omega), (s_tal0 p h1).1, (s_tal0 p h1).2]
theorem qP_tal0 {G : ga_} {h : HP} {mo : Nat} {S A : gS} {dg : Int64} {p : Nat} {v : Int32} (h1 : p < 4) : up_ (pM G h mo S A dg) (mo + 1) (aI_ G 372 (upd (en S) (nI (337 + p)).toNatClampNeg v)) = pM G h mo (gP S 2 (nI p) 0 v) A dg := by
  skip
  rw [nI_clamp (by omega)]
  refine qM_en (en_cell _ 2 _ (by omega) (s_tal0 p h1).1 (s_tal0 p h1).2 ?_)
  show gu S 2 (tPut (nI 4) 16 (S 2) (nI p) (nI 0) v) = _
  rw [tPut_in (by omega) (by decide)]
theorem qI_tal0 {G : ga_} {h : HP} {mo : Nat} {S A : gS} {dg : Int64} {p : Nat} {v : Int32} (h1 : p < 4) : up_ (pM G h mo S A dg) (mo + 1) (aI_ G 372 (upd (en S) (nI (337 + p)).toNatClampNeg (tAt 4 16 (S 2) (nI p) 0 + v))) = pM G h mo (gI S 2 (nI p) 0 v) A dg := by
  skip
  rw [nI_clamp (by omega)]
  refine qM_en (en_cell _ 2 _ (by omega) (s_tal0 p h1).1 (s_tal0 p h1).2 ?_)
  show gu S 2 (tInc (nI 4) 16 (S 2) (nI p) (nI 0) v) = gu S 2 (upd (S 2) _ (tAt (nI 4) 16 (S 2) (nI p) (nI 0) + v))
  rw [tInc_in (by omega) (by decide), tAt_in (by omega) (by decide)]
theorem qD_tal0 {G : ga_} {h : HP} {mo : Nat} {S A : gS} {dg : Int64} {p : Nat} (h1 : p < 4) : up_ (pM G h mo S A dg) (mo + 1) (aI_ G 372 (upd (en S) (nI (337 + p)).toNatClampNeg (tAt 4 16 (S 2) (nI p) 0 - 1))) = pM G h mo (gI S 2 (nI p) 0 (-1)) A dg := by
  rw [show tAt 4 16 (S 2) (nI p) 0 - 1 = tAt 4 16 (S 2) (nI p) 0 + (-1) from Int32.sub_eq_add_neg _ _]
  exact qI_tal0 h1
theorem en_tal1 {p : Nat} (h1 : p < 4) (S : gS) : en S (nI (346 + p)).toNatClampNeg = tAt 4 16 (S 2) (nI p) 1 := by
  skip
  rw [nI_clamp (by omega)]
  show _ = tAt (nI 4) 16 (S 2) (nI p) (nI 1)
  rw [tAt_in (by omega) (by decide)]
  unfold en
  rw [if_pos (by omega), (s_tal1 p h1).1, (s_tal1 p h1).2]
theorem qP_tal1 {G : ga_} {h : HP} {mo : Nat} {S A : gS} {dg : Int64} {p : Nat} {v : Int32} (h1 : p < 4) : up_ (pM G h mo S A dg) (mo + 1) (aI_ G 372 (upd (en S) (nI (346 + p)).toNatClampNeg v)) = pM G h mo (gP S 2 (nI p) 1 v) A dg := by
  skip
  rw [nI_clamp (by omega)]
  refine qM_en (en_cell _ 2 _ (by omega) (s_tal1 p h1).1 (s_tal1 p h1).2 ?_)
  show gu S 2 (tPut (nI 4) 16 (S 2) (nI p) (nI 1) v) = _
  rw [tPut_in (by omega) (by decide)]
theorem qI_tal1 {G : ga_} {h : HP} {mo : Nat} {S A : gS} {dg : Int64} {p : Nat} {v : Int32} (h1 : p < 4) : up_ (pM G h mo S A dg) (mo + 1) (aI_ G 372 (upd (en S) (nI (346 + p)).toNatClampNeg (tAt 4 16 (S 2) (nI p) 1 + v))) = pM G h mo (gI S 2 (nI p) 1 v) A dg := by
  skip
  rw [nI_clamp (by omega)]
  refine qM_en (en_cell _ 2 _ (by omega) (s_tal1 p h1).1 (s_tal1 p h1).2 ?_)
  show gu S 2 (tInc (nI 4) 16 (S 2) (nI p) (nI 1) v) = gu S 2 (upd (S 2) _ (tAt (nI 4) 16 (S 2) (nI p) (nI 1) + v))
  rw [tInc_in (by omega) (by decide), tAt_in (by omega) (by decide)]
theorem qD_tal1 {G : ga_} {h : HP} {mo : Nat} {S A : gS} {dg : Int64} {p : Nat} (h1 : p < 4) : up_ (pM G h mo S A dg) (mo + 1) (aI_ G 372 (upd (en S) (nI (346 + p)).toNatClampNeg (tAt 4 16 (S 2) (nI p) 1 - 1))) = pM G h mo (gI S 2 (nI p) 1 (-1)) A dg := by
  rw [show tAt 4 16 (S 2) (nI p) 1 - 1 = tAt 4 16 (S 2) (nI p) 1 + (-1) from Int32.sub_eq_add_neg _ _]
  exact qI_tal1 h1
theorem en_tal2 {p : Nat} (h1 : p < 4) (S : gS) : en S (nI (350 + p)).toNatClampNeg = tAt 4 16 (S 2) (nI p) 2 := by
  skip
  rw [nI_clamp (by omega)]
  show _ = tAt (nI 4) 16 (S 2) (nI p) (nI 2)
  rw [tAt_in (by omega) (by decide)]
  unfold en
  rw [if_pos (by omega), (s_tal2 p h1).1, (s_tal2 p h1).2]
theorem qP_tal2 {G : ga_} {h : HP} {mo : Nat} {S A : gS} {dg : Int64} {p : Nat} {v : Int32} (h1 : p < 4) : up_ (pM G h mo S A dg) (mo + 1) (aI_ G 372 (upd (en S) (nI (350 + p)).toNatClampNeg v)) = pM G h mo (gP S 2 (nI p) 2 v) A dg := by
  skip
  rw [nI_clamp (by omega)]
  refine qM_en (en_cell _ 2 _ (by omega) (s_tal2 p h1).1 (s_tal2 p h1).2 ?_)
  show gu S 2 (tPut (nI 4) 16 (S 2) (nI p) (nI 2) v) = _
  rw [tPut_in (by omega) (by decide)]
theorem qI_tal2 {G : ga_} {h : HP} {mo : Nat} {S A : gS} {dg : Int64} {p : Nat} {v : Int32} (h1 : p < 4) : up_ (pM G h mo S A dg) (mo + 1) (aI_ G 372 (upd (en S) (nI (350 + p)).toNatClampNeg (tAt 4 16 (S 2) (nI p) 2 + v))) = pM G h mo (gI S 2 (nI p) 2 v) A dg := by
  skip
  rw [nI_clamp (by omega)]
  refine qM_en (en_cell _ 2 _ (by omega) (s_tal2 p h1).1 (s_tal2 p h1).2 ?_)
  show gu S 2 (tInc (nI 4) 16 (S 2) (nI p) (nI 2) v) = gu S 2 (upd (S 2) _ (tAt (nI 4) 16 (S 2) (nI p) (nI 2) + v))
  rw [tInc_in (by omega) (by decide), tAt_in (by omega) (by decide)]
theorem qD_tal2 {G : ga_} {h : HP} {mo : Nat} {S A : gS} {dg : Int64} {p : Nat} (h1 : p < 4) : up_ (pM G h mo S A dg) (mo + 1) (aI_ G 372 (upd (en S) (nI (350 + p)).toNatClampNeg (tAt 4 16 (S 2) (nI p) 2 - 1))) = pM G h mo (gI S 2 (nI p) 2 (-1)) A dg := by
  rw [show tAt 4 16 (S 2) (nI p) 2 - 1 = tAt 4 16 (S 2) (nI p) 2 + (-1) from Int32.sub_eq_add_neg _ _]
  exact qI_tal2 h1
theorem en_tal3 {p : Nat} (h1 : p < 4) (S : gS) : en S (nI (354 + p)).toNatClampNeg = tAt 4 16 (S 2) (nI p) 3 := by
  skip
  rw [nI_clamp (by omega)]
  show _ = tAt (nI 4) 16 (S 2) (nI p) (nI 3)
  rw [tAt_in (by omega) (by decide)]
  unfold en
  rw [if_pos (by omega), (s_tal3 p h1).1, (s_tal3 p h1).2]
theorem qP_tal3 {G : ga_} {h : HP} {mo : Nat} {S A : gS} {dg : Int64} {p : Nat} {v : Int32} (h1 : p < 4) : up_ (pM G h mo S A dg) (mo + 1) (aI_ G 372 (upd (en S) (nI (354 + p)).toNatClampNeg v)) = pM G h mo (gP S 2 (nI p) 3 v) A dg := by
  skip
  rw [nI_clamp (by omega)]
  refine qM_en (en_cell _ 2 _ (by omega) (s_tal3 p h1).1 (s_tal3 p h1).2 ?_)
  show gu S 2 (tPut (nI 4) 16 (S 2) (nI p) (nI 3) v) = _
  rw [tPut_in (by omega) (by decide)]
theorem qI_tal3 {G : ga_} {h : HP} {mo : Nat} {S A : gS} {dg : Int64} {p : Nat} {v : Int32} (h1 : p < 4) : up_ (pM G h mo S A dg) (mo + 1) (aI_ G 372 (upd (en S) (nI (354 + p)).toNatClampNeg (tAt 4 16 (S 2) (nI p) 3 + v))) = pM G h mo (gI S 2 (nI p) 3 v) A dg := by
  skip
  rw [nI_clamp (by omega)]
  refine qM_en (en_cell _ 2 _ (by omega) (s_tal3 p h1).1 (s_tal3 p h1).2 ?_)
  show gu S 2 (tInc (nI 4) 16 (S 2) (nI p) (nI 3) v) = gu S 2 (upd (S 2) _ (tAt (nI 4) 16 (S 2) (nI p) (nI 3) + v))
  rw [tInc_in (by omega) (by decide), tAt_in (by omega) (by decide)]
theorem qD_tal3 {G : ga_} {h : HP} {mo : Nat} {S A : gS} {dg : Int64} {p : Nat} (h1 : p < 4) : up_ (pM G h mo S A dg) (mo + 1) (aI_ G 372 (upd (en S) (nI (354 + p)).toNatClampNeg (tAt 4 16 (S 2) (nI p) 3 - 1))) = pM G h mo (gI S 2 (nI p) 3 (-1)) A dg := by
  rw [show tAt 4 16 (S 2) (nI p) 3 - 1 = tAt 4 16 (S 2) (nI p) 3 + (-1) from Int32.sub_eq_add_neg _ _]
  exact qI_tal3 h1
theorem en_ord {i : Nat} (h1 : i < 28) (S : gS) : en S (nI (196 + i)).toNatClampNeg = tAt 28 28 (S 4) 0 (nI i) := by
  skip
  rw [nI_clamp (by omega)]
  show _ = tAt (nI 28) 28 (S 4) (nI 0) (nI i)
  rw [tAt_in (by omega) (by decide)]
  unfold en
  rw [if_pos (by omega), (show sc_ (196 + i) = 4 ∧ ix_ (196 + i) = 0 * 28 + i from by rw [Nat.zero_mul, Nat.zero_add]; exact s_ord h1).1, (show sc_ (196 + i) = 4 ∧ ix_ (196 + i) = 0 * 28 + i from by rw [Nat.zero_mul, Nat.zero_add]; exact s_ord h1).2]
theorem qP_ord {G : ga_} {h : HP} {mo : Nat} {S A : gS} {dg : Int64} {i : Nat} {v : Int32} (h1 : i < 28) : up_ (pM G h mo S A dg) (mo + 1) (aI_ G 372 (upd (en S) (nI (196 + i)).toNatClampNeg v)) = pM G h mo (gP S 4 0 (nI i) v) A dg := by
  skip
  rw [nI_clamp (by omega)]
  refine qM_en (en_cell _ 4 _ (by omega) (show sc_ (196 + i) = 4 ∧ ix_ (196 + i) = 0 * 28 + i from by rw [Nat.zero_mul, Nat.zero_add]; exact s_ord h1).1 (show sc_ (196 + i) = 4 ∧ ix_ (196 + i) = 0 * 28 + i from by rw [Nat.zero_mul, Nat.zero_add]; exact s_ord h1).2 ?_)
  show gu S 4 (tPut (nI 28) 28 (S 4) (nI 0) (nI i) v) = _
  rw [tPut_in (by omega) (by decide)]
theorem qI_ord {G : ga_} {h : HP} {mo : Nat} {S A : gS} {dg : Int64} {i : Nat} {v : Int32} (h1 : i < 28) : up_ (pM G h mo S A dg) (mo + 1) (aI_ G 372 (upd (en S) (nI (196 + i)).toNatClampNeg (tAt 28 28 (S 4) 0 (nI i) + v))) = pM G h mo (gI S 4 0 (nI i) v) A dg := by
  skip
  rw [nI_clamp (by omega)]
  refine qM_en (en_cell _ 4 _ (by omega) (show sc_ (196 + i) = 4 ∧ ix_ (196 + i) = 0 * 28 + i from by rw [Nat.zero_mul, Nat.zero_add]; exact s_ord h1).1 (show sc_ (196 + i) = 4 ∧ ix_ (196 + i) = 0 * 28 + i from by rw [Nat.zero_mul, Nat.zero_add]; exact s_ord h1).2 ?_)
  show gu S 4 (tInc (nI 28) 28 (S 4) (nI 0) (nI i) v) = gu S 4 (upd (S 4) _ (tAt (nI 28) 28 (S 4) (nI 0) (nI i) + v))
  rw [tInc_in (by omega) (by decide), tAt_in (by omega) (by decide)]
theorem qD_ord {G : ga_} {h : HP} {mo : Nat} {S A : gS} {dg : Int64} {i : Nat} (h1 : i < 28) : up_ (pM G h mo S A dg) (mo + 1) (aI_ G 372 (upd (en S) (nI (196 + i)).toNatClampNeg (tAt 28 28 (S 4) 0 (nI i) - 1))) = pM G h mo (gI S 4 0 (nI i) (-1)) A dg := by
  rw [show tAt 28 28 (S 4) 0 (nI i) - 1 = tAt 28 28 (S 4) 0 (nI i) + (-1) from Int32.sub_eq_add_neg _ _]
  exact qI_ord h1
theorem en_sc2 (S : gS) : en S (224 : Int32).toNatClampNeg = S 5 2 := rfl
theorem qM_sc2 {G : ga_} {h : HP} {mo : Nat} {S A : gS} {dg : Int64} (v : Int32) : up_ (pM G h mo S A dg) (mo + 1) (aI_ G 372 (upd (en S) (224 : Int32).toNatClampNeg v)) = pM G h mo (gc S 2 v) A dg := qM_en (en_cell 224 5 2 (by decide) rfl rfl rfl)
theorem en_sc0 (S : gS) : en S (341 : Int32).toNatClampNeg = S 5 0 := rfl
theorem qM_sc0 {G : ga_} {h : HP} {mo : Nat} {S A : gS} {dg : Int64} (v : Int32) : up_ (pM G h mo S A dg) (mo + 1) (aI_ G 372 (upd (en S) (341 : Int32).toNatClampNeg v)) = pM G h mo (gc S 0 v) A dg := qM_en (en_cell 341 5 0 (by decide) rfl rfl rfl)
theorem en_sc1 (S : gS) : en S (342 : Int32).toNatClampNeg = S 5 1 := rfl
theorem qM_sc1 {G : ga_} {h : HP} {mo : Nat} {S A : gS} {dg : Int64} (v : Int32) : up_ (pM G h mo S A dg) (mo + 1) (aI_ G 372 (upd (en S) (342 : Int32).toNatClampNeg v)) = pM G h mo (gc S 1 v) A dg := qM_en (en_cell 342 5 1 (by decide) rfl rfl rfl)
theorem en_sc6 (S : gS) : en S (343 : Int32).toNatClampNeg = S 5 6 := rfl
theorem qM_sc6 {G : ga_} {h : HP} {mo : Nat} {S A : gS} {dg : Int64} (v : Int32) : up_ (pM G h mo S A dg) (mo + 1) (aI_ G 372 (upd (en S) (343 : Int32).toNatClampNeg v)) = pM G h mo (gc S 6 v) A dg := qM_en (en_cell 343 5 6 (by decide) rfl rfl rfl)
theorem en_sc4 (S : gS) : en S (344 : Int32).toNatClampNeg = S 5 4 := rfl
theorem qM_sc4 {G : ga_} {h : HP} {mo : Nat} {S A : gS} {dg : Int64} (v : Int32) : up_ (pM G h mo S A dg) (mo + 1) (aI_ G 372 (upd (en S) (344 : Int32).toNatClampNeg v)) = pM G h mo (gc S 4 v) A dg := qM_en (en_cell 344 5 4 (by decide) rfl rfl rfl)
theorem en_sc3 (S : gS) : en S (345 : Int32).toNatClampNeg = S 5 3 := rfl
theorem qM_sc3 {G : ga_} {h : HP} {mo : Nat} {S A : gS} {dg : Int64} (v : Int32) : up_ (pM G h mo S A dg) (mo + 1) (aI_ G 372 (upd (en S) (345 : Int32).toNatClampNeg v)) = pM G h mo (gc S 3 v) A dg := qM_en (en_cell 345 5 3 (by decide) rfl rfl rfl)
theorem en_sc5 (S : gS) : en S (358 : Int32).toNatClampNeg = S 5 5 := rfl
theorem qM_sc5 {G : ga_} {h : HP} {mo : Nat} {S A : gS} {dg : Int64} (v : Int32) : up_ (pM G h mo S A dg) (mo + 1) (aI_ G 372 (upd (en S) (358 : Int32).toNatClampNeg v)) = pM G h mo (gc S 5 v) A dg := qM_en (en_cell 358 5 5 (by decide) rfl rfl rfl)
theorem en_sc7 (S : gS) : en S (359 : Int32).toNatClampNeg = S 5 7 := rfl
theorem qM_sc7 {G : ga_} {h : HP} {mo : Nat} {S A : gS} {dg : Int64} (v : Int32) : up_ (pM G h mo S A dg) (mo + 1) (aI_ G 372 (upd (en S) (359 : Int32).toNatClampNeg v)) = pM G h mo (gc S 7 v) A dg := qM_en (en_cell 359 5 7 (by decide) rfl rfl rfl)
