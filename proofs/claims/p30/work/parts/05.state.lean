/-! THE GAME: S 0 tiles, S 1 hands, S 2 tallies, S 3 rows, S 4 order (cells of the tables), S 5 the numbers: 0 players, 1 on move, 2 taken, 3 turns, 4 passes, 5 refusals, 6 lot, 7 interval. A Game at g has its tables at g + 1, g + 3 .., their cells one behind. -/
abbrev gS : Type := Nat → Nat → Int32
def bI : Bool → Int32
  | true => 1
  | false => 0
theorem bI_01 (b : Bool) : bI b = 0 ∨ bI b = 1 := by cases b <;> simp [bI]
theorem bI_f {b : Bool} (h : bI b = 0) : b = false := by cases b <;> simp_all [bI]
theorem bI_t {b : Bool} (h : bI b ≠ 0) : b = true := by cases b <;> simp_all [bI]
def gC (G : ga_) (g : Nat) (S : gS) : Nat → va_E
  | 0 => ob_ 0 [.ref (g + 1), .ref (g + 3), .ref (g + 5), .ref (g + 7), .ref (g + 9), .int (S 5 0), .int (S 5 1), .int (S 5 2), .int (S 5 3), .int (S 5 4), .int (S 5 5), .int (S 5 6), .int (S 5 7)]
  | 1 => ob_ 2 [.int 7, .ref (g + 2)]
  | 2 => aI_ G 196 (S 0)
  | 3 => ob_ 2 [.int 28, .ref (g + 4)]
  | 4 => aI_ G 112 (S 1)
  | 5 => ob_ 2 [.int 4, .ref (g + 6)]
  | 6 => aI_ G 16 (S 2)
  | 7 => ob_ 2 [.int 4, .ref (g + 8)]
  | 8 => aI_ G 12 (S 3)
  | 9 => ob_ 2 [.int 28, .ref (g + 10)]
  | _ => aI_ G 28 (S 4)
def tco : Nat → Int32
  | 0 => 7 | 1 => 28 | 2 => 4 | 3 => 4 | _ => 28
def tn : Nat → Nat
  | 0 => 196 | 1 => 112 | 2 => 16 | 3 => 12 | _ => 28
def GA (G : ga_) (h : HP) (g : Nat) (S : gS) : Prop := ∀ j, j < 11 → h (g + j) = some (gC G g S j)
def pG (G : ga_) (h : HP) (g : Nat) (S : gS) : HP := fun a => if g ≤ a ∧ a < g + 11 then some (gC G g S (a - g)) else h a
def gu (S : gS) (j : Nat) (f : Nat → Int32) : gS := fun a => if a = j then f else S a
def gP (S : gS) (j : Nat) (r q v : Int32) : gS := gu S j (tPut (tco j) (tn j) (S j) r q v)
def gI (S : gS) (j : Nat) (r q v : Int32) : gS := gu S j (tInc (tco j) (tn j) (S j) r q v)
def gZ (S : gS) (j : Nat) : gS := gu S j (zf (S j) 0 (tn j))
def gc (S : gS) (k : Nat) (v : Int32) : gS := gu S 5 (fun b => if b = k then v else S 5 b)
theorem GA_pG {G : ga_} {h : HP} {g : Nat} {S : gS} : GA G (pG G h g S) g S := by
  intro j hj
  unfold pG
  rw [if_pos ⟨by omega, by omega⟩, Nat.add_sub_cancel_left]
theorem pG_in {G : ga_} {h : HP} {g a : Nat} {S : gS} (h1 : g ≤ a) (h2 : a < g + 11) : pG G h g S a = some (gC G g S (a - g)) := by unfold pG; rw [if_pos ⟨h1, h2⟩]
theorem pG_out {G : ga_} {h : HP} {g a : Nat} {S : gS} (ha : a < g ∨ g + 11 ≤ a) : pG G h g S a = h a := by unfold pG; rw [if_neg (by omega)]
theorem pG_pG (G : ga_) (h : HP) (g : Nat) (S S2 : gS) : pG G (pG G h g S) g S2 = pG G h g S2 := by
  funext a
  by_cases c : g ≤ a ∧ a < g + 11
  · rw [pG_in c.1 c.2, pG_in c.1 c.2]
  · rw [pG_out (by omega), pG_out (by omega), pG_out (by omega)]
theorem pG_id {G : ga_} {h : HP} {g : Nat} {S : gS} (w : GA G h g S) : pG G h g S = h := by
  funext a
  by_cases c : g ≤ a ∧ a < g + 11
  · rw [pG_in c.1 c.2, ← w (a - g) (by omega), show g + (a - g) = a by omega]
  · rw [pG_out (by omega)]
theorem pG_one {G : ga_} {h : HP} {g : Nat} {S S2 : gS} {e : va_E} (w : GA G h g S) (j : Nat) (hj : j < 11) (he : gC G g S2 j = e) (ho : ∀ i, i < 11 → i ≠ j → gC G g S2 i = gC G g S i) : up_ h (g + j) e = pG G h g S2 := by
  funext a
  by_cases c : g ≤ a ∧ a < g + 11
  · rw [pG_in c.1 c.2]
    by_cases d : a = g + j
    · subst d; rw [up_s, Nat.add_sub_cancel_left, he]
    · rw [up_n d, ho (a - g) (by omega) (by omega), ← w (a - g) (by omega), show g + (a - g) = a by omega]
  · rw [pG_out (by omega), up_n (by omega)]
theorem lt11 {P : Nat → Prop} (h0 : P 0) (h1 : P 1) (h2 : P 2) (h3 : P 3) (h4 : P 4) (h5 : P 5) (h6 : P 6) (h7 : P 7) (h8 : P 8) (h9 : P 9) (h10 : P 10) : ∀ i, i < 11 → P i := by
  intro i hi
  match i, hi with
  | 0, _ => exact h0 | 1, _ => exact h1 | 2, _ => exact h2 | 3, _ => exact h3 | 4, _ => exact h4 | 5, _ => exact h5 | 6, _ => exact h6 | 7, _ => exact h7 | 8, _ => exact h8 | 9, _ => exact h9 | 10, _ => exact h10
theorem GA_o {G : ga_} {h : HP} {g : Nat} {S : gS} (w : GA G h g S) : h g = some (ob_ 0 [.ref (g + 1), .ref (g + 3), .ref (g + 5), .ref (g + 7), .ref (g + 9), .int (S 5 0), .int (S 5 1), .int (S 5 2), .int (S 5 3), .int (S 5 4), .int (S 5 5), .int (S 5 6), .int (S 5 7)]) := w 0 (by decide)
/-- a number of the game is written -/
theorem pG_num {G : ga_} {h : HP} {g : Nat} {S : gS} {fs : List Value} (w : GA G h g S) (k : Nat) (v : Int32) (hf : gC G g (gc S k v) 0 = ob_ 0 fs) : up_ h g (ob_ 0 fs) = pG G h g (gc S k v) :=
  pG_one w 0 (by decide) hf (lt11 (fun q => absurd rfl q) (fun _ => rfl) (fun _ => rfl) (fun _ => rfl) (fun _ => rfl) (fun _ => rfl) (fun _ => rfl) (fun _ => rfl) (fun _ => rfl) (fun _ => rfl) (fun _ => rfl))
theorem GA_t0 {G : ga_} {h : HP} {g : Nat} {S : gS} (w : GA G h g S) : h (g + 1) = some (ob_ 2 [.int 7, .ref (g + 2)]) := w 1 (by decide)
theorem GA_a0 {G : ga_} {h : HP} {g : Nat} {S : gS} (w : GA G h g S) : h (g + 2) = some (aI_ G 196 (S 0)) := w 2 (by decide)
theorem pG_tab0 {G : ga_} {h : HP} {g : Nat} {S : gS} (w : GA G h g S) (f : Nat → Int32) : up_ h (g + 2) (aI_ G 196 f) = pG G h g (gu S 0 f) := pG_one w 2 (by decide) rfl (lt11 (fun _ => rfl) (fun _ => rfl) (fun q => absurd rfl q) (fun _ => rfl) (fun _ => rfl) (fun _ => rfl) (fun _ => rfl) (fun _ => rfl) (fun _ => rfl) (fun _ => rfl) (fun _ => rfl))
theorem c_at0 {G : ga_} {l : Launch} {h : HP} {sz g : Nat} {S : gS} {r q : Int32} (w : GA G h g S) : Mf G l yX2_at cX2_at 4 (some .int) 0 0 0 0 [.ref (g + 1), .int r, .int q] h sz (some (.int (tAt 7 196 (S 0) r q))) h sz := c_X2_at (GA_t0 w) (GA_a0 w) (by decide)
theorem c_put0 {G : ga_} {l : Launch} {h : HP} {sz g : Nat} {S : gS} {r q v : Int32} (w : GA G h g S) : Mf G l yX2_put cX2_put 5 none 0 0 0 0 [.ref (g + 1), .int r, .int q, .int v] h sz none (pG G h g (gP S 0 r q v)) sz := by
  show Mf G l yX2_put cX2_put 5 none 0 0 0 0 [.ref (g + 1), .int r, .int q, .int v] h sz none (pG G h g (gu S 0 (tPut 7 196 (S 0) r q v))) sz
  rw [← pG_tab0 w]
  exact c_X2_put (GA_t0 w) (GA_a0 w) (by decide)
theorem c_increase0 {G : ga_} {l : Launch} {h : HP} {sz g : Nat} {S : gS} {r q v : Int32} (w : GA G h g S) : Mf G l yX2_increase cX2_increase 5 none 0 0 0 0 [.ref (g + 1), .int r, .int q, .int v] h sz none (pG G h g (gI S 0 r q v)) sz := by
  show Mf G l yX2_increase cX2_increase 5 none 0 0 0 0 [.ref (g + 1), .int r, .int q, .int v] h sz none (pG G h g (gu S 0 (tInc 7 196 (S 0) r q v))) sz
  rw [← pG_tab0 w]
  exact c_X2_increase (GA_t0 w) (GA_a0 w) (by decide)
theorem c_clear0 {G : ga_} {l : Launch} {h : HP} {sz g : Nat} {S : gS} (w : GA G h g S) : Mf G l yX2_clear cX2_clear 1 none 1 23 0 0 [.ref (g + 1)] h sz none (pG G h g (gZ S 0)) sz := by
  show Mf G l yX2_clear cX2_clear 1 none 1 23 0 0 [.ref (g + 1)] h sz none (pG G h g (gu S 0 (zf (S 0) 0 196))) sz
  rw [← pG_tab0 w]
  exact c_X2_clear (GA_t0 w) (GA_a0 w) (by decide)
theorem c_become0 {G : ga_} {l : Launch} {h : HP} {sz g : Nat} {S : gS} {g2 : Nat} {S2 : gS} (w : GA G h g S) (w2 : GA G h g2 S2) : Mf G l yX2_become cX2_become 2 none 1 30 0 0 [.ref (g + 1), .ref (g2 + 1)] h sz none (pG G h g (gu S 0 (va_cpy (S2 0) (S 0) 0 0 196))) sz := by
  rw [← pG_tab0 w]
  exact c_X2_become (GA_t0 w) (GA_a0 w) (GA_t0 w2) (GA_a0 w2) (by decide)
theorem GA_t1 {G : ga_} {h : HP} {g : Nat} {S : gS} (w : GA G h g S) : h (g + 3) = some (ob_ 2 [.int 28, .ref (g + 4)]) := w 3 (by decide)
theorem GA_a1 {G : ga_} {h : HP} {g : Nat} {S : gS} (w : GA G h g S) : h (g + 4) = some (aI_ G 112 (S 1)) := w 4 (by decide)
theorem pG_tab1 {G : ga_} {h : HP} {g : Nat} {S : gS} (w : GA G h g S) (f : Nat → Int32) : up_ h (g + 4) (aI_ G 112 f) = pG G h g (gu S 1 f) := pG_one w 4 (by decide) rfl (lt11 (fun _ => rfl) (fun _ => rfl) (fun _ => rfl) (fun _ => rfl) (fun q => absurd rfl q) (fun _ => rfl) (fun _ => rfl) (fun _ => rfl) (fun _ => rfl) (fun _ => rfl) (fun _ => rfl))
theorem c_at1 {G : ga_} {l : Launch} {h : HP} {sz g : Nat} {S : gS} {r q : Int32} (w : GA G h g S) : Mf G l yX2_at cX2_at 4 (some .int) 0 0 0 0 [.ref (g + 3), .int r, .int q] h sz (some (.int (tAt 28 112 (S 1) r q))) h sz := c_X2_at (GA_t1 w) (GA_a1 w) (by decide)
theorem c_put1 {G : ga_} {l : Launch} {h : HP} {sz g : Nat} {S : gS} {r q v : Int32} (w : GA G h g S) : Mf G l yX2_put cX2_put 5 none 0 0 0 0 [.ref (g + 3), .int r, .int q, .int v] h sz none (pG G h g (gP S 1 r q v)) sz := by
  show Mf G l yX2_put cX2_put 5 none 0 0 0 0 [.ref (g + 3), .int r, .int q, .int v] h sz none (pG G h g (gu S 1 (tPut 28 112 (S 1) r q v))) sz
  rw [← pG_tab1 w]
  exact c_X2_put (GA_t1 w) (GA_a1 w) (by decide)
theorem c_increase1 {G : ga_} {l : Launch} {h : HP} {sz g : Nat} {S : gS} {r q v : Int32} (w : GA G h g S) : Mf G l yX2_increase cX2_increase 5 none 0 0 0 0 [.ref (g + 3), .int r, .int q, .int v] h sz none (pG G h g (gI S 1 r q v)) sz := by
  show Mf G l yX2_increase cX2_increase 5 none 0 0 0 0 [.ref (g + 3), .int r, .int q, .int v] h sz none (pG G h g (gu S 1 (tInc 28 112 (S 1) r q v))) sz
  rw [← pG_tab1 w]
  exact c_X2_increase (GA_t1 w) (GA_a1 w) (by decide)
theorem c_clear1 {G : ga_} {l : Launch} {h : HP} {sz g : Nat} {S : gS} (w : GA G h g S) : Mf G l yX2_clear cX2_clear 1 none 1 23 0 0 [.ref (g + 3)] h sz none (pG G h g (gZ S 1)) sz := by
  show Mf G l yX2_clear cX2_clear 1 none 1 23 0 0 [.ref (g + 3)] h sz none (pG G h g (gu S 1 (zf (S 1) 0 112))) sz
  rw [← pG_tab1 w]
  exact c_X2_clear (GA_t1 w) (GA_a1 w) (by decide)
theorem c_become1 {G : ga_} {l : Launch} {h : HP} {sz g : Nat} {S : gS} {g2 : Nat} {S2 : gS} (w : GA G h g S) (w2 : GA G h g2 S2) : Mf G l yX2_become cX2_become 2 none 1 30 0 0 [.ref (g + 3), .ref (g2 + 3)] h sz none (pG G h g (gu S 1 (va_cpy (S2 1) (S 1) 0 0 112))) sz := by
  rw [← pG_tab1 w]
  exact c_X2_become (GA_t1 w) (GA_a1 w) (GA_t1 w2) (GA_a1 w2) (by decide)
theorem GA_t2 {G : ga_} {h : HP} {g : Nat} {S : gS} (w : GA G h g S) : h (g + 5) = some (ob_ 2 [.int 4, .ref (g + 6)]) := w 5 (by decide)
theorem GA_a2 {G : ga_} {h : HP} {g : Nat} {S : gS} (w : GA G h g S) : h (g + 6) = some (aI_ G 16 (S 2)) := w 6 (by decide)
theorem pG_tab2 {G : ga_} {h : HP} {g : Nat} {S : gS} (w : GA G h g S) (f : Nat → Int32) : up_ h (g + 6) (aI_ G 16 f) = pG G h g (gu S 2 f) := pG_one w 6 (by decide) rfl (lt11 (fun _ => rfl) (fun _ => rfl) (fun _ => rfl) (fun _ => rfl) (fun _ => rfl) (fun _ => rfl) (fun q => absurd rfl q) (fun _ => rfl) (fun _ => rfl) (fun _ => rfl) (fun _ => rfl))
theorem c_at2 {G : ga_} {l : Launch} {h : HP} {sz g : Nat} {S : gS} {r q : Int32} (w : GA G h g S) : Mf G l yX2_at cX2_at 4 (some .int) 0 0 0 0 [.ref (g + 5), .int r, .int q] h sz (some (.int (tAt 4 16 (S 2) r q))) h sz := c_X2_at (GA_t2 w) (GA_a2 w) (by decide)
theorem c_put2 {G : ga_} {l : Launch} {h : HP} {sz g : Nat} {S : gS} {r q v : Int32} (w : GA G h g S) : Mf G l yX2_put cX2_put 5 none 0 0 0 0 [.ref (g + 5), .int r, .int q, .int v] h sz none (pG G h g (gP S 2 r q v)) sz := by
  show Mf G l yX2_put cX2_put 5 none 0 0 0 0 [.ref (g + 5), .int r, .int q, .int v] h sz none (pG G h g (gu S 2 (tPut 4 16 (S 2) r q v))) sz
  rw [← pG_tab2 w]
  exact c_X2_put (GA_t2 w) (GA_a2 w) (by decide)
theorem c_increase2 {G : ga_} {l : Launch} {h : HP} {sz g : Nat} {S : gS} {r q v : Int32} (w : GA G h g S) : Mf G l yX2_increase cX2_increase 5 none 0 0 0 0 [.ref (g + 5), .int r, .int q, .int v] h sz none (pG G h g (gI S 2 r q v)) sz := by
  show Mf G l yX2_increase cX2_increase 5 none 0 0 0 0 [.ref (g + 5), .int r, .int q, .int v] h sz none (pG G h g (gu S 2 (tInc 4 16 (S 2) r q v))) sz
  rw [← pG_tab2 w]
  exact c_X2_increase (GA_t2 w) (GA_a2 w) (by decide)
theorem c_clear2 {G : ga_} {l : Launch} {h : HP} {sz g : Nat} {S : gS} (w : GA G h g S) : Mf G l yX2_clear cX2_clear 1 none 1 23 0 0 [.ref (g + 5)] h sz none (pG G h g (gZ S 2)) sz := by
  show Mf G l yX2_clear cX2_clear 1 none 1 23 0 0 [.ref (g + 5)] h sz none (pG G h g (gu S 2 (zf (S 2) 0 16))) sz
  rw [← pG_tab2 w]
  exact c_X2_clear (GA_t2 w) (GA_a2 w) (by decide)
theorem c_become2 {G : ga_} {l : Launch} {h : HP} {sz g : Nat} {S : gS} {g2 : Nat} {S2 : gS} (w : GA G h g S) (w2 : GA G h g2 S2) : Mf G l yX2_become cX2_become 2 none 1 30 0 0 [.ref (g + 5), .ref (g2 + 5)] h sz none (pG G h g (gu S 2 (va_cpy (S2 2) (S 2) 0 0 16))) sz := by
  rw [← pG_tab2 w]
  exact c_X2_become (GA_t2 w) (GA_a2 w) (GA_t2 w2) (GA_a2 w2) (by decide)
theorem GA_t3 {G : ga_} {h : HP} {g : Nat} {S : gS} (w : GA G h g S) : h (g + 7) = some (ob_ 2 [.int 4, .ref (g + 8)]) := w 7 (by decide)
theorem GA_a3 {G : ga_} {h : HP} {g : Nat} {S : gS} (w : GA G h g S) : h (g + 8) = some (aI_ G 12 (S 3)) := w 8 (by decide)
theorem pG_tab3 {G : ga_} {h : HP} {g : Nat} {S : gS} (w : GA G h g S) (f : Nat → Int32) : up_ h (g + 8) (aI_ G 12 f) = pG G h g (gu S 3 f) := pG_one w 8 (by decide) rfl (lt11 (fun _ => rfl) (fun _ => rfl) (fun _ => rfl) (fun _ => rfl) (fun _ => rfl) (fun _ => rfl) (fun _ => rfl) (fun _ => rfl) (fun q => absurd rfl q) (fun _ => rfl) (fun _ => rfl))
theorem c_at3 {G : ga_} {l : Launch} {h : HP} {sz g : Nat} {S : gS} {r q : Int32} (w : GA G h g S) : Mf G l yX2_at cX2_at 4 (some .int) 0 0 0 0 [.ref (g + 7), .int r, .int q] h sz (some (.int (tAt 4 12 (S 3) r q))) h sz := c_X2_at (GA_t3 w) (GA_a3 w) (by decide)
theorem c_put3 {G : ga_} {l : Launch} {h : HP} {sz g : Nat} {S : gS} {r q v : Int32} (w : GA G h g S) : Mf G l yX2_put cX2_put 5 none 0 0 0 0 [.ref (g + 7), .int r, .int q, .int v] h sz none (pG G h g (gP S 3 r q v)) sz := by
  show Mf G l yX2_put cX2_put 5 none 0 0 0 0 [.ref (g + 7), .int r, .int q, .int v] h sz none (pG G h g (gu S 3 (tPut 4 12 (S 3) r q v))) sz
  rw [← pG_tab3 w]
  exact c_X2_put (GA_t3 w) (GA_a3 w) (by decide)
theorem c_increase3 {G : ga_} {l : Launch} {h : HP} {sz g : Nat} {S : gS} {r q v : Int32} (w : GA G h g S) : Mf G l yX2_increase cX2_increase 5 none 0 0 0 0 [.ref (g + 7), .int r, .int q, .int v] h sz none (pG G h g (gI S 3 r q v)) sz := by
  show Mf G l yX2_increase cX2_increase 5 none 0 0 0 0 [.ref (g + 7), .int r, .int q, .int v] h sz none (pG G h g (gu S 3 (tInc 4 12 (S 3) r q v))) sz
  rw [← pG_tab3 w]
  exact c_X2_increase (GA_t3 w) (GA_a3 w) (by decide)
theorem c_clear3 {G : ga_} {l : Launch} {h : HP} {sz g : Nat} {S : gS} (w : GA G h g S) : Mf G l yX2_clear cX2_clear 1 none 1 23 0 0 [.ref (g + 7)] h sz none (pG G h g (gZ S 3)) sz := by
  show Mf G l yX2_clear cX2_clear 1 none 1 23 0 0 [.ref (g + 7)] h sz none (pG G h g (gu S 3 (zf (S 3) 0 12))) sz
  rw [← pG_tab3 w]
  exact c_X2_clear (GA_t3 w) (GA_a3 w) (by decide)
theorem c_become3 {G : ga_} {l : Launch} {h : HP} {sz g : Nat} {S : gS} {g2 : Nat} {S2 : gS} (w : GA G h g S) (w2 : GA G h g2 S2) : Mf G l yX2_become cX2_become 2 none 1 30 0 0 [.ref (g + 7), .ref (g2 + 7)] h sz none (pG G h g (gu S 3 (va_cpy (S2 3) (S 3) 0 0 12))) sz := by
  rw [← pG_tab3 w]
  exact c_X2_become (GA_t3 w) (GA_a3 w) (GA_t3 w2) (GA_a3 w2) (by decide)
theorem GA_t4 {G : ga_} {h : HP} {g : Nat} {S : gS} (w : GA G h g S) : h (g + 9) = some (ob_ 2 [.int 28, .ref (g + 10)]) := w 9 (by decide)
theorem GA_a4 {G : ga_} {h : HP} {g : Nat} {S : gS} (w : GA G h g S) : h (g + 10) = some (aI_ G 28 (S 4)) := w 10 (by decide)
theorem pG_tab4 {G : ga_} {h : HP} {g : Nat} {S : gS} (w : GA G h g S) (f : Nat → Int32) : up_ h (g + 10) (aI_ G 28 f) = pG G h g (gu S 4 f) := pG_one w 10 (by decide) rfl (lt11 (fun _ => rfl) (fun _ => rfl) (fun _ => rfl) (fun _ => rfl) (fun _ => rfl) (fun _ => rfl) (fun _ => rfl) (fun _ => rfl) (fun _ => rfl) (fun _ => rfl) (fun q => absurd rfl q))
theorem c_at4 {G : ga_} {l : Launch} {h : HP} {sz g : Nat} {S : gS} {r q : Int32} (w : GA G h g S) : Mf G l yX2_at cX2_at 4 (some .int) 0 0 0 0 [.ref (g + 9), .int r, .int q] h sz (some (.int (tAt 28 28 (S 4) r q))) h sz := c_X2_at (GA_t4 w) (GA_a4 w) (by decide)
theorem c_put4 {G : ga_} {l : Launch} {h : HP} {sz g : Nat} {S : gS} {r q v : Int32} (w : GA G h g S) : Mf G l yX2_put cX2_put 5 none 0 0 0 0 [.ref (g + 9), .int r, .int q, .int v] h sz none (pG G h g (gP S 4 r q v)) sz := by
  show Mf G l yX2_put cX2_put 5 none 0 0 0 0 [.ref (g + 9), .int r, .int q, .int v] h sz none (pG G h g (gu S 4 (tPut 28 28 (S 4) r q v))) sz
  rw [← pG_tab4 w]
  exact c_X2_put (GA_t4 w) (GA_a4 w) (by decide)
theorem c_increase4 {G : ga_} {l : Launch} {h : HP} {sz g : Nat} {S : gS} {r q v : Int32} (w : GA G h g S) : Mf G l yX2_increase cX2_increase 5 none 0 0 0 0 [.ref (g + 9), .int r, .int q, .int v] h sz none (pG G h g (gI S 4 r q v)) sz := by
  show Mf G l yX2_increase cX2_increase 5 none 0 0 0 0 [.ref (g + 9), .int r, .int q, .int v] h sz none (pG G h g (gu S 4 (tInc 28 28 (S 4) r q v))) sz
  rw [← pG_tab4 w]
  exact c_X2_increase (GA_t4 w) (GA_a4 w) (by decide)
theorem c_clear4 {G : ga_} {l : Launch} {h : HP} {sz g : Nat} {S : gS} (w : GA G h g S) : Mf G l yX2_clear cX2_clear 1 none 1 23 0 0 [.ref (g + 9)] h sz none (pG G h g (gZ S 4)) sz := by
  show Mf G l yX2_clear cX2_clear 1 none 1 23 0 0 [.ref (g + 9)] h sz none (pG G h g (gu S 4 (zf (S 4) 0 28))) sz
  rw [← pG_tab4 w]
  exact c_X2_clear (GA_t4 w) (GA_a4 w) (by decide)
theorem c_become4 {G : ga_} {l : Launch} {h : HP} {sz g : Nat} {S : gS} {g2 : Nat} {S2 : gS} (w : GA G h g S) (w2 : GA G h g2 S2) : Mf G l yX2_become cX2_become 2 none 1 30 0 0 [.ref (g + 9), .ref (g2 + 9)] h sz none (pG G h g (gu S 4 (va_cpy (S2 4) (S 4) 0 0 28))) sz := by
  rw [← pG_tab4 w]
  exact c_X2_become (GA_t4 w) (GA_a4 w) (GA_t4 w2) (GA_a4 w2) (by decide)
