/-! TEXT: turns made out of the codes -/
def y_l (c : Int32) : Bool := decide (c = 108) || (decide (c = 100) || decide (c = 112))
def y_b (c b : Int32) : Int32 := if y_l c then b + 1 else b
def y_p0 (c p : Int32) : Int32 := if y_l c then 0 else p
def y_d (c : Int32) : Bool := !decide (c < 48) && !decide (57 < c)
def y_a (c : Int32) : Bool := !decide (c < 97) && !decide (99 < c)
def y_p (c p : Int32) : Int32 := if y_d c then p * 10 + c - 48 else p
def y_r (c r : Int32) : Int32 := if y_d c then r else if y_a c then c - 97 else r
def y_S (c p r : Int32) (S : gS) : gS := if y_d c then S else if y_a c then S else if c = 60 then g_lay S p r 0 else if c = 62 then g_lay S p r 1 else if c = 100 then g_draw S else if c = 112 then g_pass S else S
def y_run (f : Nat → Int32) : Nat → Nat → Int32 → Int32 → Int32 → gS → Int32 × gS
  | 0, _, b, _, _, S => (b, S)
  | k + 1, i, b, p, r, S => if S 5 5 < (y_S (f i) (y_p0 (f i) p) r S) 5 5 then (y_b (f i) b - 1, y_S (f i) (y_p0 (f i) p) r S) else y_run f k (i + 1) (y_b (f i) b) (y_p (f i) (y_p0 (f i) p)) (y_r (f i) r) (y_S (f i) (y_p0 (f i) p) r S)
theorem XA_G {G : ga_} {h : HP} {tx g : Nat} {cf : Nat → Int32} {n : Int32} {S : gS} (w : XA G h tx cf n) (d : tx + 2 ≤ g ∨ g + 11 ≤ tx) : XA G (pG G h g S) tx cf n := ⟨by rw [pG_out (by omega)]; exact w.1, by rw [pG_out (by omega)]; exact w.2⟩
set_option maxHeartbeats 800000 in
set_option maxRecDepth 100000 in
theorem c_X3_makeTurns {G : ga_} {l : Launch} {h : HP} {sz : Nat} {tx n g : Nat} {cf : Nat → Int32} {S : gS} (w : XA G h tx cf (nI n)) (hn : n ≤ 60) (wg : GA G h g S) (d : tx + 2 ≤ g ∨ g + 11 ≤ tx) : Mf G l yX3_makeTurns cX3_makeTurns 8 (some .int) 5 117 0 0 [.ref tx, .ref g] h sz (some (.int (y_run cf n 0 0 0 0 S).1)) (pG G h g (y_run cf n 0 0 0 0 S).2) sz := by
  refine Mg.ofV [(0, .ref tx), (1, .ref g)] (by decide) (Nat.le_of_ble_eq_true rfl) rfl ?_
  intro p e s m args below meth c C

  have loop : ∀ (k0 i : Nat) (b q r : Int32) (S1 : gS), i + k0 = n → y_run cf k0 i b q r S1 = y_run cf n 0 0 0 0 S → V p l e ⟨5, 0, 0, 117⟩ s m args below meth c G 8 (Qg G below args s 0 0 (fun v1 h1 s1 => v1 = some (.int (y_run cf n 0 0 0 0 S).1) ∧ h1 = (pG G h g (y_run cf n 0 0 0 0 S).2) ∧ s1 = sz)) (pG G h g S1) sz 0 0 10 [(0, .ref tx), (1, .ref g), (2, .int b), (3, .int q), (4, .int r), (5, .int (nI i))] [] := by
    intro k0
    induction k0 with
    | zero =>
      intro i b q r S1 hi hr
      have hin : i = n := by omega
      subst hin
      refine r_iload C dX3_makeTurns_10 rfl ?_
      refine r_aload_n C dX3_makeTurns_12 rfl rfl ?_
      refine r_get C (j := 1) rfl in_X3 ((XA_G w d).1) (by decide) fl_X3_15 rfl rfl dX3_makeTurns_13 ?_
      refine r_icmp_ge C 209 dX3_makeTurns_16 (by decide) (fun _ => ?_) (fun c => absurd (Int32.le_refl _) c)
      refine r_iload_n C dX3_makeTurns_209 rfl rfl ?_
      exact r_iret C rfl (Nat.le_of_ble_eq_true rfl) (Nat.le_of_ble_eq_true rfl) ⟨by rw [← hr]; rfl, by rw [← hr]; rfl, rfl⟩ dX3_makeTurns_210
    | succ k0 ih =>
      intro i b q r S1 hi hr
      have M190 : V p l e ⟨5, 0, 0, 117⟩ s m args below meth c G 8 (Qg G below args s 0 0 (fun v1 h1 s1 => v1 = some (.int (y_run cf n 0 0 0 0 S).1) ∧ h1 = (pG G h g (y_run cf n 0 0 0 0 S).2) ∧ s1 = sz)) (pG G h g (y_S (cf i) (y_p0 (cf i) q) r S1)) sz 0 0 190 [(0, .ref tx), (1, .ref g), (2, .int (y_b (cf i) b)), (3, .int (y_p (cf i) (y_p0 (cf i) q))), (4, .int (y_r (cf i) r)), (5, .int (nI i)), (7, .int (S1 5 5))] [] := by
        refine r_aload_n C dX3_makeTurns_190 rfl rfl ?_
        refine r_getN C (j := 10) rfl in_X0 (GA_o GA_pG) (by decide) fn_X3_33 rfl rfl dX3_makeTurns_191 ?_
        refine r_iload C dX3_makeTurns_194 rfl ?_
        refine r_icmp_le C 203 dX3_makeTurns_196 (by decide) (fun c_196 => ?_) (fun c_196 => ?_)
        · have e_196 := i32_nlt c_196
          refine r_iinc C (v := 1) dX3_makeTurns_203 rfl rfl (by decide) ?_
          refine r_goto C 10 dX3_makeTurns_206 (by decide) ?_
          refine V.sub [(0, .ref tx), (1, .ref g), (2, .int (y_b (cf i) b)), (3, .int (y_p (cf i) (y_p0 (cf i) q))), (4, .int (y_r (cf i) r)), (5, .int (nI (i + 1)))] ⟨rfl, rfl, rfl, rfl, rfl, by rw [← nI_1 i]; rfl, trivial⟩ ?_
          exact ih (i + 1) _ _ _ _ (by omega) (by rw [← hr]; simp only [y_run]; rw [if_neg e_196])
        · have e_196 := i32_lt c_196
          refine r_iload_n C dX3_makeTurns_199 rfl rfl ?_
          refine r_iconst C (v := 1) dX3_makeTurns_200 rfl ?_
          refine r_isub C dX3_makeTurns_201 ?_
          exact r_iret C rfl (Nat.le_of_ble_eq_true rfl) (Nat.le_of_ble_eq_true rfl) ⟨by rw [← hr]; simp only [y_run]; rw [if_pos e_196], by rw [← hr]; simp only [y_run]; rw [if_pos e_196], rfl⟩ dX3_makeTurns_202
      have M74 : V p l e ⟨5, 0, 0, 117⟩ s m args below meth c G 8 (Qg G below args s 0 0 (fun v1 h1 s1 => v1 = some (.int (y_run cf n 0 0 0 0 S).1) ∧ h1 = (pG G h g (y_run cf n 0 0 0 0 S).2) ∧ s1 = sz)) (pG G h g S1) sz 0 0 74 [(0, .ref tx), (1, .ref g), (2, .int (y_b (cf i) b)), (3, .int (y_p0 (cf i) q)), (4, .int r), (5, .int (nI i)), (6, .int (cf i)), (7, .int (S1 5 5))] [] := by
        refine r_iload C dX3_makeTurns_74 rfl ?_
        refine r_bipush C (v := 48) dX3_makeTurns_76 rfl ?_
        refine r_icmp_lt C 102 dX3_makeTurns_78 (by decide) (fun c_78 => ?_) (fun c_78 => ?_)
        · have e_78 := i32_nle c_78
          refine r_iload C dX3_makeTurns_102 rfl ?_
          refine r_bipush C (v := 97) dX3_makeTurns_104 rfl ?_
          refine r_icmp_lt C 126 dX3_makeTurns_106 (by decide) (fun c_106 => ?_) (fun c_106 => ?_)
          · have e_106 := i32_nle c_106
            refine r_iload C dX3_makeTurns_126 rfl ?_
            refine r_bipush C (v := 60) dX3_makeTurns_128 rfl ?_
            refine r_icmp_eq C 140 dX3_makeTurns_130 (by decide) (fun c_130 => ?_) (fun c_130 => ?_)
            · refine r_aload_n C dX3_makeTurns_140 rfl rfl ?_
              refine r_iload_n C dX3_makeTurns_141 rfl rfl ?_
              refine r_iload C dX3_makeTurns_142 rfl ?_
              refine r_iload C dX3_makeTurns_144 rfl ?_
              refine r_bipush C (v := 60) dX3_makeTurns_146 rfl ?_
              refine r_icmp_ne C 155 dX3_makeTurns_148 (by decide) (fun c => absurd c_130 c) (fun _ => ?_)
              refine r_iconst C (v := 0) dX3_makeTurns_151 rfl ?_
              refine r_goto C 156 dX3_makeTurns_152 (by decide) ?_
              refine r_cVi C (c_X0_turnToLay GA_pG) lk_X3_38 rfl (GA_o GA_pG) rfl rfl ⟨(Nat.le_of_ble_eq_true rfl), (Nat.le_of_ble_eq_true rfl), (Nat.le_of_ble_eq_true rfl), (Nat.le_of_ble_eq_true rfl), (Nat.le_of_ble_eq_true rfl)⟩ dX3_makeTurns_156 ?_
              refine r_pop C dX3_makeTurns_159 rfl ?_
              refine r_goto C 190 dX3_makeTurns_160 (by decide) ?_
              refine V.heap (h2 := (pG G h g (y_S (cf i) (y_p0 (cf i) q) r S1))) (by rw [pG_pG]; exact congrArg (pG G h g) (by simp [y_S, y_d, y_a, c_78, e_78, c_106, e_106, c_130])) ?_
              refine V.sub [(0, .ref tx), (1, .ref g), (2, .int (y_b (cf i) b)), (3, .int (y_p (cf i) (y_p0 (cf i) q))), (4, .int (y_r (cf i) r)), (5, .int (nI i)), (7, .int (S1 5 5))] ⟨rfl, rfl, rfl, by simp [y_p, y_d, c_78, e_78, c_106, e_106, c_130]; rfl, by simp [y_r, y_d, y_a, c_78, e_78, c_106, e_106, c_130]; rfl, rfl, rfl, trivial⟩ ?_
              exact M190
            · refine r_iload C dX3_makeTurns_133 rfl ?_
              refine r_bipush C (v := 62) dX3_makeTurns_135 rfl ?_
              refine r_icmp_ne C 163 dX3_makeTurns_137 (by decide) (fun c_137 => ?_) (fun c_137 => ?_)
              · refine r_iload C dX3_makeTurns_163 rfl ?_
                refine r_bipush C (v := 100) dX3_makeTurns_165 rfl ?_
                refine r_icmp_ne C 178 dX3_makeTurns_167 (by decide) (fun c_167 => ?_) (fun c_167 => ?_)
                · refine r_iload C dX3_makeTurns_178 rfl ?_
                  refine r_bipush C (v := 112) dX3_makeTurns_180 rfl ?_
                  refine r_icmp_ne C 190 dX3_makeTurns_182 (by decide) (fun c_182 => ?_) (fun c_182 => ?_)
                  · refine V.heap (h2 := (pG G h g (y_S (cf i) (y_p0 (cf i) q) r S1))) ( congrArg (pG G h g) (by simp [y_S, y_d, y_a, c_78, e_78, c_106, e_106, c_130, c_137, c_167, c_182])) ?_
                    refine V.sub [(0, .ref tx), (1, .ref g), (2, .int (y_b (cf i) b)), (3, .int (y_p (cf i) (y_p0 (cf i) q))), (4, .int (y_r (cf i) r)), (5, .int (nI i)), (7, .int (S1 5 5))] ⟨rfl, rfl, rfl, by simp [y_p, y_d, c_78, e_78, c_106, e_106, c_130, c_137, c_167, c_182]; rfl, by simp [y_r, y_d, y_a, c_78, e_78, c_106, e_106, c_130, c_137, c_167, c_182]; rfl, rfl, rfl, trivial⟩ ?_
                    exact M190
                  · refine r_aload_n C dX3_makeTurns_185 rfl rfl ?_
                    refine r_cVi C (c_X0_turnToPass GA_pG) lk_X3_46 rfl (GA_o GA_pG) rfl rfl ⟨(Nat.le_of_ble_eq_true rfl), (Nat.le_of_ble_eq_true rfl), (Nat.le_of_ble_eq_true rfl), (Nat.le_of_ble_eq_true rfl), (Nat.le_of_ble_eq_true rfl)⟩ dX3_makeTurns_186 ?_
                    refine r_pop C dX3_makeTurns_189 rfl ?_
                    refine V.heap (h2 := (pG G h g (y_S (cf i) (y_p0 (cf i) q) r S1))) (by rw [pG_pG]; exact congrArg (pG G h g) (by simp [y_S, y_d, y_a, c_78, e_78, c_106, e_106, c_130, c_137, c_167, c_182])) ?_
                    refine V.sub [(0, .ref tx), (1, .ref g), (2, .int (y_b (cf i) b)), (3, .int (y_p (cf i) (y_p0 (cf i) q))), (4, .int (y_r (cf i) r)), (5, .int (nI i)), (7, .int (S1 5 5))] ⟨rfl, rfl, rfl, by simp [y_p, y_d, c_78, e_78, c_106, e_106, c_130, c_137, c_167, c_182]; rfl, by simp [y_r, y_d, y_a, c_78, e_78, c_106, e_106, c_130, c_137, c_167, c_182]; rfl, rfl, rfl, trivial⟩ ?_
                    exact M190
                · refine r_aload_n C dX3_makeTurns_170 rfl rfl ?_
                  refine r_cVi C (c_X0_turnToDraw GA_pG) lk_X3_42 rfl (GA_o GA_pG) rfl rfl ⟨(Nat.le_of_ble_eq_true rfl), (Nat.le_of_ble_eq_true rfl), (Nat.le_of_ble_eq_true rfl), (Nat.le_of_ble_eq_true rfl), (Nat.le_of_ble_eq_true rfl)⟩ dX3_makeTurns_171 ?_
                  refine r_pop C dX3_makeTurns_174 rfl ?_
                  refine r_goto C 190 dX3_makeTurns_175 (by decide) ?_
                  refine V.heap (h2 := (pG G h g (y_S (cf i) (y_p0 (cf i) q) r S1))) (by rw [pG_pG]; exact congrArg (pG G h g) (by simp [y_S, y_d, y_a, c_78, e_78, c_106, e_106, c_130, c_137, c_167])) ?_
                  refine V.sub [(0, .ref tx), (1, .ref g), (2, .int (y_b (cf i) b)), (3, .int (y_p (cf i) (y_p0 (cf i) q))), (4, .int (y_r (cf i) r)), (5, .int (nI i)), (7, .int (S1 5 5))] ⟨rfl, rfl, rfl, by simp [y_p, y_d, c_78, e_78, c_106, e_106, c_130, c_137, c_167]; rfl, by simp [y_r, y_d, y_a, c_78, e_78, c_106, e_106, c_130, c_137, c_167]; rfl, rfl, rfl, trivial⟩ ?_
                  exact M190
              · refine r_aload_n C dX3_makeTurns_140 rfl rfl ?_
                refine r_iload_n C dX3_makeTurns_141 rfl rfl ?_
                refine r_iload C dX3_makeTurns_142 rfl ?_
                refine r_iload C dX3_makeTurns_144 rfl ?_
                refine r_bipush C (v := 60) dX3_makeTurns_146 rfl ?_
                refine r_icmp_ne C 155 dX3_makeTurns_148 (by decide) (fun _ => ?_) (fun c => absurd c (by rw [c_137]; decide))
                refine r_iconst C (v := 1) dX3_makeTurns_155 rfl ?_
                refine r_cVi C (c_X0_turnToLay GA_pG) lk_X3_38 rfl (GA_o GA_pG) rfl rfl ⟨(Nat.le_of_ble_eq_true rfl), (Nat.le_of_ble_eq_true rfl), (Nat.le_of_ble_eq_true rfl), (Nat.le_of_ble_eq_true rfl), (Nat.le_of_ble_eq_true rfl)⟩ dX3_makeTurns_156 ?_
                refine r_pop C dX3_makeTurns_159 rfl ?_
                refine r_goto C 190 dX3_makeTurns_160 (by decide) ?_
                refine V.heap (h2 := (pG G h g (y_S (cf i) (y_p0 (cf i) q) r S1))) (by rw [pG_pG]; exact congrArg (pG G h g) (by simp [y_S, y_d, y_a, c_78, e_78, c_106, e_106, c_130, c_137])) ?_
                refine V.sub [(0, .ref tx), (1, .ref g), (2, .int (y_b (cf i) b)), (3, .int (y_p (cf i) (y_p0 (cf i) q))), (4, .int (y_r (cf i) r)), (5, .int (nI i)), (7, .int (S1 5 5))] ⟨rfl, rfl, rfl, by simp [y_p, y_d, c_78, e_78, c_106, e_106, c_130, c_137]; rfl, by simp [y_r, y_d, y_a, c_78, e_78, c_106, e_106, c_130, c_137]; rfl, rfl, rfl, trivial⟩ ?_
                exact M190
          · have e_106 := i32_le c_106
            refine r_iload C dX3_makeTurns_109 rfl ?_
            refine r_bipush C (v := 99) dX3_makeTurns_111 rfl ?_
            refine r_icmp_gt C 126 dX3_makeTurns_113 (by decide) (fun c_113 => ?_) (fun c_113 => ?_)
            · have e_113 := i32_nle c_113
              refine r_iload C dX3_makeTurns_126 rfl ?_
              refine r_bipush C (v := 60) dX3_makeTurns_128 rfl ?_
              refine r_icmp_eq C 140 dX3_makeTurns_130 (by decide) (fun c_130 => ?_) (fun c_130 => ?_)
              · refine r_aload_n C dX3_makeTurns_140 rfl rfl ?_
                refine r_iload_n C dX3_makeTurns_141 rfl rfl ?_
                refine r_iload C dX3_makeTurns_142 rfl ?_
                refine r_iload C dX3_makeTurns_144 rfl ?_
                refine r_bipush C (v := 60) dX3_makeTurns_146 rfl ?_
                refine r_icmp_ne C 155 dX3_makeTurns_148 (by decide) (fun c => absurd c_130 c) (fun _ => ?_)
                refine r_iconst C (v := 0) dX3_makeTurns_151 rfl ?_
                refine r_goto C 156 dX3_makeTurns_152 (by decide) ?_
                refine r_cVi C (c_X0_turnToLay GA_pG) lk_X3_38 rfl (GA_o GA_pG) rfl rfl ⟨(Nat.le_of_ble_eq_true rfl), (Nat.le_of_ble_eq_true rfl), (Nat.le_of_ble_eq_true rfl), (Nat.le_of_ble_eq_true rfl), (Nat.le_of_ble_eq_true rfl)⟩ dX3_makeTurns_156 ?_
                refine r_pop C dX3_makeTurns_159 rfl ?_
                refine r_goto C 190 dX3_makeTurns_160 (by decide) ?_
                refine V.heap (h2 := (pG G h g (y_S (cf i) (y_p0 (cf i) q) r S1))) (by rw [pG_pG]; exact congrArg (pG G h g) (by simp [y_S, y_d, y_a, c_78, e_78, c_106, e_106, c_113, e_113, c_130])) ?_
                refine V.sub [(0, .ref tx), (1, .ref g), (2, .int (y_b (cf i) b)), (3, .int (y_p (cf i) (y_p0 (cf i) q))), (4, .int (y_r (cf i) r)), (5, .int (nI i)), (7, .int (S1 5 5))] ⟨rfl, rfl, rfl, by simp [y_p, y_d, c_78, e_78, c_106, e_106, c_113, e_113, c_130]; rfl, by simp [y_r, y_d, y_a, c_78, e_78, c_106, e_106, c_113, e_113, c_130]; rfl, rfl, rfl, trivial⟩ ?_
                exact M190
              · refine r_iload C dX3_makeTurns_133 rfl ?_
                refine r_bipush C (v := 62) dX3_makeTurns_135 rfl ?_
                refine r_icmp_ne C 163 dX3_makeTurns_137 (by decide) (fun c_137 => ?_) (fun c_137 => ?_)
                · refine r_iload C dX3_makeTurns_163 rfl ?_
                  refine r_bipush C (v := 100) dX3_makeTurns_165 rfl ?_
                  refine r_icmp_ne C 178 dX3_makeTurns_167 (by decide) (fun c_167 => ?_) (fun c_167 => ?_)
                  · refine r_iload C dX3_makeTurns_178 rfl ?_
                    refine r_bipush C (v := 112) dX3_makeTurns_180 rfl ?_
                    refine r_icmp_ne C 190 dX3_makeTurns_182 (by decide) (fun c_182 => ?_) (fun c_182 => ?_)
                    · refine V.heap (h2 := (pG G h g (y_S (cf i) (y_p0 (cf i) q) r S1))) ( congrArg (pG G h g) (by simp [y_S, y_d, y_a, c_78, e_78, c_106, e_106, c_113, e_113, c_130, c_137, c_167, c_182])) ?_
                      refine V.sub [(0, .ref tx), (1, .ref g), (2, .int (y_b (cf i) b)), (3, .int (y_p (cf i) (y_p0 (cf i) q))), (4, .int (y_r (cf i) r)), (5, .int (nI i)), (7, .int (S1 5 5))] ⟨rfl, rfl, rfl, by simp [y_p, y_d, c_78, e_78, c_106, e_106, c_113, e_113, c_130, c_137, c_167, c_182]; rfl, by simp [y_r, y_d, y_a, c_78, e_78, c_106, e_106, c_113, e_113, c_130, c_137, c_167, c_182]; rfl, rfl, rfl, trivial⟩ ?_
                      exact M190
                    · refine r_aload_n C dX3_makeTurns_185 rfl rfl ?_
                      refine r_cVi C (c_X0_turnToPass GA_pG) lk_X3_46 rfl (GA_o GA_pG) rfl rfl ⟨(Nat.le_of_ble_eq_true rfl), (Nat.le_of_ble_eq_true rfl), (Nat.le_of_ble_eq_true rfl), (Nat.le_of_ble_eq_true rfl), (Nat.le_of_ble_eq_true rfl)⟩ dX3_makeTurns_186 ?_
                      refine r_pop C dX3_makeTurns_189 rfl ?_
                      refine V.heap (h2 := (pG G h g (y_S (cf i) (y_p0 (cf i) q) r S1))) (by rw [pG_pG]; exact congrArg (pG G h g) (by simp [y_S, y_d, y_a, c_78, e_78, c_106, e_106, c_113, e_113, c_130, c_137, c_167, c_182])) ?_
                      refine V.sub [(0, .ref tx), (1, .ref g), (2, .int (y_b (cf i) b)), (3, .int (y_p (cf i) (y_p0 (cf i) q))), (4, .int (y_r (cf i) r)), (5, .int (nI i)), (7, .int (S1 5 5))] ⟨rfl, rfl, rfl, by simp [y_p, y_d, c_78, e_78, c_106, e_106, c_113, e_113, c_130, c_137, c_167, c_182]; rfl, by simp [y_r, y_d, y_a, c_78, e_78, c_106, e_106, c_113, e_113, c_130, c_137, c_167, c_182]; rfl, rfl, rfl, trivial⟩ ?_
                      exact M190
                  · refine r_aload_n C dX3_makeTurns_170 rfl rfl ?_
                    refine r_cVi C (c_X0_turnToDraw GA_pG) lk_X3_42 rfl (GA_o GA_pG) rfl rfl ⟨(Nat.le_of_ble_eq_true rfl), (Nat.le_of_ble_eq_true rfl), (Nat.le_of_ble_eq_true rfl), (Nat.le_of_ble_eq_true rfl), (Nat.le_of_ble_eq_true rfl)⟩ dX3_makeTurns_171 ?_
                    refine r_pop C dX3_makeTurns_174 rfl ?_
                    refine r_goto C 190 dX3_makeTurns_175 (by decide) ?_
                    refine V.heap (h2 := (pG G h g (y_S (cf i) (y_p0 (cf i) q) r S1))) (by rw [pG_pG]; exact congrArg (pG G h g) (by simp [y_S, y_d, y_a, c_78, e_78, c_106, e_106, c_113, e_113, c_130, c_137, c_167])) ?_
                    refine V.sub [(0, .ref tx), (1, .ref g), (2, .int (y_b (cf i) b)), (3, .int (y_p (cf i) (y_p0 (cf i) q))), (4, .int (y_r (cf i) r)), (5, .int (nI i)), (7, .int (S1 5 5))] ⟨rfl, rfl, rfl, by simp [y_p, y_d, c_78, e_78, c_106, e_106, c_113, e_113, c_130, c_137, c_167]; rfl, by simp [y_r, y_d, y_a, c_78, e_78, c_106, e_106, c_113, e_113, c_130, c_137, c_167]; rfl, rfl, rfl, trivial⟩ ?_
                    exact M190
                · refine r_aload_n C dX3_makeTurns_140 rfl rfl ?_
                  refine r_iload_n C dX3_makeTurns_141 rfl rfl ?_
                  refine r_iload C dX3_makeTurns_142 rfl ?_
                  refine r_iload C dX3_makeTurns_144 rfl ?_
                  refine r_bipush C (v := 60) dX3_makeTurns_146 rfl ?_
                  refine r_icmp_ne C 155 dX3_makeTurns_148 (by decide) (fun _ => ?_) (fun c => absurd c (by rw [c_137]; decide))
                  refine r_iconst C (v := 1) dX3_makeTurns_155 rfl ?_
                  refine r_cVi C (c_X0_turnToLay GA_pG) lk_X3_38 rfl (GA_o GA_pG) rfl rfl ⟨(Nat.le_of_ble_eq_true rfl), (Nat.le_of_ble_eq_true rfl), (Nat.le_of_ble_eq_true rfl), (Nat.le_of_ble_eq_true rfl), (Nat.le_of_ble_eq_true rfl)⟩ dX3_makeTurns_156 ?_
                  refine r_pop C dX3_makeTurns_159 rfl ?_
                  refine r_goto C 190 dX3_makeTurns_160 (by decide) ?_
                  refine V.heap (h2 := (pG G h g (y_S (cf i) (y_p0 (cf i) q) r S1))) (by rw [pG_pG]; exact congrArg (pG G h g) (by simp [y_S, y_d, y_a, c_78, e_78, c_106, e_106, c_113, e_113, c_130, c_137])) ?_
                  refine V.sub [(0, .ref tx), (1, .ref g), (2, .int (y_b (cf i) b)), (3, .int (y_p (cf i) (y_p0 (cf i) q))), (4, .int (y_r (cf i) r)), (5, .int (nI i)), (7, .int (S1 5 5))] ⟨rfl, rfl, rfl, by simp [y_p, y_d, c_78, e_78, c_106, e_106, c_113, e_113, c_130, c_137]; rfl, by simp [y_r, y_d, y_a, c_78, e_78, c_106, e_106, c_113, e_113, c_130, c_137]; rfl, rfl, rfl, trivial⟩ ?_
                  exact M190
            · have e_113 := i32_le c_113
              refine r_iload C dX3_makeTurns_116 rfl ?_
              refine r_bipush C (v := 97) dX3_makeTurns_118 rfl ?_
              refine r_isub C dX3_makeTurns_120 ?_
              refine r_istore C dX3_makeTurns_121 (by decide) ?_
              refine r_goto C 190 dX3_makeTurns_123 (by decide) ?_
              refine V.heap (h2 := (pG G h g (y_S (cf i) (y_p0 (cf i) q) r S1))) ( congrArg (pG G h g) (by simp [y_S, y_d, y_a, c_78, e_78, c_106, e_106, c_113, e_113])) ?_
              refine V.sub [(0, .ref tx), (1, .ref g), (2, .int (y_b (cf i) b)), (3, .int (y_p (cf i) (y_p0 (cf i) q))), (4, .int (y_r (cf i) r)), (5, .int (nI i)), (7, .int (S1 5 5))] ⟨rfl, rfl, rfl, by simp [y_p, y_d, c_78, e_78, c_106, e_106, c_113, e_113]; rfl, by simp [y_r, y_d, y_a, c_78, e_78, c_106, e_106, c_113, e_113]; rfl, rfl, rfl, trivial⟩ ?_
              exact M190
        · have e_78 := i32_le c_78
          refine r_iload C dX3_makeTurns_81 rfl ?_
          refine r_bipush C (v := 57) dX3_makeTurns_83 rfl ?_
          refine r_icmp_gt C 102 dX3_makeTurns_85 (by decide) (fun c_85 => ?_) (fun c_85 => ?_)
          · have e_85 := i32_nle c_85
            refine r_iload C dX3_makeTurns_102 rfl ?_
            refine r_bipush C (v := 97) dX3_makeTurns_104 rfl ?_
            refine r_icmp_lt C 126 dX3_makeTurns_106 (by decide) (fun c_106 => ?_) (fun c_106 => ?_)
            · have e_106 := i32_nle c_106
              refine r_iload C dX3_makeTurns_126 rfl ?_
              refine r_bipush C (v := 60) dX3_makeTurns_128 rfl ?_
              refine r_icmp_eq C 140 dX3_makeTurns_130 (by decide) (fun c_130 => ?_) (fun c_130 => ?_)
              · refine r_aload_n C dX3_makeTurns_140 rfl rfl ?_
                refine r_iload_n C dX3_makeTurns_141 rfl rfl ?_
                refine r_iload C dX3_makeTurns_142 rfl ?_
                refine r_iload C dX3_makeTurns_144 rfl ?_
                refine r_bipush C (v := 60) dX3_makeTurns_146 rfl ?_
                refine r_icmp_ne C 155 dX3_makeTurns_148 (by decide) (fun c => absurd c_130 c) (fun _ => ?_)
                refine r_iconst C (v := 0) dX3_makeTurns_151 rfl ?_
                refine r_goto C 156 dX3_makeTurns_152 (by decide) ?_
                refine r_cVi C (c_X0_turnToLay GA_pG) lk_X3_38 rfl (GA_o GA_pG) rfl rfl ⟨(Nat.le_of_ble_eq_true rfl), (Nat.le_of_ble_eq_true rfl), (Nat.le_of_ble_eq_true rfl), (Nat.le_of_ble_eq_true rfl), (Nat.le_of_ble_eq_true rfl)⟩ dX3_makeTurns_156 ?_
                refine r_pop C dX3_makeTurns_159 rfl ?_
                refine r_goto C 190 dX3_makeTurns_160 (by decide) ?_
                refine V.heap (h2 := (pG G h g (y_S (cf i) (y_p0 (cf i) q) r S1))) (by rw [pG_pG]; exact congrArg (pG G h g) (by simp [y_S, y_d, y_a, c_78, e_78, c_85, e_85, c_106, e_106, c_130])) ?_
                refine V.sub [(0, .ref tx), (1, .ref g), (2, .int (y_b (cf i) b)), (3, .int (y_p (cf i) (y_p0 (cf i) q))), (4, .int (y_r (cf i) r)), (5, .int (nI i)), (7, .int (S1 5 5))] ⟨rfl, rfl, rfl, by simp [y_p, y_d, c_78, e_78, c_85, e_85, c_106, e_106, c_130]; rfl, by simp [y_r, y_d, y_a, c_78, e_78, c_85, e_85, c_106, e_106, c_130]; rfl, rfl, rfl, trivial⟩ ?_
                exact M190
              · refine r_iload C dX3_makeTurns_133 rfl ?_
                refine r_bipush C (v := 62) dX3_makeTurns_135 rfl ?_
                refine r_icmp_ne C 163 dX3_makeTurns_137 (by decide) (fun c_137 => ?_) (fun c_137 => ?_)
                · refine r_iload C dX3_makeTurns_163 rfl ?_
                  refine r_bipush C (v := 100) dX3_makeTurns_165 rfl ?_
                  refine r_icmp_ne C 178 dX3_makeTurns_167 (by decide) (fun c_167 => ?_) (fun c_167 => ?_)
                  · refine r_iload C dX3_makeTurns_178 rfl ?_
                    refine r_bipush C (v := 112) dX3_makeTurns_180 rfl ?_
                    refine r_icmp_ne C 190 dX3_makeTurns_182 (by decide) (fun c_182 => ?_) (fun c_182 => ?_)
                    · refine V.heap (h2 := (pG G h g (y_S (cf i) (y_p0 (cf i) q) r S1))) ( congrArg (pG G h g) (by simp [y_S, y_d, y_a, c_78, e_78, c_85, e_85, c_106, e_106, c_130, c_137, c_167, c_182])) ?_
                      refine V.sub [(0, .ref tx), (1, .ref g), (2, .int (y_b (cf i) b)), (3, .int (y_p (cf i) (y_p0 (cf i) q))), (4, .int (y_r (cf i) r)), (5, .int (nI i)), (7, .int (S1 5 5))] ⟨rfl, rfl, rfl, by simp [y_p, y_d, c_78, e_78, c_85, e_85, c_106, e_106, c_130, c_137, c_167, c_182]; rfl, by simp [y_r, y_d, y_a, c_78, e_78, c_85, e_85, c_106, e_106, c_130, c_137, c_167, c_182]; rfl, rfl, rfl, trivial⟩ ?_
                      exact M190
                    · refine r_aload_n C dX3_makeTurns_185 rfl rfl ?_
                      refine r_cVi C (c_X0_turnToPass GA_pG) lk_X3_46 rfl (GA_o GA_pG) rfl rfl ⟨(Nat.le_of_ble_eq_true rfl), (Nat.le_of_ble_eq_true rfl), (Nat.le_of_ble_eq_true rfl), (Nat.le_of_ble_eq_true rfl), (Nat.le_of_ble_eq_true rfl)⟩ dX3_makeTurns_186 ?_
                      refine r_pop C dX3_makeTurns_189 rfl ?_
                      refine V.heap (h2 := (pG G h g (y_S (cf i) (y_p0 (cf i) q) r S1))) (by rw [pG_pG]; exact congrArg (pG G h g) (by simp [y_S, y_d, y_a, c_78, e_78, c_85, e_85, c_106, e_106, c_130, c_137, c_167, c_182])) ?_
                      refine V.sub [(0, .ref tx), (1, .ref g), (2, .int (y_b (cf i) b)), (3, .int (y_p (cf i) (y_p0 (cf i) q))), (4, .int (y_r (cf i) r)), (5, .int (nI i)), (7, .int (S1 5 5))] ⟨rfl, rfl, rfl, by simp [y_p, y_d, c_78, e_78, c_85, e_85, c_106, e_106, c_130, c_137, c_167, c_182]; rfl, by simp [y_r, y_d, y_a, c_78, e_78, c_85, e_85, c_106, e_106, c_130, c_137, c_167, c_182]; rfl, rfl, rfl, trivial⟩ ?_
                      exact M190
                  · refine r_aload_n C dX3_makeTurns_170 rfl rfl ?_
                    refine r_cVi C (c_X0_turnToDraw GA_pG) lk_X3_42 rfl (GA_o GA_pG) rfl rfl ⟨(Nat.le_of_ble_eq_true rfl), (Nat.le_of_ble_eq_true rfl), (Nat.le_of_ble_eq_true rfl), (Nat.le_of_ble_eq_true rfl), (Nat.le_of_ble_eq_true rfl)⟩ dX3_makeTurns_171 ?_
                    refine r_pop C dX3_makeTurns_174 rfl ?_
                    refine r_goto C 190 dX3_makeTurns_175 (by decide) ?_
                    refine V.heap (h2 := (pG G h g (y_S (cf i) (y_p0 (cf i) q) r S1))) (by rw [pG_pG]; exact congrArg (pG G h g) (by simp [y_S, y_d, y_a, c_78, e_78, c_85, e_85, c_106, e_106, c_130, c_137, c_167])) ?_
                    refine V.sub [(0, .ref tx), (1, .ref g), (2, .int (y_b (cf i) b)), (3, .int (y_p (cf i) (y_p0 (cf i) q))), (4, .int (y_r (cf i) r)), (5, .int (nI i)), (7, .int (S1 5 5))] ⟨rfl, rfl, rfl, by simp [y_p, y_d, c_78, e_78, c_85, e_85, c_106, e_106, c_130, c_137, c_167]; rfl, by simp [y_r, y_d, y_a, c_78, e_78, c_85, e_85, c_106, e_106, c_130, c_137, c_167]; rfl, rfl, rfl, trivial⟩ ?_
                    exact M190
                · refine r_aload_n C dX3_makeTurns_140 rfl rfl ?_
                  refine r_iload_n C dX3_makeTurns_141 rfl rfl ?_
                  refine r_iload C dX3_makeTurns_142 rfl ?_
                  refine r_iload C dX3_makeTurns_144 rfl ?_
                  refine r_bipush C (v := 60) dX3_makeTurns_146 rfl ?_
                  refine r_icmp_ne C 155 dX3_makeTurns_148 (by decide) (fun _ => ?_) (fun c => absurd c (by rw [c_137]; decide))
                  refine r_iconst C (v := 1) dX3_makeTurns_155 rfl ?_
                  refine r_cVi C (c_X0_turnToLay GA_pG) lk_X3_38 rfl (GA_o GA_pG) rfl rfl ⟨(Nat.le_of_ble_eq_true rfl), (Nat.le_of_ble_eq_true rfl), (Nat.le_of_ble_eq_true rfl), (Nat.le_of_ble_eq_true rfl), (Nat.le_of_ble_eq_true rfl)⟩ dX3_makeTurns_156 ?_
                  refine r_pop C dX3_makeTurns_159 rfl ?_
                  refine r_goto C 190 dX3_makeTurns_160 (by decide) ?_
                  refine V.heap (h2 := (pG G h g (y_S (cf i) (y_p0 (cf i) q) r S1))) (by rw [pG_pG]; exact congrArg (pG G h g) (by simp [y_S, y_d, y_a, c_78, e_78, c_85, e_85, c_106, e_106, c_130, c_137])) ?_
                  refine V.sub [(0, .ref tx), (1, .ref g), (2, .int (y_b (cf i) b)), (3, .int (y_p (cf i) (y_p0 (cf i) q))), (4, .int (y_r (cf i) r)), (5, .int (nI i)), (7, .int (S1 5 5))] ⟨rfl, rfl, rfl, by simp [y_p, y_d, c_78, e_78, c_85, e_85, c_106, e_106, c_130, c_137]; rfl, by simp [y_r, y_d, y_a, c_78, e_78, c_85, e_85, c_106, e_106, c_130, c_137]; rfl, rfl, rfl, trivial⟩ ?_
                  exact M190
            · have e_106 := i32_le c_106
              refine r_iload C dX3_makeTurns_109 rfl ?_
              refine r_bipush C (v := 99) dX3_makeTurns_111 rfl ?_
              refine r_icmp_gt C 126 dX3_makeTurns_113 (by decide) (fun c_113 => ?_) (fun c_113 => ?_)
              · have e_113 := i32_nle c_113
                refine r_iload C dX3_makeTurns_126 rfl ?_
                refine r_bipush C (v := 60) dX3_makeTurns_128 rfl ?_
                refine r_icmp_eq C 140 dX3_makeTurns_130 (by decide) (fun c_130 => ?_) (fun c_130 => ?_)
                · refine r_aload_n C dX3_makeTurns_140 rfl rfl ?_
                  refine r_iload_n C dX3_makeTurns_141 rfl rfl ?_
                  refine r_iload C dX3_makeTurns_142 rfl ?_
                  refine r_iload C dX3_makeTurns_144 rfl ?_
                  refine r_bipush C (v := 60) dX3_makeTurns_146 rfl ?_
                  refine r_icmp_ne C 155 dX3_makeTurns_148 (by decide) (fun c => absurd c_130 c) (fun _ => ?_)
                  refine r_iconst C (v := 0) dX3_makeTurns_151 rfl ?_
                  refine r_goto C 156 dX3_makeTurns_152 (by decide) ?_
                  refine r_cVi C (c_X0_turnToLay GA_pG) lk_X3_38 rfl (GA_o GA_pG) rfl rfl ⟨(Nat.le_of_ble_eq_true rfl), (Nat.le_of_ble_eq_true rfl), (Nat.le_of_ble_eq_true rfl), (Nat.le_of_ble_eq_true rfl), (Nat.le_of_ble_eq_true rfl)⟩ dX3_makeTurns_156 ?_
                  refine r_pop C dX3_makeTurns_159 rfl ?_
                  refine r_goto C 190 dX3_makeTurns_160 (by decide) ?_
                  refine V.heap (h2 := (pG G h g (y_S (cf i) (y_p0 (cf i) q) r S1))) (by rw [pG_pG]; exact congrArg (pG G h g) (by simp [y_S, y_d, y_a, c_78, e_78, c_85, e_85, c_106, e_106, c_113, e_113, c_130])) ?_
                  refine V.sub [(0, .ref tx), (1, .ref g), (2, .int (y_b (cf i) b)), (3, .int (y_p (cf i) (y_p0 (cf i) q))), (4, .int (y_r (cf i) r)), (5, .int (nI i)), (7, .int (S1 5 5))] ⟨rfl, rfl, rfl, by simp [y_p, y_d, c_78, e_78, c_85, e_85, c_106, e_106, c_113, e_113, c_130]; rfl, by simp [y_r, y_d, y_a, c_78, e_78, c_85, e_85, c_106, e_106, c_113, e_113, c_130]; rfl, rfl, rfl, trivial⟩ ?_
                  exact M190
                · refine r_iload C dX3_makeTurns_133 rfl ?_
                  refine r_bipush C (v := 62) dX3_makeTurns_135 rfl ?_
                  refine r_icmp_ne C 163 dX3_makeTurns_137 (by decide) (fun c_137 => ?_) (fun c_137 => ?_)
                  · refine r_iload C dX3_makeTurns_163 rfl ?_
                    refine r_bipush C (v := 100) dX3_makeTurns_165 rfl ?_
                    refine r_icmp_ne C 178 dX3_makeTurns_167 (by decide) (fun c_167 => ?_) (fun c_167 => ?_)
                    · refine r_iload C dX3_makeTurns_178 rfl ?_
                      refine r_bipush C (v := 112) dX3_makeTurns_180 rfl ?_
                      refine r_icmp_ne C 190 dX3_makeTurns_182 (by decide) (fun c_182 => ?_) (fun c_182 => ?_)
                      · refine V.heap (h2 := (pG G h g (y_S (cf i) (y_p0 (cf i) q) r S1))) ( congrArg (pG G h g) (by simp [y_S, y_d, y_a, c_78, e_78, c_85, e_85, c_106, e_106, c_113, e_113, c_130, c_137, c_167, c_182])) ?_
                        refine V.sub [(0, .ref tx), (1, .ref g), (2, .int (y_b (cf i) b)), (3, .int (y_p (cf i) (y_p0 (cf i) q))), (4, .int (y_r (cf i) r)), (5, .int (nI i)), (7, .int (S1 5 5))] ⟨rfl, rfl, rfl, by simp [y_p, y_d, c_78, e_78, c_85, e_85, c_106, e_106, c_113, e_113, c_130, c_137, c_167, c_182]; rfl, by simp [y_r, y_d, y_a, c_78, e_78, c_85, e_85, c_106, e_106, c_113, e_113, c_130, c_137, c_167, c_182]; rfl, rfl, rfl, trivial⟩ ?_
                        exact M190
                      · refine r_aload_n C dX3_makeTurns_185 rfl rfl ?_
                        refine r_cVi C (c_X0_turnToPass GA_pG) lk_X3_46 rfl (GA_o GA_pG) rfl rfl ⟨(Nat.le_of_ble_eq_true rfl), (Nat.le_of_ble_eq_true rfl), (Nat.le_of_ble_eq_true rfl), (Nat.le_of_ble_eq_true rfl), (Nat.le_of_ble_eq_true rfl)⟩ dX3_makeTurns_186 ?_
                        refine r_pop C dX3_makeTurns_189 rfl ?_
                        refine V.heap (h2 := (pG G h g (y_S (cf i) (y_p0 (cf i) q) r S1))) (by rw [pG_pG]; exact congrArg (pG G h g) (by simp [y_S, y_d, y_a, c_78, e_78, c_85, e_85, c_106, e_106, c_113, e_113, c_130, c_137, c_167, c_182])) ?_
                        refine V.sub [(0, .ref tx), (1, .ref g), (2, .int (y_b (cf i) b)), (3, .int (y_p (cf i) (y_p0 (cf i) q))), (4, .int (y_r (cf i) r)), (5, .int (nI i)), (7, .int (S1 5 5))] ⟨rfl, rfl, rfl, by simp [y_p, y_d, c_78, e_78, c_85, e_85, c_106, e_106, c_113, e_113, c_130, c_137, c_167, c_182]; rfl, by simp [y_r, y_d, y_a, c_78, e_78, c_85, e_85, c_106, e_106, c_113, e_113, c_130, c_137, c_167, c_182]; rfl, rfl, rfl, trivial⟩ ?_
                        exact M190
                    · refine r_aload_n C dX3_makeTurns_170 rfl rfl ?_
                      refine r_cVi C (c_X0_turnToDraw GA_pG) lk_X3_42 rfl (GA_o GA_pG) rfl rfl ⟨(Nat.le_of_ble_eq_true rfl), (Nat.le_of_ble_eq_true rfl), (Nat.le_of_ble_eq_true rfl), (Nat.le_of_ble_eq_true rfl), (Nat.le_of_ble_eq_true rfl)⟩ dX3_makeTurns_171 ?_
                      refine r_pop C dX3_makeTurns_174 rfl ?_
                      refine r_goto C 190 dX3_makeTurns_175 (by decide) ?_
                      refine V.heap (h2 := (pG G h g (y_S (cf i) (y_p0 (cf i) q) r S1))) (by rw [pG_pG]; exact congrArg (pG G h g) (by simp [y_S, y_d, y_a, c_78, e_78, c_85, e_85, c_106, e_106, c_113, e_113, c_130, c_137, c_167])) ?_
                      refine V.sub [(0, .ref tx), (1, .ref g), (2, .int (y_b (cf i) b)), (3, .int (y_p (cf i) (y_p0 (cf i) q))), (4, .int (y_r (cf i) r)), (5, .int (nI i)), (7, .int (S1 5 5))] ⟨rfl, rfl, rfl, by simp [y_p, y_d, c_78, e_78, c_85, e_85, c_106, e_106, c_113, e_113, c_130, c_137, c_167]; rfl, by simp [y_r, y_d, y_a, c_78, e_78, c_85, e_85, c_106, e_106, c_113, e_113, c_130, c_137, c_167]; rfl, rfl, rfl, trivial⟩ ?_
                      exact M190
                  · refine r_aload_n C dX3_makeTurns_140 rfl rfl ?_
                    refine r_iload_n C dX3_makeTurns_141 rfl rfl ?_
                    refine r_iload C dX3_makeTurns_142 rfl ?_
                    refine r_iload C dX3_makeTurns_144 rfl ?_
                    refine r_bipush C (v := 60) dX3_makeTurns_146 rfl ?_
                    refine r_icmp_ne C 155 dX3_makeTurns_148 (by decide) (fun _ => ?_) (fun c => absurd c (by rw [c_137]; decide))
                    refine r_iconst C (v := 1) dX3_makeTurns_155 rfl ?_
                    refine r_cVi C (c_X0_turnToLay GA_pG) lk_X3_38 rfl (GA_o GA_pG) rfl rfl ⟨(Nat.le_of_ble_eq_true rfl), (Nat.le_of_ble_eq_true rfl), (Nat.le_of_ble_eq_true rfl), (Nat.le_of_ble_eq_true rfl), (Nat.le_of_ble_eq_true rfl)⟩ dX3_makeTurns_156 ?_
                    refine r_pop C dX3_makeTurns_159 rfl ?_
                    refine r_goto C 190 dX3_makeTurns_160 (by decide) ?_
                    refine V.heap (h2 := (pG G h g (y_S (cf i) (y_p0 (cf i) q) r S1))) (by rw [pG_pG]; exact congrArg (pG G h g) (by simp [y_S, y_d, y_a, c_78, e_78, c_85, e_85, c_106, e_106, c_113, e_113, c_130, c_137])) ?_
                    refine V.sub [(0, .ref tx), (1, .ref g), (2, .int (y_b (cf i) b)), (3, .int (y_p (cf i) (y_p0 (cf i) q))), (4, .int (y_r (cf i) r)), (5, .int (nI i)), (7, .int (S1 5 5))] ⟨rfl, rfl, rfl, by simp [y_p, y_d, c_78, e_78, c_85, e_85, c_106, e_106, c_113, e_113, c_130, c_137]; rfl, by simp [y_r, y_d, y_a, c_78, e_78, c_85, e_85, c_106, e_106, c_113, e_113, c_130, c_137]; rfl, rfl, rfl, trivial⟩ ?_
                    exact M190
              · have e_113 := i32_le c_113
                refine r_iload C dX3_makeTurns_116 rfl ?_
                refine r_bipush C (v := 97) dX3_makeTurns_118 rfl ?_
                refine r_isub C dX3_makeTurns_120 ?_
                refine r_istore C dX3_makeTurns_121 (by decide) ?_
                refine r_goto C 190 dX3_makeTurns_123 (by decide) ?_
                refine V.heap (h2 := (pG G h g (y_S (cf i) (y_p0 (cf i) q) r S1))) ( congrArg (pG G h g) (by simp [y_S, y_d, y_a, c_78, e_78, c_85, e_85, c_106, e_106, c_113, e_113])) ?_
                refine V.sub [(0, .ref tx), (1, .ref g), (2, .int (y_b (cf i) b)), (3, .int (y_p (cf i) (y_p0 (cf i) q))), (4, .int (y_r (cf i) r)), (5, .int (nI i)), (7, .int (S1 5 5))] ⟨rfl, rfl, rfl, by simp [y_p, y_d, c_78, e_78, c_85, e_85, c_106, e_106, c_113, e_113]; rfl, by simp [y_r, y_d, y_a, c_78, e_78, c_85, e_85, c_106, e_106, c_113, e_113]; rfl, rfl, rfl, trivial⟩ ?_
                exact M190
          · have e_85 := i32_le c_85
            refine r_iload_n C dX3_makeTurns_88 rfl rfl ?_
            refine r_bipush C (v := 10) dX3_makeTurns_89 rfl ?_
            refine r_imul C dX3_makeTurns_91 ?_
            refine r_iload C dX3_makeTurns_92 rfl ?_
            refine r_iadd C dX3_makeTurns_94 ?_
            refine r_bipush C (v := 48) dX3_makeTurns_95 rfl ?_
            refine r_isub C dX3_makeTurns_97 ?_
            refine r_istore_n C dX3_makeTurns_98 rfl (by decide) ?_
            refine r_goto C 190 dX3_makeTurns_99 (by decide) ?_
            refine V.heap (h2 := (pG G h g (y_S (cf i) (y_p0 (cf i) q) r S1))) ( congrArg (pG G h g) (by simp [y_S, y_d, y_a, c_78, e_78, c_85, e_85])) ?_
            refine V.sub [(0, .ref tx), (1, .ref g), (2, .int (y_b (cf i) b)), (3, .int (y_p (cf i) (y_p0 (cf i) q))), (4, .int (y_r (cf i) r)), (5, .int (nI i)), (7, .int (S1 5 5))] ⟨rfl, rfl, rfl, by simp [y_p, y_d, c_78, e_78, c_85, e_85]; rfl, by simp [y_r, y_d, y_a, c_78, e_78, c_85, e_85]; rfl, rfl, rfl, trivial⟩ ?_
            exact M190
      refine r_iload C dX3_makeTurns_10 rfl ?_
      refine r_aload_n C dX3_makeTurns_12 rfl rfl ?_
      refine r_get C (j := 1) rfl in_X3 ((XA_G w d).1) (by decide) fl_X3_15 rfl rfl dX3_makeTurns_13 ?_
      refine r_icmp_ge C 209 dX3_makeTurns_16 (by decide) (fun c => absurd c (nI_ge (show i < n by omega) (by omega))) (fun _ => ?_)
      refine r_iload C dX3_makeTurns_19 rfl ?_
      refine r_aload_n C dX3_makeTurns_21 rfl rfl ?_
      refine r_get C (j := 0) rfl in_X3 ((XA_G w d).1) (by decide) fl_X3_9 rfl rfl dX3_makeTurns_22 ?_
      refine r_alenC C ((XA_G w d).2) dX3_makeTurns_25 ?_
      refine r_icmp_ge C 209 dX3_makeTurns_26 (by decide) (fun c => absurd c (nI_ge (b := 60) (by omega) (by decide))) (fun _ => ?_)
      refine r_aload_n C dX3_makeTurns_29 rfl rfl ?_
      refine r_ifnull C dX3_makeTurns_30 ?_
      refine r_aload_n C dX3_makeTurns_33 rfl rfl ?_
      refine r_get C (j := 0) rfl in_X3 ((XA_G w d).1) (by decide) fl_X3_9 rfl rfl dX3_makeTurns_34 ?_
      refine r_iload C dX3_makeTurns_37 rfl ?_
      refine r_cald C ((XA_G w d).2) (vp_in_nI (by omega) (by decide)) dX3_makeTurns_39 ?_
      rw [nI_clamp (by omega)]
      refine r_istore C dX3_makeTurns_40 (by decide) ?_
      refine r_aload_n C dX3_makeTurns_42 rfl rfl ?_
      refine r_getN C (j := 10) rfl in_X0 (GA_o GA_pG) (by decide) fn_X3_33 rfl rfl dX3_makeTurns_43 ?_
      refine r_istore C dX3_makeTurns_46 (by decide) ?_
      refine r_iload C dX3_makeTurns_48 rfl ?_
      refine r_bipush C (v := 108) dX3_makeTurns_50 rfl ?_
      refine r_icmp_eq C 69 dX3_makeTurns_52 (by decide) (fun c_52 => ?_) (fun c_52 => ?_)
      · refine r_iinc C (v := 1) dX3_makeTurns_69 rfl rfl (by decide) ?_
        refine r_iconst C (v := 0) dX3_makeTurns_72 rfl ?_
        refine r_istore_n C dX3_makeTurns_73 rfl (by decide) ?_
        refine V.sub [(0, .ref tx), (1, .ref g), (2, .int (y_b (cf i) b)), (3, .int (y_p0 (cf i) q)), (4, .int r), (5, .int (nI i)), (6, .int (cf i)), (7, .int (S1 5 5))] ⟨rfl, rfl, by simp [y_b, y_l, c_52]; rfl, by simp [y_p0, y_l, c_52]; rfl, rfl, rfl, rfl, rfl, trivial⟩ ?_
        exact M74
      · refine r_iload C dX3_makeTurns_55 rfl ?_
        refine r_bipush C (v := 100) dX3_makeTurns_57 rfl ?_
        refine r_icmp_eq C 69 dX3_makeTurns_59 (by decide) (fun c_59 => ?_) (fun c_59 => ?_)
        · refine r_iinc C (v := 1) dX3_makeTurns_69 rfl rfl (by decide) ?_
          refine r_iconst C (v := 0) dX3_makeTurns_72 rfl ?_
          refine r_istore_n C dX3_makeTurns_73 rfl (by decide) ?_
          refine V.sub [(0, .ref tx), (1, .ref g), (2, .int (y_b (cf i) b)), (3, .int (y_p0 (cf i) q)), (4, .int r), (5, .int (nI i)), (6, .int (cf i)), (7, .int (S1 5 5))] ⟨rfl, rfl, by simp [y_b, y_l, c_52, c_59]; rfl, by simp [y_p0, y_l, c_52, c_59]; rfl, rfl, rfl, rfl, rfl, trivial⟩ ?_
          exact M74
        · refine r_iload C dX3_makeTurns_62 rfl ?_
          refine r_bipush C (v := 112) dX3_makeTurns_64 rfl ?_
          refine r_icmp_ne C 74 dX3_makeTurns_66 (by decide) (fun c_66 => ?_) (fun c_66 => ?_)
          · refine V.sub [(0, .ref tx), (1, .ref g), (2, .int (y_b (cf i) b)), (3, .int (y_p0 (cf i) q)), (4, .int r), (5, .int (nI i)), (6, .int (cf i)), (7, .int (S1 5 5))] ⟨rfl, rfl, by simp [y_b, y_l, c_52, c_59, c_66]; rfl, by simp [y_p0, y_l, c_52, c_59, c_66]; rfl, rfl, rfl, rfl, rfl, trivial⟩ ?_
            exact M74
          · refine r_iinc C (v := 1) dX3_makeTurns_69 rfl rfl (by decide) ?_
            refine r_iconst C (v := 0) dX3_makeTurns_72 rfl ?_
            refine r_istore_n C dX3_makeTurns_73 rfl (by decide) ?_
            refine V.sub [(0, .ref tx), (1, .ref g), (2, .int (y_b (cf i) b)), (3, .int (y_p0 (cf i) q)), (4, .int r), (5, .int (nI i)), (6, .int (cf i)), (7, .int (S1 5 5))] ⟨rfl, rfl, by simp [y_b, y_l, c_52, c_59, c_66]; rfl, by simp [y_p0, y_l, c_52, c_59, c_66]; rfl, rfl, rfl, rfl, rfl, trivial⟩ ?_
            exact M74
  refine r_iconst C (v := 0) dX3_makeTurns_0 rfl ?_
  refine r_istore_n C dX3_makeTurns_1 rfl (by decide) ?_
  refine r_iconst C (v := 0) dX3_makeTurns_2 rfl ?_
  refine r_istore_n C dX3_makeTurns_3 rfl (by decide) ?_
  refine r_iconst C (v := 0) dX3_makeTurns_4 rfl ?_
  refine r_istore C dX3_makeTurns_5 (by decide) ?_
  refine r_iconst C (v := 0) dX3_makeTurns_7 rfl ?_
  refine r_istore C dX3_makeTurns_8 (by decide) ?_
  refine V.heap (pG_id wg).symm ?_
  refine V.sub [(0, .ref tx), (1, .ref g), (2, .int 0), (3, .int 0), (4, .int 0), (5, .int (nI 0))] ⟨rfl, rfl, rfl, rfl, rfl, rfl, trivial⟩ ?_
  exact loop n 0 0 0 0 S (by omega) rfl
