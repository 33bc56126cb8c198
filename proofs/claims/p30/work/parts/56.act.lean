/-! AN ACT, BY A CELL -/
def a_x (v : Int32) : Int32 := v >>> ((5 : Int32) &&& 31)
def a_is (v : Int32) : Bool := !decide (lw_low (v >>> ((22 : Int32) &&& 31)) 6 ≤ 0)
def a_pl (S : gS) (v : Int32) : Int32 := if g_adv S < 0 then lw_low (a_x v) 8 else if (a_x v >>> ((8 : Int32) &&& 31)) &&& 1 = 0 then g_adv S else lw_low (a_x v) 8
/-- the act that a cell tells -/
def a_sel {α : Type} (S : gS) (v : Int32) (fd fp : α) (fc : Int32 → Int32 → Int32 → Int32 → α) : α :=
  if lw_low v 32 = 0 then fc 0 (lw_low (a_x v) (if a_is v then 3 else 6) + (if a_is v then 2 else 0)) (lw_low (a_x v >>> ((3 : Int32) &&& 31)) (if a_is v then 10000 else 11000)) 0
  else if lw_low v 32 < 13 then fd
  else if lw_low v 32 < 15 then fp
  else if lw_low v 32 < 17 then fc 2 (lw_low (a_x v) (if a_is v then 5 else 30)) 0 0
  else if lw_low v 32 = 17 then fc 3 (lw_low (a_x v) (if a_is v then 10 else 12)) 0 0
  else fc 1 (a_pl S v) (lw_low (a_x v >>> ((3 : Int32) &&& 31)) (if a_is v then 3 else 4)) (lw_low (a_x v >>> ((5 : Int32) &&& 31)) (if a_is v then 2 else 3))
def a_c (S : gS) (v : Int32) : Int32 := a_sel S v 0 0 (ch_c S)
def a_S (S : gS) (v : Int32) : gS := a_sel S v (g_draw S) (g_pass S) (ch_S S)
def a_r (S : gS) (v : Int32) : Int32 := a_sel S v (g_drawA S) (g_passA S) (ch_r S)
theorem sel_0t {α : Type} {S : gS} {v : Int32} {fd fp : α} {fc : Int32 → Int32 → Int32 → Int32 → α} (c0 : lw_low v 32 = 0) (his : a_is v = true) : a_sel S v fd fp fc = fc 0 (lw_low (a_x v) 3 + 2) (lw_low (a_x v >>> ((3 : Int32) &&& 31)) 10000) 0 := by
  unfold a_sel
  rw [if_pos c0, his]
  rfl
theorem sel_0f {α : Type} {S : gS} {v : Int32} {fd fp : α} {fc : Int32 → Int32 → Int32 → Int32 → α} (c0 : lw_low v 32 = 0) (his : a_is v = false) : a_sel S v fd fp fc = fc 0 (lw_low (a_x v) 6 + 0) (lw_low (a_x v >>> ((3 : Int32) &&& 31)) 11000) 0 := by
  unfold a_sel
  rw [if_pos c0, his]
  rfl
theorem sel_2t {α : Type} {S : gS} {v : Int32} {fd fp : α} {fc : Int32 → Int32 → Int32 → Int32 → α} (c0 : ¬ lw_low v 32 = 0) (c1 : ¬ lw_low v 32 < 13) (c2 : ¬ lw_low v 32 < 15) (c3 : lw_low v 32 < 17) (his : a_is v = true) : a_sel S v fd fp fc = fc 2 (lw_low (a_x v) 5) 0 0 := by
  unfold a_sel
  rw [if_neg c0, if_neg c1, if_neg c2, if_pos c3, his]
  rfl
theorem sel_2f {α : Type} {S : gS} {v : Int32} {fd fp : α} {fc : Int32 → Int32 → Int32 → Int32 → α} (c0 : ¬ lw_low v 32 = 0) (c1 : ¬ lw_low v 32 < 13) (c2 : ¬ lw_low v 32 < 15) (c3 : lw_low v 32 < 17) (his : a_is v = false) : a_sel S v fd fp fc = fc 2 (lw_low (a_x v) 30) 0 0 := by
  unfold a_sel
  rw [if_neg c0, if_neg c1, if_neg c2, if_pos c3, his]
  rfl
theorem sel_3t {α : Type} {S : gS} {v : Int32} {fd fp : α} {fc : Int32 → Int32 → Int32 → Int32 → α} (c0 : ¬ lw_low v 32 = 0) (c1 : ¬ lw_low v 32 < 13) (c2 : ¬ lw_low v 32 < 15) (c3 : ¬ lw_low v 32 < 17) (c4 : lw_low v 32 = 17) (his : a_is v = true) : a_sel S v fd fp fc = fc 3 (lw_low (a_x v) 10) 0 0 := by
  unfold a_sel
  rw [if_neg c0, if_neg c1, if_neg c2, if_neg c3, if_pos c4, his]
  rfl
theorem sel_3f {α : Type} {S : gS} {v : Int32} {fd fp : α} {fc : Int32 → Int32 → Int32 → Int32 → α} (c0 : ¬ lw_low v 32 = 0) (c1 : ¬ lw_low v 32 < 13) (c2 : ¬ lw_low v 32 < 15) (c3 : ¬ lw_low v 32 < 17) (c4 : lw_low v 32 = 17) (his : a_is v = false) : a_sel S v fd fp fc = fc 3 (lw_low (a_x v) 12) 0 0 := by
  unfold a_sel
  rw [if_neg c0, if_neg c1, if_neg c2, if_neg c3, if_pos c4, his]
  rfl
theorem sel_1t {α : Type} {S : gS} {v : Int32} {pl : Int32} {fd fp : α} {fc : Int32 → Int32 → Int32 → Int32 → α} (c0 : ¬ lw_low v 32 = 0) (c1 : ¬ lw_low v 32 < 13) (c2 : ¬ lw_low v 32 < 15) (c3 : ¬ lw_low v 32 < 17) (c4 : ¬ lw_low v 32 = 17) (his : a_is v = true) (hpl : a_pl S v = pl) : a_sel S v fd fp fc = fc 1 pl (lw_low (a_x v >>> ((3 : Int32) &&& 31)) 3) (lw_low (a_x v >>> ((5 : Int32) &&& 31)) 2) := by
  unfold a_sel
  rw [if_neg c0, if_neg c1, if_neg c2, if_neg c3, if_neg c4, his, hpl]
  rfl
theorem sel_1f {α : Type} {S : gS} {v : Int32} {pl : Int32} {fd fp : α} {fc : Int32 → Int32 → Int32 → Int32 → α} (c0 : ¬ lw_low v 32 = 0) (c1 : ¬ lw_low v 32 < 13) (c2 : ¬ lw_low v 32 < 15) (c3 : ¬ lw_low v 32 < 17) (c4 : ¬ lw_low v 32 = 17) (his : a_is v = false) (hpl : a_pl S v = pl) : a_sel S v fd fp fc = fc 1 pl (lw_low (a_x v >>> ((3 : Int32) &&& 31)) 4) (lw_low (a_x v >>> ((5 : Int32) &&& 31)) 3) := by
  unfold a_sel
  rw [if_neg c0, if_neg c1, if_neg c2, if_neg c3, if_neg c4, his, hpl]
  rfl
theorem sel_d {α : Type} {S : gS} {v : Int32} {fd fp : α} {fc : Int32 → Int32 → Int32 → Int32 → α} (c0 : ¬ lw_low v 32 = 0) (c1 : lw_low v 32 < 13) : a_sel S v fd fp fc = fd := by
  unfold a_sel
  rw [if_neg c0, if_pos c1]
theorem sel_p {α : Type} {S : gS} {v : Int32} {fd fp : α} {fc : Int32 → Int32 → Int32 → Int32 → α} (c0 : ¬ lw_low v 32 = 0) (c1 : ¬ lw_low v 32 < 13) (c2 : lw_low v 32 < 15) : a_sel S v fd fp fc = fp := by
  unfold a_sel
  rw [if_neg c0, if_neg c1, if_pos c2]
theorem pl_1 {S : gS} {v : Int32} (c : g_adv S < 0) : a_pl S v = lw_low (a_x v) 8 := by unfold a_pl; rw [if_pos c]
theorem pl_2 {S : gS} {v : Int32} (c : ¬ g_adv S < 0) (d : (a_x v >>> ((8 : Int32) &&& 31)) &&& 1 = 0) : a_pl S v = g_adv S := by unfold a_pl; rw [if_neg c, if_pos d]
theorem pl_3 {S : gS} {v : Int32} (c : ¬ g_adv S < 0) (d : ¬ (a_x v >>> ((8 : Int32) &&& 31)) &&& 1 = 0) : a_pl S v = lw_low (a_x v) 8 := by unfold a_pl; rw [if_neg c, if_neg d]
set_option maxHeartbeats 800000 in
set_option maxRecDepth 100000 in
theorem c_L_act {G : ga_} {l : Launch} {h : HP} {sz x out : Nat} {dy : Nat → Prop} {S : gS} {sv sl : Nat → Option Nat} {D : Nat → gS} {nx z len : Nat} {cf f : Nat → Int32} {v : Int32} (hst : l.stackTraces = false) (w : RA G h x dy sz S sv sl D nx z cf len) (wo : h out = some (aI_ G 1 f)) (ho : ¬ dy out) (hx : out < x ∨ x + 21 ≤ out) : Mg G l yL_act cL_act 8 (some .int) 9 166 13 400 [.ref x, .int v, .ref out] h sz (acP G h x dy sz out f S sv sl D nx z cf len (a_c S v) (a_S S v) (a_r S v)) := by
  refine Mg.ofV [(0, .ref x), (1, .int v), (2, .ref out)] (by decide) (Nat.le_of_ble_eq_true rfl) rfl ?_
  intro p e s m args below meth c C
  refine r_iload_n C dL_act_0 rfl rfl ?_
  refine r_bipush C (v := 32) dL_act_1 rfl ?_
  refine r_cSi C (c_L_low (by decide)) lk_L_29 rfl rfl ⟨(Nat.le_of_ble_eq_true rfl), (Nat.le_of_ble_eq_true rfl), (by dsimp only; omega), (by dsimp only; omega), (Nat.le_of_ble_eq_true rfl)⟩ dL_act_3 ?_
  refine r_istore_n C dL_act_6 rfl (by decide) ?_
  refine r_iload_n C dL_act_7 rfl rfl ?_
  refine r_iconst C (v := 5) dL_act_8 rfl ?_
  refine r_ishr C dL_act_9 ?_
  refine r_istore C dL_act_10 (by decide) ?_
  refine V.sub [(0, .ref x), (1, .int v), (2, .ref out), (3, .int (lw_low v 32)), (4, .int (a_x v))] ⟨rfl, rfl, rfl, rfl, rfl, trivial⟩ ?_
  refine r_iload_n C dL_act_12 rfl rfl ?_
  refine r_bipush C (v := 22) dL_act_13 rfl ?_
  refine r_ishr C dL_act_15 ?_
  refine r_bipush C (v := 6) dL_act_16 rfl ?_
  refine r_cSi C (c_L_low (by decide)) lk_L_29 rfl rfl ⟨(Nat.le_of_ble_eq_true rfl), (Nat.le_of_ble_eq_true rfl), (by dsimp only; omega), (by dsimp only; omega), (Nat.le_of_ble_eq_true rfl)⟩ dL_act_18 ?_
  refine r_if_le C 28 dL_act_21 (by decide) (fun c_21 => ?_) (fun c_21 => ?_)
  · have e_21 := i32_nlt c_21
    refine r_iconst C (v := 0) dL_act_28 rfl ?_
    refine r_istore C dL_act_29 (by decide) ?_
    refine r_iload_n C dL_act_31 rfl rfl ?_
    refine r_if_ne C 91 dL_act_32 (by decide) (fun c_32 => ?_) (fun c_32 => ?_)
    · refine r_iload_n C dL_act_91 rfl rfl ?_
      refine r_bipush C (v := 13) dL_act_92 rfl ?_
      refine r_icmp_ge C 106 dL_act_94 (by decide) (fun c_94 => ?_) (fun c_94 => ?_)
      · have e_94 := i32_nlt c_94
        refine r_iload_n C dL_act_106 rfl rfl ?_
        refine r_bipush C (v := 15) dL_act_107 rfl ?_
        refine r_icmp_ge C 121 dL_act_109 (by decide) (fun c_109 => ?_) (fun c_109 => ?_)
        · have e_109 := i32_nlt c_109
          refine r_iload_n C dL_act_121 rfl rfl ?_
          refine r_bipush C (v := 17) dL_act_122 rfl ?_
          refine r_icmp_ge C 152 dL_act_124 (by decide) (fun c_124 => ?_) (fun c_124 => ?_)
          · have e_124 := i32_nlt c_124
            refine r_iload_n C dL_act_152 rfl rfl ?_
            refine r_bipush C (v := 17) dL_act_153 rfl ?_
            refine r_icmp_ne C 184 dL_act_155 (by decide) (fun c_155 => ?_) (fun c_155 => ?_)
            · refine r_aload_n C dL_act_184 rfl rfl ?_
              refine q_adv C w rfl ⟨(Nat.le_of_ble_eq_true rfl), (Nat.le_of_ble_eq_true rfl), (by dsimp only; omega), (by dsimp only; omega), (Nat.le_of_ble_eq_true rfl)⟩ dL_act_185 ?_
              refine r_istore C dL_act_188 (by decide) ?_
              refine r_iload C dL_act_190 rfl ?_
              refine r_if_lt C 210 dL_act_192 (by decide) (fun c_192 => ?_) (fun c_192 => ?_)
              · have e_192 := i32_nle c_192
                refine r_iload C dL_act_210 rfl ?_
                refine r_bipush C (v := 8) dL_act_212 rfl ?_
                refine r_cSi C (c_L_low (by decide)) lk_L_29 rfl rfl ⟨(Nat.le_of_ble_eq_true rfl), (Nat.le_of_ble_eq_true rfl), (by dsimp only; omega), (by dsimp only; omega), (Nat.le_of_ble_eq_true rfl)⟩ dL_act_214 ?_
                refine r_istore C dL_act_217 (by decide) ?_
                refine r_aload_n C dL_act_219 rfl rfl ?_
                refine r_iconst C (v := 1) dL_act_220 rfl ?_
                refine r_iload C dL_act_221 rfl ?_
                refine r_iload C dL_act_223 rfl ?_
                refine r_iconst C (v := 3) dL_act_225 rfl ?_
                refine r_ishr C dL_act_226 ?_
                refine r_iload C dL_act_227 rfl ?_
                refine r_if_eq C 236 dL_act_229 (by decide) (fun _ => ?_) (fun c => absurd rfl c)
                refine r_iconst C (v := 4) dL_act_236 rfl ?_
                refine r_cSi C (c_L_low (by decide)) lk_L_29 rfl rfl ⟨(Nat.le_of_ble_eq_true rfl), (Nat.le_of_ble_eq_true rfl), (by dsimp only; omega), (by dsimp only; omega), (Nat.le_of_ble_eq_true rfl)⟩ dL_act_237 ?_
                refine r_iload C dL_act_240 rfl ?_
                refine r_iconst C (v := 5) dL_act_242 rfl ?_
                refine r_ishr C dL_act_243 ?_
                refine r_iload C dL_act_244 rfl ?_
                refine r_if_eq C 253 dL_act_246 (by decide) (fun _ => ?_) (fun c => absurd rfl c)
                refine r_iconst C (v := 3) dL_act_253 rfl ?_
                refine r_cSi C (c_L_low (by decide)) lk_L_29 rfl rfl ⟨(Nat.le_of_ble_eq_true rfl), (Nat.le_of_ble_eq_true rfl), (by dsimp only; omega), (by dsimp only; omega), (Nat.le_of_ble_eq_true rfl)⟩ dL_act_254 ?_
                refine r_aload_n C dL_act_257 rfl rfl ?_
                refine r_cSW C (c_L_changes hst w wo ho hx) lk_L_34 rfl rfl ⟨(Nat.le_of_ble_eq_true rfl), (Nat.le_of_ble_eq_true rfl), (by dsimp only; omega), (by dsimp only; omega), (Nat.le_of_ble_eq_true rfl)⟩ dL_act_258 (fun v1 h1 s1 hp => ?_)
                obtain ⟨rfl, hp2⟩ := hp
                have his : a_is v = false := by unfold a_is; rw [decide_eq_true c_21]; rfl
                have f_94 := i32_nlt c_94
                have f_109 := i32_nlt c_109
                have f_124 := i32_nlt c_124
                have kc : a_c S v = ch_c S 1 (lw_low (a_x v) 8) (lw_low (a_x v >>> ((3 : Int32) &&& 31)) 4) (lw_low (a_x v >>> ((5 : Int32) &&& 31)) 3) := sel_1f c_32 f_94 f_109 f_124 c_155 his (pl_1 c_192)
                have kS : a_S S v = ch_S S 1 (lw_low (a_x v) 8) (lw_low (a_x v >>> ((3 : Int32) &&& 31)) 4) (lw_low (a_x v >>> ((5 : Int32) &&& 31)) 3) := sel_1f c_32 f_94 f_109 f_124 c_155 his (pl_1 c_192)
                have kr : a_r S v = ch_r S 1 (lw_low (a_x v) 8) (lw_low (a_x v >>> ((3 : Int32) &&& 31)) 4) (lw_low (a_x v >>> ((5 : Int32) &&& 31)) 3) := sel_1f c_32 f_94 f_109 f_124 c_155 his (pl_1 c_192)
                rw [← kc, ← kS, ← kr] at hp2
                refine V.stack (st2 := [.int (a_c S v)]) (by rw [kc]; rfl) ?_
                exact r_iret C rfl (by omega) (by omega) ⟨rfl, hp2⟩ dL_act_261
              · have e_192 := i32_le c_192
                refine r_iload C dL_act_195 rfl ?_
                refine r_bipush C (v := 8) dL_act_197 rfl ?_
                refine r_ishr C dL_act_199 ?_
                refine r_iconst C (v := 1) dL_act_200 rfl ?_
                refine r_iand C dL_act_201 ?_
                refine r_if_ne C 210 dL_act_202 (by decide) (fun c_202 => ?_) (fun c_202 => ?_)
                · refine r_iload C dL_act_210 rfl ?_
                  refine r_bipush C (v := 8) dL_act_212 rfl ?_
                  refine r_cSi C (c_L_low (by decide)) lk_L_29 rfl rfl ⟨(Nat.le_of_ble_eq_true rfl), (Nat.le_of_ble_eq_true rfl), (by dsimp only; omega), (by dsimp only; omega), (Nat.le_of_ble_eq_true rfl)⟩ dL_act_214 ?_
                  refine r_istore C dL_act_217 (by decide) ?_
                  refine r_aload_n C dL_act_219 rfl rfl ?_
                  refine r_iconst C (v := 1) dL_act_220 rfl ?_
                  refine r_iload C dL_act_221 rfl ?_
                  refine r_iload C dL_act_223 rfl ?_
                  refine r_iconst C (v := 3) dL_act_225 rfl ?_
                  refine r_ishr C dL_act_226 ?_
                  refine r_iload C dL_act_227 rfl ?_
                  refine r_if_eq C 236 dL_act_229 (by decide) (fun _ => ?_) (fun c => absurd rfl c)
                  refine r_iconst C (v := 4) dL_act_236 rfl ?_
                  refine r_cSi C (c_L_low (by decide)) lk_L_29 rfl rfl ⟨(Nat.le_of_ble_eq_true rfl), (Nat.le_of_ble_eq_true rfl), (by dsimp only; omega), (by dsimp only; omega), (Nat.le_of_ble_eq_true rfl)⟩ dL_act_237 ?_
                  refine r_iload C dL_act_240 rfl ?_
                  refine r_iconst C (v := 5) dL_act_242 rfl ?_
                  refine r_ishr C dL_act_243 ?_
                  refine r_iload C dL_act_244 rfl ?_
                  refine r_if_eq C 253 dL_act_246 (by decide) (fun _ => ?_) (fun c => absurd rfl c)
                  refine r_iconst C (v := 3) dL_act_253 rfl ?_
                  refine r_cSi C (c_L_low (by decide)) lk_L_29 rfl rfl ⟨(Nat.le_of_ble_eq_true rfl), (Nat.le_of_ble_eq_true rfl), (by dsimp only; omega), (by dsimp only; omega), (Nat.le_of_ble_eq_true rfl)⟩ dL_act_254 ?_
                  refine r_aload_n C dL_act_257 rfl rfl ?_
                  refine r_cSW C (c_L_changes hst w wo ho hx) lk_L_34 rfl rfl ⟨(Nat.le_of_ble_eq_true rfl), (Nat.le_of_ble_eq_true rfl), (by dsimp only; omega), (by dsimp only; omega), (Nat.le_of_ble_eq_true rfl)⟩ dL_act_258 (fun v1 h1 s1 hp => ?_)
                  obtain ⟨rfl, hp2⟩ := hp
                  have his : a_is v = false := by unfold a_is; rw [decide_eq_true c_21]; rfl
                  have f_94 := i32_nlt c_94
                  have f_109 := i32_nlt c_109
                  have f_124 := i32_nlt c_124
                  have kc : a_c S v = ch_c S 1 (lw_low (a_x v) 8) (lw_low (a_x v >>> ((3 : Int32) &&& 31)) 4) (lw_low (a_x v >>> ((5 : Int32) &&& 31)) 3) := sel_1f c_32 f_94 f_109 f_124 c_155 his (pl_3 c_192 c_202)
                  have kS : a_S S v = ch_S S 1 (lw_low (a_x v) 8) (lw_low (a_x v >>> ((3 : Int32) &&& 31)) 4) (lw_low (a_x v >>> ((5 : Int32) &&& 31)) 3) := sel_1f c_32 f_94 f_109 f_124 c_155 his (pl_3 c_192 c_202)
                  have kr : a_r S v = ch_r S 1 (lw_low (a_x v) 8) (lw_low (a_x v >>> ((3 : Int32) &&& 31)) 4) (lw_low (a_x v >>> ((5 : Int32) &&& 31)) 3) := sel_1f c_32 f_94 f_109 f_124 c_155 his (pl_3 c_192 c_202)
                  rw [← kc, ← kS, ← kr] at hp2
                  refine V.stack (st2 := [.int (a_c S v)]) (by rw [kc]; rfl) ?_
                  exact r_iret C rfl (by omega) (by omega) ⟨rfl, hp2⟩ dL_act_261
                · refine r_iload C dL_act_205 rfl ?_
                  refine r_goto C 217 dL_act_207 (by decide) ?_
                  refine r_istore C dL_act_217 (by decide) ?_
                  refine r_aload_n C dL_act_219 rfl rfl ?_
                  refine r_iconst C (v := 1) dL_act_220 rfl ?_
                  refine r_iload C dL_act_221 rfl ?_
                  refine r_iload C dL_act_223 rfl ?_
                  refine r_iconst C (v := 3) dL_act_225 rfl ?_
                  refine r_ishr C dL_act_226 ?_
                  refine r_iload C dL_act_227 rfl ?_
                  refine r_if_eq C 236 dL_act_229 (by decide) (fun _ => ?_) (fun c => absurd rfl c)
                  refine r_iconst C (v := 4) dL_act_236 rfl ?_
                  refine r_cSi C (c_L_low (by decide)) lk_L_29 rfl rfl ⟨(Nat.le_of_ble_eq_true rfl), (Nat.le_of_ble_eq_true rfl), (by dsimp only; omega), (by dsimp only; omega), (Nat.le_of_ble_eq_true rfl)⟩ dL_act_237 ?_
                  refine r_iload C dL_act_240 rfl ?_
                  refine r_iconst C (v := 5) dL_act_242 rfl ?_
                  refine r_ishr C dL_act_243 ?_
                  refine r_iload C dL_act_244 rfl ?_
                  refine r_if_eq C 253 dL_act_246 (by decide) (fun _ => ?_) (fun c => absurd rfl c)
                  refine r_iconst C (v := 3) dL_act_253 rfl ?_
                  refine r_cSi C (c_L_low (by decide)) lk_L_29 rfl rfl ⟨(Nat.le_of_ble_eq_true rfl), (Nat.le_of_ble_eq_true rfl), (by dsimp only; omega), (by dsimp only; omega), (Nat.le_of_ble_eq_true rfl)⟩ dL_act_254 ?_
                  refine r_aload_n C dL_act_257 rfl rfl ?_
                  refine r_cSW C (c_L_changes hst w wo ho hx) lk_L_34 rfl rfl ⟨(Nat.le_of_ble_eq_true rfl), (Nat.le_of_ble_eq_true rfl), (by dsimp only; omega), (by dsimp only; omega), (Nat.le_of_ble_eq_true rfl)⟩ dL_act_258 (fun v1 h1 s1 hp => ?_)
                  obtain ⟨rfl, hp2⟩ := hp
                  have his : a_is v = false := by unfold a_is; rw [decide_eq_true c_21]; rfl
                  have f_94 := i32_nlt c_94
                  have f_109 := i32_nlt c_109
                  have f_124 := i32_nlt c_124
                  have kc : a_c S v = ch_c S 1 (g_adv S) (lw_low (a_x v >>> ((3 : Int32) &&& 31)) 4) (lw_low (a_x v >>> ((5 : Int32) &&& 31)) 3) := sel_1f c_32 f_94 f_109 f_124 c_155 his (pl_2 c_192 c_202)
                  have kS : a_S S v = ch_S S 1 (g_adv S) (lw_low (a_x v >>> ((3 : Int32) &&& 31)) 4) (lw_low (a_x v >>> ((5 : Int32) &&& 31)) 3) := sel_1f c_32 f_94 f_109 f_124 c_155 his (pl_2 c_192 c_202)
                  have kr : a_r S v = ch_r S 1 (g_adv S) (lw_low (a_x v >>> ((3 : Int32) &&& 31)) 4) (lw_low (a_x v >>> ((5 : Int32) &&& 31)) 3) := sel_1f c_32 f_94 f_109 f_124 c_155 his (pl_2 c_192 c_202)
                  rw [← kc, ← kS, ← kr] at hp2
                  refine V.stack (st2 := [.int (a_c S v)]) (by rw [kc]; rfl) ?_
                  exact r_iret C rfl (by omega) (by omega) ⟨rfl, hp2⟩ dL_act_261
            · refine r_aload_n C dL_act_158 rfl rfl ?_
              refine r_iconst C (v := 3) dL_act_159 rfl ?_
              refine r_iload C dL_act_160 rfl ?_
              refine r_iload C dL_act_162 rfl ?_
              refine r_if_eq C 172 dL_act_164 (by decide) (fun _ => ?_) (fun c => absurd rfl c)
              refine r_bipush C (v := 12) dL_act_172 rfl ?_
              refine r_cSi C (c_L_low (by decide)) lk_L_29 rfl rfl ⟨(Nat.le_of_ble_eq_true rfl), (Nat.le_of_ble_eq_true rfl), (by dsimp only; omega), (by dsimp only; omega), (Nat.le_of_ble_eq_true rfl)⟩ dL_act_174 ?_
              refine r_iconst C (v := 0) dL_act_177 rfl ?_
              refine r_iconst C (v := 0) dL_act_178 rfl ?_
              refine r_aload_n C dL_act_179 rfl rfl ?_
              refine r_cSW C (c_L_changes hst w wo ho hx) lk_L_34 rfl rfl ⟨(Nat.le_of_ble_eq_true rfl), (Nat.le_of_ble_eq_true rfl), (by dsimp only; omega), (by dsimp only; omega), (Nat.le_of_ble_eq_true rfl)⟩ dL_act_180 (fun v1 h1 s1 hp => ?_)
              obtain ⟨rfl, hp2⟩ := hp
              have his : a_is v = false := by unfold a_is; rw [decide_eq_true c_21]; rfl
              have f_94 := i32_nlt c_94
              have f_109 := i32_nlt c_109
              have f_124 := i32_nlt c_124
              have kc : a_c S v = ch_c S 3 (lw_low (a_x v) 12) 0 0 := sel_3f c_32 f_94 f_109 f_124 c_155 his
              have kS : a_S S v = ch_S S 3 (lw_low (a_x v) 12) 0 0 := sel_3f c_32 f_94 f_109 f_124 c_155 his
              have kr : a_r S v = ch_r S 3 (lw_low (a_x v) 12) 0 0 := sel_3f c_32 f_94 f_109 f_124 c_155 his
              rw [← kc, ← kS, ← kr] at hp2
              refine V.stack (st2 := [.int (a_c S v)]) (by rw [kc]; rfl) ?_
              exact r_iret C rfl (by omega) (by omega) ⟨rfl, hp2⟩ dL_act_183
          · have e_124 := i32_lt c_124
            refine r_aload_n C dL_act_127 rfl rfl ?_
            refine r_iconst C (v := 2) dL_act_128 rfl ?_
            refine r_iload C dL_act_129 rfl ?_
            refine r_iload C dL_act_131 rfl ?_
            refine r_if_eq C 140 dL_act_133 (by decide) (fun _ => ?_) (fun c => absurd rfl c)
            refine r_bipush C (v := 30) dL_act_140 rfl ?_
            refine r_cSi C (c_L_low (by decide)) lk_L_29 rfl rfl ⟨(Nat.le_of_ble_eq_true rfl), (Nat.le_of_ble_eq_true rfl), (by dsimp only; omega), (by dsimp only; omega), (Nat.le_of_ble_eq_true rfl)⟩ dL_act_142 ?_
            refine r_iconst C (v := 0) dL_act_145 rfl ?_
            refine r_iconst C (v := 0) dL_act_146 rfl ?_
            refine r_aload_n C dL_act_147 rfl rfl ?_
            refine r_cSW C (c_L_changes hst w wo ho hx) lk_L_34 rfl rfl ⟨(Nat.le_of_ble_eq_true rfl), (Nat.le_of_ble_eq_true rfl), (by dsimp only; omega), (by dsimp only; omega), (Nat.le_of_ble_eq_true rfl)⟩ dL_act_148 (fun v1 h1 s1 hp => ?_)
            obtain ⟨rfl, hp2⟩ := hp
            have his : a_is v = false := by unfold a_is; rw [decide_eq_true c_21]; rfl
            have f_94 := i32_nlt c_94
            have f_109 := i32_nlt c_109
            have f_124 := i32_lt c_124
            have kc : a_c S v = ch_c S 2 (lw_low (a_x v) 30) 0 0 := sel_2f c_32 f_94 f_109 f_124 his
            have kS : a_S S v = ch_S S 2 (lw_low (a_x v) 30) 0 0 := sel_2f c_32 f_94 f_109 f_124 his
            have kr : a_r S v = ch_r S 2 (lw_low (a_x v) 30) 0 0 := sel_2f c_32 f_94 f_109 f_124 his
            rw [← kc, ← kS, ← kr] at hp2
            refine V.stack (st2 := [.int (a_c S v)]) (by rw [kc]; rfl) ?_
            exact r_iret C rfl (by omega) (by omega) ⟨rfl, hp2⟩ dL_act_151
        · have e_109 := i32_lt c_109
          refine r_aload_n C dL_act_112 rfl rfl ?_
          refine r_iconst C (v := 0) dL_act_113 rfl ?_
          refine r_aload_n C dL_act_114 rfl rfl ?_
          refine r_callV C (c_X5_pass w) lk_L_42 rfl w.2.1 rfl rfl ⟨(Nat.le_of_ble_eq_true rfl), (Nat.le_of_ble_eq_true rfl), (by dsimp only; omega), (by dsimp only; omega), (Nat.le_of_ble_eq_true rfl)⟩ dL_act_115 (fun v1 h1 s1 hp => ?_)
          obtain ⟨rfl, -, hs1, hfr, hqq⟩ := hp
          refine r_iast C ((hfr out ho hx).trans wo) vin0 dL_act_118 ?_
          refine r_iconst C (v := 0) dL_act_119 rfl ?_
          have his : a_is v = false := by unfold a_is; rw [decide_eq_true c_21]; rfl
          have f_94 := i32_nlt c_94
          have f_109 := i32_lt c_109
          have kc : a_c S v = 0 := sel_p c_32 f_94 f_109
          have kS : a_S S v = g_pass S := sel_p c_32 f_94 f_109
          have kr : a_r S v = g_passA S := sel_p c_32 f_94 f_109
          exact r_iret C rfl (by omega) (by omega) ⟨by rw [kc], Or.inl ⟨kc, by rw [kS, kr]; exact acQ.of hs1 hfr ho hx hqq⟩⟩ dL_act_120
      · have e_94 := i32_lt c_94
        refine r_aload_n C dL_act_97 rfl rfl ?_
        refine r_iconst C (v := 0) dL_act_98 rfl ?_
        refine r_aload_n C dL_act_99 rfl rfl ?_
        refine r_callV C (c_X5_draw w) lk_L_38 rfl w.2.1 rfl rfl ⟨(Nat.le_of_ble_eq_true rfl), (Nat.le_of_ble_eq_true rfl), (by dsimp only; omega), (by dsimp only; omega), (Nat.le_of_ble_eq_true rfl)⟩ dL_act_100 (fun v1 h1 s1 hp => ?_)
        obtain ⟨rfl, -, hs1, hfr, hqq⟩ := hp
        refine r_iast C ((hfr out ho hx).trans wo) vin0 dL_act_103 ?_
        refine r_iconst C (v := 0) dL_act_104 rfl ?_
        have his : a_is v = false := by unfold a_is; rw [decide_eq_true c_21]; rfl
        have f_94 := i32_lt c_94
        have kc : a_c S v = 0 := sel_d c_32 f_94
        have kS : a_S S v = g_draw S := sel_d c_32 f_94
        have kr : a_r S v = g_drawA S := sel_d c_32 f_94
        exact r_iret C rfl (by omega) (by omega) ⟨by rw [kc], Or.inl ⟨kc, by rw [kS, kr]; exact acQ.of hs1 hfr ho hx hqq⟩⟩ dL_act_105
    · refine r_aload_n C dL_act_35 rfl rfl ?_
      refine r_iconst C (v := 0) dL_act_36 rfl ?_
      refine r_iload C dL_act_37 rfl ?_
      refine r_iload C dL_act_39 rfl ?_
      refine r_if_eq C 48 dL_act_41 (by decide) (fun _ => ?_) (fun c => absurd rfl c)
      refine r_bipush C (v := 6) dL_act_48 rfl ?_
      refine r_cSi C (c_L_low (by decide)) lk_L_29 rfl rfl ⟨(Nat.le_of_ble_eq_true rfl), (Nat.le_of_ble_eq_true rfl), (by dsimp only; omega), (by dsimp only; omega), (Nat.le_of_ble_eq_true rfl)⟩ dL_act_50 ?_
      refine r_iload C dL_act_53 rfl ?_
      refine r_if_eq C 62 dL_act_55 (by decide) (fun _ => ?_) (fun c => absurd rfl c)
      refine r_iconst C (v := 0) dL_act_62 rfl ?_
      refine r_iadd C dL_act_63 ?_
      refine r_iload C dL_act_64 rfl ?_
      refine r_iconst C (v := 3) dL_act_66 rfl ?_
      refine r_ishr C dL_act_67 ?_
      refine r_iload C dL_act_68 rfl ?_
      refine r_if_eq C 79 dL_act_70 (by decide) (fun _ => ?_) (fun c => absurd rfl c)
      refine r_sipush C (v := 11000) dL_act_79 rfl ?_
      refine r_cSi C (c_L_low (by decide)) lk_L_29 rfl rfl ⟨(Nat.le_of_ble_eq_true rfl), (Nat.le_of_ble_eq_true rfl), (by dsimp only; omega), (by dsimp only; omega), (Nat.le_of_ble_eq_true rfl)⟩ dL_act_82 ?_
      refine r_iconst C (v := 0) dL_act_85 rfl ?_
      refine r_aload_n C dL_act_86 rfl rfl ?_
      refine r_cSW C (c_L_changes hst w wo ho hx) lk_L_34 rfl rfl ⟨(Nat.le_of_ble_eq_true rfl), (Nat.le_of_ble_eq_true rfl), (by dsimp only; omega), (by dsimp only; omega), (Nat.le_of_ble_eq_true rfl)⟩ dL_act_87 (fun v1 h1 s1 hp => ?_)
      obtain ⟨rfl, hp2⟩ := hp
      have his : a_is v = false := by unfold a_is; rw [decide_eq_true c_21]; rfl
      have kc : a_c S v = ch_c S 0 (lw_low (a_x v) 6 + 0) (lw_low (a_x v >>> ((3 : Int32) &&& 31)) 11000) 0 := sel_0f c_32 his
      have kS : a_S S v = ch_S S 0 (lw_low (a_x v) 6 + 0) (lw_low (a_x v >>> ((3 : Int32) &&& 31)) 11000) 0 := sel_0f c_32 his
      have kr : a_r S v = ch_r S 0 (lw_low (a_x v) 6 + 0) (lw_low (a_x v >>> ((3 : Int32) &&& 31)) 11000) 0 := sel_0f c_32 his
      rw [← kc, ← kS, ← kr] at hp2
      refine V.stack (st2 := [.int (a_c S v)]) (by rw [kc]; rfl) ?_
      exact r_iret C rfl (by omega) (by omega) ⟨rfl, hp2⟩ dL_act_90
  · have e_21 := i32_lt c_21
    refine r_iconst C (v := 1) dL_act_24 rfl ?_
    refine r_goto C 29 dL_act_25 (by decide) ?_
    refine r_istore C dL_act_29 (by decide) ?_
    refine r_iload_n C dL_act_31 rfl rfl ?_
    refine r_if_ne C 91 dL_act_32 (by decide) (fun c_32 => ?_) (fun c_32 => ?_)
    · refine r_iload_n C dL_act_91 rfl rfl ?_
      refine r_bipush C (v := 13) dL_act_92 rfl ?_
      refine r_icmp_ge C 106 dL_act_94 (by decide) (fun c_94 => ?_) (fun c_94 => ?_)
      · have e_94 := i32_nlt c_94
        refine r_iload_n C dL_act_106 rfl rfl ?_
        refine r_bipush C (v := 15) dL_act_107 rfl ?_
        refine r_icmp_ge C 121 dL_act_109 (by decide) (fun c_109 => ?_) (fun c_109 => ?_)
        · have e_109 := i32_nlt c_109
          refine r_iload_n C dL_act_121 rfl rfl ?_
          refine r_bipush C (v := 17) dL_act_122 rfl ?_
          refine r_icmp_ge C 152 dL_act_124 (by decide) (fun c_124 => ?_) (fun c_124 => ?_)
          · have e_124 := i32_nlt c_124
            refine r_iload_n C dL_act_152 rfl rfl ?_
            refine r_bipush C (v := 17) dL_act_153 rfl ?_
            refine r_icmp_ne C 184 dL_act_155 (by decide) (fun c_155 => ?_) (fun c_155 => ?_)
            · refine r_aload_n C dL_act_184 rfl rfl ?_
              refine q_adv C w rfl ⟨(Nat.le_of_ble_eq_true rfl), (Nat.le_of_ble_eq_true rfl), (by dsimp only; omega), (by dsimp only; omega), (Nat.le_of_ble_eq_true rfl)⟩ dL_act_185 ?_
              refine r_istore C dL_act_188 (by decide) ?_
              refine r_iload C dL_act_190 rfl ?_
              refine r_if_lt C 210 dL_act_192 (by decide) (fun c_192 => ?_) (fun c_192 => ?_)
              · have e_192 := i32_nle c_192
                refine r_iload C dL_act_210 rfl ?_
                refine r_bipush C (v := 8) dL_act_212 rfl ?_
                refine r_cSi C (c_L_low (by decide)) lk_L_29 rfl rfl ⟨(Nat.le_of_ble_eq_true rfl), (Nat.le_of_ble_eq_true rfl), (by dsimp only; omega), (by dsimp only; omega), (Nat.le_of_ble_eq_true rfl)⟩ dL_act_214 ?_
                refine r_istore C dL_act_217 (by decide) ?_
                refine r_aload_n C dL_act_219 rfl rfl ?_
                refine r_iconst C (v := 1) dL_act_220 rfl ?_
                refine r_iload C dL_act_221 rfl ?_
                refine r_iload C dL_act_223 rfl ?_
                refine r_iconst C (v := 3) dL_act_225 rfl ?_
                refine r_ishr C dL_act_226 ?_
                refine r_iload C dL_act_227 rfl ?_
                refine r_if_eq C 236 dL_act_229 (by decide) (fun c => absurd c (by decide)) (fun _ => ?_)
                refine r_iconst C (v := 3) dL_act_232 rfl ?_
                refine r_goto C 237 dL_act_233 (by decide) ?_
                refine r_cSi C (c_L_low (by decide)) lk_L_29 rfl rfl ⟨(Nat.le_of_ble_eq_true rfl), (Nat.le_of_ble_eq_true rfl), (by dsimp only; omega), (by dsimp only; omega), (Nat.le_of_ble_eq_true rfl)⟩ dL_act_237 ?_
                refine r_iload C dL_act_240 rfl ?_
                refine r_iconst C (v := 5) dL_act_242 rfl ?_
                refine r_ishr C dL_act_243 ?_
                refine r_iload C dL_act_244 rfl ?_
                refine r_if_eq C 253 dL_act_246 (by decide) (fun c => absurd c (by decide)) (fun _ => ?_)
                refine r_iconst C (v := 2) dL_act_249 rfl ?_
                refine r_goto C 254 dL_act_250 (by decide) ?_
                refine r_cSi C (c_L_low (by decide)) lk_L_29 rfl rfl ⟨(Nat.le_of_ble_eq_true rfl), (Nat.le_of_ble_eq_true rfl), (by dsimp only; omega), (by dsimp only; omega), (Nat.le_of_ble_eq_true rfl)⟩ dL_act_254 ?_
                refine r_aload_n C dL_act_257 rfl rfl ?_
                refine r_cSW C (c_L_changes hst w wo ho hx) lk_L_34 rfl rfl ⟨(Nat.le_of_ble_eq_true rfl), (Nat.le_of_ble_eq_true rfl), (by dsimp only; omega), (by dsimp only; omega), (Nat.le_of_ble_eq_true rfl)⟩ dL_act_258 (fun v1 h1 s1 hp => ?_)
                obtain ⟨rfl, hp2⟩ := hp
                have his : a_is v = true := by unfold a_is; rw [decide_eq_false c_21]; rfl
                have f_94 := i32_nlt c_94
                have f_109 := i32_nlt c_109
                have f_124 := i32_nlt c_124
                have kc : a_c S v = ch_c S 1 (lw_low (a_x v) 8) (lw_low (a_x v >>> ((3 : Int32) &&& 31)) 3) (lw_low (a_x v >>> ((5 : Int32) &&& 31)) 2) := sel_1t c_32 f_94 f_109 f_124 c_155 his (pl_1 c_192)
                have kS : a_S S v = ch_S S 1 (lw_low (a_x v) 8) (lw_low (a_x v >>> ((3 : Int32) &&& 31)) 3) (lw_low (a_x v >>> ((5 : Int32) &&& 31)) 2) := sel_1t c_32 f_94 f_109 f_124 c_155 his (pl_1 c_192)
                have kr : a_r S v = ch_r S 1 (lw_low (a_x v) 8) (lw_low (a_x v >>> ((3 : Int32) &&& 31)) 3) (lw_low (a_x v >>> ((5 : Int32) &&& 31)) 2) := sel_1t c_32 f_94 f_109 f_124 c_155 his (pl_1 c_192)
                rw [← kc, ← kS, ← kr] at hp2
                refine V.stack (st2 := [.int (a_c S v)]) (by rw [kc]; rfl) ?_
                exact r_iret C rfl (by omega) (by omega) ⟨rfl, hp2⟩ dL_act_261
              · have e_192 := i32_le c_192
                refine r_iload C dL_act_195 rfl ?_
                refine r_bipush C (v := 8) dL_act_197 rfl ?_
                refine r_ishr C dL_act_199 ?_
                refine r_iconst C (v := 1) dL_act_200 rfl ?_
                refine r_iand C dL_act_201 ?_
                refine r_if_ne C 210 dL_act_202 (by decide) (fun c_202 => ?_) (fun c_202 => ?_)
                · refine r_iload C dL_act_210 rfl ?_
                  refine r_bipush C (v := 8) dL_act_212 rfl ?_
                  refine r_cSi C (c_L_low (by decide)) lk_L_29 rfl rfl ⟨(Nat.le_of_ble_eq_true rfl), (Nat.le_of_ble_eq_true rfl), (by dsimp only; omega), (by dsimp only; omega), (Nat.le_of_ble_eq_true rfl)⟩ dL_act_214 ?_
                  refine r_istore C dL_act_217 (by decide) ?_
                  refine r_aload_n C dL_act_219 rfl rfl ?_
                  refine r_iconst C (v := 1) dL_act_220 rfl ?_
                  refine r_iload C dL_act_221 rfl ?_
                  refine r_iload C dL_act_223 rfl ?_
                  refine r_iconst C (v := 3) dL_act_225 rfl ?_
                  refine r_ishr C dL_act_226 ?_
                  refine r_iload C dL_act_227 rfl ?_
                  refine r_if_eq C 236 dL_act_229 (by decide) (fun c => absurd c (by decide)) (fun _ => ?_)
                  refine r_iconst C (v := 3) dL_act_232 rfl ?_
                  refine r_goto C 237 dL_act_233 (by decide) ?_
                  refine r_cSi C (c_L_low (by decide)) lk_L_29 rfl rfl ⟨(Nat.le_of_ble_eq_true rfl), (Nat.le_of_ble_eq_true rfl), (by dsimp only; omega), (by dsimp only; omega), (Nat.le_of_ble_eq_true rfl)⟩ dL_act_237 ?_
                  refine r_iload C dL_act_240 rfl ?_
                  refine r_iconst C (v := 5) dL_act_242 rfl ?_
                  refine r_ishr C dL_act_243 ?_
                  refine r_iload C dL_act_244 rfl ?_
                  refine r_if_eq C 253 dL_act_246 (by decide) (fun c => absurd c (by decide)) (fun _ => ?_)
                  refine r_iconst C (v := 2) dL_act_249 rfl ?_
                  refine r_goto C 254 dL_act_250 (by decide) ?_
                  refine r_cSi C (c_L_low (by decide)) lk_L_29 rfl rfl ⟨(Nat.le_of_ble_eq_true rfl), (Nat.le_of_ble_eq_true rfl), (by dsimp only; omega), (by dsimp only; omega), (Nat.le_of_ble_eq_true rfl)⟩ dL_act_254 ?_
                  refine r_aload_n C dL_act_257 rfl rfl ?_
                  refine r_cSW C (c_L_changes hst w wo ho hx) lk_L_34 rfl rfl ⟨(Nat.le_of_ble_eq_true rfl), (Nat.le_of_ble_eq_true rfl), (by dsimp only; omega), (by dsimp only; omega), (Nat.le_of_ble_eq_true rfl)⟩ dL_act_258 (fun v1 h1 s1 hp => ?_)
                  obtain ⟨rfl, hp2⟩ := hp
                  have his : a_is v = true := by unfold a_is; rw [decide_eq_false c_21]; rfl
                  have f_94 := i32_nlt c_94
                  have f_109 := i32_nlt c_109
                  have f_124 := i32_nlt c_124
                  have kc : a_c S v = ch_c S 1 (lw_low (a_x v) 8) (lw_low (a_x v >>> ((3 : Int32) &&& 31)) 3) (lw_low (a_x v >>> ((5 : Int32) &&& 31)) 2) := sel_1t c_32 f_94 f_109 f_124 c_155 his (pl_3 c_192 c_202)
                  have kS : a_S S v = ch_S S 1 (lw_low (a_x v) 8) (lw_low (a_x v >>> ((3 : Int32) &&& 31)) 3) (lw_low (a_x v >>> ((5 : Int32) &&& 31)) 2) := sel_1t c_32 f_94 f_109 f_124 c_155 his (pl_3 c_192 c_202)
                  have kr : a_r S v = ch_r S 1 (lw_low (a_x v) 8) (lw_low (a_x v >>> ((3 : Int32) &&& 31)) 3) (lw_low (a_x v >>> ((5 : Int32) &&& 31)) 2) := sel_1t c_32 f_94 f_109 f_124 c_155 his (pl_3 c_192 c_202)
                  rw [← kc, ← kS, ← kr] at hp2
                  refine V.stack (st2 := [.int (a_c S v)]) (by rw [kc]; rfl) ?_
                  exact r_iret C rfl (by omega) (by omega) ⟨rfl, hp2⟩ dL_act_261
                · refine r_iload C dL_act_205 rfl ?_
                  refine r_goto C 217 dL_act_207 (by decide) ?_
                  refine r_istore C dL_act_217 (by decide) ?_
                  refine r_aload_n C dL_act_219 rfl rfl ?_
                  refine r_iconst C (v := 1) dL_act_220 rfl ?_
                  refine r_iload C dL_act_221 rfl ?_
                  refine r_iload C dL_act_223 rfl ?_
                  refine r_iconst C (v := 3) dL_act_225 rfl ?_
                  refine r_ishr C dL_act_226 ?_
                  refine r_iload C dL_act_227 rfl ?_
                  refine r_if_eq C 236 dL_act_229 (by decide) (fun c => absurd c (by decide)) (fun _ => ?_)
                  refine r_iconst C (v := 3) dL_act_232 rfl ?_
                  refine r_goto C 237 dL_act_233 (by decide) ?_
                  refine r_cSi C (c_L_low (by decide)) lk_L_29 rfl rfl ⟨(Nat.le_of_ble_eq_true rfl), (Nat.le_of_ble_eq_true rfl), (by dsimp only; omega), (by dsimp only; omega), (Nat.le_of_ble_eq_true rfl)⟩ dL_act_237 ?_
                  refine r_iload C dL_act_240 rfl ?_
                  refine r_iconst C (v := 5) dL_act_242 rfl ?_
                  refine r_ishr C dL_act_243 ?_
                  refine r_iload C dL_act_244 rfl ?_
                  refine r_if_eq C 253 dL_act_246 (by decide) (fun c => absurd c (by decide)) (fun _ => ?_)
                  refine r_iconst C (v := 2) dL_act_249 rfl ?_
                  refine r_goto C 254 dL_act_250 (by decide) ?_
                  refine r_cSi C (c_L_low (by decide)) lk_L_29 rfl rfl ⟨(Nat.le_of_ble_eq_true rfl), (Nat.le_of_ble_eq_true rfl), (by dsimp only; omega), (by dsimp only; omega), (Nat.le_of_ble_eq_true rfl)⟩ dL_act_254 ?_
                  refine r_aload_n C dL_act_257 rfl rfl ?_
                  refine r_cSW C (c_L_changes hst w wo ho hx) lk_L_34 rfl rfl ⟨(Nat.le_of_ble_eq_true rfl), (Nat.le_of_ble_eq_true rfl), (by dsimp only; omega), (by dsimp only; omega), (Nat.le_of_ble_eq_true rfl)⟩ dL_act_258 (fun v1 h1 s1 hp => ?_)
                  obtain ⟨rfl, hp2⟩ := hp
                  have his : a_is v = true := by unfold a_is; rw [decide_eq_false c_21]; rfl
                  have f_94 := i32_nlt c_94
                  have f_109 := i32_nlt c_109
                  have f_124 := i32_nlt c_124
                  have kc : a_c S v = ch_c S 1 (g_adv S) (lw_low (a_x v >>> ((3 : Int32) &&& 31)) 3) (lw_low (a_x v >>> ((5 : Int32) &&& 31)) 2) := sel_1t c_32 f_94 f_109 f_124 c_155 his (pl_2 c_192 c_202)
                  have kS : a_S S v = ch_S S 1 (g_adv S) (lw_low (a_x v >>> ((3 : Int32) &&& 31)) 3) (lw_low (a_x v >>> ((5 : Int32) &&& 31)) 2) := sel_1t c_32 f_94 f_109 f_124 c_155 his (pl_2 c_192 c_202)
                  have kr : a_r S v = ch_r S 1 (g_adv S) (lw_low (a_x v >>> ((3 : Int32) &&& 31)) 3) (lw_low (a_x v >>> ((5 : Int32) &&& 31)) 2) := sel_1t c_32 f_94 f_109 f_124 c_155 his (pl_2 c_192 c_202)
                  rw [← kc, ← kS, ← kr] at hp2
                  refine V.stack (st2 := [.int (a_c S v)]) (by rw [kc]; rfl) ?_
                  exact r_iret C rfl (by omega) (by omega) ⟨rfl, hp2⟩ dL_act_261
            · refine r_aload_n C dL_act_158 rfl rfl ?_
              refine r_iconst C (v := 3) dL_act_159 rfl ?_
              refine r_iload C dL_act_160 rfl ?_
              refine r_iload C dL_act_162 rfl ?_
              refine r_if_eq C 172 dL_act_164 (by decide) (fun c => absurd c (by decide)) (fun _ => ?_)
              refine r_bipush C (v := 10) dL_act_167 rfl ?_
              refine r_goto C 174 dL_act_169 (by decide) ?_
              refine r_cSi C (c_L_low (by decide)) lk_L_29 rfl rfl ⟨(Nat.le_of_ble_eq_true rfl), (Nat.le_of_ble_eq_true rfl), (by dsimp only; omega), (by dsimp only; omega), (Nat.le_of_ble_eq_true rfl)⟩ dL_act_174 ?_
              refine r_iconst C (v := 0) dL_act_177 rfl ?_
              refine r_iconst C (v := 0) dL_act_178 rfl ?_
              refine r_aload_n C dL_act_179 rfl rfl ?_
              refine r_cSW C (c_L_changes hst w wo ho hx) lk_L_34 rfl rfl ⟨(Nat.le_of_ble_eq_true rfl), (Nat.le_of_ble_eq_true rfl), (by dsimp only; omega), (by dsimp only; omega), (Nat.le_of_ble_eq_true rfl)⟩ dL_act_180 (fun v1 h1 s1 hp => ?_)
              obtain ⟨rfl, hp2⟩ := hp
              have his : a_is v = true := by unfold a_is; rw [decide_eq_false c_21]; rfl
              have f_94 := i32_nlt c_94
              have f_109 := i32_nlt c_109
              have f_124 := i32_nlt c_124
              have kc : a_c S v = ch_c S 3 (lw_low (a_x v) 10) 0 0 := sel_3t c_32 f_94 f_109 f_124 c_155 his
              have kS : a_S S v = ch_S S 3 (lw_low (a_x v) 10) 0 0 := sel_3t c_32 f_94 f_109 f_124 c_155 his
              have kr : a_r S v = ch_r S 3 (lw_low (a_x v) 10) 0 0 := sel_3t c_32 f_94 f_109 f_124 c_155 his
              rw [← kc, ← kS, ← kr] at hp2
              refine V.stack (st2 := [.int (a_c S v)]) (by rw [kc]; rfl) ?_
              exact r_iret C rfl (by omega) (by omega) ⟨rfl, hp2⟩ dL_act_183
          · have e_124 := i32_lt c_124
            refine r_aload_n C dL_act_127 rfl rfl ?_
            refine r_iconst C (v := 2) dL_act_128 rfl ?_
            refine r_iload C dL_act_129 rfl ?_
            refine r_iload C dL_act_131 rfl ?_
            refine r_if_eq C 140 dL_act_133 (by decide) (fun c => absurd c (by decide)) (fun _ => ?_)
            refine r_iconst C (v := 5) dL_act_136 rfl ?_
            refine r_goto C 142 dL_act_137 (by decide) ?_
            refine r_cSi C (c_L_low (by decide)) lk_L_29 rfl rfl ⟨(Nat.le_of_ble_eq_true rfl), (Nat.le_of_ble_eq_true rfl), (by dsimp only; omega), (by dsimp only; omega), (Nat.le_of_ble_eq_true rfl)⟩ dL_act_142 ?_
            refine r_iconst C (v := 0) dL_act_145 rfl ?_
            refine r_iconst C (v := 0) dL_act_146 rfl ?_
            refine r_aload_n C dL_act_147 rfl rfl ?_
            refine r_cSW C (c_L_changes hst w wo ho hx) lk_L_34 rfl rfl ⟨(Nat.le_of_ble_eq_true rfl), (Nat.le_of_ble_eq_true rfl), (by dsimp only; omega), (by dsimp only; omega), (Nat.le_of_ble_eq_true rfl)⟩ dL_act_148 (fun v1 h1 s1 hp => ?_)
            obtain ⟨rfl, hp2⟩ := hp
            have his : a_is v = true := by unfold a_is; rw [decide_eq_false c_21]; rfl
            have f_94 := i32_nlt c_94
            have f_109 := i32_nlt c_109
            have f_124 := i32_lt c_124
            have kc : a_c S v = ch_c S 2 (lw_low (a_x v) 5) 0 0 := sel_2t c_32 f_94 f_109 f_124 his
            have kS : a_S S v = ch_S S 2 (lw_low (a_x v) 5) 0 0 := sel_2t c_32 f_94 f_109 f_124 his
            have kr : a_r S v = ch_r S 2 (lw_low (a_x v) 5) 0 0 := sel_2t c_32 f_94 f_109 f_124 his
            rw [← kc, ← kS, ← kr] at hp2
            refine V.stack (st2 := [.int (a_c S v)]) (by rw [kc]; rfl) ?_
            exact r_iret C rfl (by omega) (by omega) ⟨rfl, hp2⟩ dL_act_151
        · have e_109 := i32_lt c_109
          refine r_aload_n C dL_act_112 rfl rfl ?_
          refine r_iconst C (v := 0) dL_act_113 rfl ?_
          refine r_aload_n C dL_act_114 rfl rfl ?_
          refine r_callV C (c_X5_pass w) lk_L_42 rfl w.2.1 rfl rfl ⟨(Nat.le_of_ble_eq_true rfl), (Nat.le_of_ble_eq_true rfl), (by dsimp only; omega), (by dsimp only; omega), (Nat.le_of_ble_eq_true rfl)⟩ dL_act_115 (fun v1 h1 s1 hp => ?_)
          obtain ⟨rfl, -, hs1, hfr, hqq⟩ := hp
          refine r_iast C ((hfr out ho hx).trans wo) vin0 dL_act_118 ?_
          refine r_iconst C (v := 0) dL_act_119 rfl ?_
          have his : a_is v = true := by unfold a_is; rw [decide_eq_false c_21]; rfl
          have f_94 := i32_nlt c_94
          have f_109 := i32_lt c_109
          have kc : a_c S v = 0 := sel_p c_32 f_94 f_109
          have kS : a_S S v = g_pass S := sel_p c_32 f_94 f_109
          have kr : a_r S v = g_passA S := sel_p c_32 f_94 f_109
          exact r_iret C rfl (by omega) (by omega) ⟨by rw [kc], Or.inl ⟨kc, by rw [kS, kr]; exact acQ.of hs1 hfr ho hx hqq⟩⟩ dL_act_120
      · have e_94 := i32_lt c_94
        refine r_aload_n C dL_act_97 rfl rfl ?_
        refine r_iconst C (v := 0) dL_act_98 rfl ?_
        refine r_aload_n C dL_act_99 rfl rfl ?_
        refine r_callV C (c_X5_draw w) lk_L_38 rfl w.2.1 rfl rfl ⟨(Nat.le_of_ble_eq_true rfl), (Nat.le_of_ble_eq_true rfl), (by dsimp only; omega), (by dsimp only; omega), (Nat.le_of_ble_eq_true rfl)⟩ dL_act_100 (fun v1 h1 s1 hp => ?_)
        obtain ⟨rfl, -, hs1, hfr, hqq⟩ := hp
        refine r_iast C ((hfr out ho hx).trans wo) vin0 dL_act_103 ?_
        refine r_iconst C (v := 0) dL_act_104 rfl ?_
        have his : a_is v = true := by unfold a_is; rw [decide_eq_false c_21]; rfl
        have f_94 := i32_lt c_94
        have kc : a_c S v = 0 := sel_d c_32 f_94
        have kS : a_S S v = g_draw S := sel_d c_32 f_94
        have kr : a_r S v = g_drawA S := sel_d c_32 f_94
        exact r_iret C rfl (by omega) (by omega) ⟨by rw [kc], Or.inl ⟨kc, by rw [kS, kr]; exact acQ.of hs1 hfr ho hx hqq⟩⟩ dL_act_105
    · refine r_aload_n C dL_act_35 rfl rfl ?_
      refine r_iconst C (v := 0) dL_act_36 rfl ?_
      refine r_iload C dL_act_37 rfl ?_
      refine r_iload C dL_act_39 rfl ?_
      refine r_if_eq C 48 dL_act_41 (by decide) (fun c => absurd c (by decide)) (fun _ => ?_)
      refine r_iconst C (v := 3) dL_act_44 rfl ?_
      refine r_goto C 50 dL_act_45 (by decide) ?_
      refine r_cSi C (c_L_low (by decide)) lk_L_29 rfl rfl ⟨(Nat.le_of_ble_eq_true rfl), (Nat.le_of_ble_eq_true rfl), (by dsimp only; omega), (by dsimp only; omega), (Nat.le_of_ble_eq_true rfl)⟩ dL_act_50 ?_
      refine r_iload C dL_act_53 rfl ?_
      refine r_if_eq C 62 dL_act_55 (by decide) (fun c => absurd c (by decide)) (fun _ => ?_)
      refine r_iconst C (v := 2) dL_act_58 rfl ?_
      refine r_goto C 63 dL_act_59 (by decide) ?_
      refine r_iadd C dL_act_63 ?_
      refine r_iload C dL_act_64 rfl ?_
      refine r_iconst C (v := 3) dL_act_66 rfl ?_
      refine r_ishr C dL_act_67 ?_
      refine r_iload C dL_act_68 rfl ?_
      refine r_if_eq C 79 dL_act_70 (by decide) (fun c => absurd c (by decide)) (fun _ => ?_)
      refine r_sipush C (v := 10000) dL_act_73 rfl ?_
      refine r_goto C 82 dL_act_76 (by decide) ?_
      refine r_cSi C (c_L_low (by decide)) lk_L_29 rfl rfl ⟨(Nat.le_of_ble_eq_true rfl), (Nat.le_of_ble_eq_true rfl), (by dsimp only; omega), (by dsimp only; omega), (Nat.le_of_ble_eq_true rfl)⟩ dL_act_82 ?_
      refine r_iconst C (v := 0) dL_act_85 rfl ?_
      refine r_aload_n C dL_act_86 rfl rfl ?_
      refine r_cSW C (c_L_changes hst w wo ho hx) lk_L_34 rfl rfl ⟨(Nat.le_of_ble_eq_true rfl), (Nat.le_of_ble_eq_true rfl), (by dsimp only; omega), (by dsimp only; omega), (Nat.le_of_ble_eq_true rfl)⟩ dL_act_87 (fun v1 h1 s1 hp => ?_)
      obtain ⟨rfl, hp2⟩ := hp
      have his : a_is v = true := by unfold a_is; rw [decide_eq_false c_21]; rfl
      have kc : a_c S v = ch_c S 0 (lw_low (a_x v) 3 + 2) (lw_low (a_x v >>> ((3 : Int32) &&& 31)) 10000) 0 := sel_0t c_32 his
      have kS : a_S S v = ch_S S 0 (lw_low (a_x v) 3 + 2) (lw_low (a_x v >>> ((3 : Int32) &&& 31)) 10000) 0 := sel_0t c_32 his
      have kr : a_r S v = ch_r S 0 (lw_low (a_x v) 3 + 2) (lw_low (a_x v >>> ((3 : Int32) &&& 31)) 10000) 0 := sel_0t c_32 his
      rw [← kc, ← kS, ← kr] at hp2
      refine V.stack (st2 := [.int (a_c S v)]) (by rw [kc]; rfl) ?_
      exact r_iret C rfl (by omega) (by omega) ⟨rfl, hp2⟩ dL_act_90
