/-! ONE TURN OF THE LAW'S LOOP -/
abbrev LL_ (b0 x i : Nat) : List (Nat × Value) := [(0, .ref b0), (1, .ref x), (2, .ref (x + 21)), (3, .ref (x + 42)), (4, .int (nI i))]
abbrev L5_ (b0 x i : Nat) (v : Int32) : List (Nat × Value) := [(0, .ref b0), (1, .ref x), (2, .ref (x + 21)), (3, .ref (x + 42)), (4, .int (nI i)), (5, .int v)]
abbrev L8_ (b0 x i : Nat) (v a b d : Int32) : List (Nat × Value) := [(0, .ref b0), (1, .ref x), (2, .ref (x + 21)), (3, .ref (x + 42)), (4, .int (nI i)), (5, .int v), (6, .int a), (7, .int b), (8, .int d)]
def LI (G : ga_) (h : HP) (sz x n : Nat) : Prop := ∃ S u1 u2 f, PR G h sz x S S u1 u2 f ∧ gX n S
section LS
variable {p : Program} {l : Launch} {e : Env} {s : State} {m : MethodId} {args : Array Value} {below : List Frame} {meth : Method} {c : Code} {Q : State → Prop} {G : ga_} {nm : String} {x b0 N sz k n i : Nat} {xs : Nat → Int32} {h : HP} {S : gS} {u1 u2 : oS} {f : Nat → Int32} {v : Int32}
set_option maxHeartbeats 800000 in
set_option maxRecDepth 100000 in
theorem law_188 (C : Cx p l room_1 s m args meth c G RL code 10 ret nm) (hst : l.stackTraces = false) (hi : i < 50) (R : PR G h sz x S S u1 u2 f) (g : gX (i + 3) S) (hk : k ≤ 200 + 8800 * i + 3050) (hn : n ≤ 5000 + 53500 * i + 19250) (kk : ∀ h3 s3 k3 n3, LI G h3 s3 x (i + 3) → k3 ≤ 200 + 8800 * (i + 1) → n3 ≤ 5000 + 53500 * (i + 1) → V p l e room_1 s m args below meth c G 10 Q h3 s3 k3 n3 23 (LL_ b0 x (i + 1)) []) : V p l e room_1 s m args below meth c G 10 Q h sz k n 188 (L5_ b0 x i v) [] := by
  obtain ⟨P, hP2, hP4, h50⟩ := g.pl
  obtain ⟨u, hu, hlow⟩ := low_nat (v >>> ((6 : Int32) &&& 31)) (P := P) (by omega) (by omega)
  refine r_iload C dL_law_188 rfl ?_
  refine r_iconst C (v := 3) dL_law_190 rfl ?_
  refine r_irem C dL_law_191 (by decide) ?_
  refine r_iconst C (v := 2) dL_law_192 rfl ?_
  refine r_icmp_ne C 232 dL_law_193 (by decide) (fun c_193 => ?_) (fun c_193 => ?_)
  · refine r_iinc C (v := 1) dL_law_232 rfl rfl (by decide) ?_
    refine r_goto C 23 dL_law_235 (by decide) ?_
    refine V.sub (LL_ b0 x (i + 1)) ⟨rfl, rfl, rfl, rfl, (by rw [← nI_1 i]; rfl), trivial⟩ ?_
    exact kk _ _ _ _ ⟨S, u1, u2, f, R, g⟩ (by omega) (by omega)
  · refine r_aload_n C dL_law_196 rfl rfl ?_
    refine r_cSi C (c_L_areSums hst R.1 g) lk_L_101 rfl rfl ⟨(Nat.le_of_ble_eq_true rfl), (Nat.le_of_ble_eq_true rfl), (by show _ + _ ≤ 600130; omega), (by show _ + _ ≤ 7301080; omega), (Nat.le_of_ble_eq_true rfl)⟩ dL_law_197 ?_
    refine r_if_eq C 230 dL_law_200 (by decide) (fun c => absurd c (by decide)) (fun _ => ?_)
    refine r_aload_n C dL_law_203 rfl rfl ?_
    refine r_cSi C (c_L_isMoveSo hst R.1 g) lk_L_105 rfl rfl ⟨(Nat.le_of_ble_eq_true rfl), (Nat.le_of_ble_eq_true rfl), (by show _ + _ ≤ 600130; omega), (by show _ + _ ≤ 7301080; omega), (Nat.le_of_ble_eq_true rfl)⟩ dL_law_204 ?_
    refine r_if_eq C 230 dL_law_207 (by decide) (fun c => absurd c (by decide)) (fun _ => ?_)
    refine r_aload_n C dL_law_210 rfl rfl ?_
    refine r_iload C dL_law_211 rfl ?_
    refine r_bipush C (v := 6) dL_law_213 rfl ?_
    refine r_ishr C dL_law_215 ?_
    refine r_aload_n C dL_law_216 rfl rfl ?_
    refine r_iconst C (v := 0) dL_law_217 rfl ?_
    refine q_count C hst R.1 (i := 0) (r2 := nI P) (by decide) rfl (num_0.trans h50) rfl ⟨(Nat.le_of_ble_eq_true rfl), (Nat.le_of_ble_eq_true rfl), (by show _ + _ ≤ 600130; omega), (by show _ + _ ≤ 7301080; omega), (Nat.le_of_ble_eq_true rfl)⟩ dL_law_218 ?_
    refine r_cSi C (c_L_low (nI_nz (W := P) (by omega) (by omega))) lk_L_29 rfl rfl ⟨(Nat.le_of_ble_eq_true rfl), (Nat.le_of_ble_eq_true rfl), (by show _ + _ ≤ 600130; omega), (by show _ + _ ≤ 7301080; omega), (Nat.le_of_ble_eq_true rfl)⟩ dL_law_221 ?_
    rw [hlow]
    refine r_callS C (c_L_areTrainsSo hst R.1 g h50 hP4 hu) lk_L_108 rfl rfl ⟨(Nat.le_of_ble_eq_true rfl), (Nat.le_of_ble_eq_true rfl), (by show _ + _ ≤ 600130; omega), (by show _ + _ ≤ 7301080; omega), (Nat.le_of_ble_eq_true rfl)⟩ dL_law_224 (fun v1 h1 s1 hp => ?_)
    obtain ⟨rfl, rfl, hfr, w1⟩ := hp
    refine r_if_ne C 232 dL_law_227 (by decide) (fun _ => ?_) (fun c => absurd c (by decide))
    refine r_iinc C (v := 1) dL_law_232 rfl rfl (by decide) ?_
    refine r_goto C 23 dL_law_235 (by decide) ?_
    refine V.sub (LL_ b0 x (i + 1)) ⟨rfl, rfl, rfl, rfl, (by rw [← nI_1 i]; rfl), trivial⟩ ?_
    exact kk _ _ _ _ ⟨S, u1, _, f, (R.look1 (u3 := u1) hfr w1 rfl).choose_spec, g⟩ (by omega) (by omega)
set_option maxHeartbeats 800000 in
set_option maxRecDepth 100000 in
theorem law_153a {a : Int32} (C : Cx p l room_1 s m args meth c G RL code 10 ret nm) (hst : l.stackTraces = false) (hi : i < 50) (hc : a_c S v = 0) (R : PR G h sz x (a_S S v) S u1 u2 f) (g : gX (i + 2) S) (hk : k ≤ 200 + 8800 * i + 1530) (hn : n ≤ 5000 + 53500 * i + 9820) (kk : ∀ h3 s3 k3 n3, LI G h3 s3 x (i + 3) → k3 ≤ 200 + 8800 * (i + 1) → n3 ≤ 5000 + 53500 * (i + 1) → V p l e room_1 s m args below meth c G 10 Q h3 s3 k3 n3 23 (LL_ b0 x (i + 1)) []) : V p l e room_1 s m args below meth c G 10 Q h sz k n 153 (L8_ b0 x i v a (a_c S v) (a_r S v)) [] := by
  refine r_aload_n C dL_law_153 rfl rfl ?_
  refine r_iload C dL_law_154 rfl ?_
  refine r_aload_n C dL_law_156 rfl rfl ?_
  refine r_callS C (c_L_act hst R.2.1 R.2.2.1 R.ho2 (Or.inr (by omega))) lk_L_90 rfl rfl ⟨(Nat.le_of_ble_eq_true rfl), (Nat.le_of_ble_eq_true rfl), (by show _ + _ ≤ 600130; omega), (by show _ + _ ≤ 7301080; omega), (Nat.le_of_ble_eq_true rfl)⟩ dL_law_157 (fun v1 h1 s1 hp => ?_)
  obtain ⟨rfl, hp2⟩ := hp
  rcases hp2 with ⟨-, hq⟩ | ⟨hn2, -⟩
  · obtain ⟨u3, u4, R1⟩ := R.act2 hq
    have g1 := g.act hc
    obtain ⟨P, hP2, hP4, h50⟩ := g1.pl
    refine r_iload C dL_law_160 rfl ?_
    refine r_icmp_ne C 186 dL_law_162 (by decide) (fun c => absurd rfl c) (fun _ => ?_)
    refine r_iload C dL_law_165 rfl ?_
    refine r_if_ne C 178 dL_law_167 (by decide) (fun c => absurd hc c) (fun _ => ?_)
    refine r_aload_n C dL_law_170 rfl rfl ?_
    refine r_iconst C (v := 0) dL_law_171 rfl ?_
    refine r_iald C (R1.2.2.1) vin0 dL_law_172 ?_
    rw [show upd f 0 (a_r S v) (0 : Int32).toNatClampNeg = a_r S v from upd_s]
    refine r_iload C dL_law_173 rfl ?_
    refine r_icmp_ne C 186 dL_law_175 (by decide) (fun c => absurd rfl c) (fun _ => ?_)
    refine r_aload_n C dL_law_178 rfl rfl ?_
    refine r_aload_n C dL_law_179 rfl rfl ?_
    refine r_cSi C (c_L_areAlike hst R1.1 R1.2.1 h50 hP4) lk_L_94 rfl rfl ⟨(Nat.le_of_ble_eq_true rfl), (Nat.le_of_ble_eq_true rfl), (by show _ + _ ≤ 600130; omega), (by show _ + _ ≤ 7301080; omega), (Nat.le_of_ble_eq_true rfl)⟩ dL_law_180 ?_
    refine r_if_ne C 188 dL_law_183 (by decide) (fun _ => ?_) (fun c => absurd c (by decide))
    refine V.sub (L5_ b0 x i v) ⟨rfl, rfl, rfl, rfl, rfl, rfl, trivial⟩ ?_
    exact law_188 C hst hi R1 g1 (by omega) (by omega) kk
  · exact absurd hc hn2
set_option maxHeartbeats 800000 in
set_option maxRecDepth 100000 in
theorem law_153b {a d : Int32} (C : Cx p l room_1 s m args meth c G RL code 10 ret nm) (hst : l.stackTraces = false) (hi : i < 50) (hc : ¬ a_c S v = 0) (R : PR G h sz x S S u1 u2 f) (g : gX (i + 2) S) (hk : k ≤ 200 + 8800 * i + 1530) (hn : n ≤ 5000 + 53500 * i + 9820) (kk : ∀ h3 s3 k3 n3, LI G h3 s3 x (i + 3) → k3 ≤ 200 + 8800 * (i + 1) → n3 ≤ 5000 + 53500 * (i + 1) → V p l e room_1 s m args below meth c G 10 Q h3 s3 k3 n3 23 (LL_ b0 x (i + 1)) []) : V p l e room_1 s m args below meth c G 10 Q h sz k n 153 (L8_ b0 x i v a (a_c S v) d) [] := by
  refine r_aload_n C dL_law_153 rfl rfl ?_
  refine r_iload C dL_law_154 rfl ?_
  refine r_aload_n C dL_law_156 rfl rfl ?_
  refine r_callS C (c_L_act hst R.2.1 R.2.2.1 R.ho2 (Or.inr (by omega))) lk_L_90 rfl rfl ⟨(Nat.le_of_ble_eq_true rfl), (Nat.le_of_ble_eq_true rfl), (by show _ + _ ≤ 600130; omega), (by show _ + _ ≤ 7301080; omega), (Nat.le_of_ble_eq_true rfl)⟩ dL_law_157 (fun v1 h1 s1 hp => ?_)
  obtain ⟨rfl, hp2⟩ := hp
  rcases hp2 with ⟨hn2, -⟩ | ⟨-, rfl, hs1⟩
  · exact absurd hn2 hc
  · have R1 := R.up hs1
    obtain ⟨P, hP2, hP4, h50⟩ := g.pl
    refine r_iload C dL_law_160 rfl ?_
    refine r_icmp_ne C 186 dL_law_162 (by decide) (fun c => absurd rfl c) (fun _ => ?_)
    refine r_iload C dL_law_165 rfl ?_
    refine r_if_ne C 178 dL_law_167 (by decide) (fun _ => ?_) (fun c => absurd c hc)
    refine r_aload_n C dL_law_178 rfl rfl ?_
    refine r_aload_n C dL_law_179 rfl rfl ?_
    refine r_cSi C (c_L_areAlike hst R1.1 R1.2.1 h50 hP4) lk_L_94 rfl rfl ⟨(Nat.le_of_ble_eq_true rfl), (Nat.le_of_ble_eq_true rfl), (by show _ + _ ≤ 600130; omega), (by show _ + _ ≤ 7301080; omega), (Nat.le_of_ble_eq_true rfl)⟩ dL_law_180 ?_
    refine r_if_ne C 188 dL_law_183 (by decide) (fun _ => ?_) (fun c => absurd c (by decide))
    refine V.sub (L5_ b0 x i v) ⟨rfl, rfl, rfl, rfl, rfl, rfl, trivial⟩ ?_
    exact law_188 C hst hi R1 (g.up (by omega)) (by omega) (by omega) kk
set_option maxHeartbeats 800000 in
set_option maxRecDepth 100000 in
theorem law_30 (C : Cx p l room_1 s m args meth c G RL code 10 ret nm) (X : Sx G s b0 N xs) (hst : l.stackTraces = false) (hN : N ≤ 260) (hi : i < 50) (I : LI G h sz x (i + 2)) (hk : k ≤ 200 + 8800 * i) (hn : n ≤ 5000 + 53500 * i) (kk : ∀ h3 s3 k3 n3, LI G h3 s3 x (i + 3) → k3 ≤ 200 + 8800 * (i + 1) → n3 ≤ 5000 + 53500 * (i + 1) → V p l e room_1 s m args below meth c G 10 Q h3 s3 k3 n3 23 (LL_ b0 x (i + 1)) []) : V p l e room_1 s m args below meth c G 10 Q h sz k n 30 (LL_ b0 x i) [] := by
  obtain ⟨S, u1, u2, f, R, g⟩ := I
  obtain ⟨P, hP2, hP4, h50⟩ := g.pl
  refine r_aload_n C dL_law_30 rfl rfl ?_
  refine r_iload C dL_law_31 rfl ?_
  refine r_callX C X (c_L_cell (k0 := i) (by rw [X.2.2.1]; exact X.2.1) (by omega) (by omega)) lk_L_86 rfl rfl ⟨(Nat.le_of_ble_eq_true rfl), (Nat.le_of_ble_eq_true rfl), (by show _ + _ ≤ 600130; omega), (by show _ + _ ≤ 7301080; omega), (Nat.le_of_ble_eq_true rfl)⟩ dL_law_33 (fun v1 h1 s1 hp => ?_)
  obtain ⟨rfl, rfl, rfl⟩ := hp
  generalize lw_c N xs i = v
  refine r_istore C dL_law_36 (by decide) ?_
  refine r_aload_n C dL_law_38 rfl rfl ?_
  refine r_bipush C (v := 11) dL_law_39 rfl ?_
  refine q_count C hst R.1 (i := 11) (r2 := nI u1.2.2.2.2.2.1) (by decide) rfl num_11 rfl ⟨(Nat.le_of_ble_eq_true rfl), (Nat.le_of_ble_eq_true rfl), (by show _ + _ ≤ 600130; omega), (by show _ + _ ≤ 7301080; omega), (Nat.le_of_ble_eq_true rfl)⟩ dL_law_41 ?_
  refine r_istore C dL_law_44 (by decide) ?_
  refine r_aload_n C dL_law_46 rfl rfl ?_
  refine r_iload C dL_law_47 rfl ?_
  refine r_aload_n C dL_law_49 rfl rfl ?_
  refine r_callS C (c_L_act hst R.1 R.2.2.1 R.ho1 (Or.inr (by omega))) lk_L_90 rfl rfl ⟨(Nat.le_of_ble_eq_true rfl), (Nat.le_of_ble_eq_true rfl), (by show _ + _ ≤ 600130; omega), (by show _ + _ ≤ 7301080; omega), (Nat.le_of_ble_eq_true rfl)⟩ dL_law_50 (fun v1 h1 s1 hp => ?_)
  obtain ⟨rfl, hp2⟩ := hp
  rcases hp2 with ⟨hc, hq⟩ | ⟨hc, rfl, hs1⟩
  · obtain ⟨u3, u4, R1, unz, qq, hqq, heq⟩ := R.act1 hq
    have hz9 : th1 (!decide (u3.2.2.2.2.2.1 = 0)) eIS = none := by rw [unz, decide_eq_false (p_z_0 _)]; rfl
    have hz6 : u1.2.2.2.2.2.1 ≤ 6 := R.1.2.2.2.2.2.2.2.2.2.2.1
    refine r_istore C dL_law_53 (by decide) ?_
    refine r_aload_n C dL_law_55 rfl rfl ?_
    refine r_iconst C (v := 0) dL_law_56 rfl ?_
    refine r_iald C (R1.2.2.1) vin0 dL_law_57 ?_
    rw [show upd f 0 (a_r S v) (0 : Int32).toNatClampNeg = a_r S v from upd_s]
    refine r_istore C dL_law_58 (by decide) ?_
    refine r_iload C dL_law_60 rfl ?_
    refine r_if_eq C 86 dL_law_62 (by decide) (fun _ => ?_) (fun c => absurd hc c)
    refine r_iload C dL_law_86 rfl ?_
    refine r_if_ne C 153 dL_law_88 (by decide) (fun c => absurd hc c) (fun _ => ?_)
    refine r_iload C dL_law_91 rfl ?_
    refine r_bipush C (v := 9) dL_law_93 rfl ?_
    refine r_ishr C dL_law_95 ?_
    refine r_iconst C (v := 1) dL_law_96 rfl ?_
    refine r_iand C dL_law_97 ?_
    refine r_if_ne C 153 dL_law_98 (by decide) (fun c_98 => ?_) (fun c_98 => ?_)
    · refine V.sub (L8_ b0 x i v (nI u1.2.2.2.2.2.1) (a_c S v) (a_r S v)) ⟨rfl, rfl, rfl, rfl, rfl, rfl, rfl, rfl, rfl, trivial⟩ ?_
      exact law_153a C hst hi hc R1 g (by omega) (by omega) kk
    · refine r_aload_n C dL_law_101 rfl rfl ?_
      refine r_nV C (c_X5_undo hst R1.1 (fun _ => by rw [hqq]; rfl)) (fun E h9 s9 q9 => by have q1 := q9.1; rw [hz9] at q1; cases q1) lk_L_98 rfl R1.1.2.1 rfl rfl ⟨(Nat.le_of_ble_eq_true rfl), (Nat.le_of_ble_eq_true rfl), (by show _ + _ ≤ 600130; omega), (by show _ + _ ≤ 7301080; omega), (Nat.le_of_ble_eq_true rfl)⟩ dL_law_102 (fun v1 h5 s5 hp => ?_)
      obtain ⟨-, rfl, hfr5, q5, hq5, rfl, w5⟩ := hp
      have hE5 : eqR S (g_bec (a_S S v) (u3.2.2.2.1 q5)) := by
        have e5 : q5 = qq := Option.some.inj (hq5.symm.trans hqq)
        rw [e5]
        exact heq.trans (bec_R _ _)
      obtain ⟨u5, u6, R5⟩ := R1.undo hfr5 w5 S
      refine V.weak (fun H hH => hr_R w5.2.2.1 hE5 hH) ?_
      refine r_istore C dL_law_105 (by decide) ?_
      refine r_iload C dL_law_107 rfl ?_
      refine r_iload C dL_law_109 rfl ?_
      refine r_bipush C (v := 6) dL_law_111 rfl ?_
      refine r_icmp_ne C 120 dL_law_113 (by decide) (fun c_113 => ?_) (fun c_113 => ?_)
      · refine r_iload C dL_law_120 rfl ?_
        refine r_icmp_ne C 151 dL_law_122 (by decide) (fun c => absurd (by rw [unz, (p_z_1 hz6).2 (fun q => c_113 (by rw [q]; rfl))]) c) (fun _ => ?_)
        refine r_aload_n C dL_law_125 rfl rfl ?_
        refine r_aload_n C dL_law_126 rfl rfl ?_
        refine r_cSi C (c_L_areAlike hst R5.1 R5.2.1 h50 hP4) lk_L_94 rfl rfl ⟨(Nat.le_of_ble_eq_true rfl), (Nat.le_of_ble_eq_true rfl), (by show _ + _ ≤ 600130; omega), (by show _ + _ ≤ 7301080; omega), (Nat.le_of_ble_eq_true rfl)⟩ dL_law_127 ?_
        refine r_if_eq C 151 dL_law_130 (by decide) (fun c => absurd c (by decide)) (fun _ => ?_)
        refine r_aload_n C dL_law_133 rfl rfl ?_
        refine r_iload C dL_law_134 rfl ?_
        refine r_aload_n C dL_law_136 rfl rfl ?_
        refine r_callS C (c_L_act hst R5.1 R5.2.2.1 R5.ho1 (Or.inr (by omega))) lk_L_90 rfl rfl ⟨(Nat.le_of_ble_eq_true rfl), (Nat.le_of_ble_eq_true rfl), (by show _ + _ ≤ 600130; omega), (by show _ + _ ≤ 7301080; omega), (Nat.le_of_ble_eq_true rfl)⟩ dL_law_137 (fun v1 h6 s6 hp => ?_)
        obtain ⟨rfl, hp6⟩ := hp
        rcases hp6 with ⟨-, hq6⟩ | ⟨hn6, -⟩
        · obtain ⟨u7, u8, R7, -⟩ := R5.act1 hq6
          refine r_if_ne C 151 dL_law_140 (by decide) (fun c => absurd hc c) (fun _ => ?_)
          refine r_aload_n C dL_law_143 rfl rfl ?_
          refine r_iconst C (v := 0) dL_law_144 rfl ?_
          refine r_iald C (R7.2.2.1) vin0 dL_law_145 ?_
          rw [show upd (upd f 0 (a_r S v)) 0 (a_r S v) (0 : Int32).toNatClampNeg = a_r S v from upd_s]
          refine r_iload C dL_law_146 rfl ?_
          refine r_icmp_eq C 153 dL_law_148 (by decide) (fun _ => ?_) (fun c => absurd rfl c)
          refine V.sub (L8_ b0 x i v (nI u1.2.2.2.2.2.1) (a_c S v) (a_r S v)) ⟨rfl, rfl, rfl, rfl, rfl, rfl, rfl, rfl, rfl, trivial⟩ ?_
          exact law_153a C hst hi hc R7 g (by omega) (by omega) kk
        · exact absurd hc hn6
      · refine r_iconst C (v := 5) dL_law_116 rfl ?_
        refine r_goto C 122 dL_law_117 (by decide) ?_
        refine r_icmp_ne C 151 dL_law_122 (by decide) (fun c => absurd (by rw [unz, (p_z_1 hz6).1 (nI_inj (by omega) (by decide) c_113)]; rfl) c) (fun _ => ?_)
        refine r_aload_n C dL_law_125 rfl rfl ?_
        refine r_aload_n C dL_law_126 rfl rfl ?_
        refine r_cSi C (c_L_areAlike hst R5.1 R5.2.1 h50 hP4) lk_L_94 rfl rfl ⟨(Nat.le_of_ble_eq_true rfl), (Nat.le_of_ble_eq_true rfl), (by show _ + _ ≤ 600130; omega), (by show _ + _ ≤ 7301080; omega), (Nat.le_of_ble_eq_true rfl)⟩ dL_law_127 ?_
        refine r_if_eq C 151 dL_law_130 (by decide) (fun c => absurd c (by decide)) (fun _ => ?_)
        refine r_aload_n C dL_law_133 rfl rfl ?_
        refine r_iload C dL_law_134 rfl ?_
        refine r_aload_n C dL_law_136 rfl rfl ?_
        refine r_callS C (c_L_act hst R5.1 R5.2.2.1 R5.ho1 (Or.inr (by omega))) lk_L_90 rfl rfl ⟨(Nat.le_of_ble_eq_true rfl), (Nat.le_of_ble_eq_true rfl), (by show _ + _ ≤ 600130; omega), (by show _ + _ ≤ 7301080; omega), (Nat.le_of_ble_eq_true rfl)⟩ dL_law_137 (fun v1 h6 s6 hp => ?_)
        obtain ⟨rfl, hp6⟩ := hp
        rcases hp6 with ⟨-, hq6⟩ | ⟨hn6, -⟩
        · obtain ⟨u7, u8, R7, -⟩ := R5.act1 hq6
          refine r_if_ne C 151 dL_law_140 (by decide) (fun c => absurd hc c) (fun _ => ?_)
          refine r_aload_n C dL_law_143 rfl rfl ?_
          refine r_iconst C (v := 0) dL_law_144 rfl ?_
          refine r_iald C (R7.2.2.1) vin0 dL_law_145 ?_
          rw [show upd (upd f 0 (a_r S v)) 0 (a_r S v) (0 : Int32).toNatClampNeg = a_r S v from upd_s]
          refine r_iload C dL_law_146 rfl ?_
          refine r_icmp_eq C 153 dL_law_148 (by decide) (fun _ => ?_) (fun c => absurd rfl c)
          refine V.sub (L8_ b0 x i v (nI u1.2.2.2.2.2.1) (a_c S v) (a_r S v)) ⟨rfl, rfl, rfl, rfl, rfl, rfl, rfl, rfl, rfl, trivial⟩ ?_
          exact law_153a C hst hi hc R7 g (by omega) (by omega) kk
        · exact absurd hc hn6
  · have R1 := R.up hs1
    refine r_istore C dL_law_53 (by decide) ?_
    refine r_aload_n C dL_law_55 rfl rfl ?_
    refine r_iconst C (v := 0) dL_law_56 rfl ?_
    refine r_iald C (R1.2.2.1) vin0 dL_law_57 ?_
    refine r_istore C dL_law_58 (by decide) ?_
    refine r_iload C dL_law_60 rfl ?_
    refine r_if_eq C 86 dL_law_62 (by decide) (fun c => absurd c hc) (fun _ => ?_)
    refine r_aload_n C dL_law_65 rfl rfl ?_
    refine r_aload_n C dL_law_66 rfl rfl ?_
    refine r_cSi C (c_L_areAlike hst R1.1 R1.2.1 h50 hP4) lk_L_94 rfl rfl ⟨(Nat.le_of_ble_eq_true rfl), (Nat.le_of_ble_eq_true rfl), (by show _ + _ ≤ 600130; omega), (by show _ + _ ≤ 7301080; omega), (Nat.le_of_ble_eq_true rfl)⟩ dL_law_67 ?_
    refine r_if_eq C 84 dL_law_70 (by decide) (fun c => absurd c (by decide)) (fun _ => ?_)
    refine r_aload_n C dL_law_73 rfl rfl ?_
    refine r_bipush C (v := 11) dL_law_74 rfl ?_
    refine q_count C hst R1.1 (i := 11) (r2 := nI u1.2.2.2.2.2.1) (by decide) rfl num_11 rfl ⟨(Nat.le_of_ble_eq_true rfl), (Nat.le_of_ble_eq_true rfl), (by show _ + _ ≤ 600130; omega), (by show _ + _ ≤ 7301080; omega), (Nat.le_of_ble_eq_true rfl)⟩ dL_law_76 ?_
    refine r_iload C dL_law_79 rfl ?_
    refine r_icmp_eq C 86 dL_law_81 (by decide) (fun _ => ?_) (fun c => absurd rfl c)
    refine r_iload C dL_law_86 rfl ?_
    refine r_if_ne C 153 dL_law_88 (by decide) (fun _ => ?_) (fun c => absurd c hc)
    refine V.sub (L8_ b0 x i v (nI u1.2.2.2.2.2.1) (a_c S v) (f (0 : Int32).toNatClampNeg)) ⟨rfl, rfl, rfl, rfl, rfl, rfl, rfl, rfl, rfl, trivial⟩ ?_
    exact law_153b C hst hi hc R1 g (by omega) (by omega) kk
end LS
