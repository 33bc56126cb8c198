/-! THE LAW'S SMALL METHODS -/
theorem downK {P : Nat → Nat → Nat → Prop} (N : Nat) (hN : ∀ k n, P N k n) (hs : ∀ i, i < N → (∀ k n, P (i + 1) k n) → ∀ k n, P i k n) : ∀ k n, P 0 k n :=
  down_ (P := fun i => ∀ k n, P i k n) N hN hs
/-- what a cell of the script is, or stands for -/
def lw_c (N : Nat) (xs : Nat → Int32) (k : Nat) : Int32 := if k < N then xs k else 7919 * (nI k + 7) * (nI k + 139)
def lw_low (v n : Int32) : Int32 := (v &&& 2147483647) - (v &&& 2147483647) / n * n
set_option maxHeartbeats 800000 in
set_option maxRecDepth 100000 in
theorem c_L_low {G : ga_} {l : Launch} {h : HP} {sz : Nat} {v u : Int32} (hu : ¬ u = 0) : Mf G l yL_low cL_low 2 (some .int) 0 0 0 0 [.int v, .int u] h sz (some (.int (lw_low v u))) h sz := by
  refine Mg.ofV [(0, .int v), (1, .int u)] (by decide) (Nat.le_of_ble_eq_true rfl) rfl ?_
  intro p e s m args below meth c C

  refine r_iload_n C dL_low_0 rfl rfl ?_
  refine r_ldc C kc_L_7 dL_low_1 ?_
  refine r_iand C dL_low_3 ?_
  refine r_iload_n C dL_low_4 rfl rfl ?_
  refine r_irem C dL_low_5 hu ?_
  exact r_iret C rfl (Nat.le_of_ble_eq_true rfl) (Nat.le_of_ble_eq_true rfl) ⟨rfl, rfl, rfl⟩ dL_low_6
set_option maxHeartbeats 800000 in
set_option maxRecDepth 100000 in
theorem c_L_cell {G : ga_} {l : Launch} {h : HP} {sz b0 N k0 : Nat} {xs : Nat → Int32} (hb : b0 < G.2.2.1) (hN : N < 2147483648) (hk0 : k0 < 2147483648) : Ms G l yL_cell cL_cell 2 (some .int) 0 0 0 0 b0 N xs [.ref b0, .int (nI k0)] h sz (fun v h1 s1 => v = some (.int (lw_c N xs k0)) ∧ h1 = h ∧ s1 = sz) := by
  refine Ms.ofV [(0, .ref b0), (1, .int (nI k0))] (by decide) (Nat.le_of_ble_eq_true rfl) rfl ?_
  intro p e s m args below meth c C X0 hr0
  refine r_iload_n C dL_cell_0 rfl rfl ?_
  refine r_aload_n C dL_cell_1 rfl rfl ?_
  have X : ∀ H locs, hr_ G h sz H → (∀ q ∈ locs, G.2.2.1 ≤ q.base) → va_S (fun q => G.2.2.1 ≤ q) s.heap H locs := by
    intro H locs w hl
    refine ⟨by rw [w.1, hr0.1]; exact Nat.le_refl _, fun q hq hA => ?_, hl⟩
    have hql : q < G.2.2.1 := Nat.not_le.mp hA
    rw [w.2.2.1 q hql, hr0.2.2.1 q hql]
  have hbs : b0 < s.heap.size := by rw [hr0.1]; exact Nat.lt_of_lt_of_le hb hr0.2.1
  refine (fun kk H locs ls a b d => va_slen C.1 C.2.1 X0 hbs (Nat.not_le.mpr hb) (X H locs a b) dL_cell_2 (kk H locs ls a b d) : V p l e _ s m args below meth c G 2 _ h sz 0 0 (2 + 1) _ (.int (nI N) :: _) → V p l e _ s m args below meth c G 2 _ h sz 0 0 2 _ (.ref b0 :: _)) ?_
  refine r_icmp_ge C 12 dL_cell_3 (by decide) (fun c_3 => ?_) (fun c_3 => ?_)
  · have hn : ¬ k0 < N := fun q => nI_ge q hN c_3
    refine r_sipush C (v := 7919) dL_cell_12 rfl ?_
    refine r_iload_n C dL_cell_15 rfl rfl ?_
    refine r_bipush C (v := 7) dL_cell_16 rfl ?_
    refine r_iadd C dL_cell_18 ?_
    refine r_imul C dL_cell_19 ?_
    refine r_iload_n C dL_cell_20 rfl rfl ?_
    refine r_sipush C (v := 139) dL_cell_21 rfl ?_
    refine r_iadd C dL_cell_24 ?_
    refine r_imul C dL_cell_25 ?_
    exact r_iret C rfl (Nat.le_of_ble_eq_true rfl) (Nat.le_of_ble_eq_true rfl) ⟨by unfold lw_c; rw [if_neg hn], rfl, rfl⟩ dL_cell_26
  · have hn : k0 < N := (nI_ltI hk0 hN).mp (Int32.not_le.mp c_3)
    refine r_aload_n C dL_cell_6 rfl rfl ?_
    refine r_iload_n C dL_cell_7 rfl rfl ?_
    refine (fun kk H locs ls a b d => va_sld C.1 C.2.1 X0 hbs (Nat.not_le.mpr hb) (X H locs a b) (vp_in_nI hn hN) dL_cell_8 (kk H locs ls a b d) : V p l e _ s m args below meth c G 2 _ h sz 0 0 (8 + 1) _ (.int (xs (nI k0).toNatClampNeg) :: _) → V p l e _ s m args below meth c G 2 _ h sz 0 0 8 _ (.int (nI k0) :: .ref b0 :: _)) ?_
    refine r_goto C 26 dL_cell_9 (by decide) ?_
    exact r_iret C rfl (Nat.le_of_ble_eq_true rfl) (Nat.le_of_ble_eq_true rfl) ⟨by rw [nI_clamp hk0]; unfold lw_c; rw [if_pos hn], rfl, rfl⟩ dL_cell_26
set_option maxHeartbeats 800000 in
set_option maxRecDepth 100000 in
theorem c_L_areAlike {G : ga_} {l : Launch} {h : HP} {sz : Nat} {x1 x2 : Nat} {dy1 dy2 : Nat → Prop} {S : gS} {sv1 sl1 sv2 sl2 : Nat → Option Nat} {D1 D2 : Nat → gS} {nx1 z1 len1 nx2 z2 len2 : Nat} {cf1 cf2 : Nat → Int32} {P : Nat} (hst : l.stackTraces = false) (w1 : RA G h x1 dy1 sz S sv1 sl1 D1 nx1 z1 cf1 len1) (w2 : RA G h x2 dy2 sz S sv2 sl2 D2 nx2 z2 cf2 len2) (h50 : S 5 0 = nI P) (hP4 : P ≤ 4) : Mf G l yL_areAlike cL_areAlike 4 (some .boolean) 8 154 1500 9000 [.ref x1, .ref x2] h sz (some (.int 1)) h sz := by
  refine Mg.ofV [(0, .ref x1), (1, .ref x2)] (by decide) (Nat.le_of_ble_eq_true rfl) rfl ?_
  intro p e s m args below meth c C

  refine r_aload_n C dL_areAlike_0 rfl rfl ?_
  refine q_set C w1 rfl ⟨(Nat.le_of_ble_eq_true rfl), (Nat.le_of_ble_eq_true rfl), (by dsimp only; omega), (by dsimp only; omega), (Nat.le_of_ble_eq_true rfl)⟩ dL_areAlike_1 ?_
  refine r_aload_n C dL_areAlike_4 rfl rfl ?_
  refine q_set C w2 rfl ⟨(Nat.le_of_ble_eq_true rfl), (Nat.le_of_ble_eq_true rfl), (by dsimp only; omega), (by dsimp only; omega), (Nat.le_of_ble_eq_true rfl)⟩ dL_areAlike_5 ?_
  refine r_icmp_ne C 15 dL_areAlike_8 (by decide) (fun c => absurd rfl c) (fun _ => ?_)
  refine r_iconst C (v := 1) dL_areAlike_11 rfl ?_
  refine r_goto C 16 dL_areAlike_12 (by decide) ?_
  refine r_istore_n C dL_areAlike_16 rfl (by decide) ?_
  refine r_iconst C (v := 0) dL_areAlike_17 rfl ?_
  refine r_istore_n C dL_areAlike_18 rfl (by decide) ?_
  refine V.sub [(0, .ref x1), (1, .ref x2), (2, .int 1), (3, .int (nI 0))] ⟨rfl, rfl, rfl, rfl, trivial⟩ ?_
  refine downK (P := fun i k n => k ≤ 0 + 2 * i → n ≤ 0 + 12 * i → V p l e ⟨8, 1500, 9000, 154⟩ s m args below meth c G 4 (Qg G below args s 1500 9000 (fun v1 h1 s1 => v1 = (some (.int 1)) ∧ h1 = h ∧ s1 = sz)) h sz k n 19 [(0, .ref x1), (1, .ref x2), (2, .int 1), (3, .int (nI i))] []) (11) ?_ ?_ _ _ (by omega) (by omega)
  · intro k n hk hn
    refine r_iload_n C dL_areAlike_19 rfl rfl ?_
    refine r_bipush C (v := 11) dL_areAlike_20 rfl ?_
    refine r_icmp_ge C 54 dL_areAlike_22 (by decide) (fun _ => ?_) (fun c => absurd (show (11 : Int32) ≤ nI 11 by decide) c)
    refine r_iconst C (v := 0) dL_areAlike_54 rfl ?_
    refine r_istore_n C dL_areAlike_55 rfl (by decide) ?_
    refine V.sub [(0, .ref x1), (1, .ref x2), (2, .int 1), (3, .int (nI 0))] ⟨rfl, rfl, rfl, rfl, trivial⟩ ?_
    refine downK (P := fun i k n => k ≤ 22 + 4 * i → n ≤ 132 + 24 * i → V p l e ⟨8, 1500, 9000, 154⟩ s m args below meth c G 4 (Qg G below args s 1500 9000 (fun v1 h1 s1 => v1 = (some (.int 1)) ∧ h1 = h ∧ s1 = sz)) h sz k n 56 [(0, .ref x1), (1, .ref x2), (2, .int 1), (3, .int (nI i))] []) (196) ?_ ?_ _ _ (by omega) (by omega)
    · intro k n hk hn
      refine r_iload_n C dL_areAlike_56 rfl rfl ?_
      refine r_sipush C (v := 196) dL_areAlike_57 rfl ?_
      refine r_icmp_ge C 106 dL_areAlike_60 (by decide) (fun _ => ?_) (fun c => absurd (show (196 : Int32) ≤ nI 196 by decide) c)
      refine r_iconst C (v := 0) dL_areAlike_106 rfl ?_
      refine r_istore_n C dL_areAlike_107 rfl (by decide) ?_
      refine V.sub [(0, .ref x1), (1, .ref x2), (2, .int 1), (3, .int (nI 0))] ⟨rfl, rfl, rfl, rfl, trivial⟩ ?_
      refine downK (P := fun i k n => k ≤ 830 + 5 * i → n ≤ 4980 + 30 * i → V p l e ⟨8, 1500, 9000, 154⟩ s m args below meth c G 4 (Qg G below args s 1500 9000 (fun v1 h1 s1 => v1 = (some (.int 1)) ∧ h1 = h ∧ s1 = sz)) h sz k n 108 [(0, .ref x1), (1, .ref x2), (2, .int 1), (3, .int (nI i))] []) (28 * P) ?_ ?_ _ _ (by omega) (by omega)
      · intro k n hk hn
        refine r_iload_n C dL_areAlike_108 rfl rfl ?_
        refine r_bipush C (v := 28) dL_areAlike_109 rfl ?_
        refine r_aload_n C dL_areAlike_111 rfl rfl ?_
        refine r_iconst C (v := 0) dL_areAlike_112 rfl ?_
        refine q_count C hst w1 (i := 0) (r2 := nI P) (by omega) rfl (num_0.trans h50) rfl ⟨(Nat.le_of_ble_eq_true rfl), (Nat.le_of_ble_eq_true rfl), (by dsimp only; omega), (by dsimp only; omega), (Nat.le_of_ble_eq_true rfl)⟩ dL_areAlike_113 ?_
        refine r_imul C dL_areAlike_116 ?_
        refine r_icmp_ge C 163 dL_areAlike_117 (by decide) (fun _ => ?_) (fun c => absurd (show 28 * nI P ≤ nI (28 * P) by rw [show 28 * nI P = nI (28 * P) from pk_mul 28 P]; exact Int32.le_refl _) c)
        refine r_iconst C (v := 0) dL_areAlike_163 rfl ?_
        refine r_istore_n C dL_areAlike_164 rfl (by decide) ?_
        refine V.sub [(0, .ref x1), (1, .ref x2), (2, .int 1), (3, .int (nI 0))] ⟨rfl, rfl, rfl, rfl, trivial⟩ ?_
        refine downK (P := fun i k n => k ≤ 970 + 4 * i + 448 → n ≤ 5820 + 24 * i + 2688 → V p l e ⟨8, 1500, 9000, 154⟩ s m args below meth c G 4 (Qg G below args s 1500 9000 (fun v1 h1 s1 => v1 = (some (.int 1)) ∧ h1 = h ∧ s1 = sz)) h sz k n 165 [(0, .ref x1), (1, .ref x2), (2, .int 1), (3, .int (nI i))] []) (12) ?_ ?_ _ _ (by omega) (by omega)
        · intro k n hk hn
          refine r_iload_n C dL_areAlike_165 rfl rfl ?_
          refine r_bipush C (v := 12) dL_areAlike_166 rfl ?_
          refine r_icmp_ge C 210 dL_areAlike_168 (by decide) (fun _ => ?_) (fun c => absurd (show (12 : Int32) ≤ nI 12 by decide) c)
          refine r_iload_n C dL_areAlike_210 rfl rfl ?_
          exact r_zret C rfl (Or.inr rfl) (by omega) (by omega) ⟨rfl, rfl, rfl⟩ dL_areAlike_211
        · intro i h_i ih_i k n hk hn
          refine r_iload_n C dL_areAlike_165 rfl rfl ?_
          refine r_bipush C (v := 12) dL_areAlike_166 rfl ?_
          refine r_icmp_ge C 210 dL_areAlike_168 (by decide) (fun c => absurd c (nI_ge (b := 12) h_i (by decide))) (fun _ => ?_)
          refine r_iload_n C dL_areAlike_171 rfl rfl ?_
          refine r_if_eq C 202 dL_areAlike_172 (by decide) (fun c => absurd c (by decide)) (fun _ => ?_)
          refine r_aload_n C dL_areAlike_175 rfl rfl ?_
          refine r_iload_n C dL_areAlike_176 rfl rfl ?_
          refine r_iconst C (v := 4) dL_areAlike_177 rfl ?_
          refine r_idiv C dL_areAlike_178 (by decide) ?_
          refine r_iload_n C dL_areAlike_179 rfl rfl ?_
          refine r_iconst C (v := 4) dL_areAlike_180 rfl ?_
          refine r_irem C dL_areAlike_181 (by decide) ?_
          refine q_row C hst w1 (t := i / 4) (i := i % 4) (by omega) (by omega) (pk_div (d := 4) (by omega) (by decide) (by decide)) (pk_rem (d := 4) (by omega) (by decide) (by decide)) rfl ⟨(Nat.le_of_ble_eq_true rfl), (Nat.le_of_ble_eq_true rfl), (by dsimp only; omega), (by dsimp only; omega), (Nat.le_of_ble_eq_true rfl)⟩ dL_areAlike_182 ?_
          refine r_aload_n C dL_areAlike_185 rfl rfl ?_
          refine r_iload_n C dL_areAlike_186 rfl rfl ?_
          refine r_iconst C (v := 4) dL_areAlike_187 rfl ?_
          refine r_idiv C dL_areAlike_188 (by decide) ?_
          refine r_iload_n C dL_areAlike_189 rfl rfl ?_
          refine r_iconst C (v := 4) dL_areAlike_190 rfl ?_
          refine r_irem C dL_areAlike_191 (by decide) ?_
          refine q_row C hst w2 (t := i / 4) (i := i % 4) (by omega) (by omega) (pk_div (d := 4) (by omega) (by decide) (by decide)) (pk_rem (d := 4) (by omega) (by decide) (by decide)) rfl ⟨(Nat.le_of_ble_eq_true rfl), (Nat.le_of_ble_eq_true rfl), (by dsimp only; omega), (by dsimp only; omega), (Nat.le_of_ble_eq_true rfl)⟩ dL_areAlike_192 ?_
          refine r_icmp_ne C 202 dL_areAlike_195 (by decide) (fun c => absurd rfl c) (fun _ => ?_)
          refine r_iconst C (v := 1) dL_areAlike_198 rfl ?_
          refine r_goto C 203 dL_areAlike_199 (by decide) ?_
          refine r_istore_n C dL_areAlike_203 rfl (by decide) ?_
          refine r_iinc C (v := 1) dL_areAlike_204 rfl rfl (by decide) ?_
          refine r_goto C 165 dL_areAlike_207 (by decide) ?_
          refine V.sub [(0, .ref x1), (1, .ref x2), (2, .int 1), (3, .int (nI (i + 1)))] ⟨rfl, rfl, rfl, (by rw [← nI_1 i]; rfl), trivial⟩ ?_
          exact ih_i _ _ (by omega) (by omega)
      · intro i h_i ih_i k n hk hn
        refine r_iload_n C dL_areAlike_108 rfl rfl ?_
        refine r_bipush C (v := 28) dL_areAlike_109 rfl ?_
        refine r_aload_n C dL_areAlike_111 rfl rfl ?_
        refine r_iconst C (v := 0) dL_areAlike_112 rfl ?_
        refine q_count C hst w1 (i := 0) (r2 := nI P) (by omega) rfl (num_0.trans h50) rfl ⟨(Nat.le_of_ble_eq_true rfl), (Nat.le_of_ble_eq_true rfl), (by dsimp only; omega), (by dsimp only; omega), (Nat.le_of_ble_eq_true rfl)⟩ dL_areAlike_113 ?_
        refine r_imul C dL_areAlike_116 ?_
        refine r_icmp_ge C 163 dL_areAlike_117 (by decide) (fun c => absurd c (show ¬ 28 * nI P ≤ nI i by rw [show 28 * nI P = nI (28 * P) from pk_mul 28 P]; exact nI_ge h_i (by omega))) (fun _ => ?_)
        refine r_iload_n C dL_areAlike_120 rfl rfl ?_
        refine r_if_eq C 155 dL_areAlike_121 (by decide) (fun c => absurd c (by decide)) (fun _ => ?_)
        refine r_aload_n C dL_areAlike_124 rfl rfl ?_
        refine r_iload_n C dL_areAlike_125 rfl rfl ?_
        refine r_bipush C (v := 28) dL_areAlike_126 rfl ?_
        refine r_idiv C dL_areAlike_128 (by decide) ?_
        refine r_iload_n C dL_areAlike_129 rfl rfl ?_
        refine r_bipush C (v := 28) dL_areAlike_130 rfl ?_
        refine r_irem C dL_areAlike_132 (by decide) ?_
        refine q_hand C hst w1 (i := i % 28) (by rw [show nI i / 28 = nI (i / 28) from pk_div (d := 28) (by omega) (by decide) (by decide)]; exact has_i h50 hP4 (by omega)) (by omega) (pk_rem (d := 28) (by omega) (by decide) (by decide)) rfl rfl ⟨(Nat.le_of_ble_eq_true rfl), (Nat.le_of_ble_eq_true rfl), (by dsimp only; omega), (by dsimp only; omega), (Nat.le_of_ble_eq_true rfl)⟩ dL_areAlike_133 ?_
        refine r_aload_n C dL_areAlike_136 rfl rfl ?_
        refine r_iload_n C dL_areAlike_137 rfl rfl ?_
        refine r_bipush C (v := 28) dL_areAlike_138 rfl ?_
        refine r_idiv C dL_areAlike_140 (by decide) ?_
        refine r_iload_n C dL_areAlike_141 rfl rfl ?_
        refine r_bipush C (v := 28) dL_areAlike_142 rfl ?_
        refine r_irem C dL_areAlike_144 (by decide) ?_
        refine q_hand C hst w2 (i := i % 28) (by rw [show nI i / 28 = nI (i / 28) from pk_div (d := 28) (by omega) (by decide) (by decide)]; exact has_i h50 hP4 (by omega)) (by omega) (pk_rem (d := 28) (by omega) (by decide) (by decide)) rfl rfl ⟨(Nat.le_of_ble_eq_true rfl), (Nat.le_of_ble_eq_true rfl), (by dsimp only; omega), (by dsimp only; omega), (Nat.le_of_ble_eq_true rfl)⟩ dL_areAlike_145 ?_
        refine r_icmp_ne C 155 dL_areAlike_148 (by decide) (fun c => absurd rfl c) (fun _ => ?_)
        refine r_iconst C (v := 1) dL_areAlike_151 rfl ?_
        refine r_goto C 156 dL_areAlike_152 (by decide) ?_
        refine r_istore_n C dL_areAlike_156 rfl (by decide) ?_
        refine r_iinc C (v := 1) dL_areAlike_157 rfl rfl (by decide) ?_
        refine r_goto C 108 dL_areAlike_160 (by decide) ?_
        refine V.sub [(0, .ref x1), (1, .ref x2), (2, .int 1), (3, .int (nI (i + 1)))] ⟨rfl, rfl, rfl, (by rw [← nI_1 i]; rfl), trivial⟩ ?_
        exact ih_i _ _ (by omega) (by omega)
    · intro i h_i ih_i k n hk hn
      refine r_iload_n C dL_areAlike_56 rfl rfl ?_
      refine r_sipush C (v := 196) dL_areAlike_57 rfl ?_
      refine r_icmp_ge C 106 dL_areAlike_60 (by decide) (fun c => absurd c (nI_ge (b := 196) h_i (by decide))) (fun _ => ?_)
      refine r_iload_n C dL_areAlike_63 rfl rfl ?_
      refine r_if_eq C 98 dL_areAlike_64 (by decide) (fun c => absurd c (by decide)) (fun _ => ?_)
      refine r_aload_n C dL_areAlike_67 rfl rfl ?_
      refine r_iload_n C dL_areAlike_68 rfl rfl ?_
      refine r_bipush C (v := 7) dL_areAlike_69 rfl ?_
      refine r_idiv C dL_areAlike_71 (by decide) ?_
      refine r_iload_n C dL_areAlike_72 rfl rfl ?_
      refine r_bipush C (v := 7) dL_areAlike_73 rfl ?_
      refine r_irem C dL_areAlike_75 (by decide) ?_
      refine q_tile C hst w1 (t := i / 7) (i := i % 7) (by omega) (by omega) (pk_div (d := 7) (by omega) (by decide) (by decide)) (pk_rem (d := 7) (by omega) (by decide) (by decide)) rfl ⟨(Nat.le_of_ble_eq_true rfl), (Nat.le_of_ble_eq_true rfl), (by dsimp only; omega), (by dsimp only; omega), (Nat.le_of_ble_eq_true rfl)⟩ dL_areAlike_76 ?_
      refine r_aload_n C dL_areAlike_79 rfl rfl ?_
      refine r_iload_n C dL_areAlike_80 rfl rfl ?_
      refine r_bipush C (v := 7) dL_areAlike_81 rfl ?_
      refine r_idiv C dL_areAlike_83 (by decide) ?_
      refine r_iload_n C dL_areAlike_84 rfl rfl ?_
      refine r_bipush C (v := 7) dL_areAlike_85 rfl ?_
      refine r_irem C dL_areAlike_87 (by decide) ?_
      refine q_tile C hst w2 (t := i / 7) (i := i % 7) (by omega) (by omega) (pk_div (d := 7) (by omega) (by decide) (by decide)) (pk_rem (d := 7) (by omega) (by decide) (by decide)) rfl ⟨(Nat.le_of_ble_eq_true rfl), (Nat.le_of_ble_eq_true rfl), (by dsimp only; omega), (by dsimp only; omega), (Nat.le_of_ble_eq_true rfl)⟩ dL_areAlike_88 ?_
      refine r_icmp_ne C 98 dL_areAlike_91 (by decide) (fun c => absurd rfl c) (fun _ => ?_)
      refine r_iconst C (v := 1) dL_areAlike_94 rfl ?_
      refine r_goto C 99 dL_areAlike_95 (by decide) ?_
      refine r_istore_n C dL_areAlike_99 rfl (by decide) ?_
      refine r_iinc C (v := 1) dL_areAlike_100 rfl rfl (by decide) ?_
      refine r_goto C 56 dL_areAlike_103 (by decide) ?_
      refine V.sub [(0, .ref x1), (1, .ref x2), (2, .int 1), (3, .int (nI (i + 1)))] ⟨rfl, rfl, rfl, (by rw [← nI_1 i]; rfl), trivial⟩ ?_
      exact ih_i _ _ (by omega) (by omega)
  · intro i h_i ih_i k n hk hn
    refine r_iload_n C dL_areAlike_19 rfl rfl ?_
    refine r_bipush C (v := 11) dL_areAlike_20 rfl ?_
    refine r_icmp_ge C 54 dL_areAlike_22 (by decide) (fun c => absurd c (nI_ge (b := 11) h_i (by decide))) (fun _ => ?_)
    refine r_iload_n C dL_areAlike_25 rfl rfl ?_
    refine r_if_eq C 46 dL_areAlike_26 (by decide) (fun c => absurd c (by decide)) (fun _ => ?_)
    refine r_aload_n C dL_areAlike_29 rfl rfl ?_
    refine r_iload_n C dL_areAlike_30 rfl rfl ?_
    refine q_count C hst w1 (i := i) (by omega) rfl rfl rfl ⟨(Nat.le_of_ble_eq_true rfl), (Nat.le_of_ble_eq_true rfl), (by dsimp only; omega), (by dsimp only; omega), (Nat.le_of_ble_eq_true rfl)⟩ dL_areAlike_31 ?_
    refine r_aload_n C dL_areAlike_34 rfl rfl ?_
    refine r_iload_n C dL_areAlike_35 rfl rfl ?_
    refine q_count C hst w2 (i := i) (r2 := g_num S (nI i) (nI z1)) (by omega) rfl (num_any h_i _ _) rfl ⟨(Nat.le_of_ble_eq_true rfl), (Nat.le_of_ble_eq_true rfl), (by dsimp only; omega), (by dsimp only; omega), (Nat.le_of_ble_eq_true rfl)⟩ dL_areAlike_36 ?_
    refine r_icmp_ne C 46 dL_areAlike_39 (by decide) (fun c => absurd rfl c) (fun _ => ?_)
    refine r_iconst C (v := 1) dL_areAlike_42 rfl ?_
    refine r_goto C 47 dL_areAlike_43 (by decide) ?_
    refine r_istore_n C dL_areAlike_47 rfl (by decide) ?_
    refine r_iinc C (v := 1) dL_areAlike_48 rfl rfl (by decide) ?_
    refine r_goto C 19 dL_areAlike_51 (by decide) ?_
    refine V.sub [(0, .ref x1), (1, .ref x2), (2, .int 1), (3, .int (nI (i + 1)))] ⟨rfl, rfl, rfl, (by rw [← nI_1 i]; rfl), trivial⟩ ?_
    exact ih_i _ _ (by omega) (by omega)
