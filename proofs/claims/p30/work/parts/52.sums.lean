/-! THE LAW'S SUMS -/
theorem grades_at {S : gS} {t : Nat} (ht : t < 28) : g_grades S (nI t) = S 0 (t * 7 + 0) + S 0 (t * 7 + 1) := by
  unfold g_grades
  rw [show tAt 7 196 (S 0) (nI t) 0 = S 0 (t * 7 + 0) from at0 (w := 0) ht (by decide), show tAt 7 196 (S 0) (nI t) 1 = S 0 (t * 7 + 1) from at0 (w := 1) ht (by decide)]
theorem wl_nat (S : gS) : ∀ i, ∃ w, w ≤ i ∧ g_wl S i = nI w := by
  intro i
  induction i with
  | zero => exact ⟨0, Nat.le_refl 0, rfl⟩
  | succ i ih =>
    obtain ⟨w, hw, e⟩ := ih
    show ∃ w, w ≤ i + 1 ∧ (if g_sum S (nI (i + 1)) < g_sum S (g_wl S i) then nI (i + 1) else g_wl S i) = nI w
    split
    · exact ⟨i + 1, Nat.le_refl _, rfl⟩
    · exact ⟨w, by omega, e⟩
section WN
variable {n : Nat} {S : gS} {P K W Q T F : Nat} {H R L : Nat → Nat} {gr : Nat → Nat → Nat} {ag : Nat → Nat}
theorem gO.winN (o : gO n S P K W Q T F H R L gr ag) (h : S 5 1 = -1) : ∃ w, w < P ∧ g_win S = nI w ∧ g_wl S (P - 1) = nI w := by
  obtain ⟨h2, h4, -⟩ := o.n5.1
  obtain ⟨w, hw, e⟩ := wl_nat S (P - 1)
  refine ⟨w, by omega, ?_, e⟩
  unfold g_win g_over
  rw [decide_eq_true h, if_pos rfl, o.n5.2.1, nI_clamp (by omega), e]
theorem gO.win0 (o : gO n S P K W Q T F H R L gr ag) {m : Nat} (hm : m < P) (h : S 5 1 = nI m) : g_win S = -1 := by
  have h4 := o.n5.1.2.1
  unfold g_win
  rw [o.overN (by omega) h]
  rfl
theorem gO.gh (o : gO n S P K W Q T F H R L gr ag) {u : Nat} (hu : u < 4) : g_gh S (nI u) = l_sum (fun j => g_grades S (g_hand S (nI u) (nI j))) (H u) := by
  have hK := o.n5.1.2.2.1
  have hh := oh_le o.hh hu
  unfold g_gh
  rw [show g_held S (nI u) = nI (H u) from o.held hu, nI_clamp (by omega)]
end WN
set_option maxHeartbeats 800000 in
set_option maxRecDepth 100000 in
theorem c_L_areSums {G : ga_} {l : Launch} {h : HP} {sz : Nat} {x rr : Nat} {dy : Nat → Prop} {S : gS} {sv sl : Nat → Option Nat} {D : Nat → gS} {nx z len : Nat} {cf : Nat → Int32} (hst : l.stackTraces = false) (w : RA G h x dy sz S sv sl D nx z cf len) (g : gX rr S) : Mf G l yL_areSums cL_areSums 9 (some .boolean) 8 154 2200 13200 [.ref x] h sz (some (.int 1)) h sz := by
  refine Mg.ofV [(0, .ref x)] (by decide) (Nat.le_of_ble_eq_true rfl) rfl ?_
  intro p e s m args below meth c C

  obtain ⟨P, K, W, Q, T, F, H, R, L, gr, ag, o, tt, y, xx, z1, z2, z3⟩ := g
  have hP4 : P ≤ 4 := o.n5.1.2.1
  have hP2 : 2 ≤ P := o.n5.1.1
  have hK : K ≤ 28 := o.n5.1.2.2.1
  have h50 : S 5 0 = nI P := o.n5.2.1
  have hQP : Q ≤ P := o.n5.1.2.2.2.2.2.1
  have hRR : R 0 + R 1 + R 2 ≤ 28 := by have := o.hh; unfold oh at this; omega
  have hT : T < 1000 := by have := tt.1; omega
  have yr := y.2.2.2.1
  have yl := y.2.2.2.2
  refine r_iconst C (v := 0) dL_areSums_0 rfl ?_
  refine r_istore_n C dL_areSums_1 rfl (by decide) ?_
  refine r_iconst C (v := 0) dL_areSums_2 rfl ?_
  refine r_istore_n C dL_areSums_3 rfl (by decide) ?_
  refine r_iconst C (v := 0) dL_areSums_4 rfl ?_
  refine r_istore_n C dL_areSums_5 rfl (by decide) ?_
  refine r_iconst C (v := 1) dL_areSums_6 rfl ?_
  refine r_istore C dL_areSums_7 (by decide) ?_
  refine r_iconst C (v := 0) dL_areSums_9 rfl ?_
  refine r_istore C dL_areSums_10 (by decide) ?_
  refine V.sub [(0, .ref x), (1, .int (l_sum (fun t => S 0 (t * 7 + 0) + S 0 (t * 7 + 1)) 0)), (2, .int (l_sum (fun t => S 0 (t * 7 + 6)) 0)), (3, .int 0), (4, .int 1), (5, .int (nI 0))] ⟨rfl, rfl, rfl, rfl, rfl, rfl, trivial⟩ ?_
  refine downK (P := fun i k n => k ≤ 0 + 18 * i → n ≤ 0 + 108 * i → V p l e ⟨8, 2200, 13200, 154⟩ s m args below meth c G 9 (Qg G below args s 2200 13200 (fun v1 h1 s1 => v1 = (some (.int 1)) ∧ h1 = h ∧ s1 = sz)) h sz k n 12 [(0, .ref x), (1, .int (l_sum (fun t => S 0 (t * 7 + 0) + S 0 (t * 7 + 1)) i)), (2, .int (l_sum (fun t => S 0 (t * 7 + 6)) i)), (3, .int 0), (4, .int 1), (5, .int (nI i))] []) (28) ?_ ?_ _ _ (by omega) (by omega)
  · intro k n hk hn
    refine r_iload C dL_areSums_12 rfl ?_
    refine r_bipush C (v := 28) dL_areSums_14 rfl ?_
    refine r_icmp_ge C 203 dL_areSums_16 (by decide) (fun _ => ?_) (fun c => absurd (show (28 : Int32) ≤ nI 28 by decide) c)
    refine r_iconst C (v := 0) dL_areSums_203 rfl ?_
    refine r_istore C dL_areSums_204 (by decide) ?_
    refine V.sub [(0, .ref x), (1, .int (l_sum (fun t => S 0 (t * 7 + 0) + S 0 (t * 7 + 1)) 28)), (2, .int (l_sum (fun t => S 0 (t * 7 + 6)) 28)), (3, .int (z_p S 0)), (4, .int 1), (5, .int (nI 0))] ⟨rfl, rfl, rfl, rfl, rfl, rfl, trivial⟩ ?_
    refine downK (P := fun u k n => k ≤ 504 + 360 * u → n ≤ 3024 + 2160 * u → V p l e ⟨8, 2200, 13200, 154⟩ s m args below meth c G 9 (Qg G below args s 2200 13200 (fun v1 h1 s1 => v1 = (some (.int 1)) ∧ h1 = h ∧ s1 = sz)) h sz k n 206 [(0, .ref x), (1, .int (l_sum (fun t => S 0 (t * 7 + 0) + S 0 (t * 7 + 1)) 28)), (2, .int (l_sum (fun t => S 0 (t * 7 + 6)) 28)), (3, .int (z_p S u)), (4, .int 1), (5, .int (nI u))] []) (P) ?_ ?_ _ _ (by omega) (by omega)
    · intro k n hk hn
      refine r_iload C dL_areSums_206 rfl ?_
      refine r_aload_n C dL_areSums_208 rfl rfl ?_
      refine r_iconst C (v := 0) dL_areSums_209 rfl ?_
      refine q_count C hst w (i := 0) (r2 := nI P) (by decide) rfl (num_0.trans h50) rfl ⟨(Nat.le_of_ble_eq_true rfl), (Nat.le_of_ble_eq_true rfl), (by dsimp only; omega), (by dsimp only; omega), (Nat.le_of_ble_eq_true rfl)⟩ dL_areSums_210 ?_
      refine r_icmp_ge C 406 dL_areSums_213 (by decide) (fun _ => ?_) (fun c => absurd (Int32.le_refl _) c)
      refine r_iconst C (v := 0) dL_areSums_406 rfl ?_
      refine r_istore C dL_areSums_407 (by decide) ?_
      refine V.sub [(0, .ref x), (1, .int (l_sum (fun t => S 0 (t * 7 + 0) + S 0 (t * 7 + 1)) 28)), (2, .int (l_sum (fun t => S 0 (t * 7 + 6)) 28)), (3, .int (z_s S (z_p S P) 0)), (4, .int 1), (5, .int (nI 0))] ⟨rfl, rfl, rfl, rfl, rfl, rfl, trivial⟩ ?_
      refine downK (P := fun j k n => k ≤ 1945 + 5 * j → n ≤ 11670 + 30 * j → V p l e ⟨8, 2200, 13200, 154⟩ s m args below meth c G 9 (Qg G below args s 2200 13200 (fun v1 h1 s1 => v1 = (some (.int 1)) ∧ h1 = h ∧ s1 = sz)) h sz k n 409 [(0, .ref x), (1, .int (l_sum (fun t => S 0 (t * 7 + 0) + S 0 (t * 7 + 1)) 28)), (2, .int (l_sum (fun t => S 0 (t * 7 + 6)) 28)), (3, .int (z_s S (z_p S P) j)), (4, .int 1), (5, .int (nI j))] []) (28 - K) ?_ ?_ _ _ (by omega) (by omega)
      · intro k n hk hn
        refine r_iload C dL_areSums_409 rfl ?_
        refine r_aload_n C dL_areSums_411 rfl rfl ?_
        refine r_iconst C (v := 2) dL_areSums_412 rfl ?_
        refine q_count C hst w (i := 2) (r2 := nI (28 - K)) (by decide) rfl (num_2.trans o.stock) rfl ⟨(Nat.le_of_ble_eq_true rfl), (Nat.le_of_ble_eq_true rfl), (by dsimp only; omega), (by dsimp only; omega), (Nat.le_of_ble_eq_true rfl)⟩ dL_areSums_413 ?_
        refine r_icmp_ge C 462 dL_areSums_416 (by decide) (fun _ => ?_) (fun c => absurd (Int32.le_refl _) c)
        refine r_iconst C (v := 0) dL_areSums_462 rfl ?_
        refine r_istore C dL_areSums_463 (by decide) ?_
        refine V.sub [(0, .ref x), (1, .int (l_sum (fun t => S 0 (t * 7 + 0) + S 0 (t * 7 + 1)) 28)), (2, .int (l_sum (fun t => S 0 (t * 7 + 6)) 28)), (3, .int (z_l S (z_s S (z_p S P) (28 - K)) 0)), (4, .int 1), (5, .int (nI 0))] ⟨rfl, rfl, rfl, rfl, rfl, rfl, trivial⟩ ?_
        refine downK (P := fun j k n => k ≤ 2086 + 2 * j → n ≤ 12516 + 12 * j → V p l e ⟨8, 2200, 13200, 154⟩ s m args below meth c G 9 (Qg G below args s 2200 13200 (fun v1 h1 s1 => v1 = (some (.int 1)) ∧ h1 = h ∧ s1 = sz)) h sz k n 465 [(0, .ref x), (1, .int (l_sum (fun t => S 0 (t * 7 + 0) + S 0 (t * 7 + 1)) 28)), (2, .int (l_sum (fun t => S 0 (t * 7 + 6)) 28)), (3, .int (z_l S (z_s S (z_p S P) (28 - K)) j)), (4, .int 1), (5, .int (nI j))] []) (28) ?_ ?_ _ _ (by omega) (by omega)
        · intro k n hk hn
          refine r_iload C dL_areSums_465 rfl ?_
          refine r_bipush C (v := 28) dL_areSums_467 rfl ?_
          refine r_icmp_ge C 500 dL_areSums_469 (by decide) (fun _ => ?_) (fun c => absurd (show (28 : Int32) ≤ nI 28 by decide) c)
          refine r_aload_n C dL_areSums_500 rfl rfl ?_
          refine r_iconst C (v := 0) dL_areSums_501 rfl ?_
          refine r_iconst C (v := 0) dL_areSums_502 rfl ?_
          refine q_row C hst w (t := 0) (i := 0) (by decide) (by decide) rfl rfl rfl ⟨(Nat.le_of_ble_eq_true rfl), (Nat.le_of_ble_eq_true rfl), (by dsimp only; omega), (by dsimp only; omega), (Nat.le_of_ble_eq_true rfl)⟩ dL_areSums_503 ?_
          refine r_aload_n C dL_areSums_506 rfl rfl ?_
          refine r_iconst C (v := 1) dL_areSums_507 rfl ?_
          refine r_iconst C (v := 0) dL_areSums_508 rfl ?_
          refine q_row C hst w (t := 1) (i := 0) (by decide) (by decide) rfl rfl rfl ⟨(Nat.le_of_ble_eq_true rfl), (Nat.le_of_ble_eq_true rfl), (by dsimp only; omega), (by dsimp only; omega), (Nat.le_of_ble_eq_true rfl)⟩ dL_areSums_509 ?_
          refine r_iadd C dL_areSums_512 ?_
          refine r_aload_n C dL_areSums_513 rfl rfl ?_
          refine r_iconst C (v := 2) dL_areSums_514 rfl ?_
          refine r_iconst C (v := 0) dL_areSums_515 rfl ?_
          refine q_row C hst w (t := 2) (i := 0) (by decide) (by decide) rfl rfl rfl ⟨(Nat.le_of_ble_eq_true rfl), (Nat.le_of_ble_eq_true rfl), (by dsimp only; omega), (by dsimp only; omega), (Nat.le_of_ble_eq_true rfl)⟩ dL_areSums_516 ?_
          refine r_iadd C dL_areSums_519 ?_
          refine r_istore C dL_areSums_520 (by decide) ?_
          refine r_iload C dL_areSums_522 rfl ?_
          refine r_if_eq C 602 dL_areSums_524 (by decide) (fun c => absurd c (by decide)) (fun _ => ?_)
          refine r_iload_n C dL_areSums_527 rfl rfl ?_
          refine r_ldc C kc_L_69 dL_areSums_528 ?_
          refine r_icmp_ne C 602 dL_areSums_530 (by decide) (fun c => absurd (o.seen y) c) (fun _ => ?_)
          refine r_iload_n C dL_areSums_533 rfl rfl ?_
          refine r_iload_n C dL_areSums_534 rfl rfl ?_
          refine r_iadd C dL_areSums_535 ?_
          refine r_sipush C (v := 168) dL_areSums_536 rfl ?_
          refine r_icmp_ne C 602 dL_areSums_539 (by decide) (fun c => absurd (o.all yr) c) (fun _ => ?_)
          refine r_iload_n C dL_areSums_542 rfl rfl ?_
          refine r_aload_n C dL_areSums_543 rfl rfl ?_
          refine r_bipush C (v := 7) dL_areSums_544 rfl ?_
          refine q_count C hst w (i := 7) (r2 := g_tal S 1) (by decide) rfl num_7 rfl ⟨(Nat.le_of_ble_eq_true rfl), (Nat.le_of_ble_eq_true rfl), (by dsimp only; omega), (by dsimp only; omega), (Nat.le_of_ble_eq_true rfl)⟩ dL_areSums_546 ?_
          refine r_icmp_ne C 602 dL_areSums_549 (by decide) (fun c => absurd (o.rusted yr) c) (fun _ => ?_)
          refine r_aload_n C dL_areSums_552 rfl rfl ?_
          refine q_share C w o.share.1 rfl ⟨(Nat.le_of_ble_eq_true rfl), (Nat.le_of_ble_eq_true rfl), (by dsimp only; omega), (by dsimp only; omega), (Nat.le_of_ble_eq_true rfl)⟩ dL_areSums_553 ?_
          refine r_iload_n C dL_areSums_556 rfl rfl ?_
          refine r_i2d C dL_areSums_557 ?_
          refine r_ldcd C kd_L_74 dL_areSums_558 ?_
          refine r_ddiv C dL_areSums_561 (by rw [o.rusted yr]; exact o.share.1) ?_
          refine r_dcmp C dL_areSums_562 ?_
          refine r_if_ne C 602 dL_areSums_563 (by decide) (fun c => absurd (by rw [o.rusted yr]; exact o.share.2) c) (fun _ => ?_)
          refine r_aload_n C dL_areSums_566 rfl rfl ?_
          refine r_iconst C (v := 2) dL_areSums_567 rfl ?_
          refine q_count C hst w (i := 2) (r2 := g_stock S) (by decide) rfl num_2 rfl ⟨(Nat.le_of_ble_eq_true rfl), (Nat.le_of_ble_eq_true rfl), (by dsimp only; omega), (by dsimp only; omega), (Nat.le_of_ble_eq_true rfl)⟩ dL_areSums_568 ?_
          refine r_aload_n C dL_areSums_571 rfl rfl ?_
          refine r_iconst C (v := 3) dL_areSums_572 rfl ?_
          refine q_count C hst w (i := 3) (r2 := g_tal S 0) (by decide) rfl num_3 rfl ⟨(Nat.le_of_ble_eq_true rfl), (Nat.le_of_ble_eq_true rfl), (by dsimp only; omega), (by dsimp only; omega), (Nat.le_of_ble_eq_true rfl)⟩ dL_areSums_573 ?_
          refine r_iadd C dL_areSums_576 ?_
          refine r_aload_n C dL_areSums_577 rfl rfl ?_
          refine r_iconst C (v := 4) dL_areSums_578 rfl ?_
          refine q_count C hst w (i := 4) (r2 := g_tal S 2) (by decide) rfl num_4 rfl ⟨(Nat.le_of_ble_eq_true rfl), (Nat.le_of_ble_eq_true rfl), (by dsimp only; omega), (by dsimp only; omega), (Nat.le_of_ble_eq_true rfl)⟩ dL_areSums_579 ?_
          refine r_iadd C dL_areSums_582 ?_
          refine r_bipush C (v := 28) dL_areSums_583 rfl ?_
          refine r_icmp_ne C 602 dL_areSums_585 (by decide) (fun c => absurd (o.three yl) c) (fun _ => ?_)
          refine r_iload C dL_areSums_588 rfl ?_
          refine r_aload_n C dL_areSums_590 rfl rfl ?_
          refine r_iconst C (v := 4) dL_areSums_591 rfl ?_
          refine q_count C hst w (i := 4) (r2 := g_tal S 2) (by decide) rfl num_4 rfl ⟨(Nat.le_of_ble_eq_true rfl), (Nat.le_of_ble_eq_true rfl), (by dsimp only; omega), (by dsimp only; omega), (Nat.le_of_ble_eq_true rfl)⟩ dL_areSums_592 ?_
          refine r_icmp_ne C 602 dL_areSums_595 (by decide) (fun c => absurd (o.rows yl) c) (fun _ => ?_)
          refine r_iconst C (v := 1) dL_areSums_598 rfl ?_
          refine r_goto C 603 dL_areSums_599 (by decide) ?_
          refine r_istore C dL_areSums_603 (by decide) ?_
          refine r_iload C dL_areSums_605 rfl ?_
          refine r_if_eq C 690 dL_areSums_607 (by decide) (fun c => absurd c (by decide)) (fun _ => ?_)
          refine r_aload_n C dL_areSums_610 rfl rfl ?_
          refine r_bipush C (v := 6) dL_areSums_611 rfl ?_
          refine q_count C hst w (i := 6) (r2 := nI Q) (by decide) rfl (num_6.trans o.n5.2.2.2.2.1) rfl ⟨(Nat.le_of_ble_eq_true rfl), (Nat.le_of_ble_eq_true rfl), (by dsimp only; omega), (by dsimp only; omega), (Nat.le_of_ble_eq_true rfl)⟩ dL_areSums_613 ?_
          refine r_aload_n C dL_areSums_616 rfl rfl ?_
          refine r_iconst C (v := 5) dL_areSums_617 rfl ?_
          refine q_count C hst w (i := 5) (r2 := nI T) (by decide) rfl (num_5.trans o.n5.2.2.2.1) rfl ⟨(Nat.le_of_ble_eq_true rfl), (Nat.le_of_ble_eq_true rfl), (by dsimp only; omega), (by dsimp only; omega), (Nat.le_of_ble_eq_true rfl)⟩ dL_areSums_618 ?_
          refine r_icmp_gt C 690 dL_areSums_621 (by decide) (fun c => absurd c (nI_nlt z1 (by omega))) (fun _ => ?_)
          refine r_aload_n C dL_areSums_624 rfl rfl ?_
          refine r_bipush C (v := 6) dL_areSums_625 rfl ?_
          refine q_count C hst w (i := 6) (r2 := nI Q) (by decide) rfl (num_6.trans o.n5.2.2.2.2.1) rfl ⟨(Nat.le_of_ble_eq_true rfl), (Nat.le_of_ble_eq_true rfl), (by dsimp only; omega), (by dsimp only; omega), (Nat.le_of_ble_eq_true rfl)⟩ dL_areSums_627 ?_
          refine r_aload_n C dL_areSums_630 rfl rfl ?_
          refine r_iconst C (v := 0) dL_areSums_631 rfl ?_
          refine q_count C hst w (i := 0) (r2 := nI P) (by decide) rfl (num_0.trans h50) rfl ⟨(Nat.le_of_ble_eq_true rfl), (Nat.le_of_ble_eq_true rfl), (by dsimp only; omega), (by dsimp only; omega), (Nat.le_of_ble_eq_true rfl)⟩ dL_areSums_632 ?_
          refine r_icmp_gt C 690 dL_areSums_635 (by decide) (fun c => absurd c (nI_nlt hQP (by omega))) (fun _ => ?_)
          refine r_aload_n C dL_areSums_638 rfl rfl ?_
          refine r_bipush C (v := 6) dL_areSums_639 rfl ?_
          refine q_count C hst w (i := 6) (r2 := nI Q) (by decide) rfl (num_6.trans o.n5.2.2.2.2.1) rfl ⟨(Nat.le_of_ble_eq_true rfl), (Nat.le_of_ble_eq_true rfl), (by dsimp only; omega), (by dsimp only; omega), (Nat.le_of_ble_eq_true rfl)⟩ dL_areSums_641 ?_
          refine r_if_eq C 655 dL_areSums_644 (by decide) (fun c_644 => ?_) (fun c_644 => ?_)
          · rcases o.mv with hm | ⟨m0, hm0, hm⟩
            · obtain ⟨wn, hwn0, hwn, -⟩ := o.winN hm
              refine r_aload_n C dL_areSums_655 rfl rfl ?_
              refine r_bipush C (v := 8) dL_areSums_656 rfl ?_
              refine q_count C hst w (i := 8) (r2 := nI wn) (by decide) rfl (num_8.trans hwn) rfl ⟨(Nat.le_of_ble_eq_true rfl), (Nat.le_of_ble_eq_true rfl), (by dsimp only; omega), (by dsimp only; omega), (Nat.le_of_ble_eq_true rfl)⟩ dL_areSums_658 ?_
              refine r_iconst C (v := -1) dL_areSums_661 rfl ?_
              refine r_icmp_ne C 669 dL_areSums_662 (by decide) (fun _ => ?_) (fun c => absurd c (nI_ne1 (by omega)))
              refine r_iconst C (v := 0) dL_areSums_669 rfl ?_
              refine r_aload_n C dL_areSums_670 rfl rfl ?_
              refine r_iconst C (v := 1) dL_areSums_671 rfl ?_
              refine q_count C hst w (i := 1) (r2 := -1) (by decide) rfl (num_1.trans hm) rfl ⟨(Nat.le_of_ble_eq_true rfl), (Nat.le_of_ble_eq_true rfl), (by dsimp only; omega), (by dsimp only; omega), (Nat.le_of_ble_eq_true rfl)⟩ dL_areSums_672 ?_
              refine r_if_lt C 682 dL_areSums_675 (by decide) (fun _ => ?_) (fun c => absurd (by decide) c)
              refine r_iconst C (v := 0) dL_areSums_682 rfl ?_
              refine r_icmp_ne C 690 dL_areSums_683 (by decide) (fun c => absurd rfl c) (fun _ => ?_)
              refine r_iconst C (v := 1) dL_areSums_686 rfl ?_
              refine r_goto C 691 dL_areSums_687 (by decide) ?_
              exact r_zret C rfl (Or.inr rfl) (by omega) (by omega) ⟨rfl, rfl, rfl⟩ dL_areSums_691
            · refine r_aload_n C dL_areSums_655 rfl rfl ?_
              refine r_bipush C (v := 8) dL_areSums_656 rfl ?_
              refine q_count C hst w (i := 8) (r2 := -1) (by decide) rfl (num_8.trans (o.win0 hm0 hm)) rfl ⟨(Nat.le_of_ble_eq_true rfl), (Nat.le_of_ble_eq_true rfl), (by dsimp only; omega), (by dsimp only; omega), (Nat.le_of_ble_eq_true rfl)⟩ dL_areSums_658 ?_
              refine r_iconst C (v := -1) dL_areSums_661 rfl ?_
              refine r_icmp_ne C 669 dL_areSums_662 (by decide) (fun c => absurd rfl c) (fun _ => ?_)
              refine r_iconst C (v := 1) dL_areSums_665 rfl ?_
              refine r_goto C 670 dL_areSums_666 (by decide) ?_
              refine r_aload_n C dL_areSums_670 rfl rfl ?_
              refine r_iconst C (v := 1) dL_areSums_671 rfl ?_
              refine q_count C hst w (i := 1) (r2 := nI m0) (by decide) rfl (num_1.trans hm) rfl ⟨(Nat.le_of_ble_eq_true rfl), (Nat.le_of_ble_eq_true rfl), (by dsimp only; omega), (by dsimp only; omega), (Nat.le_of_ble_eq_true rfl)⟩ dL_areSums_672 ?_
              refine r_if_lt C 682 dL_areSums_675 (by decide) (fun c => absurd c (nI_pos (by omega))) (fun _ => ?_)
              refine r_iconst C (v := 1) dL_areSums_678 rfl ?_
              refine r_goto C 683 dL_areSums_679 (by decide) ?_
              refine r_icmp_ne C 690 dL_areSums_683 (by decide) (fun c => absurd rfl c) (fun _ => ?_)
              refine r_iconst C (v := 1) dL_areSums_686 rfl ?_
              refine r_goto C 691 dL_areSums_687 (by decide) ?_
              exact r_zret C rfl (Or.inr rfl) (by omega) (by omega) ⟨rfl, rfl, rfl⟩ dL_areSums_691
          · refine r_aload_n C dL_areSums_647 rfl rfl ?_
            refine r_iconst C (v := 2) dL_areSums_648 rfl ?_
            refine q_count C hst w (i := 2) (r2 := g_stock S) (by decide) rfl num_2 rfl ⟨(Nat.le_of_ble_eq_true rfl), (Nat.le_of_ble_eq_true rfl), (by dsimp only; omega), (by dsimp only; omega), (Nat.le_of_ble_eq_true rfl)⟩ dL_areSums_649 ?_
            refine r_if_ne C 690 dL_areSums_652 (by decide) (fun c => absurd ((stock_0 o).mpr (z2.resolve_left (fun q => c_644 (by rw [q]; rfl)))) c) (fun _ => ?_)
            rcases o.mv with hm | ⟨m0, hm0, hm⟩
            · obtain ⟨wn, hwn0, hwn, -⟩ := o.winN hm
              refine r_aload_n C dL_areSums_655 rfl rfl ?_
              refine r_bipush C (v := 8) dL_areSums_656 rfl ?_
              refine q_count C hst w (i := 8) (r2 := nI wn) (by decide) rfl (num_8.trans hwn) rfl ⟨(Nat.le_of_ble_eq_true rfl), (Nat.le_of_ble_eq_true rfl), (by dsimp only; omega), (by dsimp only; omega), (Nat.le_of_ble_eq_true rfl)⟩ dL_areSums_658 ?_
              refine r_iconst C (v := -1) dL_areSums_661 rfl ?_
              refine r_icmp_ne C 669 dL_areSums_662 (by decide) (fun _ => ?_) (fun c => absurd c (nI_ne1 (by omega)))
              refine r_iconst C (v := 0) dL_areSums_669 rfl ?_
              refine r_aload_n C dL_areSums_670 rfl rfl ?_
              refine r_iconst C (v := 1) dL_areSums_671 rfl ?_
              refine q_count C hst w (i := 1) (r2 := -1) (by decide) rfl (num_1.trans hm) rfl ⟨(Nat.le_of_ble_eq_true rfl), (Nat.le_of_ble_eq_true rfl), (by dsimp only; omega), (by dsimp only; omega), (Nat.le_of_ble_eq_true rfl)⟩ dL_areSums_672 ?_
              refine r_if_lt C 682 dL_areSums_675 (by decide) (fun _ => ?_) (fun c => absurd (by decide) c)
              refine r_iconst C (v := 0) dL_areSums_682 rfl ?_
              refine r_icmp_ne C 690 dL_areSums_683 (by decide) (fun c => absurd rfl c) (fun _ => ?_)
              refine r_iconst C (v := 1) dL_areSums_686 rfl ?_
              refine r_goto C 691 dL_areSums_687 (by decide) ?_
              exact r_zret C rfl (Or.inr rfl) (by omega) (by omega) ⟨rfl, rfl, rfl⟩ dL_areSums_691
            · refine r_aload_n C dL_areSums_655 rfl rfl ?_
              refine r_bipush C (v := 8) dL_areSums_656 rfl ?_
              refine q_count C hst w (i := 8) (r2 := -1) (by decide) rfl (num_8.trans (o.win0 hm0 hm)) rfl ⟨(Nat.le_of_ble_eq_true rfl), (Nat.le_of_ble_eq_true rfl), (by dsimp only; omega), (by dsimp only; omega), (Nat.le_of_ble_eq_true rfl)⟩ dL_areSums_658 ?_
              refine r_iconst C (v := -1) dL_areSums_661 rfl ?_
              refine r_icmp_ne C 669 dL_areSums_662 (by decide) (fun c => absurd rfl c) (fun _ => ?_)
              refine r_iconst C (v := 1) dL_areSums_665 rfl ?_
              refine r_goto C 670 dL_areSums_666 (by decide) ?_
              refine r_aload_n C dL_areSums_670 rfl rfl ?_
              refine r_iconst C (v := 1) dL_areSums_671 rfl ?_
              refine q_count C hst w (i := 1) (r2 := nI m0) (by decide) rfl (num_1.trans hm) rfl ⟨(Nat.le_of_ble_eq_true rfl), (Nat.le_of_ble_eq_true rfl), (by dsimp only; omega), (by dsimp only; omega), (Nat.le_of_ble_eq_true rfl)⟩ dL_areSums_672 ?_
              refine r_if_lt C 682 dL_areSums_675 (by decide) (fun c => absurd c (nI_pos (by omega))) (fun _ => ?_)
              refine r_iconst C (v := 1) dL_areSums_678 rfl ?_
              refine r_goto C 683 dL_areSums_679 (by decide) ?_
              refine r_icmp_ne C 690 dL_areSums_683 (by decide) (fun c => absurd rfl c) (fun _ => ?_)
              refine r_iconst C (v := 1) dL_areSums_686 rfl ?_
              refine r_goto C 691 dL_areSums_687 (by decide) ?_
              exact r_zret C rfl (Or.inr rfl) (by omega) (by omega) ⟨rfl, rfl, rfl⟩ dL_areSums_691
        · intro j h_j ih_j k n hk hn
          refine r_iload C dL_areSums_465 rfl ?_
          refine r_bipush C (v := 28) dL_areSums_467 rfl ?_
          refine r_icmp_ge C 500 dL_areSums_469 (by decide) (fun c => absurd c (nI_ge (b := 28) h_j (by decide))) (fun _ => ?_)
          refine r_iload_n C dL_areSums_472 rfl rfl ?_
          refine r_aload_n C dL_areSums_473 rfl rfl ?_
          refine r_iload C dL_areSums_474 rfl ?_
          refine r_iconst C (v := 2) dL_areSums_476 rfl ?_
          refine q_tile C hst w (t := j) (i := 2) h_j (by decide) rfl rfl rfl ⟨(Nat.le_of_ble_eq_true rfl), (Nat.le_of_ble_eq_true rfl), (by dsimp only; omega), (by dsimp only; omega), (Nat.le_of_ble_eq_true rfl)⟩ dL_areSums_477 ?_
          refine r_iconst C (v := 2) dL_areSums_480 rfl ?_
          refine r_icmp_ne C 491 dL_areSums_481 (by decide) (fun c_481 => ?_) (fun c_481 => ?_)
          · refine r_iconst C (v := 0) dL_areSums_491 rfl ?_
            refine r_ixor C dL_areSums_492 ?_
            refine r_istore_n C dL_areSums_493 rfl (by decide) ?_
            refine r_iinc C (v := 1) dL_areSums_494 rfl rfl (by decide) ?_
            refine r_goto C 465 dL_areSums_497 (by decide) ?_
            refine V.sub [(0, .ref x), (1, .int (l_sum (fun t => S 0 (t * 7 + 0) + S 0 (t * 7 + 1)) 28)), (2, .int (l_sum (fun t => S 0 (t * 7 + 6)) 28)), (3, .int (z_l S (z_s S (z_p S P) (28 - K)) (j + 1))), (4, .int 1), (5, .int (nI (j + 1)))] ⟨rfl, rfl, rfl, (by show _ = some (Value.int (z_l S (z_s S (z_p S P) (28 - K)) j ^^^ (if S 0 (j * 7 + 2) = 2 then (1 : Int32) <<< (nI j &&& 31) else 0))); rw [if_neg c_481]; rfl), rfl, (by rw [← nI_1 j]; rfl), trivial⟩ ?_
            exact ih_j _ _ (by omega) (by omega)
          · refine r_iconst C (v := 1) dL_areSums_484 rfl ?_
            refine r_iload C dL_areSums_485 rfl ?_
            refine r_ishl C dL_areSums_487 ?_
            refine r_goto C 492 dL_areSums_488 (by decide) ?_
            refine r_ixor C dL_areSums_492 ?_
            refine r_istore_n C dL_areSums_493 rfl (by decide) ?_
            refine r_iinc C (v := 1) dL_areSums_494 rfl rfl (by decide) ?_
            refine r_goto C 465 dL_areSums_497 (by decide) ?_
            refine V.sub [(0, .ref x), (1, .int (l_sum (fun t => S 0 (t * 7 + 0) + S 0 (t * 7 + 1)) 28)), (2, .int (l_sum (fun t => S 0 (t * 7 + 6)) 28)), (3, .int (z_l S (z_s S (z_p S P) (28 - K)) (j + 1))), (4, .int 1), (5, .int (nI (j + 1)))] ⟨rfl, rfl, rfl, (by show _ = some (Value.int (z_l S (z_s S (z_p S P) (28 - K)) j ^^^ (if S 0 (j * 7 + 2) = 2 then (1 : Int32) <<< (nI j &&& 31) else 0))); rw [if_pos c_481]; rfl), rfl, (by rw [← nI_1 j]; rfl), trivial⟩ ?_
            exact ih_j _ _ (by omega) (by omega)
      · intro j h_j ih_j k n hk hn
        obtain ⟨t, ht, e1, e2, e3⟩ := o.stockAt (i := j) h_j
        have hw := (y.2.2.1 (K + j) (by omega) t ht e1).mp (by omega)
        refine r_iload C dL_areSums_409 rfl ?_
        refine r_aload_n C dL_areSums_411 rfl rfl ?_
        refine r_iconst C (v := 2) dL_areSums_412 rfl ?_
        refine q_count C hst w (i := 2) (r2 := nI (28 - K)) (by decide) rfl (num_2.trans o.stock) rfl ⟨(Nat.le_of_ble_eq_true rfl), (Nat.le_of_ble_eq_true rfl), (by dsimp only; omega), (by dsimp only; omega), (Nat.le_of_ble_eq_true rfl)⟩ dL_areSums_413 ?_
        refine r_icmp_ge C 462 dL_areSums_416 (by decide) (fun c => absurd c (nI_ge h_j (by omega))) (fun _ => ?_)
        refine r_iload_n C dL_areSums_419 rfl rfl ?_
        refine r_iconst C (v := 1) dL_areSums_420 rfl ?_
        refine r_aload_n C dL_areSums_421 rfl rfl ?_
        refine r_iload C dL_areSums_422 rfl ?_
        refine q_stock C hst w (i := j) (r2 := nI t) (by omega) rfl e3 rfl ⟨(Nat.le_of_ble_eq_true rfl), (Nat.le_of_ble_eq_true rfl), (by dsimp only; omega), (by dsimp only; omega), (Nat.le_of_ble_eq_true rfl)⟩ dL_areSums_424 ?_
        refine r_ishl C dL_areSums_427 ?_
        refine r_ixor C dL_areSums_428 ?_
        refine r_istore_n C dL_areSums_429 rfl (by decide) ?_
        refine r_iload C dL_areSums_430 rfl ?_
        refine r_if_eq C 453 dL_areSums_432 (by decide) (fun c => absurd c (by decide)) (fun _ => ?_)
        refine r_aload_n C dL_areSums_435 rfl rfl ?_
        refine r_aload_n C dL_areSums_436 rfl rfl ?_
        refine r_iload C dL_areSums_437 rfl ?_
        refine q_stock C hst w (i := j) (r2 := nI t) (by omega) rfl e3 rfl ⟨(Nat.le_of_ble_eq_true rfl), (Nat.le_of_ble_eq_true rfl), (by dsimp only; omega), (by dsimp only; omega), (Nat.le_of_ble_eq_true rfl)⟩ dL_areSums_439 ?_
        refine r_iconst C (v := 2) dL_areSums_442 rfl ?_
        refine q_tile C hst w (t := t) (i := 2) ht (by decide) rfl rfl rfl ⟨(Nat.le_of_ble_eq_true rfl), (Nat.le_of_ble_eq_true rfl), (by dsimp only; omega), (by dsimp only; omega), (Nat.le_of_ble_eq_true rfl)⟩ dL_areSums_443 ?_
        refine r_if_ne C 453 dL_areSums_446 (by decide) (fun c => absurd hw c) (fun _ => ?_)
        refine r_iconst C (v := 1) dL_areSums_449 rfl ?_
        refine r_goto C 454 dL_areSums_450 (by decide) ?_
        refine r_istore C dL_areSums_454 (by decide) ?_
        refine r_iinc C (v := 1) dL_areSums_456 rfl rfl (by decide) ?_
        refine r_goto C 409 dL_areSums_459 (by decide) ?_
        refine V.sub [(0, .ref x), (1, .int (l_sum (fun t => S 0 (t * 7 + 0) + S 0 (t * 7 + 1)) 28)), (2, .int (l_sum (fun t => S 0 (t * 7 + 6)) 28)), (3, .int (z_s S (z_p S P) (j + 1))), (4, .int 1), (5, .int (nI (j + 1)))] ⟨rfl, rfl, rfl, (by show _ = some (Value.int (z_s S (z_p S P) j ^^^ ((1 : Int32) <<< (g_stile S (nI j) &&& 31)))); rw [e2]; rfl), rfl, (by rw [← nI_1 j]; rfl), trivial⟩ ?_
        exact ih_j _ _ (by omega) (by omega)
    · intro u h_u ih_u k n hk hn
      have hHu : H u ≤ 28 := Nat.le_trans (oh_le o.hh (show u < 4 by omega)) hK
      refine r_iload C dL_areSums_206 rfl ?_
      refine r_aload_n C dL_areSums_208 rfl rfl ?_
      refine r_iconst C (v := 0) dL_areSums_209 rfl ?_
      refine q_count C hst w (i := 0) (r2 := nI P) (by decide) rfl (num_0.trans h50) rfl ⟨(Nat.le_of_ble_eq_true rfl), (Nat.le_of_ble_eq_true rfl), (by dsimp only; omega), (by dsimp only; omega), (Nat.le_of_ble_eq_true rfl)⟩ dL_areSums_210 ?_
      refine r_icmp_ge C 406 dL_areSums_213 (by decide) (fun c => absurd c (nI_ge h_u (by omega))) (fun _ => ?_)
      refine r_iconst C (v := 0) dL_areSums_216 rfl ?_
      refine r_istore C dL_areSums_217 (by decide) ?_
      refine r_iconst C (v := 0) dL_areSums_219 rfl ?_
      refine r_istore C dL_areSums_220 (by decide) ?_
      refine V.sub [(0, .ref x), (1, .int (l_sum (fun t => S 0 (t * 7 + 0) + S 0 (t * 7 + 1)) 28)), (2, .int (l_sum (fun t => S 0 (t * 7 + 6)) 28)), (3, .int (z_h S u (z_p S u) 0)), (4, .int 1), (5, .int (nI u)), (6, .int (l_sum (fun j => g_grades S (g_hand S (nI u) (nI j))) 0)), (7, .int (nI 0))] ⟨rfl, rfl, rfl, rfl, rfl, rfl, rfl, rfl, trivial⟩ ?_
      refine downK (P := fun j k n => k ≤ 504 + 360 * u + 1 + 12 * j → n ≤ 3024 + 2160 * u + 6 + 72 * j → V p l e ⟨8, 2200, 13200, 154⟩ s m args below meth c G 9 (Qg G below args s 2200 13200 (fun v1 h1 s1 => v1 = (some (.int 1)) ∧ h1 = h ∧ s1 = sz)) h sz k n 222 [(0, .ref x), (1, .int (l_sum (fun t => S 0 (t * 7 + 0) + S 0 (t * 7 + 1)) 28)), (2, .int (l_sum (fun t => S 0 (t * 7 + 6)) 28)), (3, .int (z_h S u (z_p S u) j)), (4, .int 1), (5, .int (nI u)), (6, .int (l_sum (fun j => g_grades S (g_hand S (nI u) (nI j))) j)), (7, .int (nI j))] []) (H u) ?_ ?_ _ _ (by omega) (by omega)
      · intro k n hk hn
        refine r_iload C dL_areSums_222 rfl ?_
        refine r_aload_n C dL_areSums_224 rfl rfl ?_
        refine r_iload C dL_areSums_225 rfl ?_
        refine r_iconst C (v := 0) dL_areSums_227 rfl ?_
        refine q_prop C hst w (i := 0) (r2 := nI (H u)) (has_i h50 hP4 h_u) (by decide) rfl (prop_0.trans (o.held (p := u) (by omega))) rfl ⟨(Nat.le_of_ble_eq_true rfl), (Nat.le_of_ble_eq_true rfl), (by dsimp only; omega), (by dsimp only; omega), (Nat.le_of_ble_eq_true rfl)⟩ dL_areSums_228 ?_
        refine r_icmp_ge C 312 dL_areSums_231 (by decide) (fun _ => ?_) (fun c => absurd (Int32.le_refl _) c)
        refine r_iload C dL_areSums_312 rfl ?_
        refine r_if_eq C 397 dL_areSums_314 (by decide) (fun c => absurd c (by decide)) (fun _ => ?_)
        refine r_iload C dL_areSums_317 rfl ?_
        refine r_aload_n C dL_areSums_319 rfl rfl ?_
        refine r_iload C dL_areSums_320 rfl ?_
        refine r_iconst C (v := 1) dL_areSums_322 rfl ?_
        refine q_prop C hst w (i := 1) (r2 := (l_sum (fun j => g_grades S (g_hand S (nI u) (nI j))) (H u))) (has_i h50 hP4 h_u) (by decide) rfl (prop_1.trans (o.gh (by omega))) rfl ⟨(Nat.le_of_ble_eq_true rfl), (Nat.le_of_ble_eq_true rfl), (by dsimp only; omega), (by dsimp only; omega), (Nat.le_of_ble_eq_true rfl)⟩ dL_areSums_323 ?_
        refine r_icmp_ne C 397 dL_areSums_326 (by decide) (fun c => absurd rfl c) (fun _ => ?_)
        refine r_aload_n C dL_areSums_329 rfl rfl ?_
        refine r_iload C dL_areSums_330 rfl ?_
        refine r_iconst C (v := 3) dL_areSums_332 rfl ?_
        refine q_prop C hst w (i := 3) (r2 := (l_sum (fun j => g_grades S (g_hand S (nI u) (nI j))) (H u)) + tAt 4 16 (S 2) (nI u) 1) (has_i h50 hP4 h_u) (by decide) rfl (prop_3.trans (by unfold g_sum; rw [o.gh (show u < 4 by omega)])) rfl ⟨(Nat.le_of_ble_eq_true rfl), (Nat.le_of_ble_eq_true rfl), (by dsimp only; omega), (by dsimp only; omega), (Nat.le_of_ble_eq_true rfl)⟩ dL_areSums_333 ?_
        refine r_iload C dL_areSums_336 rfl ?_
        refine r_aload_n C dL_areSums_338 rfl rfl ?_
        refine r_iload C dL_areSums_339 rfl ?_
        refine r_iconst C (v := 2) dL_areSums_341 rfl ?_
        refine q_prop C hst w (i := 2) (r2 := tAt 4 16 (S 2) (nI u) 1) (has_i h50 hP4 h_u) (by decide) rfl prop_2 rfl ⟨(Nat.le_of_ble_eq_true rfl), (Nat.le_of_ble_eq_true rfl), (by dsimp only; omega), (by dsimp only; omega), (Nat.le_of_ble_eq_true rfl)⟩ dL_areSums_342 ?_
        refine r_iadd C dL_areSums_345 ?_
        refine r_icmp_ne C 397 dL_areSums_346 (by decide) (fun c => absurd rfl c) (fun _ => ?_)
        refine r_aload_n C dL_areSums_349 rfl rfl ?_
        refine r_iload C dL_areSums_350 rfl ?_
        refine r_iconst C (v := 0) dL_areSums_352 rfl ?_
        refine q_prop C hst w (i := 0) (r2 := nI (H u)) (has_i h50 hP4 h_u) (by decide) rfl (prop_0.trans (o.held (p := u) (by omega))) rfl ⟨(Nat.le_of_ble_eq_true rfl), (Nat.le_of_ble_eq_true rfl), (by dsimp only; omega), (by dsimp only; omega), (Nat.le_of_ble_eq_true rfl)⟩ dL_areSums_353 ?_
        refine r_iconst C (v := 5) dL_areSums_356 rfl ?_
        refine r_aload_n C dL_areSums_357 rfl rfl ?_
        refine r_iload C dL_areSums_358 rfl ?_
        refine r_iconst C (v := 5) dL_areSums_360 rfl ?_
        refine q_prop C hst w (i := 5) (r2 := tAt 4 16 (S 2) (nI u) 3) (has_i h50 hP4 h_u) (by decide) rfl prop_5 rfl ⟨(Nat.le_of_ble_eq_true rfl), (Nat.le_of_ble_eq_true rfl), (by dsimp only; omega), (by dsimp only; omega), (Nat.le_of_ble_eq_true rfl)⟩ dL_areSums_361 ?_
        refine r_iadd C dL_areSums_364 ?_
        refine r_aload_n C dL_areSums_365 rfl rfl ?_
        refine r_iload C dL_areSums_366 rfl ?_
        refine r_iconst C (v := 4) dL_areSums_368 rfl ?_
        refine q_prop C hst w (i := 4) (r2 := tAt 4 16 (S 2) (nI u) 2) (has_i h50 hP4 h_u) (by decide) rfl prop_4 rfl ⟨(Nat.le_of_ble_eq_true rfl), (Nat.le_of_ble_eq_true rfl), (by dsimp only; omega), (by dsimp only; omega), (Nat.le_of_ble_eq_true rfl)⟩ dL_areSums_369 ?_
        refine r_isub C dL_areSums_372 ?_
        refine r_icmp_ne C 397 dL_areSums_373 (by decide) (fun c => absurd (o.five xx h_u) c) (fun _ => ?_)
        refine r_aload_n C dL_areSums_376 rfl rfl ?_
        refine r_iload C dL_areSums_377 rfl ?_
        refine r_aload_n C dL_areSums_379 rfl rfl ?_
        refine r_iload C dL_areSums_380 rfl ?_
        refine r_iconst C (v := 0) dL_areSums_382 rfl ?_
        refine q_prop C hst w (i := 0) (r2 := nI (H u)) (has_i h50 hP4 h_u) (by decide) rfl (prop_0.trans (o.held (p := u) (by omega))) rfl ⟨(Nat.le_of_ble_eq_true rfl), (Nat.le_of_ble_eq_true rfl), (by dsimp only; omega), (by dsimp only; omega), (Nat.le_of_ble_eq_true rfl)⟩ dL_areSums_383 ?_
        refine q_hand C hst w (i := H u) (r2 := -1) (has_i h50 hP4 h_u) (by omega) rfl (o.noTile (by omega)) rfl ⟨(Nat.le_of_ble_eq_true rfl), (Nat.le_of_ble_eq_true rfl), (by dsimp only; omega), (by dsimp only; omega), (Nat.le_of_ble_eq_true rfl)⟩ dL_areSums_386 ?_
        refine r_iconst C (v := -1) dL_areSums_389 rfl ?_
        refine r_icmp_ne C 397 dL_areSums_390 (by decide) (fun c => absurd rfl c) (fun _ => ?_)
        refine r_iconst C (v := 1) dL_areSums_393 rfl ?_
        refine r_goto C 398 dL_areSums_394 (by decide) ?_
        refine r_istore C dL_areSums_398 (by decide) ?_
        refine r_iinc C (v := 1) dL_areSums_400 rfl rfl (by decide) ?_
        refine r_goto C 206 dL_areSums_403 (by decide) ?_
        refine V.sub [(0, .ref x), (1, .int (l_sum (fun t => S 0 (t * 7 + 0) + S 0 (t * 7 + 1)) 28)), (2, .int (l_sum (fun t => S 0 (t * 7 + 6)) 28)), (3, .int (z_p S (u + 1))), (4, .int 1), (5, .int (nI (u + 1)))] ⟨rfl, rfl, rfl, (by show _ = some (Value.int (z_h S u (z_p S u) (g_held S (nI u)).toNatClampNeg)); rw [show g_held S (nI u) = nI (H u) from o.held (by omega), nI_clamp (by omega)]; rfl), rfl, (by rw [← nI_1 u]; rfl), trivial⟩ ?_
        exact ih_u _ _ (by omega) (by omega)
      · intro j h_j ih_j k n hk hn
        obtain ⟨t, ht, e1, e2, e3⟩ := o.tileAt (p := u) (i := j) (by omega) h_j
        have hw := y.2.1 u h_u j h_j t ht e1
        refine r_iload C dL_areSums_222 rfl ?_
        refine r_aload_n C dL_areSums_224 rfl rfl ?_
        refine r_iload C dL_areSums_225 rfl ?_
        refine r_iconst C (v := 0) dL_areSums_227 rfl ?_
        refine q_prop C hst w (i := 0) (r2 := nI (H u)) (has_i h50 hP4 h_u) (by decide) rfl (prop_0.trans (o.held (p := u) (by omega))) rfl ⟨(Nat.le_of_ble_eq_true rfl), (Nat.le_of_ble_eq_true rfl), (by dsimp only; omega), (by dsimp only; omega), (Nat.le_of_ble_eq_true rfl)⟩ dL_areSums_228 ?_
        refine r_icmp_ge C 312 dL_areSums_231 (by decide) (fun c => absurd c (nI_ge h_j (by omega))) (fun _ => ?_)
        refine r_aload_n C dL_areSums_234 rfl rfl ?_
        refine r_iload C dL_areSums_235 rfl ?_
        refine r_iload C dL_areSums_237 rfl ?_
        refine q_hand C hst w (i := j) (r2 := nI t) (has_i h50 hP4 h_u) (by omega) rfl e3 rfl ⟨(Nat.le_of_ble_eq_true rfl), (Nat.le_of_ble_eq_true rfl), (by dsimp only; omega), (by dsimp only; omega), (Nat.le_of_ble_eq_true rfl)⟩ dL_areSums_239 ?_
        refine r_istore C dL_areSums_242 (by decide) ?_
        refine r_iload_n C dL_areSums_244 rfl rfl ?_
        refine r_iconst C (v := 1) dL_areSums_245 rfl ?_
        refine r_iload C dL_areSums_246 rfl ?_
        refine r_ishl C dL_areSums_248 ?_
        refine r_ixor C dL_areSums_249 ?_
        refine r_istore_n C dL_areSums_250 rfl (by decide) ?_
        refine r_iload C dL_areSums_251 rfl ?_
        refine r_aload_n C dL_areSums_253 rfl rfl ?_
        refine r_iload C dL_areSums_254 rfl ?_
        refine r_iconst C (v := 0) dL_areSums_256 rfl ?_
        refine q_tile C hst w (t := t) (i := 0) ht (by decide) rfl rfl rfl ⟨(Nat.le_of_ble_eq_true rfl), (Nat.le_of_ble_eq_true rfl), (by dsimp only; omega), (by dsimp only; omega), (Nat.le_of_ble_eq_true rfl)⟩ dL_areSums_257 ?_
        refine r_aload_n C dL_areSums_260 rfl rfl ?_
        refine r_iload C dL_areSums_261 rfl ?_
        refine r_iconst C (v := 1) dL_areSums_263 rfl ?_
        refine q_tile C hst w (t := t) (i := 1) ht (by decide) rfl rfl rfl ⟨(Nat.le_of_ble_eq_true rfl), (Nat.le_of_ble_eq_true rfl), (by dsimp only; omega), (by dsimp only; omega), (Nat.le_of_ble_eq_true rfl)⟩ dL_areSums_264 ?_
        refine r_iadd C dL_areSums_267 ?_
        refine r_iadd C dL_areSums_268 ?_
        refine r_istore C dL_areSums_269 (by decide) ?_
        refine r_iload C dL_areSums_271 rfl ?_
        refine r_if_eq C 303 dL_areSums_273 (by decide) (fun c => absurd c (by decide)) (fun _ => ?_)
        refine r_aload_n C dL_areSums_276 rfl rfl ?_
        refine r_iload C dL_areSums_277 rfl ?_
        refine r_iconst C (v := 2) dL_areSums_279 rfl ?_
        refine q_tile C hst w (t := t) (i := 2) ht (by decide) rfl rfl rfl ⟨(Nat.le_of_ble_eq_true rfl), (Nat.le_of_ble_eq_true rfl), (by dsimp only; omega), (by dsimp only; omega), (Nat.le_of_ble_eq_true rfl)⟩ dL_areSums_280 ?_
        refine r_iconst C (v := 1) dL_areSums_283 rfl ?_
        refine r_icmp_ne C 303 dL_areSums_284 (by decide) (fun c => absurd hw.1 c) (fun _ => ?_)
        refine r_aload_n C dL_areSums_287 rfl rfl ?_
        refine r_iload C dL_areSums_288 rfl ?_
        refine r_iconst C (v := 3) dL_areSums_290 rfl ?_
        refine q_tile C hst w (t := t) (i := 3) ht (by decide) rfl rfl rfl ⟨(Nat.le_of_ble_eq_true rfl), (Nat.le_of_ble_eq_true rfl), (by dsimp only; omega), (by dsimp only; omega), (Nat.le_of_ble_eq_true rfl)⟩ dL_areSums_291 ?_
        refine r_iload C dL_areSums_294 rfl ?_
        refine r_icmp_ne C 303 dL_areSums_296 (by decide) (fun c => absurd hw.2 c) (fun _ => ?_)
        refine r_iconst C (v := 1) dL_areSums_299 rfl ?_
        refine r_goto C 304 dL_areSums_300 (by decide) ?_
        refine r_istore C dL_areSums_304 (by decide) ?_
        refine r_iinc C (v := 1) dL_areSums_306 rfl rfl (by decide) ?_
        refine r_goto C 222 dL_areSums_309 (by decide) ?_
        refine V.sub [(0, .ref x), (1, .int (l_sum (fun t => S 0 (t * 7 + 0) + S 0 (t * 7 + 1)) 28)), (2, .int (l_sum (fun t => S 0 (t * 7 + 6)) 28)), (3, .int (z_h S u (z_p S u) (j + 1))), (4, .int 1), (5, .int (nI u)), (6, .int (l_sum (fun j => g_grades S (g_hand S (nI u) (nI j))) (j + 1))), (7, .int (nI (j + 1)))] ⟨rfl, rfl, rfl, (by show _ = some (Value.int (z_h S u (z_p S u) j ^^^ ((1 : Int32) <<< (g_hand S (nI u) (nI j) &&& 31)))); rw [e2]; rfl), rfl, rfl, (by show _ = some (Value.int (l_sum (fun j => g_grades S (g_hand S (nI u) (nI j))) j + g_grades S (g_hand S (nI u) (nI j)))); rw [e2, grades_at ht]; rfl), (by rw [← nI_1 j]; rfl), trivial⟩ ?_
        exact ih_j _ _ (by omega) (by omega)
  · intro i h_i ih_i k n hk hn
    obtain ⟨g1, g2, g3, g4, -⟩ := o.t0 i h_i
    have g1 : S 0 (i * 7 + 0) = nI (gr i 0) := g1
    have A0 : ¬ S 0 (i * 7 + 0) < 0 := by rw [g1]; exact nI_pos (by omega)
    have A1 : ¬ S 0 (i * 7 + 1) < 0 := by rw [g2]; exact nI_pos (by omega)
    have B0 : ¬ (7 : Int32) ≤ S 0 (i * 7 + 0) := by rw [g1]; exact nI_ge (b := 7) g3 (by decide)
    have B1 : ¬ (7 : Int32) ≤ S 0 (i * 7 + 1) := by rw [g2]; exact nI_ge (b := 7) g4 (by decide)
    refine r_iload C dL_areSums_12 rfl ?_
    refine r_bipush C (v := 28) dL_areSums_14 rfl ?_
    refine r_icmp_ge C 203 dL_areSums_16 (by decide) (fun c => absurd c (nI_ge (b := 28) h_i (by decide))) (fun _ => ?_)
    refine r_aload_n C dL_areSums_19 rfl rfl ?_
    refine r_iload C dL_areSums_20 rfl ?_
    refine r_iconst C (v := 0) dL_areSums_22 rfl ?_
    refine q_tile C hst w (t := i) (i := 0) h_i (by decide) rfl rfl rfl ⟨(Nat.le_of_ble_eq_true rfl), (Nat.le_of_ble_eq_true rfl), (by dsimp only; omega), (by dsimp only; omega), (Nat.le_of_ble_eq_true rfl)⟩ dL_areSums_23 ?_
    refine r_istore C dL_areSums_26 (by decide) ?_
    refine r_aload_n C dL_areSums_28 rfl rfl ?_
    refine r_iload C dL_areSums_29 rfl ?_
    refine r_iconst C (v := 1) dL_areSums_31 rfl ?_
    refine q_tile C hst w (t := i) (i := 1) h_i (by decide) rfl rfl rfl ⟨(Nat.le_of_ble_eq_true rfl), (Nat.le_of_ble_eq_true rfl), (by dsimp only; omega), (by dsimp only; omega), (Nat.le_of_ble_eq_true rfl)⟩ dL_areSums_32 ?_
    refine r_istore C dL_areSums_35 (by decide) ?_
    refine r_aload_n C dL_areSums_37 rfl rfl ?_
    refine r_iload C dL_areSums_38 rfl ?_
    refine r_iconst C (v := 2) dL_areSums_40 rfl ?_
    refine q_tile C hst w (t := i) (i := 2) h_i (by decide) rfl rfl rfl ⟨(Nat.le_of_ble_eq_true rfl), (Nat.le_of_ble_eq_true rfl), (by dsimp only; omega), (by dsimp only; omega), (Nat.le_of_ble_eq_true rfl)⟩ dL_areSums_41 ?_
    refine r_istore C dL_areSums_44 (by decide) ?_
    refine r_iload_n C dL_areSums_46 rfl rfl ?_
    refine r_iload C dL_areSums_47 rfl ?_
    refine r_iload C dL_areSums_49 rfl ?_
    refine r_iadd C dL_areSums_51 ?_
    refine r_iadd C dL_areSums_52 ?_
    refine r_istore_n C dL_areSums_53 rfl (by decide) ?_
    refine r_iload_n C dL_areSums_54 rfl rfl ?_
    refine r_aload_n C dL_areSums_55 rfl rfl ?_
    refine r_iload C dL_areSums_56 rfl ?_
    refine r_bipush C (v := 6) dL_areSums_58 rfl ?_
    refine q_tile C hst w (t := i) (i := 6) h_i (by decide) rfl rfl rfl ⟨(Nat.le_of_ble_eq_true rfl), (Nat.le_of_ble_eq_true rfl), (by dsimp only; omega), (by dsimp only; omega), (Nat.le_of_ble_eq_true rfl)⟩ dL_areSums_60 ?_
    refine r_iadd C dL_areSums_63 ?_
    refine r_istore_n C dL_areSums_64 rfl (by decide) ?_
    refine r_iload C dL_areSums_65 rfl ?_
    refine r_if_eq C 194 dL_areSums_67 (by decide) (fun c => absurd c (by decide)) (fun _ => ?_)
    refine r_iload C dL_areSums_70 rfl ?_
    refine r_if_lt C 194 dL_areSums_72 (by decide) (fun c => absurd c A0) (fun _ => ?_)
    refine r_iload C dL_areSums_75 rfl ?_
    refine r_if_lt C 194 dL_areSums_77 (by decide) (fun c => absurd c A1) (fun _ => ?_)
    refine r_iload C dL_areSums_80 rfl ?_
    refine r_bipush C (v := 7) dL_areSums_82 rfl ?_
    refine r_icmp_ge C 194 dL_areSums_84 (by decide) (fun c => absurd c B0) (fun _ => ?_)
    refine r_iload C dL_areSums_87 rfl ?_
    refine r_bipush C (v := 7) dL_areSums_89 rfl ?_
    refine r_icmp_ge C 194 dL_areSums_91 (by decide) (fun c => absurd c B1) (fun _ => ?_)
    rcases y.1 i h_i with ⟨w2, w3, w4, w5, w6⟩ | ⟨w2, w5, p0, hp0, w3, -⟩ | ⟨w2, ⟨r0, hr0, w5⟩, p0, hp0, w3⟩
    · refine r_iload C dL_areSums_94 rfl ?_
      refine r_if_gt C 131 dL_areSums_96 (by decide) (fun c => absurd c (by rw [w2]; decide)) (fun _ => ?_)
      refine r_aload_n C dL_areSums_99 rfl rfl ?_
      refine r_iload C dL_areSums_100 rfl ?_
      refine r_iconst C (v := 3) dL_areSums_102 rfl ?_
      refine q_tile C hst w (t := i) (i := 3) h_i (by decide) rfl rfl rfl ⟨(Nat.le_of_ble_eq_true rfl), (Nat.le_of_ble_eq_true rfl), (by dsimp only; omega), (by dsimp only; omega), (Nat.le_of_ble_eq_true rfl)⟩ dL_areSums_103 ?_
      refine r_iconst C (v := -1) dL_areSums_106 rfl ?_
      refine r_icmp_ne C 194 dL_areSums_107 (by decide) (fun c => absurd w3 c) (fun _ => ?_)
      refine r_aload_n C dL_areSums_110 rfl rfl ?_
      refine r_iload C dL_areSums_111 rfl ?_
      refine r_iconst C (v := 4) dL_areSums_113 rfl ?_
      refine q_tile C hst w (t := i) (i := 4) h_i (by decide) rfl rfl rfl ⟨(Nat.le_of_ble_eq_true rfl), (Nat.le_of_ble_eq_true rfl), (by dsimp only; omega), (by dsimp only; omega), (Nat.le_of_ble_eq_true rfl)⟩ dL_areSums_114 ?_
      refine r_if_ne C 194 dL_areSums_117 (by decide) (fun c => absurd w4 c) (fun _ => ?_)
      refine r_aload_n C dL_areSums_120 rfl rfl ?_
      refine r_iload C dL_areSums_121 rfl ?_
      refine r_bipush C (v := 6) dL_areSums_123 rfl ?_
      refine q_tile C hst w (t := i) (i := 6) h_i (by decide) rfl rfl rfl ⟨(Nat.le_of_ble_eq_true rfl), (Nat.le_of_ble_eq_true rfl), (by dsimp only; omega), (by dsimp only; omega), (Nat.le_of_ble_eq_true rfl)⟩ dL_areSums_125 ?_
      refine r_if_ne C 194 dL_areSums_128 (by decide) (fun c => absurd w6 c) (fun _ => ?_)
      refine r_iload C dL_areSums_131 rfl ?_
      refine r_if_eq C 161 dL_areSums_133 (by decide) (fun _ => ?_) (fun c => absurd w2 c)
      refine r_iload C dL_areSums_161 rfl ?_
      refine r_iconst C (v := 2) dL_areSums_163 rfl ?_
      refine r_icmp_ne C 171 dL_areSums_164 (by decide) (fun _ => ?_) (fun c => absurd c (by rw [w2]; decide))
      refine r_iconst C (v := 0) dL_areSums_171 rfl ?_
      refine r_aload_n C dL_areSums_172 rfl rfl ?_
      refine r_iload C dL_areSums_173 rfl ?_
      refine r_iconst C (v := 5) dL_areSums_175 rfl ?_
      refine q_tile C hst w (t := i) (i := 5) h_i (by decide) rfl rfl rfl ⟨(Nat.le_of_ble_eq_true rfl), (Nat.le_of_ble_eq_true rfl), (by dsimp only; omega), (by dsimp only; omega), (Nat.le_of_ble_eq_true rfl)⟩ dL_areSums_176 ?_
      refine r_if_lt C 186 dL_areSums_179 (by decide) (fun _ => ?_) (fun c => absurd (by rw [w5]; decide) c)
      refine r_iconst C (v := 0) dL_areSums_186 rfl ?_
      refine r_icmp_ne C 194 dL_areSums_187 (by decide) (fun c => absurd rfl c) (fun _ => ?_)
      refine r_iconst C (v := 1) dL_areSums_190 rfl ?_
      refine r_goto C 195 dL_areSums_191 (by decide) ?_
      refine r_istore C dL_areSums_195 (by decide) ?_
      refine r_iinc C (v := 1) dL_areSums_197 rfl rfl (by decide) ?_
      refine r_goto C 12 dL_areSums_200 (by decide) ?_
      refine V.sub [(0, .ref x), (1, .int (l_sum (fun t => S 0 (t * 7 + 0) + S 0 (t * 7 + 1)) (i + 1))), (2, .int (l_sum (fun t => S 0 (t * 7 + 6)) (i + 1))), (3, .int 0), (4, .int 1), (5, .int (nI (i + 1)))] ⟨rfl, rfl, rfl, rfl, rfl, (by rw [← nI_1 i]; rfl), trivial⟩ ?_
      exact ih_i _ _ (by omega) (by omega)
    · refine r_iload C dL_areSums_94 rfl ?_
      refine r_if_gt C 131 dL_areSums_96 (by decide) (fun _ => ?_) (fun c => absurd (by rw [w2]; decide) c)
      refine r_iload C dL_areSums_131 rfl ?_
      refine r_if_eq C 161 dL_areSums_133 (by decide) (fun c => absurd c (by rw [w2]; decide)) (fun _ => ?_)
      refine r_aload_n C dL_areSums_136 rfl rfl ?_
      refine r_iload C dL_areSums_137 rfl ?_
      refine r_iconst C (v := 3) dL_areSums_139 rfl ?_
      refine q_tile C hst w (t := i) (i := 3) h_i (by decide) rfl rfl rfl ⟨(Nat.le_of_ble_eq_true rfl), (Nat.le_of_ble_eq_true rfl), (by dsimp only; omega), (by dsimp only; omega), (Nat.le_of_ble_eq_true rfl)⟩ dL_areSums_140 ?_
      refine r_if_lt C 194 dL_areSums_143 (by decide) (fun c => absurd c (by rw [w3]; exact nI_pos (by omega))) (fun _ => ?_)
      refine r_aload_n C dL_areSums_146 rfl rfl ?_
      refine r_iload C dL_areSums_147 rfl ?_
      refine r_iconst C (v := 3) dL_areSums_149 rfl ?_
      refine q_tile C hst w (t := i) (i := 3) h_i (by decide) rfl rfl rfl ⟨(Nat.le_of_ble_eq_true rfl), (Nat.le_of_ble_eq_true rfl), (by dsimp only; omega), (by dsimp only; omega), (Nat.le_of_ble_eq_true rfl)⟩ dL_areSums_150 ?_
      refine r_aload_n C dL_areSums_153 rfl rfl ?_
      refine r_iconst C (v := 0) dL_areSums_154 rfl ?_
      refine q_count C hst w (i := 0) (r2 := nI P) (by decide) rfl (num_0.trans h50) rfl ⟨(Nat.le_of_ble_eq_true rfl), (Nat.le_of_ble_eq_true rfl), (by dsimp only; omega), (by dsimp only; omega), (Nat.le_of_ble_eq_true rfl)⟩ dL_areSums_155 ?_
      refine r_icmp_ge C 194 dL_areSums_158 (by decide) (fun c => absurd c (by rw [w3]; exact nI_ge hp0 (by omega))) (fun _ => ?_)
      refine r_iload C dL_areSums_161 rfl ?_
      refine r_iconst C (v := 2) dL_areSums_163 rfl ?_
      refine r_icmp_ne C 171 dL_areSums_164 (by decide) (fun _ => ?_) (fun c => absurd c (by rw [w2]; decide))
      refine r_iconst C (v := 0) dL_areSums_171 rfl ?_
      refine r_aload_n C dL_areSums_172 rfl rfl ?_
      refine r_iload C dL_areSums_173 rfl ?_
      refine r_iconst C (v := 5) dL_areSums_175 rfl ?_
      refine q_tile C hst w (t := i) (i := 5) h_i (by decide) rfl rfl rfl ⟨(Nat.le_of_ble_eq_true rfl), (Nat.le_of_ble_eq_true rfl), (by dsimp only; omega), (by dsimp only; omega), (Nat.le_of_ble_eq_true rfl)⟩ dL_areSums_176 ?_
      refine r_if_lt C 186 dL_areSums_179 (by decide) (fun _ => ?_) (fun c => absurd (by rw [w5]; decide) c)
      refine r_iconst C (v := 0) dL_areSums_186 rfl ?_
      refine r_icmp_ne C 194 dL_areSums_187 (by decide) (fun c => absurd rfl c) (fun _ => ?_)
      refine r_iconst C (v := 1) dL_areSums_190 rfl ?_
      refine r_goto C 195 dL_areSums_191 (by decide) ?_
      refine r_istore C dL_areSums_195 (by decide) ?_
      refine r_iinc C (v := 1) dL_areSums_197 rfl rfl (by decide) ?_
      refine r_goto C 12 dL_areSums_200 (by decide) ?_
      refine V.sub [(0, .ref x), (1, .int (l_sum (fun t => S 0 (t * 7 + 0) + S 0 (t * 7 + 1)) (i + 1))), (2, .int (l_sum (fun t => S 0 (t * 7 + 6)) (i + 1))), (3, .int 0), (4, .int 1), (5, .int (nI (i + 1)))] ⟨rfl, rfl, rfl, rfl, rfl, (by rw [← nI_1 i]; rfl), trivial⟩ ?_
      exact ih_i _ _ (by omega) (by omega)
    · refine r_iload C dL_areSums_94 rfl ?_
      refine r_if_gt C 131 dL_areSums_96 (by decide) (fun _ => ?_) (fun c => absurd (by rw [w2]; decide) c)
      refine r_iload C dL_areSums_131 rfl ?_
      refine r_if_eq C 161 dL_areSums_133 (by decide) (fun c => absurd c (by rw [w2]; decide)) (fun _ => ?_)
      refine r_aload_n C dL_areSums_136 rfl rfl ?_
      refine r_iload C dL_areSums_137 rfl ?_
      refine r_iconst C (v := 3) dL_areSums_139 rfl ?_
      refine q_tile C hst w (t := i) (i := 3) h_i (by decide) rfl rfl rfl ⟨(Nat.le_of_ble_eq_true rfl), (Nat.le_of_ble_eq_true rfl), (by dsimp only; omega), (by dsimp only; omega), (Nat.le_of_ble_eq_true rfl)⟩ dL_areSums_140 ?_
      refine r_if_lt C 194 dL_areSums_143 (by decide) (fun c => absurd c (by rw [w3]; exact nI_pos (by omega))) (fun _ => ?_)
      refine r_aload_n C dL_areSums_146 rfl rfl ?_
      refine r_iload C dL_areSums_147 rfl ?_
      refine r_iconst C (v := 3) dL_areSums_149 rfl ?_
      refine q_tile C hst w (t := i) (i := 3) h_i (by decide) rfl rfl rfl ⟨(Nat.le_of_ble_eq_true rfl), (Nat.le_of_ble_eq_true rfl), (by dsimp only; omega), (by dsimp only; omega), (Nat.le_of_ble_eq_true rfl)⟩ dL_areSums_150 ?_
      refine r_aload_n C dL_areSums_153 rfl rfl ?_
      refine r_iconst C (v := 0) dL_areSums_154 rfl ?_
      refine q_count C hst w (i := 0) (r2 := nI P) (by decide) rfl (num_0.trans h50) rfl ⟨(Nat.le_of_ble_eq_true rfl), (Nat.le_of_ble_eq_true rfl), (by dsimp only; omega), (by dsimp only; omega), (Nat.le_of_ble_eq_true rfl)⟩ dL_areSums_155 ?_
      refine r_icmp_ge C 194 dL_areSums_158 (by decide) (fun c => absurd c (by rw [w3]; exact nI_ge hp0 (by omega))) (fun _ => ?_)
      refine r_iload C dL_areSums_161 rfl ?_
      refine r_iconst C (v := 2) dL_areSums_163 rfl ?_
      refine r_icmp_ne C 171 dL_areSums_164 (by decide) (fun c => absurd w2 c) (fun _ => ?_)
      refine r_iconst C (v := 1) dL_areSums_167 rfl ?_
      refine r_goto C 172 dL_areSums_168 (by decide) ?_
      refine r_aload_n C dL_areSums_172 rfl rfl ?_
      refine r_iload C dL_areSums_173 rfl ?_
      refine r_iconst C (v := 5) dL_areSums_175 rfl ?_
      refine q_tile C hst w (t := i) (i := 5) h_i (by decide) rfl rfl rfl ⟨(Nat.le_of_ble_eq_true rfl), (Nat.le_of_ble_eq_true rfl), (by dsimp only; omega), (by dsimp only; omega), (Nat.le_of_ble_eq_true rfl)⟩ dL_areSums_176 ?_
      refine r_if_lt C 186 dL_areSums_179 (by decide) (fun c => absurd c (by rw [w5]; exact nI_pos (by omega))) (fun _ => ?_)
      refine r_iconst C (v := 1) dL_areSums_182 rfl ?_
      refine r_goto C 187 dL_areSums_183 (by decide) ?_
      refine r_icmp_ne C 194 dL_areSums_187 (by decide) (fun c => absurd rfl c) (fun _ => ?_)
      refine r_iconst C (v := 1) dL_areSums_190 rfl ?_
      refine r_goto C 195 dL_areSums_191 (by decide) ?_
      refine r_istore C dL_areSums_195 (by decide) ?_
      refine r_iinc C (v := 1) dL_areSums_197 rfl rfl (by decide) ?_
      refine r_goto C 12 dL_areSums_200 (by decide) ?_
      refine V.sub [(0, .ref x), (1, .int (l_sum (fun t => S 0 (t * 7 + 0) + S 0 (t * 7 + 1)) (i + 1))), (2, .int (l_sum (fun t => S 0 (t * 7 + 6)) (i + 1))), (3, .int 0), (4, .int 1), (5, .int (nI (i + 1)))] ⟨rfl, rfl, rfl, rfl, rfl, (by rw [← nI_1 i]; rfl), trivial⟩ ?_
      exact ih_i _ _ (by omega) (by omega)
