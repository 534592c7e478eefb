/-! The law's cases: positions, undo, snapshot, output. -/
set_option maxRecDepth 100000 in
set_option maxHeartbeats 4000000 in
theorem lc_48 (l : Launch) (D : va_G) (kA : Nat → ClassId) (Hs : Heap) (σ : SG) (hnt : l.stackTraces = false) {Pp : Program} {Ee : Env} {Ss : State} {Mm : MethodId} {Ar : Array Value} {Bl : List Frame} {Me : Method} {Cc : Code} {Q : State → Prop} (Z : Ys Pp Ss Mm Ar Me Cc cL_law 9 (some .boolean) "MetroFaresLaw" D kA (AA Hs nof) Hs σ) (sa N : Nat) (f : Nat → Int32) (hsa : va_X sa N f Ss Ss.heap ∧ sa < Ss.heap.size ∧ ¬ AA Hs nof sa) (hN : N ≤ 1536) (a j : Nat) (hj : 3 * j + 3 ≤ N) (H : Heap) (hI : Inv D kA Hs a H (61 * j)) (kk : ∀ H1, Inv D kA Hs a H1 (61 * (j + 1)) → V Pp l Ee (rmO 2048 94400 603072 7194730) Ss Mm Ar Bl Me Cc 9 (AA Hs nof) Q H1 (400 + 200 * (j + 1)) (6000 + 400 * (j + 1)) 2781 [(5, .int (nI (3 * j))), (4, .ref (a + 338)), (3, .ref (a + 337)), (2, .ref (a + 329)), (1, .ref a), (0, .ref sa)] []) : V Pp l Ee (rmO 2048 94400 603072 7194730) Ss Mm Ar Bl Me Cc 9 (AA Hs nof) Q H (400 + 200 * (j)) (6000 + 400 * (j)) 2592 [(5, .int (nI (3 * j))), (4, .ref (a + 338)), (3, .ref (a + 337)), (2, .ref (a + 329)), (1, .ref a), (0, .ref sa)] [] := by
  obtain ⟨W, π, ES, u, hs, ep, fc, no, go, vs, cs, ns, gs, F, s, b, v, p, uu, tt, cc, n, t, hC, hG⟩ := hI
  have Y := Z.1
  have hS := hG.1.1.1
  have hM9 := hG.1.1
  have hjq : j ≤ 512 := by omega
  have hu8 := hC.1.2.2.2.2.2.2.2.1
  obtain ⟨w1, ho1⟩ := hC.2.2.1
  obtain ⟨x, hx⟩ : ∃ x, f (3 * j + 1) = x := ⟨_, rfl⟩
  obtain ⟨y, hy⟩ : ∃ y, f (3 * j + 2) = y := ⟨_, rfl⟩
  refine V_aload_n Y.1 4 dL_law_2592 (rfl : _ = 2593) rfl rfl ?_
  refine V_aload_n Y.1 2 dL_law_2593 (rfl : _ = 2594) rfl rfl ?_
  refine V_cI Y (sW Z (c_L_errorPosition l D kA Hs σ _ hC.2.2.2.2.1 a W π ES u hs ep fc no go vs cs ns gs (a + 337) w1 hC.1 hnt ho1 (by omega) (by have := hC.2.2.2.2.2.2.2; omega) (by have := hC.2.2.2.2.2.1; omega)) mh_L_errorPosition si_L_322 rfl rfl (Nat.le_of_ble_eq_true rfl) ⟨Nat.le_of_ble_eq_true rfl, Nat.le_of_ble_eq_true rfl⟩ (by show _ ≤ 603072; omega) (by show _ ≤ 7194730; omega) dL_law_2594) (fun q z => Or.inr (by have z : q = a + 337 := z; have h9 := hC.2.2.2.2.1.1; have := hC.2.2.2.2.2.1; omega)) (rfl : _ = 2597) (fun v_2594 H2594_2 hq_2594 o_2594 => ?_)
  rcases hq_2594 with ⟨hk9, r9, H9, w9, hP9, hst9, ho9, hw9⟩ | ⟨E9, hX9, hk9, ho9⟩
  · have hk8 := hk9.symm
    subst hk8
    obtain ⟨hr9, -, hc9⟩ := hP9
    have hC := hC.out o_2594 ⟨_, ho9⟩
    obtain ⟨e9, he9, hee9⟩ := hG.2.2.2.2.2.2.1.resolve_left hc9
    refine V_istore Y.1 (ls' := [(6, _), (5, _), (4, _), (3, _), (2, _), (1, _), (0, _)]) dL_law_2597 (rfl : _ = 2599) (by decide) rfl ?_
    refine V_aload_n Y.1 4 dL_law_2599 (rfl : _ = 2600) rfl rfl ?_
    refine V_cI Y (rV Y (c_X6_errorPosition_y l D kA _ (a + 329) F s b v p uu tt cc hC.2.1 (by rw [hG.2.1.2.2.2.2.1, hee9]; exact nI_pos he9)) mi_X6_errorPosition vi_L_324 rfl hC.2.1.1 rfl rfl (Nat.le_of_ble_eq_true rfl) ⟨Nat.le_of_ble_eq_true rfl, Nat.le_of_ble_eq_true rfl⟩ (by show _ ≤ 603072; omega) (by show _ ≤ 7194730; omega) dL_law_2600) (fun q z => Or.inr (by have z := z.1; have := hC.2.2.2.2.2.1; omega)) (rfl : _ = 2603) (fun v_2600 H2600_7 hq_2600 o_2600 => ?_)
    obtain ⟨hb2, hR2⟩ := hq_2600
    have hb3 := (hr9.trans (hG.2.1.2.2.2.2.1).symm).trans hb2.symm
    subst hb3
    have ho9 := ho9.off o_2600 (fun e => by have := e.2; omega)
    have hC := hC.mod o_2600 hR2
    refine V_istore Y.1 (ls' := [(7, _), (6, _), (5, _), (4, _), (3, _), (2, _), (1, _), (0, _)]) dL_law_2603 (rfl : _ = 2605) (by decide) rfl ?_
    refine V_aload_n Y.1 5 dL_law_2605 (rfl : _ = 2606) rfl rfl ?_
    refine V_cP Y (rV Y (c_X6_thrown l D kA _ (a + 329) _ _ _ _ _ _ _ _ hC.2.1) mi_X6_thrown vi_L_159 rfl hC.2.1.1 rfl rfl (Nat.le_of_ble_eq_true rfl) ⟨Nat.le_of_ble_eq_true rfl, Nat.le_of_ble_eq_true rfl⟩ (by show _ ≤ 603072; omega) (by show _ ≤ 7194730; omega) dL_law_2606) (rfl : _ = 2609) ?_
    refine V_iload Y.1 1 dL_law_2609 (rfl : _ = 2611) rfl ?_
    refine V_icmp_eq Y.1 (tgt := 2616) dL_law_2611 (by decide) (rfl : _ = 2614) (fun _ => ?_) (fun c_n => absurd pk_us c_n)
    refine V_iload Y.1 1 dL_law_2616 (rfl : _ = 2618) rfl ?_
    refine V_if_ne Y.1 (tgt := 2633) dL_law_2618 (by decide) (rfl : _ = 2621) (fun c_n => absurd rfl c_n) (fun _ => ?_)
    refine V_aload_n Y.1 4 dL_law_2621 (rfl : _ = 2622) rfl rfl ?_
    refine V_iconst Y.1 (v := 0) dL_law_2622 (rfl : _ = 2623) (by decide) ?_
    refine V_lald Y.1 (v := r9.toInt64) ho9 (show ¬ ((0 : Int32) < 0 ∨ 1 ≤ (0 : Int32).toNatClampNeg) by decide) hw9 dL_law_2623 (rfl : _ = 2624) ?_
    refine V_iload Y.1 0 dL_law_2624 (rfl : _ = 2626) rfl ?_
    refine V_i2l Y.1 dL_law_2626 (rfl : _ = 2627) rfl ?_
    refine V_lcmp Y.1 dL_law_2627 (rfl : _ = 2628) ?_
    refine V_if_eq Y.1 (tgt := 2633) dL_law_2628 (by decide) (rfl : _ = 2631) (fun _ => ?_) (fun c_n => absurd (lg_self _) c_n)
    refine V_goto Y.1 (tgt := 2781) dL_law_2633 (by decide) ?_
    exact V_forget (ls' := [(5, _), (4, _), (3, _), (2, _), (1, _), (0, _)]) [2, 3, 4, 5, 6, 7] rfl (V_widen (by omega) (by omega) (kk _ ⟨_, _, _, _, _, _, _, _, _, _, _, _, _, _, _, _, _, _, _, _, _, _, _, hC, (hG.f6 _).more (by omega)⟩))
  · obtain ⟨rfl, hc9⟩ := hX9
    have hk7 : v_2594 = 1 := hk9
    have hk8 := hk7.symm
    subst hk8
    have hC := hC.out o_2594 ⟨_, ho9⟩
    refine V_istore Y.1 (ls' := [(6, _), (5, _), (4, _), (3, _), (2, _), (1, _), (0, _)]) dL_law_2597 (rfl : _ = 2599) (by decide) rfl ?_
    refine V_aload_n Y.1 4 dL_law_2599 (rfl : _ = 2600) rfl rfl ?_
    refine V_cI Y (rV Y (c_X6_errorPosition_n l D kA _ (a + 329) F s b v p uu tt cc hC.2.1 (by rw [hG.2.1.2.2.2.2.1, hc9]; decide)) mi_X6_errorPosition vi_L_324 rfl hC.2.1.1 rfl rfl (Nat.le_of_ble_eq_true rfl) ⟨Nat.le_of_ble_eq_true rfl, Nat.le_of_ble_eq_true rfl⟩ (by show _ ≤ 603072; omega) (by show _ ≤ 7194730; omega) dL_law_2600) (fun q z => Or.inr (by have z := z.1; have := hC.2.2.2.2.2.1; omega)) (rfl : _ = 2603) (fun v_2600 H2600_6 hq_2600 o_2600 => ?_)
    obtain ⟨hb2, hR2⟩ := hq_2600
    have hC := hC.mod o_2600 hR2
    refine V_istore Y.1 (ls' := [(7, _), (6, _), (5, _), (4, _), (3, _), (2, _), (1, _), (0, _)]) dL_law_2603 (rfl : _ = 2605) (by decide) rfl ?_
    refine V_aload_n Y.1 5 dL_law_2605 (rfl : _ = 2606) rfl rfl ?_
    refine V_cP Y (rV Y (c_X6_thrown l D kA _ (a + 329) _ _ _ _ _ _ _ _ hC.2.1) mi_X6_thrown vi_L_159 rfl hC.2.1.1 rfl rfl (Nat.le_of_ble_eq_true rfl) ⟨Nat.le_of_ble_eq_true rfl, Nat.le_of_ble_eq_true rfl⟩ (by show _ ≤ 603072; omega) (by show _ ≤ 7194730; omega) dL_law_2606) (rfl : _ = 2609) ?_
    refine V_iload Y.1 1 dL_law_2609 (rfl : _ = 2611) rfl ?_
    refine V_icmp_eq Y.1 (tgt := 2616) dL_law_2611 (by decide) (rfl : _ = 2614) (fun _ => ?_) (fun c_n => absurd pk_us c_n)
    refine V_iload Y.1 1 dL_law_2616 (rfl : _ = 2618) rfl ?_
    refine V_if_ne Y.1 (tgt := 2633) dL_law_2618 (by decide) (rfl : _ = 2621) (fun _ => ?_) (fun c_n => absurd c_n (by decide))
    refine V_goto Y.1 (tgt := 2781) dL_law_2633 (by decide) ?_
    exact V_forget (ls' := [(5, _), (4, _), (3, _), (2, _), (1, _), (0, _)]) [2, 3, 4, 5, 6, 7] rfl (V_widen (by omega) (by omega) (kk _ ⟨_, _, _, _, _, _, _, _, _, _, _, _, _, _, _, _, _, _, _, _, _, _, _, hC, (hG.f6 _).more (by omega)⟩))

set_option maxRecDepth 100000 in
set_option maxHeartbeats 4000000 in
theorem lc_49 (l : Launch) (D : va_G) (kA : Nat → ClassId) (Hs : Heap) (σ : SG) (hnt : l.stackTraces = false) {Pp : Program} {Ee : Env} {Ss : State} {Mm : MethodId} {Ar : Array Value} {Bl : List Frame} {Me : Method} {Cc : Code} {Q : State → Prop} (Z : Ys Pp Ss Mm Ar Me Cc cL_law 9 (some .boolean) "MetroFaresLaw" D kA (AA Hs nof) Hs σ) (sa N : Nat) (f : Nat → Int32) (hsa : va_X sa N f Ss Ss.heap ∧ sa < Ss.heap.size ∧ ¬ AA Hs nof sa) (hN : N ≤ 1536) (a j : Nat) (hj : 3 * j + 3 ≤ N) (H : Heap) (hI : Inv D kA Hs a H (61 * j)) (kk : ∀ H1, Inv D kA Hs a H1 (61 * (j + 1)) → V Pp l Ee (rmO 2048 94400 603072 7194730) Ss Mm Ar Bl Me Cc 9 (AA Hs nof) Q H1 (400 + 200 * (j + 1)) (6000 + 400 * (j + 1)) 2781 [(5, .int (nI (3 * j))), (4, .ref (a + 338)), (3, .ref (a + 337)), (2, .ref (a + 329)), (1, .ref a), (0, .ref sa)] []) : V Pp l Ee (rmO 2048 94400 603072 7194730) Ss Mm Ar Bl Me Cc 9 (AA Hs nof) Q H (400 + 200 * (j)) (6000 + 400 * (j)) 2636 [(5, .int (nI (3 * j))), (4, .ref (a + 338)), (3, .ref (a + 337)), (2, .ref (a + 329)), (1, .ref a), (0, .ref sa)] [] := by
  obtain ⟨W, π, ES, u, hs, ep, fc, no, go, vs, cs, ns, gs, F, s, b, v, p, uu, tt, cc, n, t, hC, hG⟩ := hI
  have Y := Z.1
  have hS := hG.1.1.1
  have hM9 := hG.1.1
  have hjq : j ≤ 512 := by omega
  have hu8 := hC.1.2.2.2.2.2.2.2.1
  obtain ⟨w1, ho1⟩ := hC.2.2.1
  obtain ⟨x, hx⟩ : ∃ x, f (3 * j + 1) = x := ⟨_, rfl⟩
  obtain ⟨y, hy⟩ : ∃ y, f (3 * j + 2) = y := ⟨_, rfl⟩
  refine V_aload_n Y.1 4 dL_law_2636 (rfl : _ = 2637) rfl rfl ?_
  refine V_aload_n Y.1 2 dL_law_2637 (rfl : _ = 2638) rfl rfl ?_
  refine V_cI Y (sW Z (c_L_failedCommand l D kA Hs σ _ hC.2.2.2.2.1 a W π ES u hs ep fc no go vs cs ns gs (a + 337) w1 hC.1 hnt ho1 (by omega) (by have := hC.2.2.2.2.2.2.2; omega) (by have := hC.2.2.2.2.2.1; omega)) mh_L_failedCommand si_L_325 rfl rfl (Nat.le_of_ble_eq_true rfl) ⟨Nat.le_of_ble_eq_true rfl, Nat.le_of_ble_eq_true rfl⟩ (by show _ ≤ 603072; omega) (by show _ ≤ 7194730; omega) dL_law_2638) (fun q z => Or.inr (by have z : q = a + 337 := z; have h9 := hC.2.2.2.2.1.1; have := hC.2.2.2.2.2.1; omega)) (rfl : _ = 2641) (fun v_2638 H2638_2 hq_2638 o_2638 => ?_)
  rcases hq_2638 with ⟨hk9, r9, H9, w9, hP9, hst9, ho9, hw9⟩ | ⟨E9, hX9, hk9, ho9⟩
  · have hk8 := hk9.symm
    subst hk8
    obtain ⟨hr9, -, hc9⟩ := hP9
    have hC := hC.out o_2638 ⟨_, ho9⟩
    obtain ⟨e9, he9, hee9⟩ := hG.2.2.2.2.2.2.2.resolve_left hc9
    refine V_istore Y.1 (ls' := [(6, _), (5, _), (4, _), (3, _), (2, _), (1, _), (0, _)]) dL_law_2641 (rfl : _ = 2643) (by decide) rfl ?_
    refine V_aload_n Y.1 4 dL_law_2643 (rfl : _ = 2644) rfl rfl ?_
    refine V_cI Y (rV Y (c_X6_failedCommand_y l D kA _ (a + 329) F s b v p uu tt cc hC.2.1 (by rw [hG.2.1.2.2.2.2.2, hee9]; exact nI_pos he9)) mi_X6_failedCommand vi_L_327 rfl hC.2.1.1 rfl rfl (Nat.le_of_ble_eq_true rfl) ⟨Nat.le_of_ble_eq_true rfl, Nat.le_of_ble_eq_true rfl⟩ (by show _ ≤ 603072; omega) (by show _ ≤ 7194730; omega) dL_law_2644) (fun q z => Or.inr (by have z := z.1; have := hC.2.2.2.2.2.1; omega)) (rfl : _ = 2647) (fun v_2644 H2644_7 hq_2644 o_2644 => ?_)
    obtain ⟨hb2, hR2⟩ := hq_2644
    have hb3 := (hr9.trans (hG.2.1.2.2.2.2.2).symm).trans hb2.symm
    subst hb3
    have ho9 := ho9.off o_2644 (fun e => by have := e.2; omega)
    have hC := hC.mod o_2644 hR2
    refine V_istore Y.1 (ls' := [(7, _), (6, _), (5, _), (4, _), (3, _), (2, _), (1, _), (0, _)]) dL_law_2647 (rfl : _ = 2649) (by decide) rfl ?_
    refine V_aload_n Y.1 5 dL_law_2649 (rfl : _ = 2650) rfl rfl ?_
    refine V_cP Y (rV Y (c_X6_thrown l D kA _ (a + 329) _ _ _ _ _ _ _ _ hC.2.1) mi_X6_thrown vi_L_159 rfl hC.2.1.1 rfl rfl (Nat.le_of_ble_eq_true rfl) ⟨Nat.le_of_ble_eq_true rfl, Nat.le_of_ble_eq_true rfl⟩ (by show _ ≤ 603072; omega) (by show _ ≤ 7194730; omega) dL_law_2650) (rfl : _ = 2653) ?_
    refine V_iload Y.1 1 dL_law_2653 (rfl : _ = 2655) rfl ?_
    refine V_icmp_eq Y.1 (tgt := 2660) dL_law_2655 (by decide) (rfl : _ = 2658) (fun _ => ?_) (fun c_n => absurd pk_us c_n)
    refine V_iload Y.1 1 dL_law_2660 (rfl : _ = 2662) rfl ?_
    refine V_if_ne Y.1 (tgt := 2677) dL_law_2662 (by decide) (rfl : _ = 2665) (fun c_n => absurd rfl c_n) (fun _ => ?_)
    refine V_aload_n Y.1 4 dL_law_2665 (rfl : _ = 2666) rfl rfl ?_
    refine V_iconst Y.1 (v := 0) dL_law_2666 (rfl : _ = 2667) (by decide) ?_
    refine V_lald Y.1 (v := r9.toInt64) ho9 (show ¬ ((0 : Int32) < 0 ∨ 1 ≤ (0 : Int32).toNatClampNeg) by decide) hw9 dL_law_2667 (rfl : _ = 2668) ?_
    refine V_iload Y.1 0 dL_law_2668 (rfl : _ = 2670) rfl ?_
    refine V_i2l Y.1 dL_law_2670 (rfl : _ = 2671) rfl ?_
    refine V_lcmp Y.1 dL_law_2671 (rfl : _ = 2672) ?_
    refine V_if_eq Y.1 (tgt := 2677) dL_law_2672 (by decide) (rfl : _ = 2675) (fun _ => ?_) (fun c_n => absurd (lg_self _) c_n)
    refine V_goto Y.1 (tgt := 2781) dL_law_2677 (by decide) ?_
    exact V_forget (ls' := [(5, _), (4, _), (3, _), (2, _), (1, _), (0, _)]) [2, 3, 4, 5, 6, 7] rfl (V_widen (by omega) (by omega) (kk _ ⟨_, _, _, _, _, _, _, _, _, _, _, _, _, _, _, _, _, _, _, _, _, _, _, hC, (hG.f6 _).more (by omega)⟩))
  · obtain ⟨rfl, hc9⟩ := hX9
    have hk7 : v_2638 = 1 := hk9
    have hk8 := hk7.symm
    subst hk8
    have hC := hC.out o_2638 ⟨_, ho9⟩
    refine V_istore Y.1 (ls' := [(6, _), (5, _), (4, _), (3, _), (2, _), (1, _), (0, _)]) dL_law_2641 (rfl : _ = 2643) (by decide) rfl ?_
    refine V_aload_n Y.1 4 dL_law_2643 (rfl : _ = 2644) rfl rfl ?_
    refine V_cI Y (rV Y (c_X6_failedCommand_n l D kA _ (a + 329) F s b v p uu tt cc hC.2.1 (by rw [hG.2.1.2.2.2.2.2, hc9]; decide)) mi_X6_failedCommand vi_L_327 rfl hC.2.1.1 rfl rfl (Nat.le_of_ble_eq_true rfl) ⟨Nat.le_of_ble_eq_true rfl, Nat.le_of_ble_eq_true rfl⟩ (by show _ ≤ 603072; omega) (by show _ ≤ 7194730; omega) dL_law_2644) (fun q z => Or.inr (by have z := z.1; have := hC.2.2.2.2.2.1; omega)) (rfl : _ = 2647) (fun v_2644 H2644_6 hq_2644 o_2644 => ?_)
    obtain ⟨hb2, hR2⟩ := hq_2644
    have hC := hC.mod o_2644 hR2
    refine V_istore Y.1 (ls' := [(7, _), (6, _), (5, _), (4, _), (3, _), (2, _), (1, _), (0, _)]) dL_law_2647 (rfl : _ = 2649) (by decide) rfl ?_
    refine V_aload_n Y.1 5 dL_law_2649 (rfl : _ = 2650) rfl rfl ?_
    refine V_cP Y (rV Y (c_X6_thrown l D kA _ (a + 329) _ _ _ _ _ _ _ _ hC.2.1) mi_X6_thrown vi_L_159 rfl hC.2.1.1 rfl rfl (Nat.le_of_ble_eq_true rfl) ⟨Nat.le_of_ble_eq_true rfl, Nat.le_of_ble_eq_true rfl⟩ (by show _ ≤ 603072; omega) (by show _ ≤ 7194730; omega) dL_law_2650) (rfl : _ = 2653) ?_
    refine V_iload Y.1 1 dL_law_2653 (rfl : _ = 2655) rfl ?_
    refine V_icmp_eq Y.1 (tgt := 2660) dL_law_2655 (by decide) (rfl : _ = 2658) (fun _ => ?_) (fun c_n => absurd pk_us c_n)
    refine V_iload Y.1 1 dL_law_2660 (rfl : _ = 2662) rfl ?_
    refine V_if_ne Y.1 (tgt := 2677) dL_law_2662 (by decide) (rfl : _ = 2665) (fun _ => ?_) (fun c_n => absurd c_n (by decide))
    refine V_goto Y.1 (tgt := 2781) dL_law_2677 (by decide) ?_
    exact V_forget (ls' := [(5, _), (4, _), (3, _), (2, _), (1, _), (0, _)]) [2, 3, 4, 5, 6, 7] rfl (V_widen (by omega) (by omega) (kk _ ⟨_, _, _, _, _, _, _, _, _, _, _, _, _, _, _, _, _, _, _, _, _, _, _, hC, (hG.f6 _).more (by omega)⟩))

set_option maxRecDepth 100000 in
set_option maxHeartbeats 4000000 in
theorem lc_50 (l : Launch) (D : va_G) (kA : Nat → ClassId) (Hs : Heap) (σ : SG) (hnt : l.stackTraces = false) {Pp : Program} {Ee : Env} {Ss : State} {Mm : MethodId} {Ar : Array Value} {Bl : List Frame} {Me : Method} {Cc : Code} {Q : State → Prop} (Z : Ys Pp Ss Mm Ar Me Cc cL_law 9 (some .boolean) "MetroFaresLaw" D kA (AA Hs nof) Hs σ) (sa N : Nat) (f : Nat → Int32) (hsa : va_X sa N f Ss Ss.heap ∧ sa < Ss.heap.size ∧ ¬ AA Hs nof sa) (hN : N ≤ 1536) (a j : Nat) (hj : 3 * j + 3 ≤ N) (H : Heap) (hI : Inv D kA Hs a H (61 * j)) (kk : ∀ H1, Inv D kA Hs a H1 (61 * (j + 1)) → V Pp l Ee (rmO 2048 94400 603072 7194730) Ss Mm Ar Bl Me Cc 9 (AA Hs nof) Q H1 (400 + 200 * (j + 1)) (6000 + 400 * (j + 1)) 2781 [(5, .int (nI (3 * j))), (4, .ref (a + 338)), (3, .ref (a + 337)), (2, .ref (a + 329)), (1, .ref a), (0, .ref sa)] []) : V Pp l Ee (rmO 2048 94400 603072 7194730) Ss Mm Ar Bl Me Cc 9 (AA Hs nof) Q H (400 + 200 * (j)) (6000 + 400 * (j)) 2680 [(5, .int (nI (3 * j))), (4, .ref (a + 338)), (3, .ref (a + 337)), (2, .ref (a + 329)), (1, .ref a), (0, .ref sa)] [] := by
  obtain ⟨W, π, ES, u, hs, ep, fc, no, go, vs, cs, ns, gs, F, s, b, v, p, uu, tt, cc, n, t, hC, hG⟩ := hI
  have Y := Z.1
  have hS := hG.1.1.1
  have hM9 := hG.1.1
  have hjq : j ≤ 512 := by omega
  have hu8 := hC.1.2.2.2.2.2.2.2.1
  obtain ⟨w1, ho1⟩ := hC.2.2.1
  obtain ⟨x, hx⟩ : ∃ x, f (3 * j + 1) = x := ⟨_, rfl⟩
  obtain ⟨y, hy⟩ : ∃ y, f (3 * j + 2) = y := ⟨_, rfl⟩
  refine V_aload_n Y.1 4 dL_law_2680 (rfl : _ = 2681) rfl rfl ?_
  refine V_aload_n Y.1 2 dL_law_2681 (rfl : _ = 2682) rfl rfl ?_
  refine V_cI Y (sW Z (c_L_undo l D kA Hs σ _ hC.2.2.2.2.1 a W π ES u hs ep fc no go vs cs ns gs (a + 337) w1 hC.1 hnt hC.2.2.2.2.2.1 ho1 (by omega) (by have := hC.2.2.2.2.2.2.2; omega) (by have := hC.2.2.2.2.2.1; omega)) mh_L_undo si_L_328 rfl rfl (Nat.le_of_ble_eq_true rfl) ⟨Nat.le_of_ble_eq_true rfl, Nat.le_of_ble_eq_true rfl⟩ (by show _ ≤ 603072; omega) (by show _ ≤ 7194730; omega) dL_law_2682) (fun q z => Or.inr (by have h9 := hC.2.2.2.2.2.1; rcases z with z | z; exact (by have := z.1; omega); exact (by have z : q = a + 337 := z; omega))) (rfl : _ = 2685) (fun v_2682 H2682_2 hq_2682 o_2682 => ?_)
  rcases hq_2682 with ⟨hk9, r9, H9, w9, hP9, hst9, ho9, hw9⟩ | ⟨E9, hX9, hk9, ho9⟩
  · have hk8 := hk9.symm
    subst hk8
    obtain ⟨hu0, hr9, hF9⟩ := hP9
    obtain ⟨u9, rfl⟩ : ∃ u9, u = u9 + 1 := ⟨u - 1, by omega⟩
    have hF8 := hF9.kept (hst9.off (F := fun q => q = a + 337) rfl) (fun q z e => by have e : q = a + 337 := e; have := z.2; omega) (fun e => by have e : vs = a + 337 := e; have := hC.2.2.2.2.2.2.2; omega) (fun q z e => by have e : q = a + 337 := e; have := hC.2.2.2.2.2.2.1 q z; omega)
    have hC := hC.cls o_2682 (fun q z => z.elim Or.inl (fun e => Or.inr (Or.inr e))) hF8 ⟨_, ho9⟩ hC.2.2.2.2.2.2.1 hC.2.2.2.2.2.2.2
    obtain ⟨n8, t8, hG8⟩ := hG.undo (by omega)
    refine V_istore Y.1 (ls' := [(6, _), (5, _), (4, _), (3, _), (2, _), (1, _), (0, _)]) dL_law_2685 (rfl : _ = 2687) (by decide) rfl ?_
    refine V_aload_n Y.1 4 dL_law_2687 (rfl : _ = 2688) rfl rfl ?_
    refine V_cI Y (rV Y (c_X6_undo_y l D kA _ (a + 329) F s b v p uu tt cc u9 (by omega) hC.2.1 hG.2.1.1) mi_X6_undo vi_L_330 rfl hC.2.1.1 rfl rfl (Nat.le_of_ble_eq_true rfl) ⟨Nat.le_of_ble_eq_true rfl, Nat.le_of_ble_eq_true rfl⟩ (by show _ ≤ 603072; omega) (by show _ ≤ 7194730; omega) dL_law_2688) (fun q z => Or.inr (by have z := z.1; have := hC.2.2.2.2.2.1; omega)) (rfl : _ = 2691) (fun v_2688 H2688_9 hq_2688 o_2688 => ?_)
    obtain ⟨hb2, hR2⟩ := hq_2688
    have hb3 := hr9.trans hb2.symm
    subst hb3
    have ho9 := ho9.off o_2688 (fun e => by have := e.2; omega)
    have hC := hC.mod o_2688 hR2
    refine V_istore Y.1 (ls' := [(7, _), (6, _), (5, _), (4, _), (3, _), (2, _), (1, _), (0, _)]) dL_law_2691 (rfl : _ = 2693) (by decide) rfl ?_
    refine V_aload_n Y.1 5 dL_law_2693 (rfl : _ = 2694) rfl rfl ?_
    refine V_cP Y (rV Y (c_X6_thrown l D kA _ (a + 329) _ _ _ _ _ _ _ _ hC.2.1) mi_X6_thrown vi_L_159 rfl hC.2.1.1 rfl rfl (Nat.le_of_ble_eq_true rfl) ⟨Nat.le_of_ble_eq_true rfl, Nat.le_of_ble_eq_true rfl⟩ (by show _ ≤ 603072; omega) (by show _ ≤ 7194730; omega) dL_law_2694) (rfl : _ = 2697) ?_
    refine V_iload Y.1 1 dL_law_2697 (rfl : _ = 2699) rfl ?_
    refine V_icmp_eq Y.1 (tgt := 2704) dL_law_2699 (by decide) (rfl : _ = 2702) (fun _ => ?_) (fun c_n => absurd (by rw [pk_un (by decide), pk_us]) c_n)
    refine V_iload Y.1 1 dL_law_2704 (rfl : _ = 2706) rfl ?_
    refine V_if_ne Y.1 (tgt := 2721) dL_law_2706 (by decide) (rfl : _ = 2709) (fun c_n => absurd rfl c_n) (fun _ => ?_)
    refine V_aload_n Y.1 4 dL_law_2709 (rfl : _ = 2710) rfl rfl ?_
    refine V_iconst Y.1 (v := 0) dL_law_2710 (rfl : _ = 2711) (by decide) ?_
    refine V_lald Y.1 (v := r9.toInt64) ho9 (show ¬ ((0 : Int32) < 0 ∨ 1 ≤ (0 : Int32).toNatClampNeg) by decide) hw9 dL_law_2711 (rfl : _ = 2712) ?_
    refine V_iload Y.1 0 dL_law_2712 (rfl : _ = 2714) rfl ?_
    refine V_i2l Y.1 dL_law_2714 (rfl : _ = 2715) rfl ?_
    refine V_lcmp Y.1 dL_law_2715 (rfl : _ = 2716) ?_
    refine V_if_eq Y.1 (tgt := 2721) dL_law_2716 (by decide) (rfl : _ = 2719) (fun _ => ?_) (fun c_n => absurd (lg_self _) c_n)
    refine V_goto Y.1 (tgt := 2781) dL_law_2721 (by decide) ?_
    exact V_forget (ls' := [(5, _), (4, _), (3, _), (2, _), (1, _), (0, _)]) [2, 3, 4, 5, 6, 7] rfl (V_widen (by omega) (by omega) (kk _ ⟨_, _, _, _, _, _, _, _, _, _, _, _, _, _, _, _, _, _, _, _, _, _, _, hC, hG8.more (by omega)⟩))
  · obtain ⟨rfl, hu0, hF8⟩ := hX9
    have hk7 : v_2682 = 1 := hk9
    have hk8 := hk7.symm
    subst hk8
    have hC := hC.cls o_2682 (fun q z => z.elim Or.inl (fun e => Or.inr (Or.inr e))) hF8 ⟨_, ho9⟩ hC.2.2.2.2.2.2.1 hC.2.2.2.2.2.2.2
    refine V_istore Y.1 (ls' := [(6, _), (5, _), (4, _), (3, _), (2, _), (1, _), (0, _)]) dL_law_2685 (rfl : _ = 2687) (by decide) rfl ?_
    refine V_aload_n Y.1 4 dL_law_2687 (rfl : _ = 2688) rfl rfl ?_
    refine V_cI Y (rV Y (c_X6_undo_n l D kA _ (a + 329) F s b v p uu tt cc hC.2.1 (by rw [hG.2.1.1, hu0]; rfl)) mi_X6_undo vi_L_330 rfl hC.2.1.1 rfl rfl (Nat.le_of_ble_eq_true rfl) ⟨Nat.le_of_ble_eq_true rfl, Nat.le_of_ble_eq_true rfl⟩ (by show _ ≤ 603072; omega) (by show _ ≤ 7194730; omega) dL_law_2688) (fun q z => Or.inr (by have z := z.1; have := hC.2.2.2.2.2.1; omega)) (rfl : _ = 2691) (fun v_2688 H2688_6 hq_2688 o_2688 => ?_)
    obtain ⟨hb2, hR2⟩ := hq_2688
    have hC := hC.mod o_2688 hR2
    refine V_istore Y.1 (ls' := [(7, _), (6, _), (5, _), (4, _), (3, _), (2, _), (1, _), (0, _)]) dL_law_2691 (rfl : _ = 2693) (by decide) rfl ?_
    refine V_aload_n Y.1 5 dL_law_2693 (rfl : _ = 2694) rfl rfl ?_
    refine V_cP Y (rV Y (c_X6_thrown l D kA _ (a + 329) _ _ _ _ _ _ _ _ hC.2.1) mi_X6_thrown vi_L_159 rfl hC.2.1.1 rfl rfl (Nat.le_of_ble_eq_true rfl) ⟨Nat.le_of_ble_eq_true rfl, Nat.le_of_ble_eq_true rfl⟩ (by show _ ≤ 603072; omega) (by show _ ≤ 7194730; omega) dL_law_2694) (rfl : _ = 2697) ?_
    refine V_iload Y.1 1 dL_law_2697 (rfl : _ = 2699) rfl ?_
    refine V_icmp_eq Y.1 (tgt := 2704) dL_law_2699 (by decide) (rfl : _ = 2702) (fun _ => ?_) (fun c_n => absurd pk_us c_n)
    refine V_iload Y.1 1 dL_law_2704 (rfl : _ = 2706) rfl ?_
    refine V_if_ne Y.1 (tgt := 2721) dL_law_2706 (by decide) (rfl : _ = 2709) (fun _ => ?_) (fun c_n => absurd c_n (by decide))
    refine V_goto Y.1 (tgt := 2781) dL_law_2721 (by decide) ?_
    exact V_forget (ls' := [(5, _), (4, _), (3, _), (2, _), (1, _), (0, _)]) [2, 3, 4, 5, 6, 7] rfl (V_widen (by omega) (by omega) (kk _ ⟨_, _, _, _, _, _, _, _, _, _, _, _, _, _, _, _, _, _, _, _, _, _, _, hC, (hG.f6 _).more (by omega)⟩))

set_option maxRecDepth 100000 in
set_option maxHeartbeats 4000000 in
theorem lc_52 (l : Launch) (D : va_G) (kA : Nat → ClassId) (Hs : Heap) (σ : SG) (hnt : l.stackTraces = false) {Pp : Program} {Ee : Env} {Ss : State} {Mm : MethodId} {Ar : Array Value} {Bl : List Frame} {Me : Method} {Cc : Code} {Q : State → Prop} (Z : Ys Pp Ss Mm Ar Me Cc cL_law 9 (some .boolean) "MetroFaresLaw" D kA (AA Hs nof) Hs σ) (sa N : Nat) (f : Nat → Int32) (hsa : va_X sa N f Ss Ss.heap ∧ sa < Ss.heap.size ∧ ¬ AA Hs nof sa) (hN : N ≤ 1536) (a j : Nat) (hj : 3 * j + 3 ≤ N) (H : Heap) (hI : Inv D kA Hs a H (61 * j)) (kk : ∀ H1, Inv D kA Hs a H1 (61 * (j + 1)) → V Pp l Ee (rmO 2048 94400 603072 7194730) Ss Mm Ar Bl Me Cc 9 (AA Hs nof) Q H1 (400 + 200 * (j + 1)) (6000 + 400 * (j + 1)) 2781 [(5, .int (nI (3 * j))), (4, .ref (a + 338)), (3, .ref (a + 337)), (2, .ref (a + 329)), (1, .ref a), (0, .ref sa)] []) : V Pp l Ee (rmO 2048 94400 603072 7194730) Ss Mm Ar Bl Me Cc 9 (AA Hs nof) Q H (400 + 200 * (j)) (6000 + 400 * (j)) 2737 [(5, .int (nI (3 * j))), (4, .ref (a + 338)), (3, .ref (a + 337)), (2, .ref (a + 329)), (1, .ref a), (0, .ref sa)] [] := by
  obtain ⟨W, π, ES, u, hs, ep, fc, no, go, vs, cs, ns, gs, F, s, b, v, p, uu, tt, cc, n, t, hC, hG⟩ := hI
  have Y := Z.1
  have hS := hG.1.1.1
  have hM9 := hG.1.1
  have hjq : j ≤ 512 := by omega
  have hu8 := hC.1.2.2.2.2.2.2.2.1
  obtain ⟨w1, ho1⟩ := hC.2.2.1
  obtain ⟨x, hx⟩ : ∃ x, f (3 * j + 1) = x := ⟨_, rfl⟩
  obtain ⟨y, hy⟩ : ∃ y, f (3 * j + 2) = y := ⟨_, rfl⟩
  obtain ⟨n2, t2, hq2⟩ : ∃ n2 t2, hs = 1 → SQ (W 2) v n2 t2 (61 * j) := by
    by_cases z : hs = 1
    · obtain ⟨n2, t2, z2⟩ := hG.2.2.1 z
      exact ⟨n2, t2, fun _ => z2⟩
    · exact ⟨0, 0, fun q => absurd q z⟩
  refine V_aload_n Y.1 4 dL_law_2737 (rfl : _ = 2738) rfl rfl ?_
  refine V_aload_n Y.1 2 dL_law_2738 (rfl : _ = 2739) rfl rfl ?_
  refine V_cI Y (sW Z (c_L_restore l D kA Hs σ _ hC.2.2.2.2.1 a W π ES u hs ep fc no go vs cs ns gs n2 (t2 / 1440) (a + 337) w1 hC.1 hnt (fun z => (hq2 z).1.mi) hC.2.2.2.2.2.1 ho1 (by omega) (by have := hC.2.2.2.2.2.2.2; omega) (by have := hC.2.2.2.2.2.1; omega)) mh_L_restore si_L_335 rfl rfl (Nat.le_of_ble_eq_true rfl) ⟨Nat.le_of_ble_eq_true rfl, Nat.le_of_ble_eq_true rfl⟩ (by show _ ≤ 603072; omega) (by show _ ≤ 7194730; omega) dL_law_2739) (fun q z => Or.inr (by have h9 := hC.2.2.2.2.2.1; rcases z with z | z; exact (by have := z.1; omega); exact (by have z : q = a + 337 := z; omega))) (rfl : _ = 2742) (fun v_2739 H2739_2 hq_2739 o_2739 => ?_)
  rcases hq_2739 with ⟨hk9, r9, H9, w9, hP9, hst9, ho9, hw9⟩ | ⟨E9, hX9, hk9, ho9⟩
  · have hk8 := hk9.symm
    subst hk8
    obtain ⟨hh9, hr9, hF9⟩ := hP9
    have hPm := hC.1.2.2.2.2.2.1
    have hF8 := hF9.kept (hst9.off (F := fun q => q = a + 337) rfl) (fun q z e => by have e : q = a + 337 := e; have := z.2; omega) (fun e => by have e : vs = a + 337 := e; have := hC.2.2.2.2.2.2.2; omega) (fun q z e => by have e : q = a + 337 := e; have := hC.2.2.2.2.2.2.1 q z; omega)
    have hC := hC.cls o_2739 (fun q z => z.elim Or.inl (fun e => Or.inr (Or.inr e))) hF8 ⟨_, ho9⟩ hC.2.2.2.2.2.2.1 hC.2.2.2.2.2.2.2
    refine V_istore Y.1 (ls' := [(6, _), (5, _), (4, _), (3, _), (2, _), (1, _), (0, _)]) dL_law_2742 (rfl : _ = 2744) (by decide) rfl ?_
    refine V_aload_n Y.1 4 dL_law_2744 (rfl : _ = 2745) rfl rfl ?_
    refine V_cI Y (rV Y (c_X6_restore_y l D kA _ (a + 329) F s b v p uu tt cc hC.2.1 (hG.2.1.2.1.trans hh9)) mi_X6_restore vi_L_337 rfl hC.2.1.1 rfl rfl (Nat.le_of_ble_eq_true rfl) ⟨Nat.le_of_ble_eq_true rfl, Nat.le_of_ble_eq_true rfl⟩ (by show _ ≤ 603072; omega) (by show _ ≤ 7194730; omega) dL_law_2745) (fun q z => Or.inr (by have z := z.1; have := hC.2.2.2.2.2.1; omega)) (rfl : _ = 2748) (fun v_2745 H2745_8 hq_2745 o_2745 => ?_)
    obtain ⟨hb2, hR2⟩ := hq_2745
    have hb3 := (hr9.trans (hq2 hh9).1.1.1.1.symm).trans hb2.symm
    subst hb3
    have ho9 := ho9.off o_2745 (fun e => by have := e.2; omega)
    have hC := hC.mod o_2745 hR2
    refine V_istore Y.1 (ls' := [(7, _), (6, _), (5, _), (4, _), (3, _), (2, _), (1, _), (0, _)]) dL_law_2748 (rfl : _ = 2750) (by decide) rfl ?_
    refine V_aload_n Y.1 5 dL_law_2750 (rfl : _ = 2751) rfl rfl ?_
    refine V_cP Y (rV Y (c_X6_thrown l D kA _ (a + 329) _ _ _ _ _ _ _ _ hC.2.1) mi_X6_thrown vi_L_159 rfl hC.2.1.1 rfl rfl (Nat.le_of_ble_eq_true rfl) ⟨Nat.le_of_ble_eq_true rfl, Nat.le_of_ble_eq_true rfl⟩ (by show _ ≤ 603072; omega) (by show _ ≤ 7194730; omega) dL_law_2751) (rfl : _ = 2754) ?_
    refine V_iload Y.1 1 dL_law_2754 (rfl : _ = 2756) rfl ?_
    refine V_icmp_eq Y.1 (tgt := 2761) dL_law_2756 (by decide) (rfl : _ = 2759) (fun _ => ?_) (fun c_n => absurd (by rw [pk_un (by decide), pk_us]) c_n)
    refine V_iload Y.1 1 dL_law_2761 (rfl : _ = 2763) rfl ?_
    refine V_if_ne Y.1 (tgt := 2778) dL_law_2763 (by decide) (rfl : _ = 2766) (fun c_n => absurd rfl c_n) (fun _ => ?_)
    refine V_aload_n Y.1 4 dL_law_2766 (rfl : _ = 2767) rfl rfl ?_
    refine V_iconst Y.1 (v := 0) dL_law_2767 (rfl : _ = 2768) (by decide) ?_
    refine V_lald Y.1 (v := r9.toInt64) ho9 (show ¬ ((0 : Int32) < 0 ∨ 1 ≤ (0 : Int32).toNatClampNeg) by decide) hw9 dL_law_2768 (rfl : _ = 2769) ?_
    refine V_iload Y.1 0 dL_law_2769 (rfl : _ = 2771) rfl ?_
    refine V_i2l Y.1 dL_law_2771 (rfl : _ = 2772) rfl ?_
    refine V_lcmp Y.1 dL_law_2772 (rfl : _ = 2773) ?_
    refine V_if_eq Y.1 (tgt := 2778) dL_law_2773 (by decide) (rfl : _ = 2776) (fun _ => ?_) (fun c_n => absurd (lg_self _) c_n)
    refine V_goto Y.1 (tgt := 2781) dL_law_2778 (by decide) ?_
    exact V_forget (ls' := [(5, _), (4, _), (3, _), (2, _), (1, _), (0, _)]) [2, 3, 4, 5, 6, 7] rfl (V_widen (by omega) (by omega) (kk _ ⟨_, _, _, _, _, _, _, _, _, _, _, _, _, _, _, _, _, _, _, _, _, _, _, hC, (hG.rest hPm (hq2 hh9)).more (by omega)⟩))
  · obtain ⟨rfl, hh9, hF8⟩ := hX9
    have hk7 : v_2739 = 1 := hk9
    have hk8 := hk7.symm
    subst hk8
    have hC := hC.cls o_2739 (fun q z => z.elim Or.inl (fun e => Or.inr (Or.inr e))) hF8 ⟨_, ho9⟩ hC.2.2.2.2.2.2.1 hC.2.2.2.2.2.2.2
    refine V_istore Y.1 (ls' := [(6, _), (5, _), (4, _), (3, _), (2, _), (1, _), (0, _)]) dL_law_2742 (rfl : _ = 2744) (by decide) rfl ?_
    refine V_aload_n Y.1 4 dL_law_2744 (rfl : _ = 2745) rfl rfl ?_
    refine V_cI Y (rV Y (c_X6_restore_n l D kA _ (a + 329) F s b v p uu tt cc hC.2.1 (hG.2.1.2.1.trans hh9)) mi_X6_restore vi_L_337 rfl hC.2.1.1 rfl rfl (Nat.le_of_ble_eq_true rfl) ⟨Nat.le_of_ble_eq_true rfl, Nat.le_of_ble_eq_true rfl⟩ (by show _ ≤ 603072; omega) (by show _ ≤ 7194730; omega) dL_law_2745) (fun q z => Or.inr (by have z := z.1; have := hC.2.2.2.2.2.1; omega)) (rfl : _ = 2748) (fun v_2745 H2745_6 hq_2745 o_2745 => ?_)
    obtain ⟨hb2, hR2⟩ := hq_2745
    have hC := hC.mod o_2745 hR2
    refine V_istore Y.1 (ls' := [(7, _), (6, _), (5, _), (4, _), (3, _), (2, _), (1, _), (0, _)]) dL_law_2748 (rfl : _ = 2750) (by decide) rfl ?_
    refine V_aload_n Y.1 5 dL_law_2750 (rfl : _ = 2751) rfl rfl ?_
    refine V_cP Y (rV Y (c_X6_thrown l D kA _ (a + 329) _ _ _ _ _ _ _ _ hC.2.1) mi_X6_thrown vi_L_159 rfl hC.2.1.1 rfl rfl (Nat.le_of_ble_eq_true rfl) ⟨Nat.le_of_ble_eq_true rfl, Nat.le_of_ble_eq_true rfl⟩ (by show _ ≤ 603072; omega) (by show _ ≤ 7194730; omega) dL_law_2751) (rfl : _ = 2754) ?_
    refine V_iload Y.1 1 dL_law_2754 (rfl : _ = 2756) rfl ?_
    refine V_icmp_eq Y.1 (tgt := 2761) dL_law_2756 (by decide) (rfl : _ = 2759) (fun _ => ?_) (fun c_n => absurd pk_us c_n)
    refine V_iload Y.1 1 dL_law_2761 (rfl : _ = 2763) rfl ?_
    refine V_if_ne Y.1 (tgt := 2778) dL_law_2763 (by decide) (rfl : _ = 2766) (fun _ => ?_) (fun c_n => absurd c_n (by decide))
    refine V_goto Y.1 (tgt := 2781) dL_law_2778 (by decide) ?_
    exact V_forget (ls' := [(5, _), (4, _), (3, _), (2, _), (1, _), (0, _)]) [2, 3, 4, 5, 6, 7] rfl (V_widen (by omega) (by omega) (kk _ ⟨_, _, _, _, _, _, _, _, _, _, _, _, _, _, _, _, _, _, _, _, _, _, _, hC, (hG.f6 _).more (by omega)⟩))

set_option maxRecDepth 100000 in
set_option maxHeartbeats 4000000 in
theorem lc_45 (l : Launch) (D : va_G) (kA : Nat → ClassId) (Hs : Heap) (σ : SG) (hnt : l.stackTraces = false) {Pp : Program} {Ee : Env} {Ss : State} {Mm : MethodId} {Ar : Array Value} {Bl : List Frame} {Me : Method} {Cc : Code} {Q : State → Prop} (Z : Ys Pp Ss Mm Ar Me Cc cL_law 9 (some .boolean) "MetroFaresLaw" D kA (AA Hs nof) Hs σ) (sa N : Nat) (f : Nat → Int32) (hsa : va_X sa N f Ss Ss.heap ∧ sa < Ss.heap.size ∧ ¬ AA Hs nof sa) (hN : N ≤ 1536) (a j : Nat) (hj : 3 * j + 3 ≤ N) (H : Heap) (hI : Inv D kA Hs a H (61 * j)) (kk : ∀ H1, Inv D kA Hs a H1 (61 * (j + 1)) → V Pp l Ee (rmO 2048 94400 603072 7194730) Ss Mm Ar Bl Me Cc 9 (AA Hs nof) Q H1 (400 + 200 * (j + 1)) (6000 + 400 * (j + 1)) 2781 [(5, .int (nI (3 * j))), (4, .ref (a + 338)), (3, .ref (a + 337)), (2, .ref (a + 329)), (1, .ref a), (0, .ref sa)] []) : V Pp l Ee (rmO 2048 94400 603072 7194730) Ss Mm Ar Bl Me Cc 9 (AA Hs nof) Q H (400 + 200 * (j)) (6000 + 400 * (j)) 2434 [(5, .int (nI (3 * j))), (4, .ref (a + 338)), (3, .ref (a + 337)), (2, .ref (a + 329)), (1, .ref a), (0, .ref sa)] [] := by
  obtain ⟨W, π, ES, u, hs, ep, fc, no, go, vs, cs, ns, gs, F, s, b, v, p, uu, tt, cc, n, t, hC, hG⟩ := hI
  have Y := Z.1
  have hS := hG.1.1.1
  have hM9 := hG.1.1
  have hjq : j ≤ 512 := by omega
  have hu8 := hC.1.2.2.2.2.2.2.2.1
  obtain ⟨w1, ho1⟩ := hC.2.2.1
  obtain ⟨x, hx⟩ : ∃ x, f (3 * j + 1) = x := ⟨_, rfl⟩
  obtain ⟨y, hy⟩ : ∃ y, f (3 * j + 2) = y := ⟨_, rfl⟩
  have hno := hG.2.2.2.2.1.1
  refine V_aload_n Y.1 4 dL_law_2434 (rfl : _ = 2435) rfl rfl ?_
  refine V_aload_n Y.1 5 dL_law_2435 (rfl : _ = 2436) rfl rfl ?_
  refine V_iload Y.1 0 dL_law_2436 (rfl : _ = 2438) rfl ?_
  refine V_iconst Y.1 (v := 1) dL_law_2438 (rfl : _ = 2439) (by decide) ?_
  refine V_iadd Y.1 dL_law_2439 (rfl : _ = 2440) ?_
  refine V_nm (v := nI (3 * j + 1)) (nI_add _ 1) ?_
  refine V_sld Y.1 (v := x) hsa (vp_in_nI (by omega) (by omega)) (by rw [nI_clamp (by omega)]; exact hx) dL_law_2440 (rfl : _ = 2441) ?_
  refine V_aload_n Y.1 2 dL_law_2441 (rfl : _ = 2442) rfl rfl ?_
  refine V_cI Y (sW Z (c_L_outputAt l D kA Hs σ _ hC.2.2.2.2.1 a W π ES u hs ep fc no go vs cs ns gs x (a + 337) w1 hC.1 hnt (fun j9 h9 => (hG.2.2.2.2.1.2 j9 h9).2) ho1 (by omega) (by have := hC.2.2.2.2.2.2.2; omega) (by have := hC.2.2.2.2.2.1; omega)) mh_L_outputAt si_L_312 rfl rfl (Nat.le_of_ble_eq_true rfl) ⟨Nat.le_of_ble_eq_true rfl, Nat.le_of_ble_eq_true rfl⟩ (by show _ ≤ 603072; omega) (by show _ ≤ 7194730; omega) dL_law_2442) (fun q z => Or.inr (by have z : q = a + 337 := z; have h9 := hC.2.2.2.2.1.1; have := hC.2.2.2.2.2.1; omega)) (rfl : _ = 2445) (fun v_2442 H2442_8 hq_2442 o_2442 => ?_)
  rcases hq_2442 with ⟨hk9, r9, H9, w9, hP9, hst9, ho9, hw9⟩ | ⟨E9, hX9, hk9, ho9⟩
  · have hk8 := hk9.symm
    subst hk8
    obtain ⟨hr9, -, hc9, hd9⟩ := hP9
    have hC := hC.out o_2442 ⟨_, ho9⟩
    have hg9 : g_out F uu x = (0, r9) := by
      obtain ⟨q9, hq9, rfl⟩ := nI_of hc9
      rw [nI_ltI hq9 (by omega)] at hd9
      rw [hr9, nI_clamp hq9, (hG.2.2.2.2.1.2 q9 hd9).1]
      unfold g_out
      rw [if_neg (fun z => by rw [r_in_z, hG.2.1.2.2.1, show nI no - 1 = nI (no - 1) from pk_sub (b := 1) (by omega), nI_ltI (by omega) hq9] at z; exact z.elim (fun z => hc9 z) (fun z => by omega)), nI_clamp hq9]
    refine V_istore Y.1 (ls' := [(6, _), (5, _), (4, _), (3, _), (2, _), (1, _), (0, _)]) dL_law_2445 (rfl : _ = 2447) (by decide) rfl ?_
    refine V_aload_n Y.1 4 dL_law_2447 (rfl : _ = 2448) rfl rfl ?_
    refine V_aload_n Y.1 6 dL_law_2448 (rfl : _ = 2449) rfl rfl ?_
    refine V_iload Y.1 1 dL_law_2449 (rfl : _ = 2451) rfl ?_
    refine V_iconst Y.1 (v := 1) dL_law_2451 (rfl : _ = 2452) (by decide) ?_
    refine V_iadd Y.1 dL_law_2452 (rfl : _ = 2453) ?_
    refine V_nm (v := nI (3 * j + 1)) (nI_add _ 1) ?_
    refine V_sld Y.1 (v := x) hsa (vp_in_nI (by omega) (by omega)) (by rw [nI_clamp (by omega)]; exact hx) dL_law_2453 (rfl : _ = 2454) ?_
    refine V_cI Y (rV Y (c_X6_outputAt l D kA _ (a + 329) F s b v p uu tt cc x no hG.2.1.2.2.1 (by omega) (fun j9 h9 => by rw [← (hG.2.2.2.2.1.2 j9 h9).1]; obtain ⟨c8, hc8, e8⟩ := (hG.2.2.2.2.1.2 j9 h9).2; rw [e8]; exact ch_nar hc8) hC.2.1) mi_X6_outputAt vi_L_314 rfl hC.2.1.1 rfl rfl (Nat.le_of_ble_eq_true rfl) ⟨Nat.le_of_ble_eq_true rfl, Nat.le_of_ble_eq_true rfl⟩ (by show _ ≤ 603072; omega) (by show _ ≤ 7194730; omega) dL_law_2454) (fun q z => Or.inr (by have z := z.1; have := hC.2.2.2.2.2.1; omega)) (rfl : _ = 2457) (fun v_2454 H2454_18 hq_2454 o_2454 => ?_)
    obtain ⟨hb2, hR2⟩ := hq_2454
    rw [hg9] at hb2 hR2
    have hb3 := hb2.symm
    subst hb3
    have ho9 := ho9.off o_2454 (fun e => by have := e.2; omega)
    have hC := hC.mod o_2454 hR2
    refine V_istore Y.1 (ls' := [(7, _), (6, _), (5, _), (4, _), (3, _), (2, _), (1, _), (0, _)]) dL_law_2457 (rfl : _ = 2459) (by decide) rfl ?_
    refine V_aload_n Y.1 5 dL_law_2459 (rfl : _ = 2460) rfl rfl ?_
    refine V_cP Y (rV Y (c_X6_thrown l D kA _ (a + 329) _ _ _ _ _ _ _ _ hC.2.1) mi_X6_thrown vi_L_159 rfl hC.2.1.1 rfl rfl (Nat.le_of_ble_eq_true rfl) ⟨Nat.le_of_ble_eq_true rfl, Nat.le_of_ble_eq_true rfl⟩ (by show _ ≤ 603072; omega) (by show _ ≤ 7194730; omega) dL_law_2460) (rfl : _ = 2463) ?_
    refine V_iload Y.1 1 dL_law_2463 (rfl : _ = 2465) rfl ?_
    refine V_icmp_eq Y.1 (tgt := 2470) dL_law_2465 (by decide) (rfl : _ = 2468) (fun _ => ?_) (fun c_n => absurd pk_us c_n)
    refine V_iload Y.1 1 dL_law_2470 (rfl : _ = 2472) rfl ?_
    refine V_if_ne Y.1 (tgt := 2487) dL_law_2472 (by decide) (rfl : _ = 2475) (fun c_n => absurd rfl c_n) (fun _ => ?_)
    refine V_aload_n Y.1 4 dL_law_2475 (rfl : _ = 2476) rfl rfl ?_
    refine V_iconst Y.1 (v := 0) dL_law_2476 (rfl : _ = 2477) (by decide) ?_
    refine V_lald Y.1 (v := r9.toInt64) ho9 (show ¬ ((0 : Int32) < 0 ∨ 1 ≤ (0 : Int32).toNatClampNeg) by decide) hw9 dL_law_2477 (rfl : _ = 2478) ?_
    refine V_iload Y.1 0 dL_law_2478 (rfl : _ = 2480) rfl ?_
    refine V_i2l Y.1 dL_law_2480 (rfl : _ = 2481) rfl ?_
    refine V_lcmp Y.1 dL_law_2481 (rfl : _ = 2482) ?_
    refine V_if_eq Y.1 (tgt := 2487) dL_law_2482 (by decide) (rfl : _ = 2485) (fun _ => ?_) (fun c_n => absurd (lg_self _) c_n)
    refine V_goto Y.1 (tgt := 2781) dL_law_2487 (by decide) ?_
    exact V_forget (ls' := [(5, _), (4, _), (3, _), (2, _), (1, _), (0, _)]) [2, 3, 4, 5, 6, 7] rfl (V_widen (by omega) (by omega) (kk _ ⟨_, _, _, _, _, _, _, _, _, _, _, _, _, _, _, _, _, _, _, _, _, _, _, hC, (hG.f6 _).more (by omega)⟩))
  · obtain ⟨rfl, hc9⟩ := hX9
    have hk7 : v_2442 = 1 := hk9
    have hk8 := hk7.symm
    subst hk8
    have hC := hC.out o_2442 ⟨_, ho9⟩
    have hg9 : (g_out F uu x).1 = 1 := by
      unfold g_out
      rw [if_pos]
      rw [r_in_z]
      by_cases z : x < 0
      · exact Or.inl z
      · have hc9 := hc9.resolve_left z
        obtain ⟨q9, hq9, rfl⟩ := nI_of z
        rw [nI_ltI hq9 (by omega)] at hc9
        refine Or.inr ?_
        rw [hG.2.1.2.2.1]
        by_cases z0 : no = 0
        · rw [z0, show nI 0 - 1 = -1 from by decide, Int32.lt_iff_toInt_lt, nI_toInt hq9, show (-1 : Int32).toInt = -1 from by decide]; omega
        · rw [show nI no - 1 = nI (no - 1) from pk_sub (b := 1) (by omega), nI_ltI (by omega) hq9]; omega
    refine V_istore Y.1 (ls' := [(6, _), (5, _), (4, _), (3, _), (2, _), (1, _), (0, _)]) dL_law_2445 (rfl : _ = 2447) (by decide) rfl ?_
    refine V_aload_n Y.1 4 dL_law_2447 (rfl : _ = 2448) rfl rfl ?_
    refine V_aload_n Y.1 6 dL_law_2448 (rfl : _ = 2449) rfl rfl ?_
    refine V_iload Y.1 1 dL_law_2449 (rfl : _ = 2451) rfl ?_
    refine V_iconst Y.1 (v := 1) dL_law_2451 (rfl : _ = 2452) (by decide) ?_
    refine V_iadd Y.1 dL_law_2452 (rfl : _ = 2453) ?_
    refine V_nm (v := nI (3 * j + 1)) (nI_add _ 1) ?_
    refine V_sld Y.1 (v := x) hsa (vp_in_nI (by omega) (by omega)) (by rw [nI_clamp (by omega)]; exact hx) dL_law_2453 (rfl : _ = 2454) ?_
    refine V_cI Y (rV Y (c_X6_outputAt l D kA _ (a + 329) F s b v p uu tt cc x no hG.2.1.2.2.1 (by omega) (fun j9 h9 => by rw [← (hG.2.2.2.2.1.2 j9 h9).1]; obtain ⟨c8, hc8, e8⟩ := (hG.2.2.2.2.1.2 j9 h9).2; rw [e8]; exact ch_nar hc8) hC.2.1) mi_X6_outputAt vi_L_314 rfl hC.2.1.1 rfl rfl (Nat.le_of_ble_eq_true rfl) ⟨Nat.le_of_ble_eq_true rfl, Nat.le_of_ble_eq_true rfl⟩ (by show _ ≤ 603072; omega) (by show _ ≤ 7194730; omega) dL_law_2454) (fun q z => Or.inr (by have z := z.1; have := hC.2.2.2.2.2.1; omega)) (rfl : _ = 2457) (fun v_2454 H2454_26 hq_2454 o_2454 => ?_)
    obtain ⟨hb2, hR2⟩ := hq_2454
    rw [hg9] at hR2
    have hC := hC.mod o_2454 hR2
    refine V_istore Y.1 (ls' := [(7, _), (6, _), (5, _), (4, _), (3, _), (2, _), (1, _), (0, _)]) dL_law_2457 (rfl : _ = 2459) (by decide) rfl ?_
    refine V_aload_n Y.1 5 dL_law_2459 (rfl : _ = 2460) rfl rfl ?_
    refine V_cP Y (rV Y (c_X6_thrown l D kA _ (a + 329) _ _ _ _ _ _ _ _ hC.2.1) mi_X6_thrown vi_L_159 rfl hC.2.1.1 rfl rfl (Nat.le_of_ble_eq_true rfl) ⟨Nat.le_of_ble_eq_true rfl, Nat.le_of_ble_eq_true rfl⟩ (by show _ ≤ 603072; omega) (by show _ ≤ 7194730; omega) dL_law_2460) (rfl : _ = 2463) ?_
    refine V_iload Y.1 1 dL_law_2463 (rfl : _ = 2465) rfl ?_
    refine V_icmp_eq Y.1 (tgt := 2470) dL_law_2465 (by decide) (rfl : _ = 2468) (fun _ => ?_) (fun c_n => absurd pk_us c_n)
    refine V_iload Y.1 1 dL_law_2470 (rfl : _ = 2472) rfl ?_
    refine V_if_ne Y.1 (tgt := 2487) dL_law_2472 (by decide) (rfl : _ = 2475) (fun _ => ?_) (fun c_n => absurd c_n (by decide))
    refine V_goto Y.1 (tgt := 2781) dL_law_2487 (by decide) ?_
    exact V_forget (ls' := [(5, _), (4, _), (3, _), (2, _), (1, _), (0, _)]) [2, 3, 4, 5, 6, 7] rfl (V_widen (by omega) (by omega) (kk _ ⟨_, _, _, _, _, _, _, _, _, _, _, _, _, _, _, _, _, _, _, _, _, _, _, hC, (hG.f6 _).more (by omega)⟩))

set_option maxRecDepth 100000 in
set_option maxHeartbeats 4000000 in
theorem lc_51 (l : Launch) (D : va_G) (kA : Nat → ClassId) (Hs : Heap) (σ : SG) (hnt : l.stackTraces = false) {Pp : Program} {Ee : Env} {Ss : State} {Mm : MethodId} {Ar : Array Value} {Bl : List Frame} {Me : Method} {Cc : Code} {Q : State → Prop} (Z : Ys Pp Ss Mm Ar Me Cc cL_law 9 (some .boolean) "MetroFaresLaw" D kA (AA Hs nof) Hs σ) (sa N : Nat) (f : Nat → Int32) (hsa : va_X sa N f Ss Ss.heap ∧ sa < Ss.heap.size ∧ ¬ AA Hs nof sa) (hN : N ≤ 1536) (a j : Nat) (hj : 3 * j + 3 ≤ N) (H : Heap) (hI : Inv D kA Hs a H (61 * j)) (kk : ∀ H1, Inv D kA Hs a H1 (61 * (j + 1)) → V Pp l Ee (rmO 2048 94400 603072 7194730) Ss Mm Ar Bl Me Cc 9 (AA Hs nof) Q H1 (400 + 200 * (j + 1)) (6000 + 400 * (j + 1)) 2781 [(5, .int (nI (3 * j))), (4, .ref (a + 338)), (3, .ref (a + 337)), (2, .ref (a + 329)), (1, .ref a), (0, .ref sa)] []) : V Pp l Ee (rmO 2048 94400 603072 7194730) Ss Mm Ar Bl Me Cc 9 (AA Hs nof) Q H (400 + 200 * (j)) (6000 + 400 * (j)) 2724 [(5, .int (nI (3 * j))), (4, .ref (a + 338)), (3, .ref (a + 337)), (2, .ref (a + 329)), (1, .ref a), (0, .ref sa)] [] := by
  obtain ⟨W, π, ES, u, hs, ep, fc, no, go, vs, cs, ns, gs, F, s, b, v, p, uu, tt, cc, n, t, hC, hG⟩ := hI
  have Y := Z.1
  have hS := hG.1.1.1
  have hM9 := hG.1.1
  have hjq : j ≤ 512 := by omega
  have hu8 := hC.1.2.2.2.2.2.2.2.1
  obtain ⟨w1, ho1⟩ := hC.2.2.1
  obtain ⟨x, hx⟩ : ∃ x, f (3 * j + 1) = x := ⟨_, rfl⟩
  obtain ⟨y, hy⟩ : ∃ y, f (3 * j + 2) = y := ⟨_, rfl⟩
  refine V_aload_n Y.1 4 dL_law_2724 (rfl : _ = 2725) rfl rfl ?_
  refine V_cI Y (sV Z (c_X5_save l D kA Hs σ _ hC.2.2.2.2.1 a W π ES u hs ep fc no go vs cs ns gs n (t / 1440) hC.1 hnt hM9.mi hC.2.2.2.2.2.1) mi_X5_save vi_L_331 rfl hC.1.1.1 rfl rfl (Nat.le_of_ble_eq_true rfl) ⟨Nat.le_of_ble_eq_true rfl, Nat.le_of_ble_eq_true rfl⟩ (by show _ ≤ 603072; omega) (by show _ ≤ 7194730; omega) dL_law_2725) (fun q z => Or.inr (by have h9 := hC.2.2.2.2.2.1; have := z.1; omega)) (rfl : _ = 2728) (fun v_2725 H2725_1 hq_2725 o_2725 => ?_)
  obtain ⟨hr9, hF8⟩ := hq_2725
  have hPm := hC.1.2.2.2.2.2.1
  subst hr9
  have ho9 := ho1.off o_2725 (fun e => by have := e.2; omega)
  have hC := hC.cls o_2725 (fun q z => Or.inl z) hF8 ⟨_, ho9⟩ hC.2.2.2.2.2.2.1 hC.2.2.2.2.2.2.2
  refine V_aload_n Y.1 3 dL_law_2728 (rfl : _ = 2729) rfl rfl ?_
  refine V_cI Y (rV Y (c_X6_save l D kA _ (a + 329) F s b v p uu tt cc hC.2.1) mi_X6_save vi_L_334 rfl hC.2.1.1 rfl rfl (Nat.le_of_ble_eq_true rfl) ⟨Nat.le_of_ble_eq_true rfl, Nat.le_of_ble_eq_true rfl⟩ (by show _ ≤ 603072; omega) (by show _ ≤ 7194730; omega) dL_law_2729) (fun q z => Or.inr (by have z := z.1; have := hC.2.2.2.2.2.1; omega)) (rfl : _ = 2732) (fun v_2729 H2729_8 hq_2729 o_2729 => ?_)
  obtain ⟨hb2, hR2⟩ := hq_2729
  have hC := hC.mod o_2729 hR2
  refine V_icmp_eq Y.1 (tgt := 2781) dL_law_2732 (by decide) (rfl : _ = 2735) (fun _ => ?_) (fun c_n => absurd (hS.1.1 ▸ hb2.symm : nI n = v_2729) c_n)
  exact V_forget (ls' := [(5, _), (4, _), (3, _), (2, _), (1, _), (0, _)]) [0, 1, 2, 3, 4, 5] rfl (V_widen (by omega) (by omega) (kk _ ⟨_, _, _, _, _, _, _, _, _, _, _, _, _, _, _, _, _, _, _, _, _, _, _, hC, (hG.save hPm hu8).more (by omega)⟩))

