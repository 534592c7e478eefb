/-! The law's cases: the means' bits. -/
set_option maxRecDepth 100000 in
set_option maxHeartbeats 4000000 in
theorem lc_39 (l : Launch) (D : va_G) (kA : Nat → ClassId) (Hs : Heap) (σ : SG) (hnt : l.stackTraces = false) {Pp : Program} {Ee : Env} {Ss : State} {Mm : MethodId} {Ar : Array Value} {Bl : List Frame} {Me : Method} {Cc : Code} {Q : State → Prop} (Z : Ys Pp Ss Mm Ar Me Cc cL_law 9 (some .boolean) "MetroFaresLaw" D kA (AA Hs nof) Hs σ) (sa N : Nat) (f : Nat → Int32) (hsa : va_X sa N f Ss Ss.heap ∧ sa < Ss.heap.size ∧ ¬ AA Hs nof sa) (hN : N ≤ 1536) (a j : Nat) (hj : 3 * j + 3 ≤ N) (H : Heap) (hI : Inv D kA Hs a H (61 * j)) (kk : ∀ H1, Inv D kA Hs a H1 (61 * (j + 1)) → V Pp l Ee (rmO 2048 94400 603072 7194730) Ss Mm Ar Bl Me Cc 9 (AA Hs nof) Q H1 (400 + 200 * (j + 1)) (6000 + 400 * (j + 1)) 2781 [(5, .int (nI (3 * j))), (4, .ref (a + 338)), (3, .ref (a + 337)), (2, .ref (a + 329)), (1, .ref a), (0, .ref sa)] []) : V Pp l Ee (rmO 2048 94400 603072 7194730) Ss Mm Ar Bl Me Cc 9 (AA Hs nof) Q H (400 + 200 * (j)) (6000 + 400 * (j)) 2199 [(5, .int (nI (3 * j))), (4, .ref (a + 338)), (3, .ref (a + 337)), (2, .ref (a + 329)), (1, .ref a), (0, .ref sa)] [] := by
  obtain ⟨W, π, ES, u, hs, ep, fc, no, go, vs, cs, ns, gs, F, s, b, v, p, uu, tt, cc, n, t, hC, hG⟩ := hI
  have Y := Z.1
  have hS := hG.1.1.1
  have hM9 := hG.1.1
  have hjq : j ≤ 512 := by omega
  have hu8 := hC.1.2.2.2.2.2.2.2.1
  obtain ⟨w1, ho1⟩ := hC.2.2.1
  obtain ⟨x, hx⟩ : ∃ x, f (3 * j + 1) = x := ⟨_, rfl⟩
  obtain ⟨y, hy⟩ : ∃ y, f (3 * j + 2) = y := ⟨_, rfl⟩
  obtain ⟨a9, b9, d9, ha9, ea9, hb9, eb9, hd9, ed9⟩ := hS.2.2.2.2.2.1
  have f3 := hS.2.1.2.2.2.1
  have f5 := hS.2.1.2.2.2.2.2.1
  have f6 := hS.2.1.2.2.2.2.2.2.1
  have e78 : s 7 + s 8 = nI (b9 + d9) := by rw [eb9, ed9]; exact nI_add b9 d9
  have e56 : (W (π 0)).1 5 + (W (π 0)).1 6 = nI (b9 + d9) := by rw [f5, f6]; exact e78
  refine V_aload_n Y.1 4 dL_law_2199 (rfl : _ = 2200) rfl rfl ?_
  refine V_aload_n Y.1 2 dL_law_2200 (rfl : _ = 2201) rfl rfl ?_
  refine V_cI Y (sW Z (c_L_meanChargeBits l D kA Hs σ _ hC.2.2.2.2.1 a W π ES u hs ep fc no go vs cs ns gs a9 (b9 + d9) (a + 337) w1 hC.1 hnt (f3.trans ea9) e56 (by omega) (by omega) ho1 (by omega) (by have := hC.2.2.2.2.2.2.2; omega) (by have := hC.2.2.2.2.2.1; omega)) mh_L_meanChargeBits si_L_290 rfl rfl (Nat.le_of_ble_eq_true rfl) ⟨Nat.le_of_ble_eq_true rfl, Nat.le_of_ble_eq_true rfl⟩ (by show _ ≤ 603072; omega) (by show _ ≤ 7194730; omega) dL_law_2201) (fun q z => Or.inr (by have z : q = a + 337 := z; have h9 := hC.2.2.2.2.1.1; have := hC.2.2.2.2.2.1; omega)) (rfl : _ = 2204) (fun v_2201 H2201_2 hq_2201 o_2201 => ?_)
  rcases hq_2201 with ⟨hk9, r9, H9, w9, hP9, hst9, ho9, hw9⟩ | ⟨E9, hX9, hk9, ho9⟩
  · have hk8 := hk9.symm
    subst hk8
    obtain ⟨hr9, -, hc9⟩ := hP9
    have hC := hC.out o_2201 ⟨_, ho9⟩
    refine V_istore Y.1 (ls' := [(6, _), (5, _), (4, _), (3, _), (2, _), (1, _), (0, _)]) dL_law_2204 (rfl : _ = 2206) (by decide) rfl ?_
    refine V_aload_n Y.1 4 dL_law_2206 (rfl : _ = 2207) rfl rfl ?_
    refine V_cL Y (rV Y (c_X6_meanChargeBits_y l D kA _ (a + 329) F s b v p uu tt cc hC.2.1 (by rw [e78]; exact nI_nle (Nat.pos_of_ne_zero (fun z => hc9 (by rw [e56, z]; rfl))) (by omega))) mi_X6_meanChargeBits vi_L_293 rfl hC.2.1.1 rfl rfl (Nat.le_of_ble_eq_true rfl) ⟨Nat.le_of_ble_eq_true rfl, Nat.le_of_ble_eq_true rfl⟩ (by show _ ≤ 603072; omega) (by show _ ≤ 7194730; omega) dL_law_2207) (fun q z => Or.inr (by have z := z.1; have := hC.2.2.2.2.2.1; omega)) (rfl : _ = 2210) (fun v_2207 H2207_6 hq_2207 o_2207 => ?_)
    obtain ⟨hb2, hR2⟩ := hq_2207
    have hb3 := (hr9.trans (by rw [f3, f5, f6])).trans hb2.symm
    subst hb3
    have ho9 := ho9.off o_2207 (fun e => by have := e.2; omega)
    have hC := hC.mod o_2207 hR2
    refine V_lstore Y.1 (ls' := [(7, _), (6, _), (5, _), (4, _), (3, _), (2, _), (1, _), (0, _)]) dL_law_2210 (rfl : _ = 2212) (by decide) rfl ?_
    refine V_aload_n Y.1 5 dL_law_2212 (rfl : _ = 2213) rfl rfl ?_
    refine V_cP Y (rV Y (c_X6_thrown l D kA _ (a + 329) _ _ _ _ _ _ _ _ hC.2.1) mi_X6_thrown vi_L_159 rfl hC.2.1.1 rfl rfl (Nat.le_of_ble_eq_true rfl) ⟨Nat.le_of_ble_eq_true rfl, Nat.le_of_ble_eq_true rfl⟩ (by show _ ≤ 603072; omega) (by show _ ≤ 7194730; omega) dL_law_2213) (rfl : _ = 2216) ?_
    refine V_iload Y.1 1 dL_law_2216 (rfl : _ = 2218) rfl ?_
    refine V_icmp_eq Y.1 (tgt := 2223) dL_law_2218 (by decide) (rfl : _ = 2221) (fun _ => ?_) (fun c_n => absurd pk_us c_n)
    refine V_iload Y.1 1 dL_law_2223 (rfl : _ = 2225) rfl ?_
    refine V_if_ne Y.1 (tgt := 2239) dL_law_2225 (by decide) (rfl : _ = 2228) (fun c_n => absurd rfl c_n) (fun _ => ?_)
    refine V_aload_n Y.1 4 dL_law_2228 (rfl : _ = 2229) rfl rfl ?_
    refine V_iconst Y.1 (v := 0) dL_law_2229 (rfl : _ = 2230) (by decide) ?_
    refine V_lald Y.1 (v := r9) ho9 (show ¬ ((0 : Int32) < 0 ∨ 1 ≤ (0 : Int32).toNatClampNeg) by decide) hw9 dL_law_2230 (rfl : _ = 2231) ?_
    refine V_lload Y.1 0 dL_law_2231 (rfl : _ = 2233) rfl ?_
    refine V_lcmp Y.1 dL_law_2233 (rfl : _ = 2234) ?_
    refine V_if_eq Y.1 (tgt := 2239) dL_law_2234 (by decide) (rfl : _ = 2237) (fun _ => ?_) (fun c_n => absurd (lg_self _) c_n)
    refine V_goto Y.1 (tgt := 2781) dL_law_2239 (by decide) ?_
    exact V_forget (ls' := [(5, _), (4, _), (3, _), (2, _), (1, _), (0, _)]) [2, 3, 4, 5, 6, 7] rfl (V_widen (by omega) (by omega) (kk _ ⟨_, _, _, _, _, _, _, _, _, _, _, _, _, _, _, _, _, _, _, _, _, _, _, hC, (hG.f6 _).more (by omega)⟩))
  · obtain ⟨rfl, hc9⟩ := hX9
    have hk7 : v_2201 = 1 := hk9
    have hk8 := hk7.symm
    subst hk8
    have hC := hC.out o_2201 ⟨_, ho9⟩
    refine V_istore Y.1 (ls' := [(6, _), (5, _), (4, _), (3, _), (2, _), (1, _), (0, _)]) dL_law_2204 (rfl : _ = 2206) (by decide) rfl ?_
    refine V_aload_n Y.1 4 dL_law_2206 (rfl : _ = 2207) rfl rfl ?_
    refine V_cL Y (rV Y (c_X6_meanChargeBits_n l D kA _ (a + 329) F s b v p uu tt cc hC.2.1 (by rw [e78, ← e56, hc9]; decide)) mi_X6_meanChargeBits vi_L_293 rfl hC.2.1.1 rfl rfl (Nat.le_of_ble_eq_true rfl) ⟨Nat.le_of_ble_eq_true rfl, Nat.le_of_ble_eq_true rfl⟩ (by show _ ≤ 603072; omega) (by show _ ≤ 7194730; omega) dL_law_2207) (fun q z => Or.inr (by have z := z.1; have := hC.2.2.2.2.2.1; omega)) (rfl : _ = 2210) (fun v_2207 H2207_6 hq_2207 o_2207 => ?_)
    obtain ⟨hb2, hR2⟩ := hq_2207
    have hC := hC.mod o_2207 hR2
    refine V_lstore Y.1 (ls' := [(7, _), (6, _), (5, _), (4, _), (3, _), (2, _), (1, _), (0, _)]) dL_law_2210 (rfl : _ = 2212) (by decide) rfl ?_
    refine V_aload_n Y.1 5 dL_law_2212 (rfl : _ = 2213) rfl rfl ?_
    refine V_cP Y (rV Y (c_X6_thrown l D kA _ (a + 329) _ _ _ _ _ _ _ _ hC.2.1) mi_X6_thrown vi_L_159 rfl hC.2.1.1 rfl rfl (Nat.le_of_ble_eq_true rfl) ⟨Nat.le_of_ble_eq_true rfl, Nat.le_of_ble_eq_true rfl⟩ (by show _ ≤ 603072; omega) (by show _ ≤ 7194730; omega) dL_law_2213) (rfl : _ = 2216) ?_
    refine V_iload Y.1 1 dL_law_2216 (rfl : _ = 2218) rfl ?_
    refine V_icmp_eq Y.1 (tgt := 2223) dL_law_2218 (by decide) (rfl : _ = 2221) (fun _ => ?_) (fun c_n => absurd pk_us c_n)
    refine V_iload Y.1 1 dL_law_2223 (rfl : _ = 2225) rfl ?_
    refine V_if_ne Y.1 (tgt := 2239) dL_law_2225 (by decide) (rfl : _ = 2228) (fun _ => ?_) (fun c_n => absurd c_n (by decide))
    refine V_goto Y.1 (tgt := 2781) dL_law_2239 (by decide) ?_
    exact V_forget (ls' := [(5, _), (4, _), (3, _), (2, _), (1, _), (0, _)]) [2, 3, 4, 5, 6, 7] rfl (V_widen (by omega) (by omega) (kk _ ⟨_, _, _, _, _, _, _, _, _, _, _, _, _, _, _, _, _, _, _, _, _, _, _, hC, (hG.f6 _).more (by omega)⟩))

set_option maxRecDepth 100000 in
set_option maxHeartbeats 4000000 in
theorem lc_41 (l : Launch) (D : va_G) (kA : Nat → ClassId) (Hs : Heap) (σ : SG) (hnt : l.stackTraces = false) {Pp : Program} {Ee : Env} {Ss : State} {Mm : MethodId} {Ar : Array Value} {Bl : List Frame} {Me : Method} {Cc : Code} {Q : State → Prop} (Z : Ys Pp Ss Mm Ar Me Cc cL_law 9 (some .boolean) "MetroFaresLaw" D kA (AA Hs nof) Hs σ) (sa N : Nat) (f : Nat → Int32) (hsa : va_X sa N f Ss Ss.heap ∧ sa < Ss.heap.size ∧ ¬ AA Hs nof sa) (hN : N ≤ 1536) (a j : Nat) (hj : 3 * j + 3 ≤ N) (H : Heap) (hI : Inv D kA Hs a H (61 * j)) (kk : ∀ H1, Inv D kA Hs a H1 (61 * (j + 1)) → V Pp l Ee (rmO 2048 94400 603072 7194730) Ss Mm Ar Bl Me Cc 9 (AA Hs nof) Q H1 (400 + 200 * (j + 1)) (6000 + 400 * (j + 1)) 2781 [(5, .int (nI (3 * j))), (4, .ref (a + 338)), (3, .ref (a + 337)), (2, .ref (a + 329)), (1, .ref a), (0, .ref sa)] []) : V Pp l Ee (rmO 2048 94400 603072 7194730) Ss Mm Ar Bl Me Cc 9 (AA Hs nof) Q H (400 + 200 * (j)) (6000 + 400 * (j)) 2308 [(5, .int (nI (3 * j))), (4, .ref (a + 338)), (3, .ref (a + 337)), (2, .ref (a + 329)), (1, .ref a), (0, .ref sa)] [] := by
  obtain ⟨W, π, ES, u, hs, ep, fc, no, go, vs, cs, ns, gs, F, s, b, v, p, uu, tt, cc, n, t, hC, hG⟩ := hI
  have Y := Z.1
  have hS := hG.1.1.1
  have hM9 := hG.1.1
  have hjq : j ≤ 512 := by omega
  have hu8 := hC.1.2.2.2.2.2.2.2.1
  obtain ⟨w1, ho1⟩ := hC.2.2.1
  obtain ⟨x, hx⟩ : ∃ x, f (3 * j + 1) = x := ⟨_, rfl⟩
  obtain ⟨y, hy⟩ : ∃ y, f (3 * j + 2) = y := ⟨_, rfl⟩
  obtain ⟨a9, b9, d9, ha9, ea9, hb9, eb9, hd9, ed9⟩ := hS.2.2.2.2.2.1
  have f3 := hS.2.1.2.2.2.1
  have f5 := hS.2.1.2.2.2.2.2.1
  have f6 := hS.2.1.2.2.2.2.2.2.1
  have e78 : s 7 + s 8 = nI (b9 + d9) := by rw [eb9, ed9]; exact nI_add b9 d9
  have e56 : (W (π 0)).1 5 + (W (π 0)).1 6 = nI (b9 + d9) := by rw [f5, f6]; exact e78
  refine V_aload_n Y.1 4 dL_law_2308 (rfl : _ = 2309) rfl rfl ?_
  refine V_aload_n Y.1 2 dL_law_2309 (rfl : _ = 2310) rfl rfl ?_
  refine V_cI Y (sW Z (c_L_incompleteShareBits l D kA Hs σ _ hC.2.2.2.2.1 a W π ES u hs ep fc no go vs cs ns gs d9 (b9 + d9) (a + 337) w1 hC.1 hnt (f6.trans ed9) e56 (by omega) (by omega) ho1 (by omega) (by have := hC.2.2.2.2.2.2.2; omega) (by have := hC.2.2.2.2.2.1; omega)) mh_L_incompleteShareBits si_L_297 rfl rfl (Nat.le_of_ble_eq_true rfl) ⟨Nat.le_of_ble_eq_true rfl, Nat.le_of_ble_eq_true rfl⟩ (by show _ ≤ 603072; omega) (by show _ ≤ 7194730; omega) dL_law_2310) (fun q z => Or.inr (by have z : q = a + 337 := z; have h9 := hC.2.2.2.2.1.1; have := hC.2.2.2.2.2.1; omega)) (rfl : _ = 2313) (fun v_2310 H2310_2 hq_2310 o_2310 => ?_)
  rcases hq_2310 with ⟨hk9, r9, H9, w9, hP9, hst9, ho9, hw9⟩ | ⟨E9, hX9, hk9, ho9⟩
  · have hk8 := hk9.symm
    subst hk8
    obtain ⟨hr9, -, hc9⟩ := hP9
    have hC := hC.out o_2310 ⟨_, ho9⟩
    refine V_istore Y.1 (ls' := [(6, _), (5, _), (4, _), (3, _), (2, _), (1, _), (0, _)]) dL_law_2313 (rfl : _ = 2315) (by decide) rfl ?_
    refine V_aload_n Y.1 4 dL_law_2315 (rfl : _ = 2316) rfl rfl ?_
    refine V_cI Y (rV Y (c_X6_incompleteShareBits_y l D kA _ (a + 329) F s b v p uu tt cc hC.2.1 (by rw [e78]; exact nI_nle (Nat.pos_of_ne_zero (fun z => hc9 (by rw [e56, z]; rfl))) (by omega))) mi_X6_incompleteShareBits vi_L_299 rfl hC.2.1.1 rfl rfl (Nat.le_of_ble_eq_true rfl) ⟨Nat.le_of_ble_eq_true rfl, Nat.le_of_ble_eq_true rfl⟩ (by show _ ≤ 603072; omega) (by show _ ≤ 7194730; omega) dL_law_2316) (fun q z => Or.inr (by have z := z.1; have := hC.2.2.2.2.2.1; omega)) (rfl : _ = 2319) (fun v_2316 H2316_6 hq_2316 o_2316 => ?_)
    obtain ⟨hb2, hR2⟩ := hq_2316
    have hb3 := (hr9.trans (by rw [f5, f6])).trans hb2.symm
    subst hb3
    have ho9 := ho9.off o_2316 (fun e => by have := e.2; omega)
    have hC := hC.mod o_2316 hR2
    refine V_istore Y.1 (ls' := [(7, _), (6, _), (5, _), (4, _), (3, _), (2, _), (1, _), (0, _)]) dL_law_2319 (rfl : _ = 2321) (by decide) rfl ?_
    refine V_aload_n Y.1 5 dL_law_2321 (rfl : _ = 2322) rfl rfl ?_
    refine V_cP Y (rV Y (c_X6_thrown l D kA _ (a + 329) _ _ _ _ _ _ _ _ hC.2.1) mi_X6_thrown vi_L_159 rfl hC.2.1.1 rfl rfl (Nat.le_of_ble_eq_true rfl) ⟨Nat.le_of_ble_eq_true rfl, Nat.le_of_ble_eq_true rfl⟩ (by show _ ≤ 603072; omega) (by show _ ≤ 7194730; omega) dL_law_2322) (rfl : _ = 2325) ?_
    refine V_iload Y.1 1 dL_law_2325 (rfl : _ = 2327) rfl ?_
    refine V_icmp_eq Y.1 (tgt := 2332) dL_law_2327 (by decide) (rfl : _ = 2330) (fun _ => ?_) (fun c_n => absurd pk_us c_n)
    refine V_iload Y.1 1 dL_law_2332 (rfl : _ = 2334) rfl ?_
    refine V_if_ne Y.1 (tgt := 2349) dL_law_2334 (by decide) (rfl : _ = 2337) (fun c_n => absurd rfl c_n) (fun _ => ?_)
    refine V_aload_n Y.1 4 dL_law_2337 (rfl : _ = 2338) rfl rfl ?_
    refine V_iconst Y.1 (v := 0) dL_law_2338 (rfl : _ = 2339) (by decide) ?_
    refine V_lald Y.1 (v := r9.toInt64) ho9 (show ¬ ((0 : Int32) < 0 ∨ 1 ≤ (0 : Int32).toNatClampNeg) by decide) hw9 dL_law_2339 (rfl : _ = 2340) ?_
    refine V_iload Y.1 0 dL_law_2340 (rfl : _ = 2342) rfl ?_
    refine V_i2l Y.1 dL_law_2342 (rfl : _ = 2343) rfl ?_
    refine V_lcmp Y.1 dL_law_2343 (rfl : _ = 2344) ?_
    refine V_if_eq Y.1 (tgt := 2349) dL_law_2344 (by decide) (rfl : _ = 2347) (fun _ => ?_) (fun c_n => absurd (lg_self _) c_n)
    refine V_goto Y.1 (tgt := 2781) dL_law_2349 (by decide) ?_
    exact V_forget (ls' := [(5, _), (4, _), (3, _), (2, _), (1, _), (0, _)]) [2, 3, 4, 5, 6, 7] rfl (V_widen (by omega) (by omega) (kk _ ⟨_, _, _, _, _, _, _, _, _, _, _, _, _, _, _, _, _, _, _, _, _, _, _, hC, (hG.f6 _).more (by omega)⟩))
  · obtain ⟨rfl, hc9⟩ := hX9
    have hk7 : v_2310 = 1 := hk9
    have hk8 := hk7.symm
    subst hk8
    have hC := hC.out o_2310 ⟨_, ho9⟩
    refine V_istore Y.1 (ls' := [(6, _), (5, _), (4, _), (3, _), (2, _), (1, _), (0, _)]) dL_law_2313 (rfl : _ = 2315) (by decide) rfl ?_
    refine V_aload_n Y.1 4 dL_law_2315 (rfl : _ = 2316) rfl rfl ?_
    refine V_cI Y (rV Y (c_X6_incompleteShareBits_n l D kA _ (a + 329) F s b v p uu tt cc hC.2.1 (by rw [e78, ← e56, hc9]; decide)) mi_X6_incompleteShareBits vi_L_299 rfl hC.2.1.1 rfl rfl (Nat.le_of_ble_eq_true rfl) ⟨Nat.le_of_ble_eq_true rfl, Nat.le_of_ble_eq_true rfl⟩ (by show _ ≤ 603072; omega) (by show _ ≤ 7194730; omega) dL_law_2316) (fun q z => Or.inr (by have z := z.1; have := hC.2.2.2.2.2.1; omega)) (rfl : _ = 2319) (fun v_2316 H2316_6 hq_2316 o_2316 => ?_)
    obtain ⟨hb2, hR2⟩ := hq_2316
    have hC := hC.mod o_2316 hR2
    refine V_istore Y.1 (ls' := [(7, _), (6, _), (5, _), (4, _), (3, _), (2, _), (1, _), (0, _)]) dL_law_2319 (rfl : _ = 2321) (by decide) rfl ?_
    refine V_aload_n Y.1 5 dL_law_2321 (rfl : _ = 2322) rfl rfl ?_
    refine V_cP Y (rV Y (c_X6_thrown l D kA _ (a + 329) _ _ _ _ _ _ _ _ hC.2.1) mi_X6_thrown vi_L_159 rfl hC.2.1.1 rfl rfl (Nat.le_of_ble_eq_true rfl) ⟨Nat.le_of_ble_eq_true rfl, Nat.le_of_ble_eq_true rfl⟩ (by show _ ≤ 603072; omega) (by show _ ≤ 7194730; omega) dL_law_2322) (rfl : _ = 2325) ?_
    refine V_iload Y.1 1 dL_law_2325 (rfl : _ = 2327) rfl ?_
    refine V_icmp_eq Y.1 (tgt := 2332) dL_law_2327 (by decide) (rfl : _ = 2330) (fun _ => ?_) (fun c_n => absurd pk_us c_n)
    refine V_iload Y.1 1 dL_law_2332 (rfl : _ = 2334) rfl ?_
    refine V_if_ne Y.1 (tgt := 2349) dL_law_2334 (by decide) (rfl : _ = 2337) (fun _ => ?_) (fun c_n => absurd c_n (by decide))
    refine V_goto Y.1 (tgt := 2781) dL_law_2349 (by decide) ?_
    exact V_forget (ls' := [(5, _), (4, _), (3, _), (2, _), (1, _), (0, _)]) [2, 3, 4, 5, 6, 7] rfl (V_widen (by omega) (by omega) (kk _ ⟨_, _, _, _, _, _, _, _, _, _, _, _, _, _, _, _, _, _, _, _, _, _, _, hC, (hG.f6 _).more (by omega)⟩))

